-- the script's cell; a guard on a thread; what the tables give the law
def cellP (b L : Nat) (xs : Nat → Int32) (av : List Value) (H : Heap) : Array Value → State → Prop := va_Pc av (fun U => U.heap = H ∧ va_X b L xs U H)
theorem cellP_blind {b L : Nat} {xs : Nat → Int32} {av : List Value} {H : Heap} : FrameBlind (cellP b L xs av H) := by
  intro a U g mk q
  obtain ⟨q0, q1, q2⟩ := q
  exact ⟨q0, q1, va_X.moved (u := U) (U := U.calling g mk a) (Vm.Alike.refl U.vm) q2⟩
def cellQ (H : Heap) : Array Value → State → Outcome → State → Prop := fun _ _ o t => (∃ x : Int32, o = .returned (some (.int x))) ∧ t.heap = H
section CELL
variable {p : Program} {l : Launch} {e : Env} {R : Room} {s : State} {m : MethodId} {args : Array Value} {below : List Frame} {meth : Method} {c : Code} {H : Heap} {locs : List Loc} {cells slots : Nat} {Q : State → Prop}
variable {y : MethodName} {bytes cc : ByteArray} {maxL nL n index : Nat} {ret : Option FieldType} {ws : List Cond} {rm : Room} {Ts : List Cond} {own C : String} {b : Addr} {As rest st0 : List Value} {pc : Nat} {ls : Array Slot}
theorem cell_ret {x : Int32} (hexec : p.tables.exec = Jvm.exec) (hb : c.code = cc) (hr : meth.sig.returnType = some .int) (hlocks : meth.locks = false) (hdg : decode cc pc = .ok (.ireturn, 1)) :
    W p l e R s m args below meth c s.heap [] 0 0 (MQ below (cellQ s.heap) args s 0 0 noA) (F0 m pc ls [.int x]) :=
  W.iret hexec hb hr (fun t ht _ => ⟨⟨x, rfl⟩, ht⟩) (fun q h => by cases h) hdg hlocks
theorem cell_S {L : Nat} {xs : Nat → Int32} (S : CallFix p m c cc nL s args Ts own) (hM : Met l y ws rm (cellP b L xs As H) (cellQ H) 0 0 noA) (cw : CallB R s args own index y bytes maxL ret ws rm 0 0 n ∧ (Cond.static y).before args s = true) (hX : va_X b L xs s H)
    (hn : As.length = n) (hsize : ls.size = nL) (hst : st0 = As.reverse ++ rest) (hW : 2 * (F0 m pc ls st0).monitorRoom + (rest.map fun v => v.category).sum ≤ 8) (hdg : decode cc pc = .ok (.invokestatic index, 3)) (hf : cells ≤ R.cells ∧ slots ≤ R.slots)
    (kk : ∀ x : Int32, W p l e R s m args below meth c H locs cells slots Q (F0 m (pc + 3) ls (.int x :: rest))) : W p l e R s m args below meth c H locs cells slots Q (F0 m pc ls st0) := by
  have hr := va_runS (locs := locs) (cells := cells) (slots := slots) (meth := meth) (below := below) (e := e) S hM cw ⟨cellP_blind, fun U hU hW => ⟨rfl, hU, hX.moved hW.alike⟩⟩ (g := F0 m pc ls st0) (rest := rest) rfl hn hsize hst hW hdg hf
  intro T hT X
  obtain ⟨v', st₀, t, T', L9, h0, X', hL, e1, e2, ⟨⟨x, hv⟩, hh⟩, st⟩ := hr T hT X
  cases hv
  have hLn : L9 = [] := by
    cases L9 with
    | nil => rfl
    | cons a L => exact (hL a List.mem_cons_self).elim
  subst hLn
  rw [List.append_nil] at X'
  obtain ⟨t2, a1, b1⟩ := kk x T' (e1.trans hh) X'
  exact ⟨t2, st t2 a1, b1⟩
end CELL
set_option maxHeartbeats 4000000 in
theorem c_L_cell (l : Launch) (H : Heap) (b L : Nat) (xs : Nat → Int32) (hL : L ≤ 260) (hbl : b < H.size) (k : Nat) (hk : k < 1000) : Met l yL_cell wsL_cell ({ frames := 0, cells := 0, slots := 0, locals := 0 } : Room) (cellP b L xs [.ref b, .int (nI k)] H) (cellQ H) 0 0 noA := by
  refine Met.ofW (cc := cL_cell) (maxL := 2) (ret := (some .int)) (by decide) rfl ?_
  intro p e s m args below meth c s₁ B hml hv
  obtain ⟨rfl, hH, hX⟩ := hv
  have hx := B.exec
  have hb := B.bytes
  have hr := B.returns
  have hts := atoms_spec (ws := wsL_cell) B.pre
  have hown : s.vm.findClass RL = some m.cls := findClass_of_methodNamed B.named
  have hlocks := B.notSynchronized
  subst hH
  have hS : va_S noA s.heap s.heap [] := va_S.rf
  have hbA : ¬ noA b := fun h => h
  have hl := lv_entry ([.ref b, .int (nI k)] : List Value) (n := 2) (Nat.le_of_ble_eq_true rfl)
  rw [lg_entry_eq]
  generalize (lg_sl ([.ref b, .int (nI k)] : List Value) ++ List.replicate (2 - (lg_sl ([.ref b, .int (nI k)] : List Value)).length) Slot.unset).toArray = ls at hl ⊢
  have hl : lv_has ls 2 [(0, .ref b), (1, .int (nI k))] := hl
  refine lv_iload_n hx hb dL_cell_0 rfl (lv_at hl 1 rfl) ?_
  refine lv_aload_n hx hb dL_cell_1 rfl (lv_at hl 0 rfl) ?_
  refine va_slen hx hb hX hbl hbA hS dL_cell_2 ?_
  refine lv_icmp_ge (tgt := 12) hx hb dL_cell_3 (by decide) (fun _ => ?_) (fun h => ?_)
  · refine lv_ldc (v := 1812433253) hx hb hown (hts _ (by decide +kernel)) dL_cell_12 ?_
    refine lv_iload_n hx hb dL_cell_14 rfl (lv_at hl 1 rfl) ?_
    refine lv_bipush (v := 47) hx hb dL_cell_15 (by decide) ?_
    refine lv_iadd hx hb dL_cell_17 ?_
    refine lv_imul hx hb dL_cell_18 ?_
    exact cell_ret hx hb hr hlocks dL_cell_19
  · have hlt : k < L := Nat.not_le.mp fun h9 => h (nI_le h9 (by omega))
    refine lv_aload_n hx hb dL_cell_6 rfl (lv_at hl 0 rfl) ?_
    refine lv_iload_n hx hb dL_cell_7 rfl (lv_at hl 1 rfl) ?_
    refine va_sld hx hb hX hbl hbA hS (vp_in_nI hlt (by omega)) dL_cell_8 ?_
    refine lv_goto (tgt := 19) hx hb dL_cell_9 (by decide) ?_
    exact cell_ret hx hb hr hlocks dL_cell_19
theorem tells_guard (u : SV) {t : Nat} (ht : t < 16) : tellsS (setGd u (u.2.2.2.2.1 ^^^ ((1 : Int32) <<< (nI t &&& 31)))) t = tellsS u t := by
  have h : ansS (setGd u (u.2.2.2.2.1 ^^^ ((1 : Int32) <<< (nI t &&& 31)))) t = ansS u t := ans_gd u t _ fun k hk hkt => by
    rw [bF _ (by omega), bF _ (by omega), b_xor, b_1shl (by omega) (by omega), decide_eq_false hkt, Bool.xor_false]
  show wordF u.2.2.2.1 (ansS (setGd u _) t) = wordF u.2.2.2.1 (ansS u t)
  rw [h]
