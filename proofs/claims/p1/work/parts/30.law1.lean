-- the law's helpers: each ends, answers some int, and leaves what isn't its own
abbrev L0 : LV := ((fun _ => initS), ((nI 0), (nI 0)), (fun _ => 0, fun _ => 0, 0, 0, 0), (fun _ => 0, fun _ => 0))
theorem initL_L0 : initL = L0 := rfl
theorem PlOk_init : PlOk initS := PlOk_of (m := 0) (by decide) rfl
def KY (U : State) : Prop := KX U ∧ va_Nc "java/lang/IllegalArgumentException" "java/lang/IndexOutOfBoundsException" U ∧ va_Nc "java/lang/IllegalStateException" "java/lang/IllegalArgumentException" U
theorem KY.moved {s U : State} (hW : s.WarmedH U.vm) (h : KY s) : KY U := ⟨KX.moved hW h.1, va_Nc.moved hW.alike h.2.1, va_Nc.moved hW.alike h.2.2⟩
theorem KY.same {s U : State} (hv : U.vm = s.vm) (h : KY s) : KY U := ⟨KX.same hv h.1, va_Nc.moved (by rw [hv]; exact Vm.Alike.refl _) h.2.1, va_Nc.moved (by rw [hv]; exact Vm.Alike.refl _) h.2.2⟩
def preH (D : va_G) (cA : Nat → ClassId) (av : List Value) (H : Heap) : Array Value → State → Prop := va_Pc av (fun U => U.heap = H ∧ KN D cA U ∧ KY U ∧ XZ noA U H)
theorem preH_blind {D : va_G} {cA : Nat → ClassId} {av : List Value} {H : Heap} : FrameBlind (preH D cA av H) := by
  intro a U g mk q
  obtain ⟨q0, q1, q2, q3, q4⟩ := q
  exact ⟨q0, q1, ⟨va_K.moved (u := U) (U := U.calling g mk a) (Vm.Alike.refl U.vm) q2.1, va_Nw.same rfl rfl q2.2⟩, KY.same (s := U) (U := U.calling g mk a) rfl q3, XZ.moved (s := U) (U := U.calling g mk a) (Vm.Alike.refl U.vm) q4⟩
def wkQ (H : Heap) (A : Nat → Prop) : Array Value → State → Outcome → State → Prop := fun _ _ o t => (∃ r : Int32, o = .returned (some (.int r))) ∧ H.size ≤ t.heap.size ∧ ∀ q : Nat, q < H.size → ¬ A q → t.heap[q]? = H[q]?
def noX : String → State → State → Prop := fun _ _ _ => False
def LH (l : Launch) (y : MethodName) (ws : List Cond) (rm : Room) (D : va_G) (cA : Nat → ClassId) (av : List Value) (H : Heap) (A : Nat → Prop) : Prop := vx_Met l y ws rm (preH D cA av H) (wkQ H A) noX 1 6 A
theorem inF_cases (x : Int32) (a b : Nat) (ha : a < 2 ^ 31) (hb : b < 2 ^ 31) : inF x (nI a) (nI b) = 0 ∨ ∃ t : Nat, a ≤ t ∧ t ≤ b ∧ x = nI t := by
  by_cases h : inF x (nI a) (nI b) = 0
  · exact Or.inl h
  · refine Or.inr ?_
    unfold inF at h
    split at h
    · exact absurd rfl h
    · rename_i h1
      split at h
      · exact absurd rfl h
      · rename_i h2
        rw [Int32.lt_iff_toInt_lt, nI_toInt ha] at h1
        rw [Int32.lt_iff_toInt_lt, nI_toInt hb] at h2
        refine ⟨x.toInt.toNat, by omega, by omega, ?_⟩
        apply Int32.toInt_inj.mp
        rw [nI_toInt (by omega)]
        omega
section LHR
variable {p : Program} {l : Launch} {e : Env} {R : Room} {s : State} {m : MethodId} {args : Array Value} {below : List Frame} {meth : Method} {c : Code} {H : Heap} {locs : List Loc} {cells slots : Nat} {Q : State → Prop}
variable {y : MethodName} {bytes cc : ByteArray} {maxL nL n index : Nat} {ret : Option FieldType} {ws : List Cond} {rm : Room} {Ts : List Cond} {own C : String} {b : Addr} {As rest st0 : List Value} {pc : Nat} {ls : Array Slot} {D : va_G} {cA : Nat → ClassId} {v : Option Value}
theorem va_P_r {D : va_G} {a b : va_W} {H : Heap} (h : va_P D vwCl (a ++ b) H) : va_P D vwCl b H := va_P_l (va_P_comm h)
theorem va_D_r {A : Nat → Prop} {a b : va_W} (h : va_D A (a ++ b)) : va_D A b := by
  rw [va_D_iff] at h ⊢
  rw [List.map_append] at h
  exact ⟨h.1.sublist (List.sublist_append_right _ _), fun q hq => h.2 q (List.mem_append_right _ hq)⟩
theorem mu_Vx {A0 : Nat → Prop} {H0 : Heap} {wc w1 wo wf : va_W} {q0 ci : Nat} {q : vw_C} {fs : List Value} (S : CallFix p m c cc nL s args Ts own) (hM : MU l y ws rm D cA (.ref b :: As) H wc w1 v) (cw : CallW R s args own q.1 index y bytes maxL ret ws rm 0 0 n) (hKN : KN D cA s)
    (hP : va_P D vwCl (wc ++ wo) H) (hD : va_D A0 (wc ++ wo)) (hS : va_S A0 H0 H locs) (hA : ∀ q, H0.size ≤ q → A0 q) (hPf : va_P D vwCl wf H) (hc : vwCl[ci]? = some q) (he : wf[q0]? = some (b, .inr (ci, fs))) (hfx : w1.map Prod.fst = wc.map Prod.fst)
    (hn : As.length = n) (hsize : ls.size = nL) (hst : st0 = As.reverse ++ .ref b :: rest) (hW : 2 * (F0 m pc ls st0).monitorRoom + (rest.map fun v => v.category).sum ≤ 8) (hdg : decode cc pc = .ok (.invokevirtual index, 3)) (hf : cells ≤ R.cells ∧ slots ≤ R.slots)
    (kk : ∀ (H1 : Heap) (locs1 : List Loc), va_P D vwCl wo H1 → va_D A0 wo → va_S A0 H0 H1 locs1 → W p l e R s m args below meth c H1 locs1 cells slots Q (F0 m (pc + 3) ls (v.toList ++ rest))) : W p l e R s m args below meth c H locs cells slots Q (F0 m pc ls st0) :=
  mu_runa (va_runV S hM cw ⟨preC_blind, va_recv hKN.1 hPf hc he, fun U hU hW => ⟨rfl, hU, hKN.moved hW⟩⟩ rfl hn hsize hst hW hdg hf) hP hD hS hA hfx (fun H1 locs1 h1 h2 h3 => kk H1 locs1 (va_P_r h1) (va_D_r h2) h3)
theorem xt_V {A0 : Nat → Prop} {H0 : Heap} {wf : va_W} {q0 ci : Nat} {q : vw_C} {fs : List Value} {cls : String} (S : CallFix p m c cc nL s args Ts own) (hM : XT l y ws rm D cA (.ref b :: As) H cls) (cw : CallW R s args own q.1 index y bytes maxL ret ws rm 1 6 n) (hKN : KN D cA s) (hKX : KX s) (hXZ : XZ noA s H)
    (hS : va_S A0 H0 H locs) (hA : ∀ q, H0.size ≤ q → A0 q) (hPf : va_P D vwCl wf H) (hc : vwCl[ci]? = some q) (he : wf[q0]? = some (b, .inr (ci, fs)))
    (hn : As.length = n) (hsize : ls.size = nL) (hst : st0 = As.reverse ++ .ref b :: rest) (hW : 2 * (F0 m pc ls st0).monitorRoom + (rest.map fun v => v.category).sum ≤ 8) (hdg : decode cc pc = .ok (.invokevirtual index, 3)) (hf : cells + 1 ≤ R.cells ∧ slots + 6 ≤ R.slots)
    (kx : ∀ (ce : Cell) (q9 : Addr) (H1 : Heap) (locs1 : List Loc), (∀ q : Nat, q < H.size → H1[q]? = H[q]?) → va_S A0 H0 H1 locs1 → H1[q9]? = some ce → ce.vm = .none → s.vm.findClass cls = some ce.cls → vx_W p l e R s m args below meth c H1 locs1 (cells + 1) (slots + 6) Q (F0 m pc ls rest) q9) : W p l e R s m args below meth c H locs cells slots Q (F0 m pc ls st0) := by
  intro T hT X
  have hr := vx_runV (locs := locs) (cells := cells) (slots := slots) (meth := meth) (below := below) (e := e) S hM cw ⟨preX_blind, va_recv hKN.1 hPf hc he, fun U hU hW => ⟨rfl, hU, hKN.moved hW, hKX.moved hW, hXZ.moved hW.alike⟩⟩ (g := F0 m pc ls st0) (rest := rest) rfl hn hsize hst hW hdg hf
  rcases hr T hT X with ⟨v, st₀, t, T', L, h0, X', hL, e1, e2, hq, st⟩ | ⟨q9, st₀, t, T', L, E, ce, h0, X', hL, e1, e2, ⟨hE, hz, hk⟩, hce, hcv, hcl, st⟩
  · exact hq.elim
  · subst hE
    have hS2 : va_S A0 H0 t.heap (locs ++ L) := ⟨Nat.le_trans hS.1 hz, fun q h1 h2 => by rw [hk q (Nat.lt_of_lt_of_le h1 hS.1)]; exact hS.2.1 q h1 h2, fun q hq => by
      rcases List.mem_append.mp hq with h | h
      · exact hS.2.2 q h
      · exact hA _ (Nat.le_trans hS.1 (hL q h))⟩
    obtain ⟨t2, a1, b1⟩ := kx ce q9 t.heap (locs ++ L) hk hS2 hce hcv hcl T' e1 X'
    exact ⟨t2, st.trans a1, b1⟩
theorem lh_iret {A : Nat → Prop} {r : Int32} (hexec : p.tables.exec = Jvm.exec) (hb : c.code = cc) (hr : meth.sig.returnType = some .int) (hlocks : meth.locks = false) (hdg : decode cc pc = .ok (.ireturn, 1)) (hS : va_S A s.heap H locs) (hc : cells ≤ 1) (hs : slots ≤ 6) :
    W p l e R s m args below meth c H locs cells slots (vx_MQ below (wkQ s.heap A) noX args s 1 6 A) (F0 m pc ls [.int r]) := by
  refine vx_ret (W.widen hc hs ?_)
  exact W.iret hexec hb hr (fun t ht _ => ⟨⟨r, rfl⟩, by rw [ht]; exact hS.1, fun q h1 h2 => by rw [ht]; exact hS.2.1 q h1 h2⟩) hS.2.2 hdg hlocks
end LHR
