-- shares, write, the parts of the digest
section SHR
variable {p : Program} {l : Launch} {e : Env} {R : Room} {s : State} {m : MethodId} {args : Array Value} {below : List Frame} {meth : Method} {c : Code} {H : Heap} {locs : List Loc} {cells slots : Nat} {Q : State → Prop}
variable {cc : ByteArray} {rest : List Value} {pc : Nat} {ls : Array Slot} {D : va_G} {cA : Nat → ClassId}
theorem ldcwf {T : State} (X : Stand p l e R s m args below meth c T locs cells slots) (hexec : p.tables.exec = Jvm.exec) {own : String} {index : Nat} {v : UInt32} (hown : s.vm.findClass own = some m.cls)
    (hconst : (Cond.constantFloat own index v).before args s = true) {g : JFrame} (hg : g.method = m) (hdg : decode c.code g.pc = .ok (.ldc_w index, 3)) :
    ∀ target, Steps p.tables e below (T.setTop { g with pc := g.pc + 3, stack := .float v :: g.stack }) target → Steps p.tables e below (T.setTop g) target := by
  obtain ⟨k, cf, hk, hcf, hcp⟩ := Cond.constantFloat_spec hown hconst
  obtain ⟨k', hk', he⟩ := X.warmed.alike.2.2 _ _ hk
  intro target hrest
  subst hg
  jvm_step X.here [hexec, hdg, ldc_w.wp_float (s := T) (f := g) X.here.top hk' (by rw [he]; exact hcf) hcp]
  exact hrest
theorem lv_ldcwf (hexec : p.tables.exec = Jvm.exec) (hb : c.code = cc) {own : String} {index : Nat} {v : UInt32} (hown : s.vm.findClass own = some m.cls) (hconst : (Cond.constantFloat own index v).before args s = true) (hdg : decode cc pc = .ok (.ldc_w index, 3)) (k : W p l e R s m args below meth c H locs cells slots Q (F0 m (pc + 3) ls (.float v :: rest))) : W p l e R s m args below meth c H locs cells slots Q (F0 m pc ls rest) := by
  intro T hT X
  obtain ⟨t, a, b⟩ := k T hT X
  exact ⟨t, ldcwf X hexec hown hconst (g := F0 m pc ls rest) rfl (by rw [hb]; exact hdg) t a, b⟩
theorem ro_dret {x z : UInt64} (hexec : p.tables.exec = Jvm.exec) (hb : c.code = cc) (hr : meth.sig.returnType = some .double) (hlocks : meth.locks = false) (hH : H = s.heap) (hdg : decode cc pc = .ok (.dreturn, 1)) (hv : x = z) :
    W p l e R s m args below meth c H [] 0 0 (MQ below (roQ s.heap (some (.double z))) args s 0 0 noA) (F0 m pc ls [.double x]) := by
  subst hv
  subst hH
  exact W.dret hexec hb hr (fun t ht _ => ⟨rfl, ht⟩) (fun q h => by cases h) hdg hlocks
theorem ro_fret {x z : UInt32} (hexec : p.tables.exec = Jvm.exec) (hb : c.code = cc) (hr : meth.sig.returnType = some .float) (hlocks : meth.locks = false) (hH : H = s.heap) (hdg : decode cc pc = .ok (.freturn, 1)) (hv : x = z) :
    W p l e R s m args below meth c H [] 0 0 (MQ below (roQ s.heap (some (.float z))) args s 0 0 noA) (F0 m pc ls [.float x]) := by
  subst hv
  subst hH
  exact W.fret hexec hb hr (fun t ht _ => ⟨rfl, ht⟩) (fun q h => by cases h) hdg hlocks
theorem mu_lret {A : Nat → Prop} {w0 w1 : va_W} {x z : Int64} (hexec : p.tables.exec = Jvm.exec) (hb : c.code = cc) (hr : meth.sig.returnType = some .long) (hlocks : meth.locks = false) (hdg : decode cc pc = .ok (.lreturn, 1)) (hAe : va_A w0 s.heap.size = A) (hS : va_S A s.heap H locs) (hP : va_P D vwCl w1 H) (hv : x = z) :
    W p l e R s m args below meth c H locs 0 0 (MQ below (muQ D s.heap w0 w1 (some (.long z))) args s 0 0 A) (F0 m pc ls [.long x]) := by
  subst hv
  subst hAe
  exact W.lret hexec hb hr (fun t ht _ => ⟨rfl, by rw [ht]; exact hP, by rw [ht]; exact hS.1, fun q h1 h2 => by rw [ht]; exact hS.2.1 q h1 h2⟩) hS.2.2 hdg hlocks
end SHR
def shareF (x : Int32) : UInt64 := FP.ddiv (FP.i2d x) 4625196817309499392
def meanF (x : Int32) : UInt32 := FP.fdiv (FP.i2f x) 1090519040
theorem share_ok : ∀ k, k < 17 → vf_n64 (shareF (nI k)) := by
  show ∀ k, k < 17 → shareF (nI k) &&& 0x7fffffffffffffff ≤ 0x7ff0000000000000
  decide +kernel
theorem mean_ok : vf_n32 (FP.fdiv (FP.i2f 0) 1090519040) := by
  show FP.fdiv (FP.i2f 0) 1090519040 &&& 0x7fffffff ≤ 0x7f800000
  decide +kernel
theorem rightT_bd (u : SV) : ∀ k, ∃ j, j ≤ k ∧ rightT u k = nI j := by
  intro k
  induction k with
  | zero => exact ⟨0, Nat.le_refl _, rfl⟩
  | succ k ih =>
    obtain ⟨j, hj, e⟩ := ih
    rw [rightT_succ]
    split
    · exact ⟨j + 1, by omega, by rw [e]; exact nI_1 j⟩
    · exact ⟨j, by omega, e⟩
theorem share_right (u : SV) : vf_n64 (FP.ddiv (FP.i2d (rightT u 16)) 4625196817309499392) := by
  obtain ⟨j, hj, e⟩ := rightT_bd u 16
  rw [e]
  exact share_ok j (by omega)
def dgI (u : SV) (t : Nat) (h : Int64) : Nat → Int64
  | 0 => h
  | w + 1 => 31 * dgI u t h w + i2lF (thofS u t w)
def dgT (u : SV) (h : Int64) : Nat → Int64
  | 0 => h
  | t + 1 => 31 * dgI u t (dgT u h t) 8 + i2lF (rucS u t)
def drI (u : SV) (r : Nat) (h : Int64) : Nat → Int64
  | 0 => h
  | w + 1 => 31 * drI u r h w + i2lF (riofS u r w)
def drT (u : SV) (h : Int64) : Nat → Int64
  | 0 => h
  | r + 1 => drI u r (drT u h r) 5
def dsI (u : SV) (t : Nat) (h : Int64) : Nat → Int64
  | 0 => h
  | r + 1 => 31 * dsI u t h r + i2lF (strgS u t r 0)
def dmI (u : SV) (h : Int64) : Nat → Int64
  | 0 => h
  | w + 1 => 31 * dmI u h w + i2lF (machS u w)
def dlI (u : SV) (h : Int64) : Nat → Int64
  | 0 => h
  | w + 1 => 31 * dlI u h w + i2lF (u.2.2.2.2.2.2.2.2.1 w)
def dcI (u : SV) (z : Nat) (w : Nat → Int32) (h : Int64) : Nat → Int64
  | 0 => h
  | k + 1 => 31 * dcI u z w h k + i2lF (countS u z w k)
theorem mX4_rightShare_f10 : Cond.fieldLink RX4 10 "WireLoom" "now" "LWireLoom$State;" ∈ wsX4_rightShare := by decide +kernel
theorem mX4_rightShare_k278 : Cond.constantDouble RX4 278 (4625196817309499392) ∈ wsX4_rightShare := by decide +kernel
set_option maxRecDepth 20000 in
theorem iX4_rightShare_X4 : ∀ w ∈ wsX40, w ∈ wsX4_rightShare := by decide +kernel
set_option maxHeartbeats 4000000 in
set_option maxRecDepth 100000 in
theorem c_X4_rightShare (l : Launch) (D : va_G) (cA : Nat → ClassId) (H : Heap) (Ad : Nat → Nat → Nat) (f : Nat → SV) (o z : Nat) (tx : TV) (rt : (Nat → Int32) × (Nat → Int32)) (hP0 : va_P D vwCl (all cA Ad (f, ((nI o), (nI z)), tx, rt)) H) : RO l yX4_rightShare wsX4_rightShare ({ frames := 4, cells := 0, slots := 0, locals := 95 } : Room) D cA [.ref (Ad 10 0)] H (some (.double (shareF (rightT (f 0) 16)))) := by
  refine Met.ofW (cc := cX4_rightShare) (maxL := 1) (ret := (some .double)) (by decide) rfl ?_
  intro p e s m args below meth c s₁ B hml hv
  obtain ⟨rfl, hH, hKN⟩ := hv
  have hK := hKN.1
  have hx := B.exec
  have hb := B.bytes
  have hr := B.returns
  have hts := atoms_spec (ws := wsX4_rightShare) B.pre
  have hown : s.vm.findClass RX4 = some m.cls := findClass_of_methodNamed B.named
  have hlocks := B.notSynchronized
  subst hH
  have hH : s.heap = s.heap := rfl
  have hWP := hP0
  have hl := lv_entry ([.ref (Ad 10 0)] : List Value) (n := 1) (Nat.le_of_ble_eq_true rfl)
  rw [lg_entry_eq]
  generalize (lg_sl ([.ref (Ad 10 0)] : List Value) ++ List.replicate (1 - (lg_sl ([.ref (Ad 10 0)] : List Value)).length) Slot.unset).toArray = ls at hl ⊢
  have hl : lv_has ls 1 [(0, .ref (Ad 10 0))] := hl
  refine lv_aload_n hx hb dX4_rightShare_0 rfl (lv_at hl 0 rfl) ?_
  have hP : va_P D vwCl ((wLm cA Ad rt) ++ (rst cA Ad (f, ((nI o), (nI z)), tx, rt) 10)) s.heap := lw_fP 10 (by decide) hWP
  refine va_get (D := D) (ci := 4) (v := .ref (Ad 0 0)) (C := RX4) (T := TX4) (N := 7) hx hb hts iX4_rightShare_X4 hown hK hP 0 rfl rfl 0 (by decide) (hts _ mX4_rightShare_f10) (fun _ h9 => h9) rfl dX4_rightShare_1 ?_
  have hP : va_P D vwCl ((wSt cA (Ad 0) (f 0)) ++ (rst cA Ad (f, ((nI o), (nI z)), tx, rt) 0)) s.heap := lw_fP 0 (by decide) hWP
  refine ro_V (ci := 2) (q0 := 0) (As := []) (rest := []) ⟨hx, hb, hml, hown, hts⟩ (c_X2_threadsRight l D cA _ (Ad 0) (f 0) (va_P_l hP) ) (cwV 0 hts gX4_rightShare_X2_threadsRight rfl rfl rfl (by decide +kernel) ⟨Nat.le_of_ble_eq_true rfl, Nat.le_of_ble_eq_true rfl⟩) hKN hP rfl rfl rfl hl.1 rfl (lv_room (Nat.le_of_ble_eq_true rfl)) dX4_rightShare_4 ⟨Nat.zero_le _, Nat.zero_le _⟩ ?_
  refine lv_i2d hx hb dX4_rightShare_7 ?_
  refine lv_ldc2d (v := 4625196817309499392) hx hb hown (hts _ mX4_rightShare_k278) dX4_rightShare_8 ?_
  refine lv_ddiv hx hb dX4_rightShare_11 (share_right (f 0)) ?_
  exact ro_dret hx hb hr hlocks hH dX4_rightShare_12 rfl


