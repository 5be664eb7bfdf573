-- the law, case by case
abbrev M0 : MDV := (0, f0, 0, fun _ => 0, fun _ => 0, 0, fun _ => 0, 0, 0, 0)
theorem initMd_M0 : initMd = M0 := rfl
theorem cl_0 : (0 : Int32).toNatClampNeg = 0 := by decide
theorem cl_1 : (1 : Int32).toNatClampNeg = 1 := by decide
theorem cl_2 : (2 : Int32).toNatClampNeg = 2 := by decide
theorem cl_3 : (3 : Int32).toNatClampNeg = 3 := by decide
theorem vi_0 : vp_in (0 : Int32) 4 := vp_in_nI (n := 0) (by decide) (by decide)
theorem vi_1 : vp_in (1 : Int32) 4 := vp_in_nI (n := 1) (by decide) (by decide)
theorem vi_2 : vp_in (2 : Int32) 4 := vp_in_nI (n := 2) (by decide) (by decide)
theorem vi_3 : vp_in (3 : Int32) 4 := vp_in_nI (n := 3) (by decide) (by decide)
theorem lg_cmp_self (x : Int64) : lg_cmp x x = 0 := by simp [lg_cmp]
theorem dc_share : Op.cmpValue (FP.dcmp (shareF 16) (shareF 16)) .l = 0 := by decide +kernel
theorem dc_mean : Op.cmpValue (FP.dcmp (FP.f2d (meanF 0)) (FP.f2d (meanF 0))) .l = 0 := by decide +kernel
theorem nn_mean : vf_n64 (FP.f2d (meanF 0)) := by
  show FP.f2d (meanF 0) &&& 0x7fffffffffffffff ≤ 0x7ff0000000000000
  decide +kernel
theorem and31 (x : Int32) : ∃ n : Nat, n < 32 ∧ x &&& 31 = nI n := by
  refine ⟨(x &&& 31).toBitVec.toNat, ?_, ?_⟩
  · rw [Int32.toBitVec_and, BitVec.toNat_and]
    exact Nat.lt_of_le_of_lt Nat.and_le_right (by decide)
  · apply Int32.toBitVec_inj.mp
    apply BitVec.eq_of_toNat_eq
    show _ = (BitVec.ofNat 32 _).toNat
    rw [BitVec.toNat_ofNat]
    exact (Nat.mod_eq_of_lt (x &&& 31).toBitVec.isLt).symm
theorem mem_o9 {w : va_W} {cA : Nat → ClassId} {o9 : Nat} {g : Nat → Int64} : o9 ∈ (w ++ oW cA o9 g).map Prod.fst := by simp
theorem lc_F {A0 : Nat → Prop} {H0 H : Heap} {locs : List Loc} {wc wo : va_W} (hD : va_D A0 (wc ++ wo)) (hS : va_S A0 H0 H locs) (hA : ∀ q, H0.size ≤ q → A0 q) : ∀ q, va_A wc H.size q → A0 q := by
  intro q h
  rcases h with ⟨k, e9, h⟩ | h
  · exact hD.2 k (q, e9) (by rw [List.getElem?_append_left (List.getElem?_eq_some_iff.mp h).1]; exact h)
  · exact hA q (Nat.le_trans hS.1 h)
def LCtx (p : Program) (l : Launch) (s : State) (m : MethodId) (c : Code) (b : Nat) (xs : Nat → Int32) (D : va_G) (cA : Nat → ClassId) (A0 : Nat → Prop) : Prop :=
  p.tables.exec = Jvm.exec ∧ c.code = cL_law ∧ c.maxLocals = 9 ∧ s.vm.findClass RL = some m.cls ∧ (∀ w ∈ wsL_law, w.before #[Value.ref b] s = true) ∧ KN D cA s ∧ KY s ∧ XZ A0 s s.heap ∧ va_X b 4 xs s s.heap ∧ b < s.heap.size ∧ l.stackTraces = false ∧ (∀ q : Nat, s.heap.size ≤ q → A0 q) ∧ ¬ A0 b
def LWl (D : va_G) (cA : Nat → ClassId) (Ad : Nat → Nat → Nat) (a : Nat → Nat) (o9 : Nat) (s : State) (A0 : Nat → Prop) (H : Heap) (locs : List Loc) : Prop :=
  va_P D vwCl ((all cA Ad L0 ++ oW cA o9 (fun _ => 0)) ++ wMd cA a M0) H ∧ va_D A0 ((all cA Ad L0 ++ oW cA o9 (fun _ => 0)) ++ wMd cA a M0) ∧ va_S A0 s.heap H locs
def LKn (p : Program) (l : Launch) (e : Env) (s : State) (m : MethodId) (b : Nat) (below : List Frame) (meth : Method) (c : Code) (Q : State → Prop) (A0 : Nat → Prop) : Prop :=
  ∀ (H : Heap) (locs : List Loc) (ls : Array Slot), va_S A0 s.heap H locs → lv_has ls 9 [(4, .int 0), (0, .ref b)] → W p l e room_1 s m #[Value.ref b] below meth c H locs 2000 9000 Q (F0 m 1723 ls [])
section LTOP
variable {p : Program} {l : Launch} {e : Env} {R : Room} {s : State} {m : MethodId} {args : Array Value} {below : List Frame} {meth : Method} {c : Code} {H : Heap} {locs : List Loc} {cells slots : Nat} {Q : State → Prop} {rest : List Value} {pc : Nat} {ls : Array Slot}
theorem lz_topL {x v : Int64} (h : x = v) (k : W p l e R s m args below meth c H locs cells slots Q (F0 m pc ls (.long v :: rest))) : W p l e R s m args below meth c H locs cells slots Q (F0 m pc ls (.long x :: rest)) := by
  subst h
  exact k
theorem lz_topD {x v : UInt64} (h : x = v) (k : W p l e R s m args below meth c H locs cells slots Q (F0 m pc ls (.double v :: rest))) : W p l e R s m args below meth c H locs cells slots Q (F0 m pc ls (.double x :: rest)) := by
  subst h
  exact k
theorem lz_lald {wsW : va_W} {a : Nat} {cc : ByteArray} {D : va_G} {cA : Nat → ClassId} (k : Nat) {f : Nat → Int64} (hexec : p.tables.exec = Jvm.exec) (hb : c.code = cc) (hK : va_K D vwCl (KT cA) s) (hP : va_P D vwCl wsW H) (q0 t0 : Nat) {cX : ClassId} {n : Nat} (ha : wsW[q0]? = some (a, .inl (cX, n, .inr (.inl f)))) (ht : (KT cA)[t0]? = some (cX, .long)) (hk : k < n ∧ n < 2 ^ 31) (hdg : decode cc pc = .ok (.laload, 1))
    (kk : W p l e R s m args below meth c H locs cells slots Q (F0 m (pc + 1) ls (.long (f k) :: rest))) : W p l e R s m args below meth c H locs cells slots Q (F0 m pc ls (.int (nI k) :: .ref a :: rest)) := by
  refine va_lald hexec hb hK hP q0 t0 ha ht (vp_in_nI hk.1 hk.2) hdg ?_
  rw [nI_clamp (Nat.lt_trans hk.1 hk.2)]
  exact kk
end LTOP
abbrev digM : Int64 := (mixF (mixF (mixF (mixF (mixF (mixF (mixF (mixF (mzG (mzL (mzM (mzZ (mzZ (mzT (mixF (mixF (mzC 3371 10) (i2lF 6)) (i2lF 0)) 16) 40) 16) 9) 8) 4) (-1)) (i2lF (-1))) (i2lF (bgB 16))) 4607182418800017408) 0) 0) 0) (i2lF 0))
