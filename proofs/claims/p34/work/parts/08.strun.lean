-- become, run; what is told is a word of eight bits
theorem fa_or (a b : Nat) : nI a ||| nI b = nI (a ||| b) := by
  apply Int32.toBitVec_inj.1
  show BitVec.ofNat 32 a ||| BitVec.ofNat 32 b = BitVec.ofNat 32 (a ||| b)
  apply BitVec.eq_of_getLsbD_eq
  intro i hi
  simp [hi]
theorem fa_and (a b : Nat) : nI a &&& nI b = nI (a &&& b) := by
  apply Int32.toBitVec_inj.1
  show BitVec.ofNat 32 a &&& BitVec.ofNat 32 b = BitVec.ofNat 32 (a &&& b)
  apply BitVec.eq_of_getLsbD_eq
  intro i hi
  simp [hi]
theorem nx_xor (a b : Nat) : nI a ^^^ nI b = nI (a ^^^ b) := by
  apply Int32.toBitVec_inj.1
  show BitVec.ofNat 32 a ^^^ BitVec.ofNat 32 b = BitVec.ofNat 32 (a ^^^ b)
  apply BitVec.eq_of_getLsbD_eq
  intro i hi
  simp [hi]
theorem shl_one : ∀ r, r < 16 → (1 : Int32) <<< (nI r &&& 31) = nI (2 ^ r) := by decide +kernel
theorem ansI_bd (we se : Nat → Int32) (come hops a0 : Int32) (h0 : ∃ m, m < 256 ∧ a0 = nI m) : ∀ r, r ≤ 8 → ∃ m, m < 256 ∧ ansI we se come hops a0 r = nI m := by
  intro r
  induction r with
  | zero => intro _; exact h0
  | succ r ih =>
    intro hr
    obtain ⟨m, hm, e⟩ := ih (by omega)
    rw [ansI_succ]
    split
    · split
      · exact ⟨m, hm, e⟩
      · refine ⟨m ||| 2 ^ r, Nat.or_lt_two_pow (n := 8) hm (Nat.pow_lt_pow_right (by decide) (by omega)), ?_⟩
        rw [e, shl_one r (by omega), fa_or]
    · exact ⟨m, hm, e⟩
theorem ansS_bd (u : SV) (t : Nat) : ∃ m, m < 256 ∧ ansS u t = nI m := by
  unfold ansS ansF
  exact ansI_bd _ _ _ _ _ (ansI_bd _ _ _ _ _ (ansI_bd _ _ _ _ _ ⟨0, by decide, rfl⟩ 8 (Nat.le_refl _)) 8 (Nat.le_refl _)) 8 (Nat.le_refl _)
theorem wordF_bd (se : Nat → Int32) {x : Int32} (h : ∃ m, m < 256 ∧ x = nI m) : ∃ m, m < 256 ∧ wordF se x = nI m := by
  obtain ⟨m, hm, e⟩ := h
  unfold wordF
  split
  · exact ⟨m, hm, e⟩
  · refine ⟨m ^^^ 255, Nat.xor_lt_two_pow (n := 8) hm (by decide), ?_⟩
    rw [e]
    exact nx_xor m 255
def tellN (u : SV) (t : Nat) : Nat := (tellsS u t).toNatClampNeg
theorem tellN_spec (u : SV) (t : Nat) : tellN u t < 256 ∧ tellsS u t = nI (tellN u t) := by
  obtain ⟨m, hm, e⟩ := wordF_bd u.2.2.2.1 (ansS_bd u t)
  have e2 : tellsS u t = nI m := e
  have e3 : tellN u t = m := by unfold tellN; rw [e2]; exact nI_clamp (by omega)
  rw [e3]
  exact ⟨hm, e2⟩
def placeN (u : SV) : Nat := u.2.2.2.2.2.2.2.2.2.1.toNatClampNeg
/-- the machine's place is a thread -/
def PlOk (u : SV) : Prop := u.2.2.2.2.2.2.2.2.2.1 = nI (placeN u) ∧ placeN u < 16
theorem PlOk_of {u : SV} {m : Nat} (hm : m < 16) (e : u.2.2.2.2.2.2.2.2.2.1 = nI m) : PlOk u := by
  have e3 : placeN u = m := by unfold placeN; rw [e]; exact nI_clamp (by omega)
  exact ⟨by rw [e3]; exact e, by rw [e3]; exact hm⟩
def stepS (u : SV) : SV := setMc (readS u (placeN u)) (obeyS (mcS (readS u (placeN u))) (placeN u) (tellN u (placeN u)))
theorem obeyS_place (u : MV) (p w : Nat) : ∃ m, m < 16 ∧ (obeyS u p w).2.2.1 = nI m := by
  unfold obeyS
  repeat' split
  all_goals first | exact ⟨(p + 1) % 16, Nat.mod_lt _ (by decide), rfl⟩ | exact ⟨w % 32 % 16, Nat.mod_lt _ (by decide), rfl⟩ | skip
  all_goals (first | (dsimp only; split <;> first | exact ⟨(p + 1) % 16, Nat.mod_lt _ (by decide), rfl⟩ | exact ⟨w % 32 % 16, Nat.mod_lt _ (by decide), rfl⟩))
theorem PlOk_step (u : SV) : PlOk (stepS u) := by
  obtain ⟨m, hm, e⟩ := obeyS_place (mcS (readS u (placeN u))) (placeN u) (tellN u (placeN u))
  exact PlOk_of hm e
def runS : Nat → SV → Nat × SV
  | 0, u => (0, u)
  | n + 1, u => if u.2.2.2.2.2.2.2.2.2.2.2.1 = 0 then (0, u) else ((runS n (stepS u)).1 + 1, (runS n (stepS u)).2)
theorem runS_succ (n : Nat) (u : SV) : runS (n + 1) u = if u.2.2.2.2.2.2.2.2.2.2.2.1 = 0 then (0, u) else ((runS n (stepS u)).1 + 1, (runS n (stepS u)).2) := rfl
theorem runS_zero (u : SV) : runS 0 u = (0, u) := rfl
theorem mX0_becomeLike_f11 : Cond.fieldLink RX0 11 "WireLoom$Machine" "cells" "[I" ∈ wsX0_becomeLike := by decide +kernel
theorem mX0_becomeLike_p38 : Cond.methodLink RX0 38 arraycopyName ∈ wsX0_becomeLike := by decide +kernel
theorem mX0_becomeLike_natCopy : Cond.native arraycopyName ∈ wsX0_becomeLike := by decide +kernel
theorem mX0_becomeLike_stCopy : Cond.static arraycopyName ∈ wsX0_becomeLike := by decide +kernel
theorem mX0_becomeLike_iniSys : Cond.initialized "java/lang/System" ∈ wsX0_becomeLike := by decide +kernel
theorem mX0_becomeLike_f15 : Cond.fieldLink RX0 15 "WireLoom$Machine" "latest" "[I" ∈ wsX0_becomeLike := by decide +kernel
theorem mX0_becomeLike_f21 : Cond.fieldLink RX0 21 "WireLoom$Machine" "place" "I" ∈ wsX0_becomeLike := by decide +kernel
theorem mX0_becomeLike_f25 : Cond.fieldLink RX0 25 "WireLoom$Machine" "count" "I" ∈ wsX0_becomeLike := by decide +kernel
theorem mX0_becomeLike_f28 : Cond.fieldLink RX0 28 "WireLoom$Machine" "running" "Z" ∈ wsX0_becomeLike := by decide +kernel
theorem mX0_becomeLike_f32 : Cond.fieldLink RX0 32 "WireLoom$Machine" "steps" "I" ∈ wsX0_becomeLike := by decide +kernel
theorem mX0_becomeLike_f35 : Cond.fieldLink RX0 35 "WireLoom$Machine" "tellings" "I" ∈ wsX0_becomeLike := by decide +kernel
set_option maxRecDepth 20000 in
theorem iX0_becomeLike_X0 : ∀ w ∈ wsX00, w ∈ wsX0_becomeLike := by decide +kernel
set_option maxHeartbeats 4000000 in
set_option maxRecDepth 100000 in
theorem c_X0_becomeLike (l : Launch) (D : va_G) (cA : Nat → ClassId) (H : Heap) (a b : Nat → Nat) (u v : MV) (hz : v.2.2.2.2.1 = 0 ∨ v.2.2.2.2.1 = 1) (hP0 : va_P D vwCl ((wMc cA a u) ++ (wMc cA b v)) H) (hD0 : va_D (fun _ => True) ((wMc cA a u) ++ (wMc cA b v))) : MU l yX0_becomeLike wsX0_becomeLike ({ frames := 1, cells := 0, slots := 0, locals := 30 } : Room) D cA [.ref (a 5), .ref (b 5)] H ((wMc cA a u) ++ (wMc cA b v)) (wMc cA a v ++ wMc cA b v) none := by
  refine Met.ofW (cc := cX0_becomeLike) (maxL := 2) (ret := none) (by decide) rfl ?_
  intro p e s m args below meth c s₁ B hml hv
  obtain ⟨rfl, hH, hKN⟩ := hv
  have hK := hKN.1
  have hx := B.exec
  have hb := B.bytes
  have hr := B.returns
  have hts := atoms_spec (ws := wsX0_becomeLike) B.pre
  have hown : s.vm.findClass RX0 = some m.cls := findClass_of_methodNamed B.named
  have hlocks := B.notSynchronized
  subst hH
  have hD := hD0.self (sz := s.heap.size)
  generalize hAe : va_A ((wMc cA a u) ++ (wMc cA b v)) s.heap.size = A at hD ⊢
  have hA : ∀ q : Nat, s.heap.size ≤ q → A q := fun q h => by rw [← hAe]; exact Or.inr h
  have hS : va_S A s.heap s.heap [] := va_S.rf
  have hP : va_P D vwCl ((wMc cA a u) ++ (wMc cA b v)) s.heap := hP0
  have hl := lv_entry ([.ref (a 5), .ref (b 5)] : List Value) (n := 2) (Nat.le_of_ble_eq_true rfl)
  rw [lg_entry_eq]
  generalize (lg_sl ([.ref (a 5), .ref (b 5)] : List Value) ++ List.replicate (2 - (lg_sl ([.ref (a 5), .ref (b 5)] : List Value)).length) Slot.unset).toArray = ls at hl ⊢
  have hl : lv_has ls 2 [(0, .ref (a 5)), (1, .ref (b 5))] := hl
  refine lv_aload_n hx hb dX0_becomeLike_0 rfl (lv_at hl 1 rfl) ?_
  refine va_get (D := D) (ci := 0) (v := .ref (b 6)) (C := RX0) (T := TX0) (N := 7) hx hb hts iX0_becomeLike_X0 hown hK hP 3 rfl rfl 0 (by decide) (hts _ mX0_becomeLike_f11) (fun _ h9 => h9) rfl dX0_becomeLike_1 ?_
  refine lv_iconst (v := 0) hx hb dX0_becomeLike_4 (by decide) ?_
  refine lv_aload_n hx hb dX0_becomeLike_5 rfl (lv_at hl 0 rfl) ?_
  refine va_get (D := D) (ci := 0) (v := .ref (a 6)) (C := RX0) (T := TX0) (N := 7) hx hb hts iX0_becomeLike_X0 hown hK hP 0 rfl rfl 0 (by decide) (hts _ mX0_becomeLike_f11) (fun _ h9 => h9) rfl dX0_becomeLike_6 ?_
  refine lv_iconst (v := 0) hx hb dX0_becomeLike_9 (by decide) ?_
  refine lv_iconst (v := 4) hx hb dX0_becomeLike_10 (by decide) ?_
  refine lz_copy (f := v.1) (g := u.1) (N := 4) hx hb (hml.trans hl.1.symm) hown (hts _ mX0_becomeLike_p38) (hts _ mX0_becomeLike_natCopy) (hts _ mX0_becomeLike_stCopy) (hts _ mX0_becomeLike_iniSys) hK hP hD hS 4 1 0 rfl rfl rfl (by decide) rfl (Nat.le_of_ble_eq_true rfl) (Nat.le_of_ble_eq_true rfl) dX0_becomeLike_11 (fun H locs hP hD hS => ?_)
  have hP : va_P D vwCl ((wMc cA a (v.1, u.2.1, u.2.2.1, u.2.2.2.1, u.2.2.2.2.1, u.2.2.2.2.2.1, u.2.2.2.2.2.2)) ++ (wMc cA b v)) H := hP
  have hD : va_D A ((wMc cA a (v.1, u.2.1, u.2.2.1, u.2.2.2.1, u.2.2.2.2.1, u.2.2.2.2.2.1, u.2.2.2.2.2.2)) ++ (wMc cA b v)) := hD
  refine lv_aload_n hx hb dX0_becomeLike_14 rfl (lv_at hl 1 rfl) ?_
  refine va_get (D := D) (ci := 0) (v := .ref (b 7)) (C := RX0) (T := TX0) (N := 7) hx hb hts iX0_becomeLike_X0 hown hK hP 3 rfl rfl 1 (by decide) (hts _ mX0_becomeLike_f15) (fun _ h9 => h9) rfl dX0_becomeLike_15 ?_
  refine lv_iconst (v := 0) hx hb dX0_becomeLike_18 (by decide) ?_
  refine lv_aload_n hx hb dX0_becomeLike_19 rfl (lv_at hl 0 rfl) ?_
  refine va_get (D := D) (ci := 0) (v := .ref (a 7)) (C := RX0) (T := TX0) (N := 7) hx hb hts iX0_becomeLike_X0 hown hK hP 0 rfl rfl 1 (by decide) (hts _ mX0_becomeLike_f15) (fun _ h9 => h9) rfl dX0_becomeLike_20 ?_
  refine lv_iconst (v := 0) hx hb dX0_becomeLike_23 (by decide) ?_
  refine lv_bipush (v := 8) hx hb dX0_becomeLike_24 (by decide) ?_
  refine lz_copy (f := v.2.1) (g := u.2.1) (N := 8) hx hb (hml.trans hl.1.symm) hown (hts _ mX0_becomeLike_p38) (hts _ mX0_becomeLike_natCopy) (hts _ mX0_becomeLike_stCopy) (hts _ mX0_becomeLike_iniSys) hK hP hD hS 5 2 0 rfl rfl rfl (by decide) rfl (Nat.le_of_ble_eq_true rfl) (Nat.le_of_ble_eq_true rfl) dX0_becomeLike_26 (fun H locs hP hD hS => ?_)
  have hP : va_P D vwCl ((wMc cA a (v.1, v.2.1, u.2.2.1, u.2.2.2.1, u.2.2.2.2.1, u.2.2.2.2.2.1, u.2.2.2.2.2.2)) ++ (wMc cA b v)) H := hP
  have hD : va_D A ((wMc cA a (v.1, v.2.1, u.2.2.1, u.2.2.2.1, u.2.2.2.2.1, u.2.2.2.2.2.1, u.2.2.2.2.2.2)) ++ (wMc cA b v)) := hD
  refine lv_aload_n hx hb dX0_becomeLike_29 rfl (lv_at hl 0 rfl) ?_
  refine lv_aload_n hx hb dX0_becomeLike_30 rfl (lv_at hl 1 rfl) ?_
  refine va_get (D := D) (ci := 0) (v := .int v.2.2.1) (C := RX0) (T := TX0) (N := 7) hx hb hts iX0_becomeLike_X0 hown hK hP 3 rfl rfl 2 (by decide) (hts _ mX0_becomeLike_f21) (fun _ h9 => h9) rfl dX0_becomeLike_31 ?_
  refine va_put (D := D) (ci := 0) (v := .int v.2.2.1) (ty := .int) (C := RX0) (T := TX0) (N := 7) hx hb hts iX0_becomeLike_X0 tyX0 tyX0_ok nmX0 hown hK hP hD hS 0 rfl rfl 2 (by decide) (hts _ mX0_becomeLike_f21) (fun _ h9 => h9) rfl (by decide +kernel) rfl rfl (Nat.le_of_ble_eq_true rfl) dX0_becomeLike_34 (fun H locs hP hD hS => ?_)
  have hP : va_P D vwCl ((wMc cA a (v.1, v.2.1, v.2.2.1, u.2.2.2.1, u.2.2.2.2.1, u.2.2.2.2.2.1, u.2.2.2.2.2.2)) ++ (wMc cA b v)) H := hP
  have hD : va_D A ((wMc cA a (v.1, v.2.1, v.2.2.1, u.2.2.2.1, u.2.2.2.2.1, u.2.2.2.2.2.1, u.2.2.2.2.2.2)) ++ (wMc cA b v)) := hD
  refine lv_aload_n hx hb dX0_becomeLike_37 rfl (lv_at hl 0 rfl) ?_
  refine lv_aload_n hx hb dX0_becomeLike_38 rfl (lv_at hl 1 rfl) ?_
  refine va_get (D := D) (ci := 0) (v := .int v.2.2.2.1) (C := RX0) (T := TX0) (N := 7) hx hb hts iX0_becomeLike_X0 hown hK hP 3 rfl rfl 3 (by decide) (hts _ mX0_becomeLike_f25) (fun _ h9 => h9) rfl dX0_becomeLike_39 ?_
  refine va_put (D := D) (ci := 0) (v := .int v.2.2.2.1) (ty := .int) (C := RX0) (T := TX0) (N := 7) hx hb hts iX0_becomeLike_X0 tyX0 tyX0_ok nmX0 hown hK hP hD hS 0 rfl rfl 3 (by decide) (hts _ mX0_becomeLike_f25) (fun _ h9 => h9) rfl (by decide +kernel) rfl rfl (Nat.le_of_ble_eq_true rfl) dX0_becomeLike_42 (fun H locs hP hD hS => ?_)
  have hP : va_P D vwCl ((wMc cA a (v.1, v.2.1, v.2.2.1, v.2.2.2.1, u.2.2.2.2.1, u.2.2.2.2.2.1, u.2.2.2.2.2.2)) ++ (wMc cA b v)) H := hP
  have hD : va_D A ((wMc cA a (v.1, v.2.1, v.2.2.1, v.2.2.2.1, u.2.2.2.2.1, u.2.2.2.2.2.1, u.2.2.2.2.2.2)) ++ (wMc cA b v)) := hD
  refine lv_aload_n hx hb dX0_becomeLike_45 rfl (lv_at hl 0 rfl) ?_
  refine lv_aload_n hx hb dX0_becomeLike_46 rfl (lv_at hl 1 rfl) ?_
  refine va_get (D := D) (ci := 0) (v := .int v.2.2.2.2.1) (C := RX0) (T := TX0) (N := 7) hx hb hts iX0_becomeLike_X0 hown hK hP 3 rfl rfl 4 (by decide) (hts _ mX0_becomeLike_f28) (fun _ h9 => h9) rfl dX0_becomeLike_47 ?_
  refine va_put (D := D) (ci := 0) (v := .int v.2.2.2.2.1) (ty := .boolean) (C := RX0) (T := TX0) (N := 7) hx hb hts iX0_becomeLike_X0 tyX0 tyX0_ok nmX0 hown hK hP hD hS 0 rfl rfl 4 (by decide) (hts _ mX0_becomeLike_f28) (fun _ h9 => h9) rfl (by decide +kernel) (by rcases hz with h | h <;> rw [h] <;> rfl) (by rcases hz with h | h <;> rw [h] <;> rfl) (Nat.le_of_ble_eq_true rfl) dX0_becomeLike_50 (fun H locs hP hD hS => ?_)
  have hP : va_P D vwCl ((wMc cA a (v.1, v.2.1, v.2.2.1, v.2.2.2.1, v.2.2.2.2.1, u.2.2.2.2.2.1, u.2.2.2.2.2.2)) ++ (wMc cA b v)) H := hP
  have hD : va_D A ((wMc cA a (v.1, v.2.1, v.2.2.1, v.2.2.2.1, v.2.2.2.2.1, u.2.2.2.2.2.1, u.2.2.2.2.2.2)) ++ (wMc cA b v)) := hD
  refine lv_aload_n hx hb dX0_becomeLike_53 rfl (lv_at hl 0 rfl) ?_
  refine lv_aload_n hx hb dX0_becomeLike_54 rfl (lv_at hl 1 rfl) ?_
  refine va_get (D := D) (ci := 0) (v := .int v.2.2.2.2.2.1) (C := RX0) (T := TX0) (N := 7) hx hb hts iX0_becomeLike_X0 hown hK hP 3 rfl rfl 5 (by decide) (hts _ mX0_becomeLike_f32) (fun _ h9 => h9) rfl dX0_becomeLike_55 ?_
  refine va_put (D := D) (ci := 0) (v := .int v.2.2.2.2.2.1) (ty := .int) (C := RX0) (T := TX0) (N := 7) hx hb hts iX0_becomeLike_X0 tyX0 tyX0_ok nmX0 hown hK hP hD hS 0 rfl rfl 5 (by decide) (hts _ mX0_becomeLike_f32) (fun _ h9 => h9) rfl (by decide +kernel) rfl rfl (Nat.le_of_ble_eq_true rfl) dX0_becomeLike_58 (fun H locs hP hD hS => ?_)
  have hP : va_P D vwCl ((wMc cA a (v.1, v.2.1, v.2.2.1, v.2.2.2.1, v.2.2.2.2.1, v.2.2.2.2.2.1, u.2.2.2.2.2.2)) ++ (wMc cA b v)) H := hP
  have hD : va_D A ((wMc cA a (v.1, v.2.1, v.2.2.1, v.2.2.2.1, v.2.2.2.2.1, v.2.2.2.2.2.1, u.2.2.2.2.2.2)) ++ (wMc cA b v)) := hD
  refine lv_aload_n hx hb dX0_becomeLike_61 rfl (lv_at hl 0 rfl) ?_
  refine lv_aload_n hx hb dX0_becomeLike_62 rfl (lv_at hl 1 rfl) ?_
  refine va_get (D := D) (ci := 0) (v := .int v.2.2.2.2.2.2) (C := RX0) (T := TX0) (N := 7) hx hb hts iX0_becomeLike_X0 hown hK hP 3 rfl rfl 6 (by decide) (hts _ mX0_becomeLike_f35) (fun _ h9 => h9) rfl dX0_becomeLike_63 ?_
  refine va_put (D := D) (ci := 0) (v := .int v.2.2.2.2.2.2) (ty := .int) (C := RX0) (T := TX0) (N := 7) hx hb hts iX0_becomeLike_X0 tyX0 tyX0_ok nmX0 hown hK hP hD hS 0 rfl rfl 6 (by decide) (hts _ mX0_becomeLike_f35) (fun _ h9 => h9) rfl (by decide +kernel) rfl rfl (Nat.le_of_ble_eq_true rfl) dX0_becomeLike_66 (fun H locs hP hD hS => ?_)
  have hP : va_P D vwCl ((wMc cA a (v.1, v.2.1, v.2.2.1, v.2.2.2.1, v.2.2.2.2.1, v.2.2.2.2.2.1, v.2.2.2.2.2.2)) ++ (wMc cA b v)) H := hP
  have hD : va_D A ((wMc cA a (v.1, v.2.1, v.2.2.1, v.2.2.2.1, v.2.2.2.2.1, v.2.2.2.2.2.1, v.2.2.2.2.2.2)) ++ (wMc cA b v)) := hD
  exact mu_vret hx hb hr hlocks dX0_becomeLike_69 hAe hS hP
theorem mX2_become_f9 : Cond.fieldLink RX2 9 "WireLoom$State" "rings" "[I" ∈ wsX2_become := by decide +kernel
theorem mX2_become_p31 : Cond.methodLink RX2 31 arraycopyName ∈ wsX2_become := by decide +kernel
theorem mX2_become_natCopy : Cond.native arraycopyName ∈ wsX2_become := by decide +kernel
theorem mX2_become_stCopy : Cond.static arraycopyName ∈ wsX2_become := by decide +kernel
theorem mX2_become_iniSys : Cond.initialized "java/lang/System" ∈ wsX2_become := by decide +kernel
theorem mX2_become_f15 : Cond.fieldLink RX2 15 "WireLoom$State" "readings" "[I" ∈ wsX2_become := by decide +kernel
theorem mX2_become_f18 : Cond.fieldLink RX2 18 "WireLoom$State" "wear" "[I" ∈ wsX2_become := by decide +kernel
theorem mX2_become_f21 : Cond.fieldLink RX2 21 "WireLoom$State" "settings" "[I" ∈ wsX2_become := by decide +kernel
theorem mX2_become_f27 : Cond.fieldLink RX2 27 "WireLoom$State" "machine" "LWireLoom$Machine;" ∈ wsX2_become := by decide +kernel
theorem mX2_become_f41 : Cond.fieldLink RX2 41 "WireLoom$State" "guarded" "I" ∈ wsX2_become := by decide +kernel
theorem mX2_become_f45 : Cond.fieldLink RX2 45 "WireLoom$State" "crossingsChanged" "I" ∈ wsX2_become := by decide +kernel
theorem mX2_become_f48 : Cond.fieldLink RX2 48 "WireLoom$State" "readingsDone" "I" ∈ wsX2_become := by decide +kernel
set_option maxRecDepth 20000 in
theorem iX2_become_X2 : ∀ w ∈ wsX20, w ∈ wsX2_become := by decide +kernel
set_option maxHeartbeats 4000000 in
set_option maxRecDepth 100000 in
theorem c_X2_become (l : Launch) (D : va_G) (cA : Nat → ClassId) (H : Heap) (a b : Nat → Nat) (u v : SV) (hz : v.2.2.2.2.2.2.2.2.2.2.2.1 = 0 ∨ v.2.2.2.2.2.2.2.2.2.2.2.1 = 1) (hP0 : va_P D vwCl ((wSt cA a u) ++ (wSt cA b v)) H) (hD0 : va_D (fun _ => True) ((wSt cA a u) ++ (wSt cA b v))) : MU l yX2_become wsX2_become ({ frames := 2, cells := 0, slots := 0, locals := 51 } : Room) D cA [.ref (a 0), .ref (b 0)] H ((wSt cA a u) ++ (wSt cA b v)) (wSt cA a v ++ wSt cA b v) none := by
  refine Met.ofW (cc := cX2_become) (maxL := 2) (ret := none) (by decide) rfl ?_
  intro p e s m args below meth c s₁ B hml hv
  obtain ⟨rfl, hH, hKN⟩ := hv
  have hK := hKN.1
  have hx := B.exec
  have hb := B.bytes
  have hr := B.returns
  have hts := atoms_spec (ws := wsX2_become) B.pre
  have hown : s.vm.findClass RX2 = some m.cls := findClass_of_methodNamed B.named
  have hlocks := B.notSynchronized
  subst hH
  have hD := hD0.self (sz := s.heap.size)
  generalize hAe : va_A ((wSt cA a u) ++ (wSt cA b v)) s.heap.size = A at hD ⊢
  have hA : ∀ q : Nat, s.heap.size ≤ q → A q := fun q h => by rw [← hAe]; exact Or.inr h
  have hS : va_S A s.heap s.heap [] := va_S.rf
  have hP : va_P D vwCl ((wSt cA a u) ++ (wSt cA b v)) s.heap := hP0
  have hl := lv_entry ([.ref (a 0), .ref (b 0)] : List Value) (n := 2) (Nat.le_of_ble_eq_true rfl)
  rw [lg_entry_eq]
  generalize (lg_sl ([.ref (a 0), .ref (b 0)] : List Value) ++ List.replicate (2 - (lg_sl ([.ref (a 0), .ref (b 0)] : List Value)).length) Slot.unset).toArray = ls at hl ⊢
  have hl : lv_has ls 2 [(0, .ref (a 0)), (1, .ref (b 0))] := hl
  refine lv_aload_n hx hb dX2_become_0 rfl (lv_at hl 1 rfl) ?_
  refine va_get (D := D) (ci := 2) (v := .ref (b 1)) (C := RX2) (T := TX2) (N := 8) hx hb hts iX2_become_X2 hown hK hP 8 rfl rfl 0 (by decide) (hts _ mX2_become_f9) (fun _ h9 => h9) rfl dX2_become_1 ?_
  refine lv_iconst (v := 0) hx hb dX2_become_4 (by decide) ?_
  refine lv_aload_n hx hb dX2_become_5 rfl (lv_at hl 0 rfl) ?_
  refine va_get (D := D) (ci := 2) (v := .ref (a 1)) (C := RX2) (T := TX2) (N := 8) hx hb hts iX2_become_X2 hown hK hP 0 rfl rfl 0 (by decide) (hts _ mX2_become_f9) (fun _ h9 => h9) rfl dX2_become_6 ?_
  refine lv_iconst (v := 0) hx hb dX2_become_9 (by decide) ?_
  refine lv_bipush (v := 16) hx hb dX2_become_10 (by decide) ?_
  refine lz_copy (f := v.1) (g := u.1) (N := 16) hx hb (hml.trans hl.1.symm) hown (hts _ mX2_become_p31) (hts _ mX2_become_natCopy) (hts _ mX2_become_stCopy) (hts _ mX2_become_iniSys) hK hP hD hS 9 1 0 rfl rfl rfl (by decide) rfl (Nat.le_of_ble_eq_true rfl) (Nat.le_of_ble_eq_true rfl) dX2_become_12 (fun H locs hP hD hS => ?_)
  have hP : va_P D vwCl ((wSt cA a (v.1, u.2.1, u.2.2.1, u.2.2.2.1, u.2.2.2.2.1, u.2.2.2.2.2.1, u.2.2.2.2.2.2.1, u.2.2.2.2.2.2.2.1, u.2.2.2.2.2.2.2.2.1, u.2.2.2.2.2.2.2.2.2.1, u.2.2.2.2.2.2.2.2.2.2.1, u.2.2.2.2.2.2.2.2.2.2.2.1, u.2.2.2.2.2.2.2.2.2.2.2.2.1, u.2.2.2.2.2.2.2.2.2.2.2.2.2)) ++ (wSt cA b v)) H := hP
  have hD : va_D A ((wSt cA a (v.1, u.2.1, u.2.2.1, u.2.2.2.1, u.2.2.2.2.1, u.2.2.2.2.2.1, u.2.2.2.2.2.2.1, u.2.2.2.2.2.2.2.1, u.2.2.2.2.2.2.2.2.1, u.2.2.2.2.2.2.2.2.2.1, u.2.2.2.2.2.2.2.2.2.2.1, u.2.2.2.2.2.2.2.2.2.2.2.1, u.2.2.2.2.2.2.2.2.2.2.2.2.1, u.2.2.2.2.2.2.2.2.2.2.2.2.2)) ++ (wSt cA b v)) := hD
  refine lv_aload_n hx hb dX2_become_15 rfl (lv_at hl 1 rfl) ?_
  refine va_get (D := D) (ci := 2) (v := .ref (b 2)) (C := RX2) (T := TX2) (N := 8) hx hb hts iX2_become_X2 hown hK hP 8 rfl rfl 1 (by decide) (hts _ mX2_become_f15) (fun _ h9 => h9) rfl dX2_become_16 ?_
  refine lv_iconst (v := 0) hx hb dX2_become_19 (by decide) ?_
  refine lv_aload_n hx hb dX2_become_20 rfl (lv_at hl 0 rfl) ?_
  refine va_get (D := D) (ci := 2) (v := .ref (a 2)) (C := RX2) (T := TX2) (N := 8) hx hb hts iX2_become_X2 hown hK hP 0 rfl rfl 1 (by decide) (hts _ mX2_become_f15) (fun _ h9 => h9) rfl dX2_become_21 ?_
  refine lv_iconst (v := 0) hx hb dX2_become_24 (by decide) ?_
  refine lv_bipush (v := 16) hx hb dX2_become_25 (by decide) ?_
  refine lz_copy (f := v.2.1) (g := u.2.1) (N := 16) hx hb (hml.trans hl.1.symm) hown (hts _ mX2_become_p31) (hts _ mX2_become_natCopy) (hts _ mX2_become_stCopy) (hts _ mX2_become_iniSys) hK hP hD hS 10 2 0 rfl rfl rfl (by decide) rfl (Nat.le_of_ble_eq_true rfl) (Nat.le_of_ble_eq_true rfl) dX2_become_27 (fun H locs hP hD hS => ?_)
  have hP : va_P D vwCl ((wSt cA a (v.1, v.2.1, u.2.2.1, u.2.2.2.1, u.2.2.2.2.1, u.2.2.2.2.2.1, u.2.2.2.2.2.2.1, u.2.2.2.2.2.2.2.1, u.2.2.2.2.2.2.2.2.1, u.2.2.2.2.2.2.2.2.2.1, u.2.2.2.2.2.2.2.2.2.2.1, u.2.2.2.2.2.2.2.2.2.2.2.1, u.2.2.2.2.2.2.2.2.2.2.2.2.1, u.2.2.2.2.2.2.2.2.2.2.2.2.2)) ++ (wSt cA b v)) H := hP
  have hD : va_D A ((wSt cA a (v.1, v.2.1, u.2.2.1, u.2.2.2.1, u.2.2.2.2.1, u.2.2.2.2.2.1, u.2.2.2.2.2.2.1, u.2.2.2.2.2.2.2.1, u.2.2.2.2.2.2.2.2.1, u.2.2.2.2.2.2.2.2.2.1, u.2.2.2.2.2.2.2.2.2.2.1, u.2.2.2.2.2.2.2.2.2.2.2.1, u.2.2.2.2.2.2.2.2.2.2.2.2.1, u.2.2.2.2.2.2.2.2.2.2.2.2.2)) ++ (wSt cA b v)) := hD
  refine lv_aload_n hx hb dX2_become_30 rfl (lv_at hl 1 rfl) ?_
  refine va_get (D := D) (ci := 2) (v := .ref (b 3)) (C := RX2) (T := TX2) (N := 8) hx hb hts iX2_become_X2 hown hK hP 8 rfl rfl 2 (by decide) (hts _ mX2_become_f18) (fun _ h9 => h9) rfl dX2_become_31 ?_
  refine lv_iconst (v := 0) hx hb dX2_become_34 (by decide) ?_
  refine lv_aload_n hx hb dX2_become_35 rfl (lv_at hl 0 rfl) ?_
  refine va_get (D := D) (ci := 2) (v := .ref (a 3)) (C := RX2) (T := TX2) (N := 8) hx hb hts iX2_become_X2 hown hK hP 0 rfl rfl 2 (by decide) (hts _ mX2_become_f18) (fun _ h9 => h9) rfl dX2_become_36 ?_
  refine lv_iconst (v := 0) hx hb dX2_become_39 (by decide) ?_
  refine lv_bipush (v := 8) hx hb dX2_become_40 (by decide) ?_
  refine lz_copy (f := v.2.2.1) (g := u.2.2.1) (N := 8) hx hb (hml.trans hl.1.symm) hown (hts _ mX2_become_p31) (hts _ mX2_become_natCopy) (hts _ mX2_become_stCopy) (hts _ mX2_become_iniSys) hK hP hD hS 11 3 0 rfl rfl rfl (by decide) rfl (Nat.le_of_ble_eq_true rfl) (Nat.le_of_ble_eq_true rfl) dX2_become_42 (fun H locs hP hD hS => ?_)
  have hP : va_P D vwCl ((wSt cA a (v.1, v.2.1, v.2.2.1, u.2.2.2.1, u.2.2.2.2.1, u.2.2.2.2.2.1, u.2.2.2.2.2.2.1, u.2.2.2.2.2.2.2.1, u.2.2.2.2.2.2.2.2.1, u.2.2.2.2.2.2.2.2.2.1, u.2.2.2.2.2.2.2.2.2.2.1, u.2.2.2.2.2.2.2.2.2.2.2.1, u.2.2.2.2.2.2.2.2.2.2.2.2.1, u.2.2.2.2.2.2.2.2.2.2.2.2.2)) ++ (wSt cA b v)) H := hP
  have hD : va_D A ((wSt cA a (v.1, v.2.1, v.2.2.1, u.2.2.2.1, u.2.2.2.2.1, u.2.2.2.2.2.1, u.2.2.2.2.2.2.1, u.2.2.2.2.2.2.2.1, u.2.2.2.2.2.2.2.2.1, u.2.2.2.2.2.2.2.2.2.1, u.2.2.2.2.2.2.2.2.2.2.1, u.2.2.2.2.2.2.2.2.2.2.2.1, u.2.2.2.2.2.2.2.2.2.2.2.2.1, u.2.2.2.2.2.2.2.2.2.2.2.2.2)) ++ (wSt cA b v)) := hD
  refine lv_aload_n hx hb dX2_become_45 rfl (lv_at hl 1 rfl) ?_
  refine va_get (D := D) (ci := 2) (v := .ref (b 4)) (C := RX2) (T := TX2) (N := 8) hx hb hts iX2_become_X2 hown hK hP 8 rfl rfl 3 (by decide) (hts _ mX2_become_f21) (fun _ h9 => h9) rfl dX2_become_46 ?_
  refine lv_iconst (v := 0) hx hb dX2_become_49 (by decide) ?_
  refine lv_aload_n hx hb dX2_become_50 rfl (lv_at hl 0 rfl) ?_
  refine va_get (D := D) (ci := 2) (v := .ref (a 4)) (C := RX2) (T := TX2) (N := 8) hx hb hts iX2_become_X2 hown hK hP 0 rfl rfl 3 (by decide) (hts _ mX2_become_f21) (fun _ h9 => h9) rfl dX2_become_51 ?_
  refine lv_iconst (v := 0) hx hb dX2_become_54 (by decide) ?_
  refine lv_iconst (v := 2) hx hb dX2_become_55 (by decide) ?_
  refine lz_copy (f := v.2.2.2.1) (g := u.2.2.2.1) (N := 2) hx hb (hml.trans hl.1.symm) hown (hts _ mX2_become_p31) (hts _ mX2_become_natCopy) (hts _ mX2_become_stCopy) (hts _ mX2_become_iniSys) hK hP hD hS 12 4 0 rfl rfl rfl (by decide) rfl (Nat.le_of_ble_eq_true rfl) (Nat.le_of_ble_eq_true rfl) dX2_become_56 (fun H locs hP hD hS => ?_)
  have hP : va_P D vwCl ((wSt cA a (v.1, v.2.1, v.2.2.1, v.2.2.2.1, u.2.2.2.2.1, u.2.2.2.2.2.1, u.2.2.2.2.2.2.1, u.2.2.2.2.2.2.2.1, u.2.2.2.2.2.2.2.2.1, u.2.2.2.2.2.2.2.2.2.1, u.2.2.2.2.2.2.2.2.2.2.1, u.2.2.2.2.2.2.2.2.2.2.2.1, u.2.2.2.2.2.2.2.2.2.2.2.2.1, u.2.2.2.2.2.2.2.2.2.2.2.2.2)) ++ (wSt cA b v)) H := hP
  have hD : va_D A ((wSt cA a (v.1, v.2.1, v.2.2.1, v.2.2.2.1, u.2.2.2.2.1, u.2.2.2.2.2.1, u.2.2.2.2.2.2.1, u.2.2.2.2.2.2.2.1, u.2.2.2.2.2.2.2.2.1, u.2.2.2.2.2.2.2.2.2.1, u.2.2.2.2.2.2.2.2.2.2.1, u.2.2.2.2.2.2.2.2.2.2.2.1, u.2.2.2.2.2.2.2.2.2.2.2.2.1, u.2.2.2.2.2.2.2.2.2.2.2.2.2)) ++ (wSt cA b v)) := hD
  refine lv_aload_n hx hb dX2_become_59 rfl (lv_at hl 0 rfl) ?_
  refine va_get (D := D) (ci := 2) (v := .ref (a 5)) (C := RX2) (T := TX2) (N := 8) hx hb hts iX2_become_X2 hown hK hP 0 rfl rfl 4 (by decide) (hts _ mX2_become_f27) (fun _ h9 => h9) rfl dX2_become_60 ?_
  refine lv_aload_n hx hb dX2_become_63 rfl (lv_at hl 1 rfl) ?_
  refine va_get (D := D) (ci := 2) (v := .ref (b 5)) (C := RX2) (T := TX2) (N := 8) hx hb hts iX2_become_X2 hown hK hP 8 rfl rfl 4 (by decide) (hts _ mX2_become_f27) (fun _ h9 => h9) rfl dX2_become_64 ?_
  refine mu_V (ci := 0) (q0 := 5) (As := [.ref (b 5)]) (rest := []) (ws' := ((wSt cA a (v.1, v.2.1, v.2.2.1, v.2.2.2.1, u.2.2.2.2.1, u.2.2.2.2.2.1, u.2.2.2.2.2.2.1, v.2.2.2.2.2.2.2.1, v.2.2.2.2.2.2.2.2.1, v.2.2.2.2.2.2.2.2.2.1, v.2.2.2.2.2.2.2.2.2.2.1, v.2.2.2.2.2.2.2.2.2.2.2.1, v.2.2.2.2.2.2.2.2.2.2.2.2.1, v.2.2.2.2.2.2.2.2.2.2.2.2.2)) ++ (wSt cA b v))) ⟨hx, hb, hml, hown, hts⟩ (c_X0_becomeLike l D cA _ a b (u.2.2.2.2.2.2.2.1, u.2.2.2.2.2.2.2.2.1, u.2.2.2.2.2.2.2.2.2.1, u.2.2.2.2.2.2.2.2.2.2.1, u.2.2.2.2.2.2.2.2.2.2.2.1, u.2.2.2.2.2.2.2.2.2.2.2.2.1, u.2.2.2.2.2.2.2.2.2.2.2.2.2) (v.2.2.2.2.2.2.2.1, v.2.2.2.2.2.2.2.2.1, v.2.2.2.2.2.2.2.2.2.1, v.2.2.2.2.2.2.2.2.2.2.1, v.2.2.2.2.2.2.2.2.2.2.2.1, v.2.2.2.2.2.2.2.2.2.2.2.2.1, v.2.2.2.2.2.2.2.2.2.2.2.2.2) hz (hP.sub (ws' := (wMc cA a (u.2.2.2.2.2.2.2.1, u.2.2.2.2.2.2.2.2.1, u.2.2.2.2.2.2.2.2.2.1, u.2.2.2.2.2.2.2.2.2.2.1, u.2.2.2.2.2.2.2.2.2.2.2.1, u.2.2.2.2.2.2.2.2.2.2.2.2.1, u.2.2.2.2.2.2.2.2.2.2.2.2.2) ++ wMc cA b (v.2.2.2.2.2.2.2.1, v.2.2.2.2.2.2.2.2.1, v.2.2.2.2.2.2.2.2.2.1, v.2.2.2.2.2.2.2.2.2.2.1, v.2.2.2.2.2.2.2.2.2.2.2.1, v.2.2.2.2.2.2.2.2.2.2.2.2.1, v.2.2.2.2.2.2.2.2.2.2.2.2.2))) [5, 6, 7, 13, 14, 15] rfl) ((hD.sub (ws' := (wMc cA a (u.2.2.2.2.2.2.2.1, u.2.2.2.2.2.2.2.2.1, u.2.2.2.2.2.2.2.2.2.1, u.2.2.2.2.2.2.2.2.2.2.1, u.2.2.2.2.2.2.2.2.2.2.2.1, u.2.2.2.2.2.2.2.2.2.2.2.2.1, u.2.2.2.2.2.2.2.2.2.2.2.2.2) ++ wMc cA b (v.2.2.2.2.2.2.2.1, v.2.2.2.2.2.2.2.2.1, v.2.2.2.2.2.2.2.2.2.1, v.2.2.2.2.2.2.2.2.2.2.1, v.2.2.2.2.2.2.2.2.2.2.2.1, v.2.2.2.2.2.2.2.2.2.2.2.2.1, v.2.2.2.2.2.2.2.2.2.2.2.2.2))) [5, 6, 7, 13, 14, 15] (by decide) rfl).weaken (fun _ _ _ _ => trivial))) (cwV 1 hts gX2_become_X0_becomeLike rfl rfl rfl (by decide +kernel) ⟨Nat.le_of_ble_eq_true rfl, Nat.le_of_ble_eq_true rfl⟩) hKN hP hD hS hA rfl rfl [5, 6, 7, 13, 14, 15] rfl (fst_app ((wMc_fst _ _ _).trans (wMc_fst _ _ _).symm) ((wMc_fst _ _ _).trans (wMc_fst _ _ _).symm)) rfl rfl hl.1 rfl (lv_room (Nat.le_of_ble_eq_true rfl)) dX2_become_67 ⟨Nat.zero_le _, Nat.zero_le _⟩ (fun H locs hP hD hS => ?_)
  refine lv_aload_n hx hb dX2_become_70 rfl (lv_at hl 0 rfl) ?_
  refine lv_aload_n hx hb dX2_become_71 rfl (lv_at hl 1 rfl) ?_
  refine va_get (D := D) (ci := 2) (v := .int v.2.2.2.2.1) (C := RX2) (T := TX2) (N := 8) hx hb hts iX2_become_X2 hown hK hP 8 rfl rfl 5 (by decide) (hts _ mX2_become_f41) (fun _ h9 => h9) rfl dX2_become_72 ?_
  refine va_put (D := D) (ci := 2) (v := .int v.2.2.2.2.1) (ty := .int) (C := RX2) (T := TX2) (N := 8) hx hb hts iX2_become_X2 tyX2 tyX2_ok nmX2 hown hK hP hD hS 0 rfl rfl 5 (by decide) (hts _ mX2_become_f41) (fun _ h9 => h9) rfl (by decide +kernel) rfl rfl (Nat.le_of_ble_eq_true rfl) dX2_become_75 (fun H locs hP hD hS => ?_)
  have hP : va_P D vwCl ((wSt cA a (v.1, v.2.1, v.2.2.1, v.2.2.2.1, v.2.2.2.2.1, u.2.2.2.2.2.1, u.2.2.2.2.2.2.1, v.2.2.2.2.2.2.2.1, v.2.2.2.2.2.2.2.2.1, v.2.2.2.2.2.2.2.2.2.1, v.2.2.2.2.2.2.2.2.2.2.1, v.2.2.2.2.2.2.2.2.2.2.2.1, v.2.2.2.2.2.2.2.2.2.2.2.2.1, v.2.2.2.2.2.2.2.2.2.2.2.2.2)) ++ (wSt cA b v)) H := hP
  have hD : va_D A ((wSt cA a (v.1, v.2.1, v.2.2.1, v.2.2.2.1, v.2.2.2.2.1, u.2.2.2.2.2.1, u.2.2.2.2.2.2.1, v.2.2.2.2.2.2.2.1, v.2.2.2.2.2.2.2.2.1, v.2.2.2.2.2.2.2.2.2.1, v.2.2.2.2.2.2.2.2.2.2.1, v.2.2.2.2.2.2.2.2.2.2.2.1, v.2.2.2.2.2.2.2.2.2.2.2.2.1, v.2.2.2.2.2.2.2.2.2.2.2.2.2)) ++ (wSt cA b v)) := hD
  refine lv_aload_n hx hb dX2_become_78 rfl (lv_at hl 0 rfl) ?_
  refine lv_aload_n hx hb dX2_become_79 rfl (lv_at hl 1 rfl) ?_
  refine va_get (D := D) (ci := 2) (v := .int v.2.2.2.2.2.1) (C := RX2) (T := TX2) (N := 8) hx hb hts iX2_become_X2 hown hK hP 8 rfl rfl 6 (by decide) (hts _ mX2_become_f45) (fun _ h9 => h9) rfl dX2_become_80 ?_
  refine va_put (D := D) (ci := 2) (v := .int v.2.2.2.2.2.1) (ty := .int) (C := RX2) (T := TX2) (N := 8) hx hb hts iX2_become_X2 tyX2 tyX2_ok nmX2 hown hK hP hD hS 0 rfl rfl 6 (by decide) (hts _ mX2_become_f45) (fun _ h9 => h9) rfl (by decide +kernel) rfl rfl (Nat.le_of_ble_eq_true rfl) dX2_become_83 (fun H locs hP hD hS => ?_)
  have hP : va_P D vwCl ((wSt cA a (v.1, v.2.1, v.2.2.1, v.2.2.2.1, v.2.2.2.2.1, v.2.2.2.2.2.1, u.2.2.2.2.2.2.1, v.2.2.2.2.2.2.2.1, v.2.2.2.2.2.2.2.2.1, v.2.2.2.2.2.2.2.2.2.1, v.2.2.2.2.2.2.2.2.2.2.1, v.2.2.2.2.2.2.2.2.2.2.2.1, v.2.2.2.2.2.2.2.2.2.2.2.2.1, v.2.2.2.2.2.2.2.2.2.2.2.2.2)) ++ (wSt cA b v)) H := hP
  have hD : va_D A ((wSt cA a (v.1, v.2.1, v.2.2.1, v.2.2.2.1, v.2.2.2.2.1, v.2.2.2.2.2.1, u.2.2.2.2.2.2.1, v.2.2.2.2.2.2.2.1, v.2.2.2.2.2.2.2.2.1, v.2.2.2.2.2.2.2.2.2.1, v.2.2.2.2.2.2.2.2.2.2.1, v.2.2.2.2.2.2.2.2.2.2.2.1, v.2.2.2.2.2.2.2.2.2.2.2.2.1, v.2.2.2.2.2.2.2.2.2.2.2.2.2)) ++ (wSt cA b v)) := hD
  refine lv_aload_n hx hb dX2_become_86 rfl (lv_at hl 0 rfl) ?_
  refine lv_aload_n hx hb dX2_become_87 rfl (lv_at hl 1 rfl) ?_
  refine va_get (D := D) (ci := 2) (v := .int v.2.2.2.2.2.2.1) (C := RX2) (T := TX2) (N := 8) hx hb hts iX2_become_X2 hown hK hP 8 rfl rfl 7 (by decide) (hts _ mX2_become_f48) (fun _ h9 => h9) rfl dX2_become_88 ?_
  refine va_put (D := D) (ci := 2) (v := .int v.2.2.2.2.2.2.1) (ty := .int) (C := RX2) (T := TX2) (N := 8) hx hb hts iX2_become_X2 tyX2 tyX2_ok nmX2 hown hK hP hD hS 0 rfl rfl 7 (by decide) (hts _ mX2_become_f48) (fun _ h9 => h9) rfl (by decide +kernel) rfl rfl (Nat.le_of_ble_eq_true rfl) dX2_become_91 (fun H locs hP hD hS => ?_)
  have hP : va_P D vwCl ((wSt cA a (v.1, v.2.1, v.2.2.1, v.2.2.2.1, v.2.2.2.2.1, v.2.2.2.2.2.1, v.2.2.2.2.2.2.1, v.2.2.2.2.2.2.2.1, v.2.2.2.2.2.2.2.2.1, v.2.2.2.2.2.2.2.2.2.1, v.2.2.2.2.2.2.2.2.2.2.1, v.2.2.2.2.2.2.2.2.2.2.2.1, v.2.2.2.2.2.2.2.2.2.2.2.2.1, v.2.2.2.2.2.2.2.2.2.2.2.2.2)) ++ (wSt cA b v)) H := hP
  have hD : va_D A ((wSt cA a (v.1, v.2.1, v.2.2.1, v.2.2.2.1, v.2.2.2.2.1, v.2.2.2.2.2.1, v.2.2.2.2.2.2.1, v.2.2.2.2.2.2.2.1, v.2.2.2.2.2.2.2.2.1, v.2.2.2.2.2.2.2.2.2.1, v.2.2.2.2.2.2.2.2.2.2.1, v.2.2.2.2.2.2.2.2.2.2.2.1, v.2.2.2.2.2.2.2.2.2.2.2.2.1, v.2.2.2.2.2.2.2.2.2.2.2.2.2)) ++ (wSt cA b v)) := hD
  exact mu_vret hx hb hr hlocks dX2_become_94 hAe hS hP
theorem mX2_run_f27 : Cond.fieldLink RX2 27 "WireLoom$State" "machine" "LWireLoom$Machine;" ∈ wsX2_run := by decide +kernel
theorem mX2_run_f82 : Cond.fieldLink RX2 82 "WireLoom$Machine" "running" "Z" ∈ wsX2_run := by decide +kernel
theorem mX2_run_f86 : Cond.fieldLink RX2 86 "WireLoom$Machine" "place" "I" ∈ wsX2_run := by decide +kernel
set_option maxRecDepth 20000 in
theorem iX2_run_X0 : ∀ w ∈ wsX00, w ∈ wsX2_run := by decide +kernel
set_option maxRecDepth 20000 in
theorem iX2_run_X2 : ∀ w ∈ wsX20, w ∈ wsX2_run := by decide +kernel
set_option maxHeartbeats 4000000 in
set_option maxRecDepth 100000 in
theorem c_X2_run (l : Launch) (D : va_G) (cA : Nat → ClassId) (H : Heap) (a : Nat → Nat) (u : SV) (N : Nat) (hN : N < 100) (hpo : PlOk u) (hP0 : va_P D vwCl (wSt cA a u) H) (hD0 : va_D (fun _ => True) (wSt cA a u)) : MU l yX2_run wsX2_run ({ frames := 5, cells := 0, slots := 0, locals := 116 } : Room) D cA [.ref (a 0), .int (nI N)] H (wSt cA a u) (wSt cA a (runS N u).2) (some (.int (nI (runS N u).1))) := by
  refine Met.ofW (cc := cX2_run) (maxL := 4) (ret := (some .int)) (by decide) rfl ?_
  intro p e s m args below meth c s₁ B hml hv
  obtain ⟨rfl, hH, hKN⟩ := hv
  have hK := hKN.1
  have hx := B.exec
  have hb := B.bytes
  have hr := B.returns
  have hts := atoms_spec (ws := wsX2_run) B.pre
  have hown : s.vm.findClass RX2 = some m.cls := findClass_of_methodNamed B.named
  have hlocks := B.notSynchronized
  subst hH
  have hD := hD0.self (sz := s.heap.size)
  generalize hAe : va_A (wSt cA a u) s.heap.size = A at hD ⊢
  have hA : ∀ q : Nat, s.heap.size ≤ q → A q := fun q h => by rw [← hAe]; exact Or.inr h
  have hS : va_S A s.heap s.heap [] := va_S.rf
  have hP : va_P D vwCl (wSt cA a u) s.heap := hP0
  have hl := lv_entry ([.ref (a 0), .int (nI N)] : List Value) (n := 4) (Nat.le_of_ble_eq_true rfl)
  rw [lg_entry_eq]
  generalize (lg_sl ([.ref (a 0), .int (nI N)] : List Value) ++ List.replicate (4 - (lg_sl ([.ref (a 0), .int (nI N)] : List Value)).length) Slot.unset).toArray = ls at hl ⊢
  have hl : lv_has ls 4 [(0, .ref (a 0)), (1, .int (nI N))] := hl
  refine lv_iconst (v := 0) hx hb dX2_run_0 (by decide) ?_
  refine lv_istore_n (lv' := [(2, .int 0), (0, .ref (a 0)), (1, .int (nI N))]) hx hb dX2_run_1 rfl hl (by decide) rfl (fun ls hl => ?_)
  have loop2 : ∀ (n k : Nat) (v : SV), k + n = N → PlOk v → (runS N u).1 = k + (runS n v).1 → (runS N u).2 = (runS n v).2 → ∀ (H : Heap) (locs : List Loc), va_P D vwCl (wSt cA a v) H → va_D A (wSt cA a v) → va_S A s.heap H locs → ∀ (ls : Array Slot), lv_has ls 4 [(2, .int (nI k)), (0, .ref (a 0)), (1, .int (nI N))] → W p l e ({ frames := 5, cells := 0, slots := 0, locals := 116 } : Room) s m ([.ref (a 0), .int (nI N)] : List Value).toArray below meth c H locs 0 0 (MQ below (muQ D s.heap (wSt cA a u) (wSt cA a (runS N u).2) (some (.int (nI (runS N u).1)))) ([.ref (a 0), .int (nI N)] : List Value).toArray s 0 0 A) (F0 m 2 ls []) := by
    intro n
    induction n with
    | zero =>
      intro k v hk hpo hq1 hq2 H locs hP hD hS ls hl
      obtain rfl : N = k := by omega
      refine lv_iload_n hx hb dX2_run_2 rfl (lv_at hl 0 rfl) ?_
      refine lv_iload_n hx hb dX2_run_3 rfl (lv_at hl 2 rfl) ?_
      refine lv_icmp_ge (tgt := 43) hx hb dX2_run_4 (by decide) (fun _ => ?_) (fun h => absurd (nI_le (Nat.le_refl _) (by omega)) h)
      refine lv_iload_n hx hb dX2_run_43 rfl (lv_at hl 0 rfl) ?_
      exact mu_iret hx hb hr hlocks dX2_run_44 hAe hS (by rw [hq2, runS_zero]; exact hP) (by rw [hq1, runS_zero]; rfl)
    | succ n ih2 =>
      intro k v hk hpo hq1 hq2 H locs hP hD hS ls hl
      obtain ⟨hpl, hp16⟩ := hpo
      obtain ⟨hw, htw⟩ := tellN_spec v (placeN v)
      refine lv_iload_n hx hb dX2_run_2 rfl (lv_at hl 0 rfl) ?_
      refine lv_iload_n hx hb dX2_run_3 rfl (lv_at hl 2 rfl) ?_
      refine lv_icmp_ge (tgt := 43) hx hb dX2_run_4 (by decide) (fun h => absurd h (nI_ge (by omega) (by omega))) (fun _ => ?_)
      refine lv_aload_n hx hb dX2_run_7 rfl (lv_at hl 1 rfl) ?_
      refine va_get (D := D) (ci := 2) (v := .ref (a 5)) (C := RX2) (T := TX2) (N := 8) hx hb hts iX2_run_X2 hown hK hP 0 rfl rfl 4 (by decide) (hts _ mX2_run_f27) (fun _ h9 => h9) rfl dX2_run_8 ?_
      refine va_get (D := D) (ci := 0) (v := .int v.2.2.2.2.2.2.2.2.2.2.2.1) (C := RX0) (T := TX0) (N := 7) hx hb hts iX2_run_X0 hown hK hP 5 rfl rfl 4 (by decide) (hts _ mX2_run_f82) (fun _ h9 => h9) rfl dX2_run_11 ?_
      refine lv_if_eq (tgt := 43) hx hb dX2_run_14 (by decide) (fun c_14 => ?_) (fun c_14 => ?_)
      · refine lv_iload_n hx hb dX2_run_43 rfl (lv_at hl 0 rfl) ?_
        exact mu_iret hx hb hr hlocks dX2_run_44 hAe hS (by rw [hq2, runS_succ, if_pos c_14]; exact hP) (by rw [hq1, runS_succ, if_pos c_14]; rfl)
      · refine lv_aload_n hx hb dX2_run_17 rfl (lv_at hl 1 rfl) ?_
        refine lv_aload_n hx hb dX2_run_18 rfl (lv_at hl 1 rfl) ?_
        refine va_get (D := D) (ci := 2) (v := .ref (a 5)) (C := RX2) (T := TX2) (N := 8) hx hb hts iX2_run_X2 hown hK hP 0 rfl rfl 4 (by decide) (hts _ mX2_run_f27) (fun _ h9 => h9) rfl dX2_run_19 ?_
        refine va_get (D := D) (ci := 0) (v := .int v.2.2.2.2.2.2.2.2.2.1) (C := RX0) (T := TX0) (N := 7) hx hb hts iX2_run_X0 hown hK hP 5 rfl rfl 2 (by decide) (hts _ mX2_run_f86) (fun _ h9 => h9) rfl dX2_run_22 ?_
        refine lz_top (v := nI (placeN v)) hpl ?_
        refine mu_V (ci := 2) (q0 := 0) (As := [.int (nI (placeN v))]) (rest := []) (ws' := (wSt cA a ((readS v (placeN v)).1, (readS v (placeN v)).2.1, (readS v (placeN v)).2.2.1, (readS v (placeN v)).2.2.2.1, (readS v (placeN v)).2.2.2.2.1, (readS v (placeN v)).2.2.2.2.2.1, (readS v (placeN v)).2.2.2.2.2.2.1, (readS v (placeN v)).2.2.2.2.2.2.2.1, (readS v (placeN v)).2.2.2.2.2.2.2.2.1, (readS v (placeN v)).2.2.2.2.2.2.2.2.2.1, (readS v (placeN v)).2.2.2.2.2.2.2.2.2.2.1, (readS v (placeN v)).2.2.2.2.2.2.2.2.2.2.2.1, (readS v (placeN v)).2.2.2.2.2.2.2.2.2.2.2.2.1, (readS v (placeN v)).2.2.2.2.2.2.2.2.2.2.2.2.2))) ⟨hx, hb, hml, hown, hts⟩ (c_X2_takeReading l D cA _ a v (placeN v) (by omega) hP (hD.weaken (fun _ _ _ _ => trivial))) (cwV 1 hts gX2_run_X2_takeReading rfl rfl rfl (by decide +kernel) ⟨Nat.le_of_ble_eq_true rfl, Nat.le_of_ble_eq_true rfl⟩) hKN hP hD hS hA rfl rfl [0, 1, 2, 3, 4, 5, 6, 7] rfl ((wSt_fst _ _ _).trans (wSt_fst _ _ _).symm) rfl rfl hl.1 rfl (lv_room (Nat.le_of_ble_eq_true rfl)) dX2_run_25 ⟨Nat.zero_le _, Nat.zero_le _⟩ (fun H locs hP hD hS => ?_)
        refine lz_top (v := nI (tellN v (placeN v))) htw ?_
        refine lv_istore_n (lv' := [(3, .int (nI (tellN v (placeN v)))), (2, .int (nI k)), (0, .ref (a 0)), (1, .int (nI N))]) hx hb dX2_run_28 rfl hl (by decide) rfl (fun ls hl => ?_)
        refine lv_aload_n hx hb dX2_run_29 rfl (lv_at hl 2 rfl) ?_
        refine va_get (D := D) (ci := 2) (v := .ref (a 5)) (C := RX2) (T := TX2) (N := 8) hx hb hts iX2_run_X2 hown hK hP 0 rfl rfl 4 (by decide) (hts _ mX2_run_f27) (fun _ h9 => h9) rfl dX2_run_30 ?_
        refine lv_iload_n hx hb dX2_run_33 rfl (lv_at hl 0 rfl) ?_
        refine mu_V (ci := 0) (q0 := 5) (As := [.int (nI (tellN v (placeN v)))]) (rest := []) (ws' := (wSt cA a ((stepS v).1, (stepS v).2.1, (stepS v).2.2.1, (stepS v).2.2.2.1, (stepS v).2.2.2.2.1, (stepS v).2.2.2.2.2.1, (stepS v).2.2.2.2.2.2.1, (stepS v).2.2.2.2.2.2.2.1, (stepS v).2.2.2.2.2.2.2.2.1, (stepS v).2.2.2.2.2.2.2.2.2.1, (stepS v).2.2.2.2.2.2.2.2.2.2.1, (stepS v).2.2.2.2.2.2.2.2.2.2.2.1, (stepS v).2.2.2.2.2.2.2.2.2.2.2.2.1, (stepS v).2.2.2.2.2.2.2.2.2.2.2.2.2))) ⟨hx, hb, hml, hown, hts⟩ (c_X0_obey l D cA _ a ((readS v (placeN v)).2.2.2.2.2.2.2.1, (readS v (placeN v)).2.2.2.2.2.2.2.2.1, (readS v (placeN v)).2.2.2.2.2.2.2.2.2.1, (readS v (placeN v)).2.2.2.2.2.2.2.2.2.2.1, (readS v (placeN v)).2.2.2.2.2.2.2.2.2.2.2.1, (readS v (placeN v)).2.2.2.2.2.2.2.2.2.2.2.2.1, (readS v (placeN v)).2.2.2.2.2.2.2.2.2.2.2.2.2) (placeN v) (tellN v (placeN v)) hpl hp16 hw (hP.sub (ws' := (wMc cA a ((readS v (placeN v)).2.2.2.2.2.2.2.1, (readS v (placeN v)).2.2.2.2.2.2.2.2.1, (readS v (placeN v)).2.2.2.2.2.2.2.2.2.1, (readS v (placeN v)).2.2.2.2.2.2.2.2.2.2.1, (readS v (placeN v)).2.2.2.2.2.2.2.2.2.2.2.1, (readS v (placeN v)).2.2.2.2.2.2.2.2.2.2.2.2.1, (readS v (placeN v)).2.2.2.2.2.2.2.2.2.2.2.2.2))) [5, 6, 7] rfl) ((hD.sub (ws' := (wMc cA a ((readS v (placeN v)).2.2.2.2.2.2.2.1, (readS v (placeN v)).2.2.2.2.2.2.2.2.1, (readS v (placeN v)).2.2.2.2.2.2.2.2.2.1, (readS v (placeN v)).2.2.2.2.2.2.2.2.2.2.1, (readS v (placeN v)).2.2.2.2.2.2.2.2.2.2.2.1, (readS v (placeN v)).2.2.2.2.2.2.2.2.2.2.2.2.1, (readS v (placeN v)).2.2.2.2.2.2.2.2.2.2.2.2.2))) [5, 6, 7] (by decide) rfl).weaken (fun _ _ _ _ => trivial))) (cwV 1 hts gX2_run_X0_obey rfl rfl rfl (by decide +kernel) ⟨Nat.le_of_ble_eq_true rfl, Nat.le_of_ble_eq_true rfl⟩) hKN hP hD hS hA rfl rfl [5, 6, 7] rfl ((wMc_fst _ _ _).trans (wMc_fst _ _ _).symm) rfl rfl hl.1 rfl (lv_room (Nat.le_of_ble_eq_true rfl)) dX2_run_34 ⟨Nat.zero_le _, Nat.zero_le _⟩ (fun H locs hP hD hS => ?_)
        refine lv_iinc (v := (nI (k + 1))) (lv' := [(2, .int (nI (k + 1))), (3, .int (nI (tellN v (placeN v)))), (0, .ref (a 0)), (1, .int (nI N))]) hx hb dX2_run_37 hl (k := 1) rfl (nI_1 _) (by decide) rfl (fun ls hl => ?_)
        refine lv_goto (tgt := 2) hx hb dX2_run_40 (by decide) ?_
        exact ih2 (k + 1) (stepS v) (by omega) (PlOk_step v) (by rw [hq1, runS_succ, if_neg c_14]; dsimp only; omega) (by rw [hq2, runS_succ, if_neg c_14]) _ _ hP hD hS ls (lv_sub hl [0, 2, 3] rfl)
  exact loop2 N 0 u (by omega) hpo (by rw [Nat.zero_add]) rfl _ _ hP hD hS ls (lv_sub hl [0, 1, 2] rfl)
