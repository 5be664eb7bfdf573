-- State and Machine: the methods that write
theorem wMc_ext {D : va_G} {cA : Nat → ClassId} {a : Nat → Nat} {u v : MV} {H : Heap} (h1 : ∀ j, j < 4 → u.1 j = v.1 j) (h2 : ∀ j, j < 8 → u.2.1 j = v.2.1 j) (h3 : u.2.2 = v.2.2) (hP : va_P D vwCl (wMc cA a u) H) : va_P D vwCl (wMc cA a v) H := by
  obtain ⟨u1, u2, u3⟩ := u
  obtain ⟨v1, v2, v3⟩ := v
  dsimp only at h1 h2 h3
  subst h3
  intro k q hq
  match k, hq with
  | 0, hq => exact hP 0 q hq
  | 1, hq =>
    cases hq
    have h := hP 1 _ rfl
    show H[a 6]? = some (vp_cell (cA 0) (4, .inl v1))
    rw [← vp_cell_ext h1]
    exact h
  | 2, hq =>
    cases hq
    have h := hP 2 _ rfl
    show H[a 7]? = some (vp_cell (cA 0) (8, .inl v2))
    rw [← vp_cell_ext h2]
    exact h
  | k + 3, hq => cases hq
theorem mX2_wearRings_f18 : Cond.fieldLink RX2 18 "WireLoom$State" "wear" "[I" ∈ wsX2_wearRings := by decide +kernel
theorem mX2_wearRings_p74 : Cond.methodLink RX2 74 Lib.Math.min.name ∈ wsX2_wearRings := by decide +kernel
theorem mX2_wearRings_st_min : Cond.static Lib.Math.min.name ∈ wsX2_wearRings := by decide +kernel
theorem mX2_wearRings_iniMath : Cond.initialized "java/lang/Math" ∈ wsX2_wearRings := by decide +kernel
theorem mX2_wearRings_co_min : Cond.code Lib.Math.min.name Lib.Math.min.code 2 (some .int) ∈ wsX2_wearRings := by decide +kernel
set_option maxRecDepth 20000 in
theorem iX2_wearRings_X2 : ∀ w ∈ wsX20, w ∈ wsX2_wearRings := by decide +kernel
set_option maxHeartbeats 4000000 in
set_option maxRecDepth 100000 in
theorem c_X2_wearRings (l : Launch) (D : va_G) (cA : Nat → ClassId) (H : Heap) (a : Nat → Nat) (u : SV) (mask more : Int32) (hP0 : va_P D vwCl (wSt cA a u) H) (hD0 : va_D (fun _ => True) (wSt cA a u)) : MU l yX2_wearRings wsX2_wearRings ({ frames := 1, cells := 0, slots := 0, locals := 21 } : Room) D cA [.ref (a 0), .int mask, .int more] H (wSt cA a u) (wSt cA a (wearS u mask more)) none := by
  refine Met.ofW (cc := cX2_wearRings) (maxL := 4) (ret := none) (by decide) rfl ?_
  intro p e s m args below meth c s₁ B hml hv
  obtain ⟨rfl, hH, hKN⟩ := hv
  have hK := hKN.1
  have hx := B.exec
  have hb := B.bytes
  have hr := B.returns
  have hts := atoms_spec (ws := wsX2_wearRings) B.pre
  have hown : s.vm.findClass RX2 = some m.cls := findClass_of_methodNamed B.named
  have hlocks := B.notSynchronized
  subst hH
  have hD := hD0.self (sz := s.heap.size)
  generalize hAe : va_A (wSt cA a u) s.heap.size = A at hD ⊢
  have hA : ∀ q : Nat, s.heap.size ≤ q → A q := fun q h => by rw [← hAe]; exact Or.inr h
  have hS : va_S A s.heap s.heap [] := va_S.rf
  have hP : va_P D vwCl (wSt cA a u) s.heap := hP0
  have hl := lv_entry ([.ref (a 0), .int mask, .int more] : List Value) (n := 4) (Nat.le_of_ble_eq_true rfl)
  rw [lg_entry_eq]
  generalize (lg_sl ([.ref (a 0), .int mask, .int more] : List Value) ++ List.replicate (4 - (lg_sl ([.ref (a 0), .int mask, .int more] : List Value)).length) Slot.unset).toArray = ls at hl ⊢
  have hl : lv_has ls 4 [(0, .ref (a 0)), (1, .int mask), (2, .int more)] := hl
  refine lv_iconst (v := 0) hx hb dX2_wearRings_0 (by decide) ?_
  refine lv_istore_n (lv' := [(3, .int 0), (0, .ref (a 0)), (1, .int mask), (2, .int more)]) hx hb dX2_wearRings_1 rfl hl (by decide) rfl (fun ls hl => ?_)
  have loop2 : ∀ (n2 k2 : Nat), k2 + n2 = 8 → ∀ (H : Heap) (locs : List Loc), va_P D vwCl (wSt cA a (u.1, u.2.1, (wearT u.2.2.1 mask more k2), u.2.2.2.1, u.2.2.2.2.1, u.2.2.2.2.2.1, u.2.2.2.2.2.2.1, u.2.2.2.2.2.2.2.1, u.2.2.2.2.2.2.2.2.1, u.2.2.2.2.2.2.2.2.2.1, u.2.2.2.2.2.2.2.2.2.2.1, u.2.2.2.2.2.2.2.2.2.2.2.1, u.2.2.2.2.2.2.2.2.2.2.2.2.1, u.2.2.2.2.2.2.2.2.2.2.2.2.2)) H → va_D A (wSt cA a (u.1, u.2.1, (wearT u.2.2.1 mask more k2), u.2.2.2.1, u.2.2.2.2.1, u.2.2.2.2.2.1, u.2.2.2.2.2.2.1, u.2.2.2.2.2.2.2.1, u.2.2.2.2.2.2.2.2.1, u.2.2.2.2.2.2.2.2.2.1, u.2.2.2.2.2.2.2.2.2.2.1, u.2.2.2.2.2.2.2.2.2.2.2.1, u.2.2.2.2.2.2.2.2.2.2.2.2.1, u.2.2.2.2.2.2.2.2.2.2.2.2.2)) → va_S A s.heap H locs → ∀ (ls : Array Slot), lv_has ls 4 [(3, .int (nI k2)), (0, .ref (a 0)), (1, .int mask), (2, .int more)] → W p l e ({ frames := 1, cells := 0, slots := 0, locals := 21 } : Room) s m ([.ref (a 0), .int mask, .int more] : List Value).toArray below meth c H locs 0 0 (MQ below (muQ D s.heap (wSt cA a u) (wSt cA a (wearS u mask more)) none) ([.ref (a 0), .int mask, .int more] : List Value).toArray s 0 0 A) (F0 m 2 ls []) := by
    intro n2
    induction n2 with
    | zero =>
      intro k2 hk2 H locs hP hD hS ls hl
      obtain rfl : 8 = k2 := by omega
      refine lv_iload_n hx hb dX2_wearRings_2 rfl (lv_at hl 0 rfl) ?_
      refine lv_bipush (v := 8) hx hb dX2_wearRings_3 (by decide) ?_
      refine lv_icmp_ge (tgt := 42) hx hb dX2_wearRings_5 (by decide) (fun _ => ?_) (fun h => absurd (by decide) h)
      exact mu_vret hx hb hr hlocks dX2_wearRings_42 hAe hS hP
    | succ n2 ih2 =>
      intro k2 hk2 H locs hP hD hS ls hl
      have hlt2 : k2 < 8 := by omega
      refine lv_iload_n hx hb dX2_wearRings_2 rfl (lv_at hl 0 rfl) ?_
      refine lv_bipush (v := 8) hx hb dX2_wearRings_3 (by decide) ?_
      refine lv_icmp_ge (tgt := 42) hx hb dX2_wearRings_5 (by decide) (fun h => absurd h (nI_ge hlt2 (by first | decide | omega))) (fun _ => ?_)
      refine lv_iload_n hx hb dX2_wearRings_8 rfl (lv_at hl 2 rfl) ?_
      refine lv_iload_n hx hb dX2_wearRings_9 rfl (lv_at hl 0 rfl) ?_
      refine ro_SN (As := [.int mask, .int (nI k2)]) (rest := []) ⟨hx, hb, hml, hown, hts⟩ (c_X4_bit l D cA _ mask (nI k2)) (nestB 2 hts gX2_wearRings_X4_bit_n70 rfl rfl rfl hKN.2 (by decide +kernel) (by decide +kernel) (by decide +kernel) ⟨Nat.le_of_ble_eq_true rfl, Nat.le_of_ble_eq_true rfl⟩) hKN rfl hl.1 rfl (lv_room (Nat.le_of_ble_eq_true rfl)) dX2_wearRings_10 ⟨Nat.zero_le _, Nat.zero_le _⟩ ?_
      refine lv_iconst (v := 1) hx hb dX2_wearRings_13 (by decide) ?_
      refine lv_icmp_ne (tgt := 36) hx hb dX2_wearRings_14 (by decide) (fun c_14 => ?_) (fun c_14 => ?_)
      · refine lv_iinc (v := (nI (k2 + 1))) (lv' := [(3, .int (nI (k2 + 1))), (0, .ref (a 0)), (1, .int mask), (2, .int more)]) hx hb dX2_wearRings_36 hl (k := 0) rfl (nI_1 _) (by decide) rfl (fun ls hl => ?_)
        refine lv_goto (tgt := 2) hx hb dX2_wearRings_39 (by decide) ?_
        have e_1 : (wearT u.2.2.1 mask more (k2 + 1)) = (wearT u.2.2.1 mask more k2) := by rw [wearT_succ] <;> simp only [c_14, if_true, if_false]
        exact ih2 (k2 + 1) (by omega) _ _ (by rw [e_1]; exact hP) (by rw [e_1]; exact hD) hS ls (lv_sub hl [0, 1, 2, 3] rfl)
      · refine lv_aload_n hx hb dX2_wearRings_17 rfl (lv_at hl 1 rfl) ?_
        refine va_get (D := D) (ci := 2) (v := .ref (a 3)) (C := RX2) (T := TX2) (N := 8) hx hb hts iX2_wearRings_X2 hown hK hP 0 rfl rfl 2 (by decide) (hts _ mX2_wearRings_f18) (fun _ h9 => h9) rfl dX2_wearRings_18 ?_
        refine lv_iload_n hx hb dX2_wearRings_21 rfl (lv_at hl 0 rfl) ?_
        refine lv_aload_n hx hb dX2_wearRings_22 rfl (lv_at hl 1 rfl) ?_
        refine va_get (D := D) (ci := 2) (v := .ref (a 3)) (C := RX2) (T := TX2) (N := 8) hx hb hts iX2_wearRings_X2 hown hK hP 0 rfl rfl 2 (by decide) (hts _ mX2_wearRings_f18) (fun _ h9 => h9) rfl dX2_wearRings_23 ?_
        refine lv_iload_n hx hb dX2_wearRings_26 rfl (lv_at hl 0 rfl) ?_
        refine lz_iald (k := k2) (f := (wearT u.2.2.1 mask more k2)) hx hb hK hP 3 0 rfl rfl ⟨by omega, by decide⟩ dX2_wearRings_27 ?_
        refine lv_iload_n hx hb dX2_wearRings_28 rfl (lv_at hl 3 rfl) ?_
        refine lv_iadd hx hb dX2_wearRings_29 ?_
        refine lv_bipush (v := 99) hx hb dX2_wearRings_30 (by decide) ?_
        refine va_mmin hx hb (hml.trans hl.1.symm) hown (hts _ mX2_wearRings_p74) (hts _ mX2_wearRings_st_min) (hts _ mX2_wearRings_iniMath) (hts _ mX2_wearRings_co_min) (Nat.le_of_ble_eq_true rfl) (Nat.le_of_ble_eq_true rfl) (Nat.zero_le _) (Nat.zero_le _) dX2_wearRings_32 ?_
        refine lz_top (v := (minF (((wearT u.2.2.1 mask more k2) k2) + more) 99)) rfl ?_
        refine lz_iast (k := k2) (f := (wearT u.2.2.1 mask more k2)) hx hb hK hP hD hS 3 0 rfl rfl ⟨by omega, by decide⟩ dX2_wearRings_35 (fun H locs hP hD hS => ?_)
        have hP : va_P D vwCl (wSt cA a (u.1, u.2.1, (upd (wearT u.2.2.1 mask more k2) k2 (minF (((wearT u.2.2.1 mask more k2) k2) + more) 99)), u.2.2.2.1, u.2.2.2.2.1, u.2.2.2.2.2.1, u.2.2.2.2.2.2.1, u.2.2.2.2.2.2.2.1, u.2.2.2.2.2.2.2.2.1, u.2.2.2.2.2.2.2.2.2.1, u.2.2.2.2.2.2.2.2.2.2.1, u.2.2.2.2.2.2.2.2.2.2.2.1, u.2.2.2.2.2.2.2.2.2.2.2.2.1, u.2.2.2.2.2.2.2.2.2.2.2.2.2)) H := hP
        have hD : va_D A (wSt cA a (u.1, u.2.1, (upd (wearT u.2.2.1 mask more k2) k2 (minF (((wearT u.2.2.1 mask more k2) k2) + more) 99)), u.2.2.2.1, u.2.2.2.2.1, u.2.2.2.2.2.1, u.2.2.2.2.2.2.1, u.2.2.2.2.2.2.2.1, u.2.2.2.2.2.2.2.2.1, u.2.2.2.2.2.2.2.2.2.1, u.2.2.2.2.2.2.2.2.2.2.1, u.2.2.2.2.2.2.2.2.2.2.2.1, u.2.2.2.2.2.2.2.2.2.2.2.2.1, u.2.2.2.2.2.2.2.2.2.2.2.2.2)) := hD
        refine lv_iinc (v := (nI (k2 + 1))) (lv' := [(3, .int (nI (k2 + 1))), (0, .ref (a 0)), (1, .int mask), (2, .int more)]) hx hb dX2_wearRings_36 hl (k := 0) rfl (nI_1 _) (by decide) rfl (fun ls hl => ?_)
        refine lv_goto (tgt := 2) hx hb dX2_wearRings_39 (by decide) ?_
        have e_2 : (wearT u.2.2.1 mask more (k2 + 1)) = (upd (wearT u.2.2.1 mask more k2) k2 (minF (((wearT u.2.2.1 mask more k2) k2) + more) 99)) := by rw [wearT_succ] <;> simp only [c_14, if_true, if_false]
        exact ih2 (k2 + 1) (by omega) _ _ (by rw [e_2]; exact hP) (by rw [e_2]; exact hD) hS ls (lv_sub hl [0, 1, 2, 3] rfl)
  exact loop2 8 0 (by omega) _ _ hP hD hS ls (lv_sub hl [0, 1, 2, 3] rfl)
theorem mX2_layThrough_f9 : Cond.fieldLink RX2 9 "WireLoom$State" "rings" "[I" ∈ wsX2_layThrough := by decide +kernel
theorem mX2_layThrough_f45 : Cond.fieldLink RX2 45 "WireLoom$State" "crossingsChanged" "I" ∈ wsX2_layThrough := by decide +kernel
set_option maxRecDepth 20000 in
theorem iX2_layThrough_X2 : ∀ w ∈ wsX20, w ∈ wsX2_layThrough := by decide +kernel
set_option maxHeartbeats 4000000 in
set_option maxRecDepth 100000 in
theorem c_X2_layThrough (l : Launch) (D : va_G) (cA : Nat → ClassId) (H : Heap) (a : Nat → Nat) (u : SV) (t : Nat) (ht : t < 16) (mask : Int32) (hP0 : va_P D vwCl (wSt cA a u) H) (hD0 : va_D (fun _ => True) (wSt cA a u)) : MU l yX2_layThrough wsX2_layThrough ({ frames := 2, cells := 0, slots := 0, locals := 44 } : Room) D cA [.ref (a 0), .int (nI t), .int mask] H (wSt cA a u) (wSt cA a (layS u t mask)) (some (.int (bcF (u.1 t ^^^ mask)))) := by
  refine Met.ofW (cc := cX2_layThrough) (maxL := 5) (ret := (some .int)) (by decide) rfl ?_
  intro p e s m args below meth c s₁ B hml hv
  obtain ⟨rfl, hH, hKN⟩ := hv
  have hK := hKN.1
  have hx := B.exec
  have hb := B.bytes
  have hr := B.returns
  have hts := atoms_spec (ws := wsX2_layThrough) B.pre
  have hown : s.vm.findClass RX2 = some m.cls := findClass_of_methodNamed B.named
  have hlocks := B.notSynchronized
  subst hH
  have hD := hD0.self (sz := s.heap.size)
  generalize hAe : va_A (wSt cA a u) s.heap.size = A at hD ⊢
  have hA : ∀ q : Nat, s.heap.size ≤ q → A q := fun q h => by rw [← hAe]; exact Or.inr h
  have hS : va_S A s.heap s.heap [] := va_S.rf
  have hP : va_P D vwCl (wSt cA a u) s.heap := hP0
  have hl := lv_entry ([.ref (a 0), .int (nI t), .int mask] : List Value) (n := 5) (Nat.le_of_ble_eq_true rfl)
  rw [lg_entry_eq]
  generalize (lg_sl ([.ref (a 0), .int (nI t), .int mask] : List Value) ++ List.replicate (5 - (lg_sl ([.ref (a 0), .int (nI t), .int mask] : List Value)).length) Slot.unset).toArray = ls at hl ⊢
  have hl : lv_has ls 5 [(0, .ref (a 0)), (1, .int (nI t)), (2, .int mask)] := hl
  refine lv_aload_n hx hb dX2_layThrough_0 rfl (lv_at hl 0 rfl) ?_
  refine va_get (D := D) (ci := 2) (v := .ref (a 1)) (C := RX2) (T := TX2) (N := 8) hx hb hts iX2_layThrough_X2 hown hK hP 0 rfl rfl 0 (by decide) (hts _ mX2_layThrough_f9) (fun _ h9 => h9) rfl dX2_layThrough_1 ?_
  refine lv_iload_n hx hb dX2_layThrough_4 rfl (lv_at hl 1 rfl) ?_
  refine lz_iald (k := t) (f := u.1) hx hb hK hP 1 0 rfl rfl ⟨by omega, by decide⟩ dX2_layThrough_5 ?_
  refine lv_iload_n hx hb dX2_layThrough_6 rfl (lv_at hl 2 rfl) ?_
  refine lv_ixor hx hb dX2_layThrough_7 ?_
  refine lv_istore_n (lv' := [(3, .int ((u.1 t) ^^^ mask)), (0, .ref (a 0)), (1, .int (nI t)), (2, .int mask)]) hx hb dX2_layThrough_8 rfl hl (by decide) rfl (fun ls hl => ?_)
  refine lv_aload_n hx hb dX2_layThrough_9 rfl (lv_at hl 1 rfl) ?_
  refine lv_iload_n hx hb dX2_layThrough_10 rfl (lv_at hl 0 rfl) ?_
  refine lv_iconst (v := 2) hx hb dX2_layThrough_11 (by decide) ?_
  refine mu_V (ci := 2) (q0 := 0) (As := [.int ((u.1 t) ^^^ mask), .int 2]) (rest := []) (ws' := (wSt cA a (u.1, u.2.1, (wearT u.2.2.1 ((u.1 t) ^^^ mask) 2 8), u.2.2.2.1, u.2.2.2.2.1, u.2.2.2.2.2.1, u.2.2.2.2.2.2.1, u.2.2.2.2.2.2.2.1, u.2.2.2.2.2.2.2.2.1, u.2.2.2.2.2.2.2.2.2.1, u.2.2.2.2.2.2.2.2.2.2.1, u.2.2.2.2.2.2.2.2.2.2.2.1, u.2.2.2.2.2.2.2.2.2.2.2.2.1, u.2.2.2.2.2.2.2.2.2.2.2.2.2))) ⟨hx, hb, hml, hown, hts⟩ (c_X2_wearRings l D cA _ a u ((u.1 t) ^^^ mask) 2 hP (hD.weaken (fun _ _ _ _ => trivial))) (cwV 2 hts gX2_layThrough_X2_wearRings rfl rfl rfl (by decide +kernel) ⟨Nat.le_of_ble_eq_true rfl, Nat.le_of_ble_eq_true rfl⟩) hKN hP hD hS hA rfl rfl [0, 1, 2, 3, 4, 5, 6, 7] rfl ((wSt_fst _ _ _).trans (wSt_fst _ _ _).symm) rfl rfl hl.1 rfl (lv_room (Nat.le_of_ble_eq_true rfl)) dX2_layThrough_12 ⟨Nat.zero_le _, Nat.zero_le _⟩ (fun H locs hP hD hS => ?_)
  refine lv_aload_n hx hb dX2_layThrough_15 rfl (lv_at hl 1 rfl) ?_
  refine va_get (D := D) (ci := 2) (v := .ref (a 1)) (C := RX2) (T := TX2) (N := 8) hx hb hts iX2_layThrough_X2 hown hK hP 0 rfl rfl 0 (by decide) (hts _ mX2_layThrough_f9) (fun _ h9 => h9) rfl dX2_layThrough_16 ?_
  refine lv_iload_n hx hb dX2_layThrough_19 rfl (lv_at hl 2 rfl) ?_
  refine lv_iload_n hx hb dX2_layThrough_20 rfl (lv_at hl 3 rfl) ?_
  refine lz_iast (k := t) (f := u.1) hx hb hK hP hD hS 1 0 rfl rfl ⟨by omega, by decide⟩ dX2_layThrough_21 (fun H locs hP hD hS => ?_)
  have hP : va_P D vwCl (wSt cA a ((upd u.1 t mask), u.2.1, (wearT u.2.2.1 ((u.1 t) ^^^ mask) 2 8), u.2.2.2.1, u.2.2.2.2.1, u.2.2.2.2.2.1, u.2.2.2.2.2.2.1, u.2.2.2.2.2.2.2.1, u.2.2.2.2.2.2.2.2.1, u.2.2.2.2.2.2.2.2.2.1, u.2.2.2.2.2.2.2.2.2.2.1, u.2.2.2.2.2.2.2.2.2.2.2.1, u.2.2.2.2.2.2.2.2.2.2.2.2.1, u.2.2.2.2.2.2.2.2.2.2.2.2.2)) H := hP
  have hD : va_D A (wSt cA a ((upd u.1 t mask), u.2.1, (wearT u.2.2.1 ((u.1 t) ^^^ mask) 2 8), u.2.2.2.1, u.2.2.2.2.1, u.2.2.2.2.2.1, u.2.2.2.2.2.2.1, u.2.2.2.2.2.2.2.1, u.2.2.2.2.2.2.2.2.1, u.2.2.2.2.2.2.2.2.2.1, u.2.2.2.2.2.2.2.2.2.2.1, u.2.2.2.2.2.2.2.2.2.2.2.1, u.2.2.2.2.2.2.2.2.2.2.2.2.1, u.2.2.2.2.2.2.2.2.2.2.2.2.2)) := hD
  refine lv_iload_n hx hb dX2_layThrough_22 rfl (lv_at hl 0 rfl) ?_
  refine ro_S (As := [.int ((u.1 t) ^^^ mask)]) (rest := []) ⟨hx, hb, hml, hown, hts⟩ (c_J6_bitCount_0f7a4 l D cA _ ((u.1 t) ^^^ mask)) (cwS2 1 hts gX2_layThrough_J6_bitCount_0f7a4 rfl rfl rfl (by decide +kernel) ⟨Nat.le_of_ble_eq_true rfl, Nat.le_of_ble_eq_true rfl⟩) hKN rfl hl.1 rfl (lv_room (Nat.le_of_ble_eq_true rfl)) dX2_layThrough_23 ⟨Nat.zero_le _, Nat.zero_le _⟩ ?_
  refine lv_istore (lv' := [(4, .int (bcF ((u.1 t) ^^^ mask))), (3, .int ((u.1 t) ^^^ mask)), (0, .ref (a 0)), (1, .int (nI t)), (2, .int mask)]) hx hb dX2_layThrough_26 hl (by decide) rfl (fun ls hl => ?_)
  refine lv_aload_n hx hb dX2_layThrough_28 rfl (lv_at hl 2 rfl) ?_
  refine lv_dup hx hb dX2_layThrough_29 rfl ?_
  refine va_get (D := D) (ci := 2) (v := .int u.2.2.2.2.2.1) (C := RX2) (T := TX2) (N := 8) hx hb hts iX2_layThrough_X2 hown hK hP 0 rfl rfl 6 (by decide) (hts _ mX2_layThrough_f45) (fun _ h9 => h9) rfl dX2_layThrough_30 ?_
  refine lv_iload hx hb dX2_layThrough_33 (lv_at hl 0 rfl) ?_
  refine lv_iadd hx hb dX2_layThrough_35 ?_
  refine va_put (D := D) (ci := 2) (v := .int (u.2.2.2.2.2.1 + (bcF ((u.1 t) ^^^ mask)))) (ty := .int) (C := RX2) (T := TX2) (N := 8) hx hb hts iX2_layThrough_X2 tyX2 tyX2_ok nmX2 hown hK hP hD hS 0 rfl rfl 6 (by decide) (hts _ mX2_layThrough_f45) (fun _ h9 => h9) rfl (by decide +kernel) rfl rfl (Nat.le_of_ble_eq_true rfl) dX2_layThrough_36 (fun H locs hP hD hS => ?_)
  have hP : va_P D vwCl (wSt cA a ((upd u.1 t mask), u.2.1, (wearT u.2.2.1 ((u.1 t) ^^^ mask) 2 8), u.2.2.2.1, u.2.2.2.2.1, (u.2.2.2.2.2.1 + (bcF ((u.1 t) ^^^ mask))), u.2.2.2.2.2.2.1, u.2.2.2.2.2.2.2.1, u.2.2.2.2.2.2.2.2.1, u.2.2.2.2.2.2.2.2.2.1, u.2.2.2.2.2.2.2.2.2.2.1, u.2.2.2.2.2.2.2.2.2.2.2.1, u.2.2.2.2.2.2.2.2.2.2.2.2.1, u.2.2.2.2.2.2.2.2.2.2.2.2.2)) H := hP
  have hD : va_D A (wSt cA a ((upd u.1 t mask), u.2.1, (wearT u.2.2.1 ((u.1 t) ^^^ mask) 2 8), u.2.2.2.1, u.2.2.2.2.1, (u.2.2.2.2.2.1 + (bcF ((u.1 t) ^^^ mask))), u.2.2.2.2.2.2.1, u.2.2.2.2.2.2.2.1, u.2.2.2.2.2.2.2.2.1, u.2.2.2.2.2.2.2.2.2.1, u.2.2.2.2.2.2.2.2.2.2.1, u.2.2.2.2.2.2.2.2.2.2.2.1, u.2.2.2.2.2.2.2.2.2.2.2.2.1, u.2.2.2.2.2.2.2.2.2.2.2.2.2)) := hD
  refine lv_iload hx hb dX2_layThrough_39 (lv_at hl 0 rfl) ?_
  exact mu_iret hx hb hr hlocks dX2_layThrough_41 hAe hS hP rfl
theorem mX2_renewRing_f18 : Cond.fieldLink RX2 18 "WireLoom$State" "wear" "[I" ∈ wsX2_renewRing := by decide +kernel
theorem mX2_renewRing_f9 : Cond.fieldLink RX2 9 "WireLoom$State" "rings" "[I" ∈ wsX2_renewRing := by decide +kernel
set_option maxRecDepth 20000 in
theorem iX2_renewRing_X2 : ∀ w ∈ wsX20, w ∈ wsX2_renewRing := by decide +kernel
set_option maxHeartbeats 4000000 in
set_option maxRecDepth 100000 in
theorem c_X2_renewRing (l : Launch) (D : va_G) (cA : Nat → ClassId) (H : Heap) (a : Nat → Nat) (u : SV) (r : Nat) (hr0 : r < 8) (hP0 : va_P D vwCl (wSt cA a u) H) (hD0 : va_D (fun _ => True) (wSt cA a u)) : MU l yX2_renewRing wsX2_renewRing ({ frames := 2, cells := 0, slots := 0, locals := 44 } : Room) D cA [.ref (a 0), .int (nI r)] H (wSt cA a u) (wSt cA a (renewS u r)) (some (.int (bcF (thrS u (nI r))))) := by
  refine Met.ofW (cc := cX2_renewRing) (maxL := 4) (ret := (some .int)) (by decide) rfl ?_
  intro p e s m args below meth c s₁ B hml hv
  obtain ⟨rfl, hH, hKN⟩ := hv
  have hK := hKN.1
  have hx := B.exec
  have hb := B.bytes
  have hr := B.returns
  have hts := atoms_spec (ws := wsX2_renewRing) B.pre
  have hown : s.vm.findClass RX2 = some m.cls := findClass_of_methodNamed B.named
  have hlocks := B.notSynchronized
  subst hH
  have hD := hD0.self (sz := s.heap.size)
  generalize hAe : va_A (wSt cA a u) s.heap.size = A at hD ⊢
  have hA : ∀ q : Nat, s.heap.size ≤ q → A q := fun q h => by rw [← hAe]; exact Or.inr h
  have hS : va_S A s.heap s.heap [] := va_S.rf
  have hP : va_P D vwCl (wSt cA a u) s.heap := hP0
  have hl := lv_entry ([.ref (a 0), .int (nI r)] : List Value) (n := 4) (Nat.le_of_ble_eq_true rfl)
  rw [lg_entry_eq]
  generalize (lg_sl ([.ref (a 0), .int (nI r)] : List Value) ++ List.replicate (4 - (lg_sl ([.ref (a 0), .int (nI r)] : List Value)).length) Slot.unset).toArray = ls at hl ⊢
  have hl : lv_has ls 4 [(0, .ref (a 0)), (1, .int (nI r))] := hl
  refine lv_aload_n hx hb dX2_renewRing_0 rfl (lv_at hl 0 rfl) ?_
  refine lv_iload_n hx hb dX2_renewRing_1 rfl (lv_at hl 1 rfl) ?_
  refine ro_V (ci := 2) (q0 := 0) (As := [.int (nI r)]) (rest := []) ⟨hx, hb, hml, hown, hts⟩ (c_X2_threadsThrough l D cA _ a u (nI r) hP ) (cwV 1 hts gX2_renewRing_X2_threadsThrough rfl rfl rfl (by decide +kernel) ⟨Nat.le_of_ble_eq_true rfl, Nat.le_of_ble_eq_true rfl⟩) hKN hP rfl rfl rfl hl.1 rfl (lv_room (Nat.le_of_ble_eq_true rfl)) dX2_renewRing_2 ⟨Nat.zero_le _, Nat.zero_le _⟩ ?_
  refine ro_S (As := [.int (thrS u (nI r))]) (rest := []) ⟨hx, hb, hml, hown, hts⟩ (c_J6_bitCount_0f7a4 l D cA _ (thrS u (nI r))) (cwS2 1 hts gX2_renewRing_J6_bitCount_0f7a4 rfl rfl rfl (by decide +kernel) ⟨Nat.le_of_ble_eq_true rfl, Nat.le_of_ble_eq_true rfl⟩) hKN rfl hl.1 rfl (lv_room (Nat.le_of_ble_eq_true rfl)) dX2_renewRing_5 ⟨Nat.zero_le _, Nat.zero_le _⟩ ?_
  refine lv_istore_n (lv' := [(2, .int (bcF (thrS u (nI r)))), (0, .ref (a 0)), (1, .int (nI r))]) hx hb dX2_renewRing_8 rfl hl (by decide) rfl (fun ls hl => ?_)
  refine lv_iconst (v := 0) hx hb dX2_renewRing_9 (by decide) ?_
  refine lv_istore_n (lv' := [(3, .int 0), (2, .int (bcF (thrS u (nI r)))), (0, .ref (a 0)), (1, .int (nI r))]) hx hb dX2_renewRing_10 rfl hl (by decide) rfl (fun ls hl => ?_)
  have loop11 : ∀ (n11 k11 : Nat), k11 + n11 = 16 → ∀ (H : Heap) (locs : List Loc), va_P D vwCl (wSt cA a ((renewT u.1 (nI r) k11), u.2.1, u.2.2.1, u.2.2.2.1, u.2.2.2.2.1, u.2.2.2.2.2.1, u.2.2.2.2.2.2.1, u.2.2.2.2.2.2.2.1, u.2.2.2.2.2.2.2.2.1, u.2.2.2.2.2.2.2.2.2.1, u.2.2.2.2.2.2.2.2.2.2.1, u.2.2.2.2.2.2.2.2.2.2.2.1, u.2.2.2.2.2.2.2.2.2.2.2.2.1, u.2.2.2.2.2.2.2.2.2.2.2.2.2)) H → va_D A (wSt cA a ((renewT u.1 (nI r) k11), u.2.1, u.2.2.1, u.2.2.2.1, u.2.2.2.2.1, u.2.2.2.2.2.1, u.2.2.2.2.2.2.1, u.2.2.2.2.2.2.2.1, u.2.2.2.2.2.2.2.2.1, u.2.2.2.2.2.2.2.2.2.1, u.2.2.2.2.2.2.2.2.2.2.1, u.2.2.2.2.2.2.2.2.2.2.2.1, u.2.2.2.2.2.2.2.2.2.2.2.2.1, u.2.2.2.2.2.2.2.2.2.2.2.2.2)) → va_S A s.heap H locs → ∀ (ls : Array Slot), lv_has ls 4 [(3, .int (nI k11)), (2, .int (bcF (thrS u (nI r)))), (0, .ref (a 0)), (1, .int (nI r))] → W p l e ({ frames := 2, cells := 0, slots := 0, locals := 44 } : Room) s m ([.ref (a 0), .int (nI r)] : List Value).toArray below meth c H locs 0 0 (MQ below (muQ D s.heap (wSt cA a u) (wSt cA a (renewS u r)) (some (.int (bcF (thrS u (nI r)))))) ([.ref (a 0), .int (nI r)] : List Value).toArray s 0 0 A) (F0 m 11 ls []) := by
    intro n11
    induction n11 with
    | zero =>
      intro k11 hk11 H locs hP hD hS ls hl
      obtain rfl : 16 = k11 := by omega
      refine lv_iload_n hx hb dX2_renewRing_11 rfl (lv_at hl 0 rfl) ?_
      refine lv_bipush (v := 16) hx hb dX2_renewRing_12 (by decide) ?_
      refine lv_icmp_ge (tgt := 37) hx hb dX2_renewRing_14 (by decide) (fun _ => ?_) (fun h => absurd (by decide) h)
      refine lv_aload_n hx hb dX2_renewRing_37 rfl (lv_at hl 2 rfl) ?_
      refine va_get (D := D) (ci := 2) (v := .ref (a 3)) (C := RX2) (T := TX2) (N := 8) hx hb hts iX2_renewRing_X2 hown hK hP 0 rfl rfl 2 (by decide) (hts _ mX2_renewRing_f18) (fun _ h9 => h9) rfl dX2_renewRing_38 ?_
      refine lv_iload_n hx hb dX2_renewRing_41 rfl (lv_at hl 3 rfl) ?_
      refine lv_iconst (v := 0) hx hb dX2_renewRing_42 (by decide) ?_
      refine lz_iast (k := r) (f := u.2.2.1) hx hb hK hP hD hS 3 0 rfl rfl ⟨by omega, by decide⟩ dX2_renewRing_43 (fun H locs hP hD hS => ?_)
      have hP : va_P D vwCl (wSt cA a ((renewT u.1 (nI r) 16), u.2.1, (upd u.2.2.1 r 0), u.2.2.2.1, u.2.2.2.2.1, u.2.2.2.2.2.1, u.2.2.2.2.2.2.1, u.2.2.2.2.2.2.2.1, u.2.2.2.2.2.2.2.2.1, u.2.2.2.2.2.2.2.2.2.1, u.2.2.2.2.2.2.2.2.2.2.1, u.2.2.2.2.2.2.2.2.2.2.2.1, u.2.2.2.2.2.2.2.2.2.2.2.2.1, u.2.2.2.2.2.2.2.2.2.2.2.2.2)) H := hP
      have hD : va_D A (wSt cA a ((renewT u.1 (nI r) 16), u.2.1, (upd u.2.2.1 r 0), u.2.2.2.1, u.2.2.2.2.1, u.2.2.2.2.2.1, u.2.2.2.2.2.2.1, u.2.2.2.2.2.2.2.1, u.2.2.2.2.2.2.2.2.1, u.2.2.2.2.2.2.2.2.2.1, u.2.2.2.2.2.2.2.2.2.2.1, u.2.2.2.2.2.2.2.2.2.2.2.1, u.2.2.2.2.2.2.2.2.2.2.2.2.1, u.2.2.2.2.2.2.2.2.2.2.2.2.2)) := hD
      refine lv_iload_n hx hb dX2_renewRing_44 rfl (lv_at hl 1 rfl) ?_
      exact mu_iret hx hb hr hlocks dX2_renewRing_45 hAe hS hP rfl
    | succ n11 ih11 =>
      intro k11 hk11 H locs hP hD hS ls hl
      have hlt11 : k11 < 16 := by omega
      refine lv_iload_n hx hb dX2_renewRing_11 rfl (lv_at hl 0 rfl) ?_
      refine lv_bipush (v := 16) hx hb dX2_renewRing_12 (by decide) ?_
      refine lv_icmp_ge (tgt := 37) hx hb dX2_renewRing_14 (by decide) (fun h => absurd h (nI_ge hlt11 (by first | decide | omega))) (fun _ => ?_)
      refine lv_aload_n hx hb dX2_renewRing_17 rfl (lv_at hl 2 rfl) ?_
      refine va_get (D := D) (ci := 2) (v := .ref (a 1)) (C := RX2) (T := TX2) (N := 8) hx hb hts iX2_renewRing_X2 hown hK hP 0 rfl rfl 0 (by decide) (hts _ mX2_renewRing_f9) (fun _ h9 => h9) rfl dX2_renewRing_18 ?_
      refine lv_iload_n hx hb dX2_renewRing_21 rfl (lv_at hl 0 rfl) ?_
      refine lv_dup2_11 hx hb dX2_renewRing_22 rfl rfl ?_
      refine lz_iald (k := k11) (f := (renewT u.1 (nI r) k11)) hx hb hK hP 1 0 rfl rfl ⟨by omega, by decide⟩ dX2_renewRing_23 ?_
      refine lv_iconst (v := 1) hx hb dX2_renewRing_24 (by decide) ?_
      refine lv_iload_n hx hb dX2_renewRing_25 rfl (lv_at hl 3 rfl) ?_
      refine lv_ishl hx hb dX2_renewRing_26 ?_
      refine lv_iconst (v := (-1)) hx hb dX2_renewRing_27 (by decide) ?_
      refine lv_ixor hx hb dX2_renewRing_28 ?_
      refine lv_iand hx hb dX2_renewRing_29 ?_
      refine lz_iast (k := k11) (f := (renewT u.1 (nI r) k11)) hx hb hK hP hD hS 1 0 rfl rfl ⟨by omega, by decide⟩ dX2_renewRing_30 (fun H locs hP hD hS => ?_)
      have hP : va_P D vwCl (wSt cA a ((upd (renewT u.1 (nI r) k11) k11 (((renewT u.1 (nI r) k11) k11) &&& ((1 <<< ((nI r) &&& 31)) ^^^ (-1)))), u.2.1, u.2.2.1, u.2.2.2.1, u.2.2.2.2.1, u.2.2.2.2.2.1, u.2.2.2.2.2.2.1, u.2.2.2.2.2.2.2.1, u.2.2.2.2.2.2.2.2.1, u.2.2.2.2.2.2.2.2.2.1, u.2.2.2.2.2.2.2.2.2.2.1, u.2.2.2.2.2.2.2.2.2.2.2.1, u.2.2.2.2.2.2.2.2.2.2.2.2.1, u.2.2.2.2.2.2.2.2.2.2.2.2.2)) H := hP
      have hD : va_D A (wSt cA a ((upd (renewT u.1 (nI r) k11) k11 (((renewT u.1 (nI r) k11) k11) &&& ((1 <<< ((nI r) &&& 31)) ^^^ (-1)))), u.2.1, u.2.2.1, u.2.2.2.1, u.2.2.2.2.1, u.2.2.2.2.2.1, u.2.2.2.2.2.2.1, u.2.2.2.2.2.2.2.1, u.2.2.2.2.2.2.2.2.1, u.2.2.2.2.2.2.2.2.2.1, u.2.2.2.2.2.2.2.2.2.2.1, u.2.2.2.2.2.2.2.2.2.2.2.1, u.2.2.2.2.2.2.2.2.2.2.2.2.1, u.2.2.2.2.2.2.2.2.2.2.2.2.2)) := hD
      refine lv_iinc (v := (nI (k11 + 1))) (lv' := [(3, .int (nI (k11 + 1))), (2, .int (bcF (thrS u (nI r)))), (0, .ref (a 0)), (1, .int (nI r))]) hx hb dX2_renewRing_31 hl (k := 0) rfl (nI_1 _) (by decide) rfl (fun ls hl => ?_)
      refine lv_goto (tgt := 11) hx hb dX2_renewRing_34 (by decide) ?_
      have e_1 : (renewT u.1 (nI r) (k11 + 1)) = (upd (renewT u.1 (nI r) k11) k11 (((renewT u.1 (nI r) k11) k11) &&& ((1 <<< ((nI r) &&& 31)) ^^^ (-1)))) := rfl
      exact ih11 (k11 + 1) (by omega) _ _ (by rw [e_1]; exact hP) (by rw [e_1]; exact hD) hS ls (lv_sub hl [0, 1, 2, 3] rfl)
  exact loop11 16 0 (by omega) _ _ hP hD hS ls (lv_sub hl [0, 1, 2, 3] rfl)
theorem mX2_takeReading_f9 : Cond.fieldLink RX2 9 "WireLoom$State" "rings" "[I" ∈ wsX2_takeReading := by decide +kernel
theorem mX2_takeReading_f15 : Cond.fieldLink RX2 15 "WireLoom$State" "readings" "[I" ∈ wsX2_takeReading := by decide +kernel
theorem mX2_takeReading_f48 : Cond.fieldLink RX2 48 "WireLoom$State" "readingsDone" "I" ∈ wsX2_takeReading := by decide +kernel
set_option maxRecDepth 20000 in
theorem iX2_takeReading_X2 : ∀ w ∈ wsX20, w ∈ wsX2_takeReading := by decide +kernel
set_option maxHeartbeats 4000000 in
set_option maxRecDepth 100000 in
theorem c_X2_takeReading (l : Launch) (D : va_G) (cA : Nat → ClassId) (H : Heap) (a : Nat → Nat) (u : SV) (t : Nat) (ht : t < 16) (hP0 : va_P D vwCl (wSt cA a u) H) (hD0 : va_D (fun _ => True) (wSt cA a u)) : MU l yX2_takeReading wsX2_takeReading ({ frames := 4, cells := 0, slots := 0, locals := 94 } : Room) D cA [.ref (a 0), .int (nI t)] H (wSt cA a u) (wSt cA a (readS u t)) (some (.int (tellsS u t))) := by
  refine Met.ofW (cc := cX2_takeReading) (maxL := 3) (ret := (some .int)) (by decide) rfl ?_
  intro p e s m args below meth c s₁ B hml hv
  obtain ⟨rfl, hH, hKN⟩ := hv
  have hK := hKN.1
  have hx := B.exec
  have hb := B.bytes
  have hr := B.returns
  have hts := atoms_spec (ws := wsX2_takeReading) B.pre
  have hown : s.vm.findClass RX2 = some m.cls := findClass_of_methodNamed B.named
  have hlocks := B.notSynchronized
  subst hH
  have hD := hD0.self (sz := s.heap.size)
  generalize hAe : va_A (wSt cA a u) s.heap.size = A at hD ⊢
  have hA : ∀ q : Nat, s.heap.size ≤ q → A q := fun q h => by rw [← hAe]; exact Or.inr h
  have hS : va_S A s.heap s.heap [] := va_S.rf
  have hP : va_P D vwCl (wSt cA a u) s.heap := hP0
  have hl := lv_entry ([.ref (a 0), .int (nI t)] : List Value) (n := 3) (Nat.le_of_ble_eq_true rfl)
  rw [lg_entry_eq]
  generalize (lg_sl ([.ref (a 0), .int (nI t)] : List Value) ++ List.replicate (3 - (lg_sl ([.ref (a 0), .int (nI t)] : List Value)).length) Slot.unset).toArray = ls at hl ⊢
  have hl : lv_has ls 3 [(0, .ref (a 0)), (1, .int (nI t))] := hl
  refine lv_aload_n hx hb dX2_takeReading_0 rfl (lv_at hl 0 rfl) ?_
  refine lv_iload_n hx hb dX2_takeReading_1 rfl (lv_at hl 1 rfl) ?_
  refine ro_V (ci := 2) (q0 := 0) (As := [.int (nI t)]) (rest := []) ⟨hx, hb, hml, hown, hts⟩ (c_X2_tells l D cA _ a u t (by omega) hP ) (cwV 1 hts gX2_takeReading_X2_tells rfl rfl rfl (by decide +kernel) ⟨Nat.le_of_ble_eq_true rfl, Nat.le_of_ble_eq_true rfl⟩) hKN hP rfl rfl rfl hl.1 rfl (lv_room (Nat.le_of_ble_eq_true rfl)) dX2_takeReading_2 ⟨Nat.zero_le _, Nat.zero_le _⟩ ?_
  refine lv_istore_n (lv' := [(2, .int (tellsS u t)), (0, .ref (a 0)), (1, .int (nI t))]) hx hb dX2_takeReading_5 rfl hl (by decide) rfl (fun ls hl => ?_)
  refine lv_aload_n hx hb dX2_takeReading_6 rfl (lv_at hl 1 rfl) ?_
  refine lv_aload_n hx hb dX2_takeReading_7 rfl (lv_at hl 1 rfl) ?_
  refine va_get (D := D) (ci := 2) (v := .ref (a 1)) (C := RX2) (T := TX2) (N := 8) hx hb hts iX2_takeReading_X2 hown hK hP 0 rfl rfl 0 (by decide) (hts _ mX2_takeReading_f9) (fun _ h9 => h9) rfl dX2_takeReading_8 ?_
  refine lv_iload_n hx hb dX2_takeReading_11 rfl (lv_at hl 2 rfl) ?_
  refine lz_iald (k := t) (f := u.1) hx hb hK hP 1 0 rfl rfl ⟨by omega, by decide⟩ dX2_takeReading_12 ?_
  refine lv_iconst (v := 1) hx hb dX2_takeReading_13 (by decide) ?_
  refine mu_V (ci := 2) (q0 := 0) (As := [.int (u.1 t), .int 1]) (rest := []) (ws' := (wSt cA a (u.1, u.2.1, (wearT u.2.2.1 (u.1 t) 1 8), u.2.2.2.1, u.2.2.2.2.1, u.2.2.2.2.2.1, u.2.2.2.2.2.2.1, u.2.2.2.2.2.2.2.1, u.2.2.2.2.2.2.2.2.1, u.2.2.2.2.2.2.2.2.2.1, u.2.2.2.2.2.2.2.2.2.2.1, u.2.2.2.2.2.2.2.2.2.2.2.1, u.2.2.2.2.2.2.2.2.2.2.2.2.1, u.2.2.2.2.2.2.2.2.2.2.2.2.2))) ⟨hx, hb, hml, hown, hts⟩ (c_X2_wearRings l D cA _ a u (u.1 t) 1 hP (hD.weaken (fun _ _ _ _ => trivial))) (cwV 2 hts gX2_takeReading_X2_wearRings rfl rfl rfl (by decide +kernel) ⟨Nat.le_of_ble_eq_true rfl, Nat.le_of_ble_eq_true rfl⟩) hKN hP hD hS hA rfl rfl [0, 1, 2, 3, 4, 5, 6, 7] rfl ((wSt_fst _ _ _).trans (wSt_fst _ _ _).symm) rfl rfl hl.1 rfl (lv_room (Nat.le_of_ble_eq_true rfl)) dX2_takeReading_14 ⟨Nat.zero_le _, Nat.zero_le _⟩ (fun H locs hP hD hS => ?_)
  refine lv_aload_n hx hb dX2_takeReading_17 rfl (lv_at hl 1 rfl) ?_
  refine va_get (D := D) (ci := 2) (v := .ref (a 2)) (C := RX2) (T := TX2) (N := 8) hx hb hts iX2_takeReading_X2 hown hK hP 0 rfl rfl 1 (by decide) (hts _ mX2_takeReading_f15) (fun _ h9 => h9) rfl dX2_takeReading_18 ?_
  refine lv_iload_n hx hb dX2_takeReading_21 rfl (lv_at hl 2 rfl) ?_
  refine lv_dup2_11 hx hb dX2_takeReading_22 rfl rfl ?_
  refine lz_iald (k := t) (f := u.2.1) hx hb hK hP 2 0 rfl rfl ⟨by omega, by decide⟩ dX2_takeReading_23 ?_
  refine lv_iconst (v := 1) hx hb dX2_takeReading_24 (by decide) ?_
  refine lv_iadd hx hb dX2_takeReading_25 ?_
  refine lz_iast (k := t) (f := u.2.1) hx hb hK hP hD hS 2 0 rfl rfl ⟨by omega, by decide⟩ dX2_takeReading_26 (fun H locs hP hD hS => ?_)
  have hP : va_P D vwCl (wSt cA a (u.1, (upd u.2.1 t ((u.2.1 t) + 1)), (wearT u.2.2.1 (u.1 t) 1 8), u.2.2.2.1, u.2.2.2.2.1, u.2.2.2.2.2.1, u.2.2.2.2.2.2.1, u.2.2.2.2.2.2.2.1, u.2.2.2.2.2.2.2.2.1, u.2.2.2.2.2.2.2.2.2.1, u.2.2.2.2.2.2.2.2.2.2.1, u.2.2.2.2.2.2.2.2.2.2.2.1, u.2.2.2.2.2.2.2.2.2.2.2.2.1, u.2.2.2.2.2.2.2.2.2.2.2.2.2)) H := hP
  have hD : va_D A (wSt cA a (u.1, (upd u.2.1 t ((u.2.1 t) + 1)), (wearT u.2.2.1 (u.1 t) 1 8), u.2.2.2.1, u.2.2.2.2.1, u.2.2.2.2.2.1, u.2.2.2.2.2.2.1, u.2.2.2.2.2.2.2.1, u.2.2.2.2.2.2.2.2.1, u.2.2.2.2.2.2.2.2.2.1, u.2.2.2.2.2.2.2.2.2.2.1, u.2.2.2.2.2.2.2.2.2.2.2.1, u.2.2.2.2.2.2.2.2.2.2.2.2.1, u.2.2.2.2.2.2.2.2.2.2.2.2.2)) := hD
  refine lv_aload_n hx hb dX2_takeReading_27 rfl (lv_at hl 1 rfl) ?_
  refine lv_dup hx hb dX2_takeReading_28 rfl ?_
  refine va_get (D := D) (ci := 2) (v := .int u.2.2.2.2.2.2.1) (C := RX2) (T := TX2) (N := 8) hx hb hts iX2_takeReading_X2 hown hK hP 0 rfl rfl 7 (by decide) (hts _ mX2_takeReading_f48) (fun _ h9 => h9) rfl dX2_takeReading_29 ?_
  refine lv_iconst (v := 1) hx hb dX2_takeReading_32 (by decide) ?_
  refine lv_iadd hx hb dX2_takeReading_33 ?_
  refine va_put (D := D) (ci := 2) (v := .int (u.2.2.2.2.2.2.1 + 1)) (ty := .int) (C := RX2) (T := TX2) (N := 8) hx hb hts iX2_takeReading_X2 tyX2 tyX2_ok nmX2 hown hK hP hD hS 0 rfl rfl 7 (by decide) (hts _ mX2_takeReading_f48) (fun _ h9 => h9) rfl (by decide +kernel) rfl rfl (Nat.le_of_ble_eq_true rfl) dX2_takeReading_34 (fun H locs hP hD hS => ?_)
  have hP : va_P D vwCl (wSt cA a (u.1, (upd u.2.1 t ((u.2.1 t) + 1)), (wearT u.2.2.1 (u.1 t) 1 8), u.2.2.2.1, u.2.2.2.2.1, u.2.2.2.2.2.1, (u.2.2.2.2.2.2.1 + 1), u.2.2.2.2.2.2.2.1, u.2.2.2.2.2.2.2.2.1, u.2.2.2.2.2.2.2.2.2.1, u.2.2.2.2.2.2.2.2.2.2.1, u.2.2.2.2.2.2.2.2.2.2.2.1, u.2.2.2.2.2.2.2.2.2.2.2.2.1, u.2.2.2.2.2.2.2.2.2.2.2.2.2)) H := hP
  have hD : va_D A (wSt cA a (u.1, (upd u.2.1 t ((u.2.1 t) + 1)), (wearT u.2.2.1 (u.1 t) 1 8), u.2.2.2.1, u.2.2.2.2.1, u.2.2.2.2.2.1, (u.2.2.2.2.2.2.1 + 1), u.2.2.2.2.2.2.2.1, u.2.2.2.2.2.2.2.2.1, u.2.2.2.2.2.2.2.2.2.1, u.2.2.2.2.2.2.2.2.2.2.1, u.2.2.2.2.2.2.2.2.2.2.2.1, u.2.2.2.2.2.2.2.2.2.2.2.2.1, u.2.2.2.2.2.2.2.2.2.2.2.2.2)) := hD
  refine lv_iload_n hx hb dX2_takeReading_37 rfl (lv_at hl 0 rfl) ?_
  exact mu_iret hx hb hr hlocks dX2_takeReading_38 hAe hS hP rfl
theorem mX0_begin_f11 : Cond.fieldLink RX0 11 "WireLoom$Machine" "cells" "[I" ∈ wsX0_begin := by decide +kernel
theorem mX0_begin_f15 : Cond.fieldLink RX0 15 "WireLoom$Machine" "latest" "[I" ∈ wsX0_begin := by decide +kernel
theorem mX0_begin_f21 : Cond.fieldLink RX0 21 "WireLoom$Machine" "place" "I" ∈ wsX0_begin := by decide +kernel
theorem mX0_begin_f25 : Cond.fieldLink RX0 25 "WireLoom$Machine" "count" "I" ∈ wsX0_begin := by decide +kernel
theorem mX0_begin_f28 : Cond.fieldLink RX0 28 "WireLoom$Machine" "running" "Z" ∈ wsX0_begin := by decide +kernel
theorem mX0_begin_f32 : Cond.fieldLink RX0 32 "WireLoom$Machine" "steps" "I" ∈ wsX0_begin := by decide +kernel
theorem mX0_begin_f35 : Cond.fieldLink RX0 35 "WireLoom$Machine" "tellings" "I" ∈ wsX0_begin := by decide +kernel
set_option maxRecDepth 20000 in
theorem iX0_begin_X0 : ∀ w ∈ wsX00, w ∈ wsX0_begin := by decide +kernel
set_option maxHeartbeats 4000000 in
set_option maxRecDepth 100000 in
theorem c_X0_begin (l : Launch) (D : va_G) (cA : Nat → ClassId) (H : Heap) (a : Nat → Nat) (u : MV) (hP0 : va_P D vwCl (wMc cA a u) H) (hD0 : va_D (fun _ => True) (wMc cA a u)) : MU l yX0_begin wsX0_begin ({ frames := 0, cells := 0, slots := 0, locals := 0 } : Room) D cA [.ref (a 5)] H (wMc cA a u) (wMc cA a beginM) none := by
  refine Met.ofW (cc := cX0_begin) (maxL := 2) (ret := none) (by decide) rfl ?_
  intro p e s m args below meth c s₁ B hml hv
  obtain ⟨rfl, hH, hKN⟩ := hv
  have hK := hKN.1
  have hx := B.exec
  have hb := B.bytes
  have hr := B.returns
  have hts := atoms_spec (ws := wsX0_begin) B.pre
  have hown : s.vm.findClass RX0 = some m.cls := findClass_of_methodNamed B.named
  have hlocks := B.notSynchronized
  subst hH
  have hD := hD0.self (sz := s.heap.size)
  generalize hAe : va_A (wMc cA a u) s.heap.size = A at hD ⊢
  have hA : ∀ q : Nat, s.heap.size ≤ q → A q := fun q h => by rw [← hAe]; exact Or.inr h
  have hS : va_S A s.heap s.heap [] := va_S.rf
  have hP : va_P D vwCl (wMc cA a u) s.heap := hP0
  have hl := lv_entry ([.ref (a 5)] : List Value) (n := 2) (Nat.le_of_ble_eq_true rfl)
  rw [lg_entry_eq]
  generalize (lg_sl ([.ref (a 5)] : List Value) ++ List.replicate (2 - (lg_sl ([.ref (a 5)] : List Value)).length) Slot.unset).toArray = ls at hl ⊢
  have hl : lv_has ls 2 [(0, .ref (a 5))] := hl
  refine lv_iconst (v := 0) hx hb dX0_begin_0 (by decide) ?_
  refine lv_istore_n (lv' := [(1, .int 0), (0, .ref (a 5))]) hx hb dX0_begin_1 rfl hl (by decide) rfl (fun ls hl => ?_)
  refine lv_iload_n hx hb dX0_begin_2 rfl (lv_at hl 0 rfl) ?_
  refine lv_iconst (v := 4) hx hb dX0_begin_3 (by decide) ?_
  refine lv_icmp_ge (tgt := 20) hx hb dX0_begin_4 (by decide) (fun h => absurd h (by decide)) (fun _ => ?_)
  refine lv_aload_n hx hb dX0_begin_7 rfl (lv_at hl 1 rfl) ?_
  refine va_get (D := D) (ci := 0) (v := .ref (a 6)) (C := RX0) (T := TX0) (N := 7) hx hb hts iX0_begin_X0 hown hK hP 0 rfl rfl 0 (by decide) (hts _ mX0_begin_f11) (fun _ h9 => h9) rfl dX0_begin_8 ?_
  refine lv_iload_n hx hb dX0_begin_11 rfl (lv_at hl 0 rfl) ?_
  refine lv_iconst (v := 0) hx hb dX0_begin_12 (by decide) ?_
  refine lz_iast (k := 0) (f := u.1) hx hb hK hP hD hS 1 0 rfl rfl ⟨by decide, by decide⟩ dX0_begin_13 (fun H locs hP hD hS => ?_)
  have hP : va_P D vwCl (wMc cA a ((upd u.1 0 0), u.2.1, u.2.2.1, u.2.2.2.1, u.2.2.2.2.1, u.2.2.2.2.2.1, u.2.2.2.2.2.2)) H := hP
  have hD : va_D A (wMc cA a ((upd u.1 0 0), u.2.1, u.2.2.1, u.2.2.2.1, u.2.2.2.2.1, u.2.2.2.2.2.1, u.2.2.2.2.2.2)) := hD
  refine lv_iinc (v := 1) (lv' := [(1, .int 1), (0, .ref (a 5))]) hx hb dX0_begin_14 hl (k := 0) rfl (by decide) (by decide) rfl (fun ls hl => ?_)
  refine lv_goto (tgt := 2) hx hb dX0_begin_17 (by decide) ?_
  refine lv_iload_n hx hb dX0_begin_2 rfl (lv_at hl 0 rfl) ?_
  refine lv_iconst (v := 4) hx hb dX0_begin_3 (by decide) ?_
  refine lv_icmp_ge (tgt := 20) hx hb dX0_begin_4 (by decide) (fun h => absurd h (by decide)) (fun _ => ?_)
  refine lv_aload_n hx hb dX0_begin_7 rfl (lv_at hl 1 rfl) ?_
  refine va_get (D := D) (ci := 0) (v := .ref (a 6)) (C := RX0) (T := TX0) (N := 7) hx hb hts iX0_begin_X0 hown hK hP 0 rfl rfl 0 (by decide) (hts _ mX0_begin_f11) (fun _ h9 => h9) rfl dX0_begin_8 ?_
  refine lv_iload_n hx hb dX0_begin_11 rfl (lv_at hl 0 rfl) ?_
  refine lv_iconst (v := 0) hx hb dX0_begin_12 (by decide) ?_
  refine lz_iast (k := 1) (f := (upd u.1 0 0)) hx hb hK hP hD hS 1 0 rfl rfl ⟨by decide, by decide⟩ dX0_begin_13 (fun H locs hP hD hS => ?_)
  have hP : va_P D vwCl (wMc cA a ((upd (upd u.1 0 0) 1 0), u.2.1, u.2.2.1, u.2.2.2.1, u.2.2.2.2.1, u.2.2.2.2.2.1, u.2.2.2.2.2.2)) H := hP
  have hD : va_D A (wMc cA a ((upd (upd u.1 0 0) 1 0), u.2.1, u.2.2.1, u.2.2.2.1, u.2.2.2.2.1, u.2.2.2.2.2.1, u.2.2.2.2.2.2)) := hD
  refine lv_iinc (v := 2) (lv' := [(1, .int 2), (0, .ref (a 5))]) hx hb dX0_begin_14 hl (k := 0) rfl (by decide) (by decide) rfl (fun ls hl => ?_)
  refine lv_goto (tgt := 2) hx hb dX0_begin_17 (by decide) ?_
  refine lv_iload_n hx hb dX0_begin_2 rfl (lv_at hl 0 rfl) ?_
  refine lv_iconst (v := 4) hx hb dX0_begin_3 (by decide) ?_
  refine lv_icmp_ge (tgt := 20) hx hb dX0_begin_4 (by decide) (fun h => absurd h (by decide)) (fun _ => ?_)
  refine lv_aload_n hx hb dX0_begin_7 rfl (lv_at hl 1 rfl) ?_
  refine va_get (D := D) (ci := 0) (v := .ref (a 6)) (C := RX0) (T := TX0) (N := 7) hx hb hts iX0_begin_X0 hown hK hP 0 rfl rfl 0 (by decide) (hts _ mX0_begin_f11) (fun _ h9 => h9) rfl dX0_begin_8 ?_
  refine lv_iload_n hx hb dX0_begin_11 rfl (lv_at hl 0 rfl) ?_
  refine lv_iconst (v := 0) hx hb dX0_begin_12 (by decide) ?_
  refine lz_iast (k := 2) (f := (upd (upd u.1 0 0) 1 0)) hx hb hK hP hD hS 1 0 rfl rfl ⟨by decide, by decide⟩ dX0_begin_13 (fun H locs hP hD hS => ?_)
  have hP : va_P D vwCl (wMc cA a ((upd (upd (upd u.1 0 0) 1 0) 2 0), u.2.1, u.2.2.1, u.2.2.2.1, u.2.2.2.2.1, u.2.2.2.2.2.1, u.2.2.2.2.2.2)) H := hP
  have hD : va_D A (wMc cA a ((upd (upd (upd u.1 0 0) 1 0) 2 0), u.2.1, u.2.2.1, u.2.2.2.1, u.2.2.2.2.1, u.2.2.2.2.2.1, u.2.2.2.2.2.2)) := hD
  refine lv_iinc (v := 3) (lv' := [(1, .int 3), (0, .ref (a 5))]) hx hb dX0_begin_14 hl (k := 0) rfl (by decide) (by decide) rfl (fun ls hl => ?_)
  refine lv_goto (tgt := 2) hx hb dX0_begin_17 (by decide) ?_
  refine lv_iload_n hx hb dX0_begin_2 rfl (lv_at hl 0 rfl) ?_
  refine lv_iconst (v := 4) hx hb dX0_begin_3 (by decide) ?_
  refine lv_icmp_ge (tgt := 20) hx hb dX0_begin_4 (by decide) (fun h => absurd h (by decide)) (fun _ => ?_)
  refine lv_aload_n hx hb dX0_begin_7 rfl (lv_at hl 1 rfl) ?_
  refine va_get (D := D) (ci := 0) (v := .ref (a 6)) (C := RX0) (T := TX0) (N := 7) hx hb hts iX0_begin_X0 hown hK hP 0 rfl rfl 0 (by decide) (hts _ mX0_begin_f11) (fun _ h9 => h9) rfl dX0_begin_8 ?_
  refine lv_iload_n hx hb dX0_begin_11 rfl (lv_at hl 0 rfl) ?_
  refine lv_iconst (v := 0) hx hb dX0_begin_12 (by decide) ?_
  refine lz_iast (k := 3) (f := (upd (upd (upd u.1 0 0) 1 0) 2 0)) hx hb hK hP hD hS 1 0 rfl rfl ⟨by decide, by decide⟩ dX0_begin_13 (fun H locs hP hD hS => ?_)
  have hP : va_P D vwCl (wMc cA a ((upd (upd (upd (upd u.1 0 0) 1 0) 2 0) 3 0), u.2.1, u.2.2.1, u.2.2.2.1, u.2.2.2.2.1, u.2.2.2.2.2.1, u.2.2.2.2.2.2)) H := hP
  have hD : va_D A (wMc cA a ((upd (upd (upd (upd u.1 0 0) 1 0) 2 0) 3 0), u.2.1, u.2.2.1, u.2.2.2.1, u.2.2.2.2.1, u.2.2.2.2.2.1, u.2.2.2.2.2.2)) := hD
  refine lv_iinc (v := 4) (lv' := [(1, .int 4), (0, .ref (a 5))]) hx hb dX0_begin_14 hl (k := 0) rfl (by decide) (by decide) rfl (fun ls hl => ?_)
  refine lv_goto (tgt := 2) hx hb dX0_begin_17 (by decide) ?_
  refine lv_iload_n hx hb dX0_begin_2 rfl (lv_at hl 0 rfl) ?_
  refine lv_iconst (v := 4) hx hb dX0_begin_3 (by decide) ?_
  refine lv_icmp_ge (tgt := 20) hx hb dX0_begin_4 (by decide) (fun _ => ?_) (fun h => absurd (by decide) h)
  refine lv_iconst (v := 0) hx hb dX0_begin_20 (by decide) ?_
  refine lv_istore_n (lv' := [(1, .int 0), (0, .ref (a 5))]) hx hb dX0_begin_21 rfl hl (by decide) rfl (fun ls hl => ?_)
  refine lv_iload_n hx hb dX0_begin_22 rfl (lv_at hl 0 rfl) ?_
  refine lv_bipush (v := 8) hx hb dX0_begin_23 (by decide) ?_
  refine lv_icmp_ge (tgt := 41) hx hb dX0_begin_25 (by decide) (fun h => absurd h (by decide)) (fun _ => ?_)
  refine lv_aload_n hx hb dX0_begin_28 rfl (lv_at hl 1 rfl) ?_
  refine va_get (D := D) (ci := 0) (v := .ref (a 7)) (C := RX0) (T := TX0) (N := 7) hx hb hts iX0_begin_X0 hown hK hP 0 rfl rfl 1 (by decide) (hts _ mX0_begin_f15) (fun _ h9 => h9) rfl dX0_begin_29 ?_
  refine lv_iload_n hx hb dX0_begin_32 rfl (lv_at hl 0 rfl) ?_
  refine lv_iconst (v := (-1)) hx hb dX0_begin_33 (by decide) ?_
  refine lz_iast (k := 0) (f := u.2.1) hx hb hK hP hD hS 2 0 rfl rfl ⟨by decide, by decide⟩ dX0_begin_34 (fun H locs hP hD hS => ?_)
  have hP : va_P D vwCl (wMc cA a ((upd (upd (upd (upd u.1 0 0) 1 0) 2 0) 3 0), (upd u.2.1 0 (-1)), u.2.2.1, u.2.2.2.1, u.2.2.2.2.1, u.2.2.2.2.2.1, u.2.2.2.2.2.2)) H := hP
  have hD : va_D A (wMc cA a ((upd (upd (upd (upd u.1 0 0) 1 0) 2 0) 3 0), (upd u.2.1 0 (-1)), u.2.2.1, u.2.2.2.1, u.2.2.2.2.1, u.2.2.2.2.2.1, u.2.2.2.2.2.2)) := hD
  refine lv_iinc (v := 1) (lv' := [(1, .int 1), (0, .ref (a 5))]) hx hb dX0_begin_35 hl (k := 0) rfl (by decide) (by decide) rfl (fun ls hl => ?_)
  refine lv_goto (tgt := 22) hx hb dX0_begin_38 (by decide) ?_
  refine lv_iload_n hx hb dX0_begin_22 rfl (lv_at hl 0 rfl) ?_
  refine lv_bipush (v := 8) hx hb dX0_begin_23 (by decide) ?_
  refine lv_icmp_ge (tgt := 41) hx hb dX0_begin_25 (by decide) (fun h => absurd h (by decide)) (fun _ => ?_)
  refine lv_aload_n hx hb dX0_begin_28 rfl (lv_at hl 1 rfl) ?_
  refine va_get (D := D) (ci := 0) (v := .ref (a 7)) (C := RX0) (T := TX0) (N := 7) hx hb hts iX0_begin_X0 hown hK hP 0 rfl rfl 1 (by decide) (hts _ mX0_begin_f15) (fun _ h9 => h9) rfl dX0_begin_29 ?_
  refine lv_iload_n hx hb dX0_begin_32 rfl (lv_at hl 0 rfl) ?_
  refine lv_iconst (v := (-1)) hx hb dX0_begin_33 (by decide) ?_
  refine lz_iast (k := 1) (f := (upd u.2.1 0 (-1))) hx hb hK hP hD hS 2 0 rfl rfl ⟨by decide, by decide⟩ dX0_begin_34 (fun H locs hP hD hS => ?_)
  have hP : va_P D vwCl (wMc cA a ((upd (upd (upd (upd u.1 0 0) 1 0) 2 0) 3 0), (upd (upd u.2.1 0 (-1)) 1 (-1)), u.2.2.1, u.2.2.2.1, u.2.2.2.2.1, u.2.2.2.2.2.1, u.2.2.2.2.2.2)) H := hP
  have hD : va_D A (wMc cA a ((upd (upd (upd (upd u.1 0 0) 1 0) 2 0) 3 0), (upd (upd u.2.1 0 (-1)) 1 (-1)), u.2.2.1, u.2.2.2.1, u.2.2.2.2.1, u.2.2.2.2.2.1, u.2.2.2.2.2.2)) := hD
  refine lv_iinc (v := 2) (lv' := [(1, .int 2), (0, .ref (a 5))]) hx hb dX0_begin_35 hl (k := 0) rfl (by decide) (by decide) rfl (fun ls hl => ?_)
  refine lv_goto (tgt := 22) hx hb dX0_begin_38 (by decide) ?_
  refine lv_iload_n hx hb dX0_begin_22 rfl (lv_at hl 0 rfl) ?_
  refine lv_bipush (v := 8) hx hb dX0_begin_23 (by decide) ?_
  refine lv_icmp_ge (tgt := 41) hx hb dX0_begin_25 (by decide) (fun h => absurd h (by decide)) (fun _ => ?_)
  refine lv_aload_n hx hb dX0_begin_28 rfl (lv_at hl 1 rfl) ?_
  refine va_get (D := D) (ci := 0) (v := .ref (a 7)) (C := RX0) (T := TX0) (N := 7) hx hb hts iX0_begin_X0 hown hK hP 0 rfl rfl 1 (by decide) (hts _ mX0_begin_f15) (fun _ h9 => h9) rfl dX0_begin_29 ?_
  refine lv_iload_n hx hb dX0_begin_32 rfl (lv_at hl 0 rfl) ?_
  refine lv_iconst (v := (-1)) hx hb dX0_begin_33 (by decide) ?_
  refine lz_iast (k := 2) (f := (upd (upd u.2.1 0 (-1)) 1 (-1))) hx hb hK hP hD hS 2 0 rfl rfl ⟨by decide, by decide⟩ dX0_begin_34 (fun H locs hP hD hS => ?_)
  have hP : va_P D vwCl (wMc cA a ((upd (upd (upd (upd u.1 0 0) 1 0) 2 0) 3 0), (upd (upd (upd u.2.1 0 (-1)) 1 (-1)) 2 (-1)), u.2.2.1, u.2.2.2.1, u.2.2.2.2.1, u.2.2.2.2.2.1, u.2.2.2.2.2.2)) H := hP
  have hD : va_D A (wMc cA a ((upd (upd (upd (upd u.1 0 0) 1 0) 2 0) 3 0), (upd (upd (upd u.2.1 0 (-1)) 1 (-1)) 2 (-1)), u.2.2.1, u.2.2.2.1, u.2.2.2.2.1, u.2.2.2.2.2.1, u.2.2.2.2.2.2)) := hD
  refine lv_iinc (v := 3) (lv' := [(1, .int 3), (0, .ref (a 5))]) hx hb dX0_begin_35 hl (k := 0) rfl (by decide) (by decide) rfl (fun ls hl => ?_)
  refine lv_goto (tgt := 22) hx hb dX0_begin_38 (by decide) ?_
  refine lv_iload_n hx hb dX0_begin_22 rfl (lv_at hl 0 rfl) ?_
  refine lv_bipush (v := 8) hx hb dX0_begin_23 (by decide) ?_
  refine lv_icmp_ge (tgt := 41) hx hb dX0_begin_25 (by decide) (fun h => absurd h (by decide)) (fun _ => ?_)
  refine lv_aload_n hx hb dX0_begin_28 rfl (lv_at hl 1 rfl) ?_
  refine va_get (D := D) (ci := 0) (v := .ref (a 7)) (C := RX0) (T := TX0) (N := 7) hx hb hts iX0_begin_X0 hown hK hP 0 rfl rfl 1 (by decide) (hts _ mX0_begin_f15) (fun _ h9 => h9) rfl dX0_begin_29 ?_
  refine lv_iload_n hx hb dX0_begin_32 rfl (lv_at hl 0 rfl) ?_
  refine lv_iconst (v := (-1)) hx hb dX0_begin_33 (by decide) ?_
  refine lz_iast (k := 3) (f := (upd (upd (upd u.2.1 0 (-1)) 1 (-1)) 2 (-1))) hx hb hK hP hD hS 2 0 rfl rfl ⟨by decide, by decide⟩ dX0_begin_34 (fun H locs hP hD hS => ?_)
  have hP : va_P D vwCl (wMc cA a ((upd (upd (upd (upd u.1 0 0) 1 0) 2 0) 3 0), (upd (upd (upd (upd u.2.1 0 (-1)) 1 (-1)) 2 (-1)) 3 (-1)), u.2.2.1, u.2.2.2.1, u.2.2.2.2.1, u.2.2.2.2.2.1, u.2.2.2.2.2.2)) H := hP
  have hD : va_D A (wMc cA a ((upd (upd (upd (upd u.1 0 0) 1 0) 2 0) 3 0), (upd (upd (upd (upd u.2.1 0 (-1)) 1 (-1)) 2 (-1)) 3 (-1)), u.2.2.1, u.2.2.2.1, u.2.2.2.2.1, u.2.2.2.2.2.1, u.2.2.2.2.2.2)) := hD
  refine lv_iinc (v := 4) (lv' := [(1, .int 4), (0, .ref (a 5))]) hx hb dX0_begin_35 hl (k := 0) rfl (by decide) (by decide) rfl (fun ls hl => ?_)
  refine lv_goto (tgt := 22) hx hb dX0_begin_38 (by decide) ?_
  refine lv_iload_n hx hb dX0_begin_22 rfl (lv_at hl 0 rfl) ?_
  refine lv_bipush (v := 8) hx hb dX0_begin_23 (by decide) ?_
  refine lv_icmp_ge (tgt := 41) hx hb dX0_begin_25 (by decide) (fun h => absurd h (by decide)) (fun _ => ?_)
  refine lv_aload_n hx hb dX0_begin_28 rfl (lv_at hl 1 rfl) ?_
  refine va_get (D := D) (ci := 0) (v := .ref (a 7)) (C := RX0) (T := TX0) (N := 7) hx hb hts iX0_begin_X0 hown hK hP 0 rfl rfl 1 (by decide) (hts _ mX0_begin_f15) (fun _ h9 => h9) rfl dX0_begin_29 ?_
  refine lv_iload_n hx hb dX0_begin_32 rfl (lv_at hl 0 rfl) ?_
  refine lv_iconst (v := (-1)) hx hb dX0_begin_33 (by decide) ?_
  refine lz_iast (k := 4) (f := (upd (upd (upd (upd u.2.1 0 (-1)) 1 (-1)) 2 (-1)) 3 (-1))) hx hb hK hP hD hS 2 0 rfl rfl ⟨by decide, by decide⟩ dX0_begin_34 (fun H locs hP hD hS => ?_)
  have hP : va_P D vwCl (wMc cA a ((upd (upd (upd (upd u.1 0 0) 1 0) 2 0) 3 0), (upd (upd (upd (upd (upd u.2.1 0 (-1)) 1 (-1)) 2 (-1)) 3 (-1)) 4 (-1)), u.2.2.1, u.2.2.2.1, u.2.2.2.2.1, u.2.2.2.2.2.1, u.2.2.2.2.2.2)) H := hP
  have hD : va_D A (wMc cA a ((upd (upd (upd (upd u.1 0 0) 1 0) 2 0) 3 0), (upd (upd (upd (upd (upd u.2.1 0 (-1)) 1 (-1)) 2 (-1)) 3 (-1)) 4 (-1)), u.2.2.1, u.2.2.2.1, u.2.2.2.2.1, u.2.2.2.2.2.1, u.2.2.2.2.2.2)) := hD
  refine lv_iinc (v := 5) (lv' := [(1, .int 5), (0, .ref (a 5))]) hx hb dX0_begin_35 hl (k := 0) rfl (by decide) (by decide) rfl (fun ls hl => ?_)
  refine lv_goto (tgt := 22) hx hb dX0_begin_38 (by decide) ?_
  refine lv_iload_n hx hb dX0_begin_22 rfl (lv_at hl 0 rfl) ?_
  refine lv_bipush (v := 8) hx hb dX0_begin_23 (by decide) ?_
  refine lv_icmp_ge (tgt := 41) hx hb dX0_begin_25 (by decide) (fun h => absurd h (by decide)) (fun _ => ?_)
  refine lv_aload_n hx hb dX0_begin_28 rfl (lv_at hl 1 rfl) ?_
  refine va_get (D := D) (ci := 0) (v := .ref (a 7)) (C := RX0) (T := TX0) (N := 7) hx hb hts iX0_begin_X0 hown hK hP 0 rfl rfl 1 (by decide) (hts _ mX0_begin_f15) (fun _ h9 => h9) rfl dX0_begin_29 ?_
  refine lv_iload_n hx hb dX0_begin_32 rfl (lv_at hl 0 rfl) ?_
  refine lv_iconst (v := (-1)) hx hb dX0_begin_33 (by decide) ?_
  refine lz_iast (k := 5) (f := (upd (upd (upd (upd (upd u.2.1 0 (-1)) 1 (-1)) 2 (-1)) 3 (-1)) 4 (-1))) hx hb hK hP hD hS 2 0 rfl rfl ⟨by decide, by decide⟩ dX0_begin_34 (fun H locs hP hD hS => ?_)
  have hP : va_P D vwCl (wMc cA a ((upd (upd (upd (upd u.1 0 0) 1 0) 2 0) 3 0), (upd (upd (upd (upd (upd (upd u.2.1 0 (-1)) 1 (-1)) 2 (-1)) 3 (-1)) 4 (-1)) 5 (-1)), u.2.2.1, u.2.2.2.1, u.2.2.2.2.1, u.2.2.2.2.2.1, u.2.2.2.2.2.2)) H := hP
  have hD : va_D A (wMc cA a ((upd (upd (upd (upd u.1 0 0) 1 0) 2 0) 3 0), (upd (upd (upd (upd (upd (upd u.2.1 0 (-1)) 1 (-1)) 2 (-1)) 3 (-1)) 4 (-1)) 5 (-1)), u.2.2.1, u.2.2.2.1, u.2.2.2.2.1, u.2.2.2.2.2.1, u.2.2.2.2.2.2)) := hD
  refine lv_iinc (v := 6) (lv' := [(1, .int 6), (0, .ref (a 5))]) hx hb dX0_begin_35 hl (k := 0) rfl (by decide) (by decide) rfl (fun ls hl => ?_)
  refine lv_goto (tgt := 22) hx hb dX0_begin_38 (by decide) ?_
  refine lv_iload_n hx hb dX0_begin_22 rfl (lv_at hl 0 rfl) ?_
  refine lv_bipush (v := 8) hx hb dX0_begin_23 (by decide) ?_
  refine lv_icmp_ge (tgt := 41) hx hb dX0_begin_25 (by decide) (fun h => absurd h (by decide)) (fun _ => ?_)
  refine lv_aload_n hx hb dX0_begin_28 rfl (lv_at hl 1 rfl) ?_
  refine va_get (D := D) (ci := 0) (v := .ref (a 7)) (C := RX0) (T := TX0) (N := 7) hx hb hts iX0_begin_X0 hown hK hP 0 rfl rfl 1 (by decide) (hts _ mX0_begin_f15) (fun _ h9 => h9) rfl dX0_begin_29 ?_
  refine lv_iload_n hx hb dX0_begin_32 rfl (lv_at hl 0 rfl) ?_
  refine lv_iconst (v := (-1)) hx hb dX0_begin_33 (by decide) ?_
  refine lz_iast (k := 6) (f := (upd (upd (upd (upd (upd (upd u.2.1 0 (-1)) 1 (-1)) 2 (-1)) 3 (-1)) 4 (-1)) 5 (-1))) hx hb hK hP hD hS 2 0 rfl rfl ⟨by decide, by decide⟩ dX0_begin_34 (fun H locs hP hD hS => ?_)
  have hP : va_P D vwCl (wMc cA a ((upd (upd (upd (upd u.1 0 0) 1 0) 2 0) 3 0), (upd (upd (upd (upd (upd (upd (upd u.2.1 0 (-1)) 1 (-1)) 2 (-1)) 3 (-1)) 4 (-1)) 5 (-1)) 6 (-1)), u.2.2.1, u.2.2.2.1, u.2.2.2.2.1, u.2.2.2.2.2.1, u.2.2.2.2.2.2)) H := hP
  have hD : va_D A (wMc cA a ((upd (upd (upd (upd u.1 0 0) 1 0) 2 0) 3 0), (upd (upd (upd (upd (upd (upd (upd u.2.1 0 (-1)) 1 (-1)) 2 (-1)) 3 (-1)) 4 (-1)) 5 (-1)) 6 (-1)), u.2.2.1, u.2.2.2.1, u.2.2.2.2.1, u.2.2.2.2.2.1, u.2.2.2.2.2.2)) := hD
  refine lv_iinc (v := 7) (lv' := [(1, .int 7), (0, .ref (a 5))]) hx hb dX0_begin_35 hl (k := 0) rfl (by decide) (by decide) rfl (fun ls hl => ?_)
  refine lv_goto (tgt := 22) hx hb dX0_begin_38 (by decide) ?_
  refine lv_iload_n hx hb dX0_begin_22 rfl (lv_at hl 0 rfl) ?_
  refine lv_bipush (v := 8) hx hb dX0_begin_23 (by decide) ?_
  refine lv_icmp_ge (tgt := 41) hx hb dX0_begin_25 (by decide) (fun h => absurd h (by decide)) (fun _ => ?_)
  refine lv_aload_n hx hb dX0_begin_28 rfl (lv_at hl 1 rfl) ?_
  refine va_get (D := D) (ci := 0) (v := .ref (a 7)) (C := RX0) (T := TX0) (N := 7) hx hb hts iX0_begin_X0 hown hK hP 0 rfl rfl 1 (by decide) (hts _ mX0_begin_f15) (fun _ h9 => h9) rfl dX0_begin_29 ?_
  refine lv_iload_n hx hb dX0_begin_32 rfl (lv_at hl 0 rfl) ?_
  refine lv_iconst (v := (-1)) hx hb dX0_begin_33 (by decide) ?_
  refine lz_iast (k := 7) (f := (upd (upd (upd (upd (upd (upd (upd u.2.1 0 (-1)) 1 (-1)) 2 (-1)) 3 (-1)) 4 (-1)) 5 (-1)) 6 (-1))) hx hb hK hP hD hS 2 0 rfl rfl ⟨by decide, by decide⟩ dX0_begin_34 (fun H locs hP hD hS => ?_)
  have hP : va_P D vwCl (wMc cA a ((upd (upd (upd (upd u.1 0 0) 1 0) 2 0) 3 0), (upd (upd (upd (upd (upd (upd (upd (upd u.2.1 0 (-1)) 1 (-1)) 2 (-1)) 3 (-1)) 4 (-1)) 5 (-1)) 6 (-1)) 7 (-1)), u.2.2.1, u.2.2.2.1, u.2.2.2.2.1, u.2.2.2.2.2.1, u.2.2.2.2.2.2)) H := hP
  have hD : va_D A (wMc cA a ((upd (upd (upd (upd u.1 0 0) 1 0) 2 0) 3 0), (upd (upd (upd (upd (upd (upd (upd (upd u.2.1 0 (-1)) 1 (-1)) 2 (-1)) 3 (-1)) 4 (-1)) 5 (-1)) 6 (-1)) 7 (-1)), u.2.2.1, u.2.2.2.1, u.2.2.2.2.1, u.2.2.2.2.2.1, u.2.2.2.2.2.2)) := hD
  refine lv_iinc (v := 8) (lv' := [(1, .int 8), (0, .ref (a 5))]) hx hb dX0_begin_35 hl (k := 0) rfl (by decide) (by decide) rfl (fun ls hl => ?_)
  refine lv_goto (tgt := 22) hx hb dX0_begin_38 (by decide) ?_
  refine lv_iload_n hx hb dX0_begin_22 rfl (lv_at hl 0 rfl) ?_
  refine lv_bipush (v := 8) hx hb dX0_begin_23 (by decide) ?_
  refine lv_icmp_ge (tgt := 41) hx hb dX0_begin_25 (by decide) (fun _ => ?_) (fun h => absurd (by decide) h)
  refine lv_aload_n hx hb dX0_begin_41 rfl (lv_at hl 1 rfl) ?_
  refine lv_iconst (v := 0) hx hb dX0_begin_42 (by decide) ?_
  refine va_put (D := D) (ci := 0) (v := .int 0) (ty := .int) (C := RX0) (T := TX0) (N := 7) hx hb hts iX0_begin_X0 tyX0 tyX0_ok nmX0 hown hK hP hD hS 0 rfl rfl 2 (by decide) (hts _ mX0_begin_f21) (fun _ h9 => h9) rfl (by decide +kernel) rfl rfl (Nat.le_of_ble_eq_true rfl) dX0_begin_43 (fun H locs hP hD hS => ?_)
  have hP : va_P D vwCl (wMc cA a ((upd (upd (upd (upd u.1 0 0) 1 0) 2 0) 3 0), (upd (upd (upd (upd (upd (upd (upd (upd u.2.1 0 (-1)) 1 (-1)) 2 (-1)) 3 (-1)) 4 (-1)) 5 (-1)) 6 (-1)) 7 (-1)), 0, u.2.2.2.1, u.2.2.2.2.1, u.2.2.2.2.2.1, u.2.2.2.2.2.2)) H := hP
  have hD : va_D A (wMc cA a ((upd (upd (upd (upd u.1 0 0) 1 0) 2 0) 3 0), (upd (upd (upd (upd (upd (upd (upd (upd u.2.1 0 (-1)) 1 (-1)) 2 (-1)) 3 (-1)) 4 (-1)) 5 (-1)) 6 (-1)) 7 (-1)), 0, u.2.2.2.1, u.2.2.2.2.1, u.2.2.2.2.2.1, u.2.2.2.2.2.2)) := hD
  refine lv_aload_n hx hb dX0_begin_46 rfl (lv_at hl 1 rfl) ?_
  refine lv_iconst (v := 0) hx hb dX0_begin_47 (by decide) ?_
  refine va_put (D := D) (ci := 0) (v := .int 0) (ty := .int) (C := RX0) (T := TX0) (N := 7) hx hb hts iX0_begin_X0 tyX0 tyX0_ok nmX0 hown hK hP hD hS 0 rfl rfl 3 (by decide) (hts _ mX0_begin_f25) (fun _ h9 => h9) rfl (by decide +kernel) rfl rfl (Nat.le_of_ble_eq_true rfl) dX0_begin_48 (fun H locs hP hD hS => ?_)
  have hP : va_P D vwCl (wMc cA a ((upd (upd (upd (upd u.1 0 0) 1 0) 2 0) 3 0), (upd (upd (upd (upd (upd (upd (upd (upd u.2.1 0 (-1)) 1 (-1)) 2 (-1)) 3 (-1)) 4 (-1)) 5 (-1)) 6 (-1)) 7 (-1)), 0, 0, u.2.2.2.2.1, u.2.2.2.2.2.1, u.2.2.2.2.2.2)) H := hP
  have hD : va_D A (wMc cA a ((upd (upd (upd (upd u.1 0 0) 1 0) 2 0) 3 0), (upd (upd (upd (upd (upd (upd (upd (upd u.2.1 0 (-1)) 1 (-1)) 2 (-1)) 3 (-1)) 4 (-1)) 5 (-1)) 6 (-1)) 7 (-1)), 0, 0, u.2.2.2.2.1, u.2.2.2.2.2.1, u.2.2.2.2.2.2)) := hD
  refine lv_aload_n hx hb dX0_begin_51 rfl (lv_at hl 1 rfl) ?_
  refine lv_iconst (v := 1) hx hb dX0_begin_52 (by decide) ?_
  refine va_put (D := D) (ci := 0) (v := .int 1) (ty := .boolean) (C := RX0) (T := TX0) (N := 7) hx hb hts iX0_begin_X0 tyX0 tyX0_ok nmX0 hown hK hP hD hS 0 rfl rfl 4 (by decide) (hts _ mX0_begin_f28) (fun _ h9 => h9) rfl (by decide +kernel) rfl rfl (Nat.le_of_ble_eq_true rfl) dX0_begin_53 (fun H locs hP hD hS => ?_)
  have hP : va_P D vwCl (wMc cA a ((upd (upd (upd (upd u.1 0 0) 1 0) 2 0) 3 0), (upd (upd (upd (upd (upd (upd (upd (upd u.2.1 0 (-1)) 1 (-1)) 2 (-1)) 3 (-1)) 4 (-1)) 5 (-1)) 6 (-1)) 7 (-1)), 0, 0, 1, u.2.2.2.2.2.1, u.2.2.2.2.2.2)) H := hP
  have hD : va_D A (wMc cA a ((upd (upd (upd (upd u.1 0 0) 1 0) 2 0) 3 0), (upd (upd (upd (upd (upd (upd (upd (upd u.2.1 0 (-1)) 1 (-1)) 2 (-1)) 3 (-1)) 4 (-1)) 5 (-1)) 6 (-1)) 7 (-1)), 0, 0, 1, u.2.2.2.2.2.1, u.2.2.2.2.2.2)) := hD
  refine lv_aload_n hx hb dX0_begin_56 rfl (lv_at hl 1 rfl) ?_
  refine lv_iconst (v := 0) hx hb dX0_begin_57 (by decide) ?_
  refine va_put (D := D) (ci := 0) (v := .int 0) (ty := .int) (C := RX0) (T := TX0) (N := 7) hx hb hts iX0_begin_X0 tyX0 tyX0_ok nmX0 hown hK hP hD hS 0 rfl rfl 5 (by decide) (hts _ mX0_begin_f32) (fun _ h9 => h9) rfl (by decide +kernel) rfl rfl (Nat.le_of_ble_eq_true rfl) dX0_begin_58 (fun H locs hP hD hS => ?_)
  have hP : va_P D vwCl (wMc cA a ((upd (upd (upd (upd u.1 0 0) 1 0) 2 0) 3 0), (upd (upd (upd (upd (upd (upd (upd (upd u.2.1 0 (-1)) 1 (-1)) 2 (-1)) 3 (-1)) 4 (-1)) 5 (-1)) 6 (-1)) 7 (-1)), 0, 0, 1, 0, u.2.2.2.2.2.2)) H := hP
  have hD : va_D A (wMc cA a ((upd (upd (upd (upd u.1 0 0) 1 0) 2 0) 3 0), (upd (upd (upd (upd (upd (upd (upd (upd u.2.1 0 (-1)) 1 (-1)) 2 (-1)) 3 (-1)) 4 (-1)) 5 (-1)) 6 (-1)) 7 (-1)), 0, 0, 1, 0, u.2.2.2.2.2.2)) := hD
  refine lv_aload_n hx hb dX0_begin_61 rfl (lv_at hl 1 rfl) ?_
  refine lv_iconst (v := 0) hx hb dX0_begin_62 (by decide) ?_
  refine va_put (D := D) (ci := 0) (v := .int 0) (ty := .int) (C := RX0) (T := TX0) (N := 7) hx hb hts iX0_begin_X0 tyX0 tyX0_ok nmX0 hown hK hP hD hS 0 rfl rfl 6 (by decide) (hts _ mX0_begin_f35) (fun _ h9 => h9) rfl (by decide +kernel) rfl rfl (Nat.le_of_ble_eq_true rfl) dX0_begin_63 (fun H locs hP hD hS => ?_)
  have hP : va_P D vwCl (wMc cA a ((upd (upd (upd (upd u.1 0 0) 1 0) 2 0) 3 0), (upd (upd (upd (upd (upd (upd (upd (upd u.2.1 0 (-1)) 1 (-1)) 2 (-1)) 3 (-1)) 4 (-1)) 5 (-1)) 6 (-1)) 7 (-1)), 0, 0, 1, 0, 0)) H := hP
  have hD : va_D A (wMc cA a ((upd (upd (upd (upd u.1 0 0) 1 0) 2 0) 3 0), (upd (upd (upd (upd (upd (upd (upd (upd u.2.1 0 (-1)) 1 (-1)) 2 (-1)) 3 (-1)) 4 (-1)) 5 (-1)) 6 (-1)) 7 (-1)), 0, 0, 1, 0, 0)) := hD
  exact mu_vret hx hb hr hlocks dX0_begin_66 hAe hS (wMc_ext (u := ((upd (upd (upd (upd u.1 0 0) 1 0) 2 0) 3 0), (upd (upd (upd (upd (upd (upd (upd (upd u.2.1 0 (-1)) 1 (-1)) 2 (-1)) 3 (-1)) 4 (-1)) 5 (-1)) 6 (-1)) 7 (-1)), 0, 0, 1, 0, 0)) (v := beginM) (fun j hj => by match j, hj with | 0, _ => rfl | 1, _ => rfl | 2, _ => rfl | 3, _ => rfl) (fun j hj => by match j, hj with | 0, _ => rfl | 1, _ => rfl | 2, _ => rfl | 3, _ => rfl | 4, _ => rfl | 5, _ => rfl | 6, _ => rfl | 7, _ => rfl) rfl hP)
theorem mX0_tellCount_f15 : Cond.fieldLink RX0 15 "WireLoom$Machine" "latest" "[I" ∈ wsX0_tellCount := by decide +kernel
theorem mX0_tellCount_f25 : Cond.fieldLink RX0 25 "WireLoom$Machine" "count" "I" ∈ wsX0_tellCount := by decide +kernel
theorem mX0_tellCount_f35 : Cond.fieldLink RX0 35 "WireLoom$Machine" "tellings" "I" ∈ wsX0_tellCount := by decide +kernel
set_option maxRecDepth 20000 in
theorem iX0_tellCount_X0 : ∀ w ∈ wsX00, w ∈ wsX0_tellCount := by decide +kernel
set_option maxHeartbeats 4000000 in
set_option maxRecDepth 100000 in
theorem c_X0_tellCount (l : Launch) (D : va_G) (cA : Nat → ClassId) (H : Heap) (a : Nat → Nat) (u : MV) (hP0 : va_P D vwCl (wMc cA a u) H) (hD0 : va_D (fun _ => True) (wMc cA a u)) : MU l yX0_tellCount wsX0_tellCount ({ frames := 0, cells := 0, slots := 0, locals := 0 } : Room) D cA [.ref (a 5)] H (wMc cA a u) (wMc cA a (u.1, shiftLa u.2.1 u.2.2.2.1, u.2.2.1, u.2.2.2.1, u.2.2.2.2.1, u.2.2.2.2.2.1, u.2.2.2.2.2.2 + 1)) none := by
  refine Met.ofW (cc := cX0_tellCount) (maxL := 2) (ret := none) (by decide) rfl ?_
  intro p e s m args below meth c s₁ B hml hv
  obtain ⟨rfl, hH, hKN⟩ := hv
  have hK := hKN.1
  have hx := B.exec
  have hb := B.bytes
  have hr := B.returns
  have hts := atoms_spec (ws := wsX0_tellCount) B.pre
  have hown : s.vm.findClass RX0 = some m.cls := findClass_of_methodNamed B.named
  have hlocks := B.notSynchronized
  subst hH
  have hD := hD0.self (sz := s.heap.size)
  generalize hAe : va_A (wMc cA a u) s.heap.size = A at hD ⊢
  have hA : ∀ q : Nat, s.heap.size ≤ q → A q := fun q h => by rw [← hAe]; exact Or.inr h
  have hS : va_S A s.heap s.heap [] := va_S.rf
  have hP : va_P D vwCl (wMc cA a u) s.heap := hP0
  have hl := lv_entry ([.ref (a 5)] : List Value) (n := 2) (Nat.le_of_ble_eq_true rfl)
  rw [lg_entry_eq]
  generalize (lg_sl ([.ref (a 5)] : List Value) ++ List.replicate (2 - (lg_sl ([.ref (a 5)] : List Value)).length) Slot.unset).toArray = ls at hl ⊢
  have hl : lv_has ls 2 [(0, .ref (a 5))] := hl
  refine lv_bipush (v := 7) hx hb dX0_tellCount_0 (by decide) ?_
  refine lv_istore_n (lv' := [(1, .int 7), (0, .ref (a 5))]) hx hb dX0_tellCount_2 rfl hl (by decide) rfl (fun ls hl => ?_)
  refine lv_iload_n hx hb dX0_tellCount_3 rfl (lv_at hl 0 rfl) ?_
  refine lv_if_le (tgt := 27) hx hb dX0_tellCount_4 (by decide) (fun h => absurd h (by decide)) (fun _ => ?_)
  refine lv_aload_n hx hb dX0_tellCount_7 rfl (lv_at hl 1 rfl) ?_
  refine va_get (D := D) (ci := 0) (v := .ref (a 7)) (C := RX0) (T := TX0) (N := 7) hx hb hts iX0_tellCount_X0 hown hK hP 0 rfl rfl 1 (by decide) (hts _ mX0_tellCount_f15) (fun _ h9 => h9) rfl dX0_tellCount_8 ?_
  refine lv_iload_n hx hb dX0_tellCount_11 rfl (lv_at hl 0 rfl) ?_
  refine lv_aload_n hx hb dX0_tellCount_12 rfl (lv_at hl 1 rfl) ?_
  refine va_get (D := D) (ci := 0) (v := .ref (a 7)) (C := RX0) (T := TX0) (N := 7) hx hb hts iX0_tellCount_X0 hown hK hP 0 rfl rfl 1 (by decide) (hts _ mX0_tellCount_f15) (fun _ h9 => h9) rfl dX0_tellCount_13 ?_
  refine lv_iload_n hx hb dX0_tellCount_16 rfl (lv_at hl 0 rfl) ?_
  refine lv_iconst (v := 1) hx hb dX0_tellCount_17 (by decide) ?_
  refine lz_isub (v := 6) hx hb dX0_tellCount_18 (by decide) ?_
  refine lz_iald (k := 6) (f := u.2.1) hx hb hK hP 2 0 rfl rfl ⟨by decide, by decide⟩ dX0_tellCount_19 ?_
  refine lz_iast (k := 7) (f := u.2.1) hx hb hK hP hD hS 2 0 rfl rfl ⟨by decide, by decide⟩ dX0_tellCount_20 (fun H locs hP hD hS => ?_)
  have hP : va_P D vwCl (wMc cA a (u.1, (upd u.2.1 7 (u.2.1 6)), u.2.2.1, u.2.2.2.1, u.2.2.2.2.1, u.2.2.2.2.2.1, u.2.2.2.2.2.2)) H := hP
  have hD : va_D A (wMc cA a (u.1, (upd u.2.1 7 (u.2.1 6)), u.2.2.1, u.2.2.2.1, u.2.2.2.2.1, u.2.2.2.2.2.1, u.2.2.2.2.2.2)) := hD
  refine lv_iinc (v := 6) (lv' := [(1, .int 6), (0, .ref (a 5))]) hx hb dX0_tellCount_21 hl (k := 0) rfl (by decide) (by decide) rfl (fun ls hl => ?_)
  refine lv_goto (tgt := 3) hx hb dX0_tellCount_24 (by decide) ?_
  refine lv_iload_n hx hb dX0_tellCount_3 rfl (lv_at hl 0 rfl) ?_
  refine lv_if_le (tgt := 27) hx hb dX0_tellCount_4 (by decide) (fun h => absurd h (by decide)) (fun _ => ?_)
  refine lv_aload_n hx hb dX0_tellCount_7 rfl (lv_at hl 1 rfl) ?_
  refine va_get (D := D) (ci := 0) (v := .ref (a 7)) (C := RX0) (T := TX0) (N := 7) hx hb hts iX0_tellCount_X0 hown hK hP 0 rfl rfl 1 (by decide) (hts _ mX0_tellCount_f15) (fun _ h9 => h9) rfl dX0_tellCount_8 ?_
  refine lv_iload_n hx hb dX0_tellCount_11 rfl (lv_at hl 0 rfl) ?_
  refine lv_aload_n hx hb dX0_tellCount_12 rfl (lv_at hl 1 rfl) ?_
  refine va_get (D := D) (ci := 0) (v := .ref (a 7)) (C := RX0) (T := TX0) (N := 7) hx hb hts iX0_tellCount_X0 hown hK hP 0 rfl rfl 1 (by decide) (hts _ mX0_tellCount_f15) (fun _ h9 => h9) rfl dX0_tellCount_13 ?_
  refine lv_iload_n hx hb dX0_tellCount_16 rfl (lv_at hl 0 rfl) ?_
  refine lv_iconst (v := 1) hx hb dX0_tellCount_17 (by decide) ?_
  refine lz_isub (v := 5) hx hb dX0_tellCount_18 (by decide) ?_
  refine lz_iald (k := 5) (f := (upd u.2.1 7 (u.2.1 6))) hx hb hK hP 2 0 rfl rfl ⟨by decide, by decide⟩ dX0_tellCount_19 ?_
  refine lz_iast (k := 6) (f := (upd u.2.1 7 (u.2.1 6))) hx hb hK hP hD hS 2 0 rfl rfl ⟨by decide, by decide⟩ dX0_tellCount_20 (fun H locs hP hD hS => ?_)
  have hP : va_P D vwCl (wMc cA a (u.1, (upd (upd u.2.1 7 (u.2.1 6)) 6 ((upd u.2.1 7 (u.2.1 6)) 5)), u.2.2.1, u.2.2.2.1, u.2.2.2.2.1, u.2.2.2.2.2.1, u.2.2.2.2.2.2)) H := hP
  have hD : va_D A (wMc cA a (u.1, (upd (upd u.2.1 7 (u.2.1 6)) 6 ((upd u.2.1 7 (u.2.1 6)) 5)), u.2.2.1, u.2.2.2.1, u.2.2.2.2.1, u.2.2.2.2.2.1, u.2.2.2.2.2.2)) := hD
  refine lv_iinc (v := 5) (lv' := [(1, .int 5), (0, .ref (a 5))]) hx hb dX0_tellCount_21 hl (k := 0) rfl (by decide) (by decide) rfl (fun ls hl => ?_)
  refine lv_goto (tgt := 3) hx hb dX0_tellCount_24 (by decide) ?_
  refine lv_iload_n hx hb dX0_tellCount_3 rfl (lv_at hl 0 rfl) ?_
  refine lv_if_le (tgt := 27) hx hb dX0_tellCount_4 (by decide) (fun h => absurd h (by decide)) (fun _ => ?_)
  refine lv_aload_n hx hb dX0_tellCount_7 rfl (lv_at hl 1 rfl) ?_
  refine va_get (D := D) (ci := 0) (v := .ref (a 7)) (C := RX0) (T := TX0) (N := 7) hx hb hts iX0_tellCount_X0 hown hK hP 0 rfl rfl 1 (by decide) (hts _ mX0_tellCount_f15) (fun _ h9 => h9) rfl dX0_tellCount_8 ?_
  refine lv_iload_n hx hb dX0_tellCount_11 rfl (lv_at hl 0 rfl) ?_
  refine lv_aload_n hx hb dX0_tellCount_12 rfl (lv_at hl 1 rfl) ?_
  refine va_get (D := D) (ci := 0) (v := .ref (a 7)) (C := RX0) (T := TX0) (N := 7) hx hb hts iX0_tellCount_X0 hown hK hP 0 rfl rfl 1 (by decide) (hts _ mX0_tellCount_f15) (fun _ h9 => h9) rfl dX0_tellCount_13 ?_
  refine lv_iload_n hx hb dX0_tellCount_16 rfl (lv_at hl 0 rfl) ?_
  refine lv_iconst (v := 1) hx hb dX0_tellCount_17 (by decide) ?_
  refine lz_isub (v := 4) hx hb dX0_tellCount_18 (by decide) ?_
  refine lz_iald (k := 4) (f := (upd (upd u.2.1 7 (u.2.1 6)) 6 ((upd u.2.1 7 (u.2.1 6)) 5))) hx hb hK hP 2 0 rfl rfl ⟨by decide, by decide⟩ dX0_tellCount_19 ?_
  refine lz_iast (k := 5) (f := (upd (upd u.2.1 7 (u.2.1 6)) 6 ((upd u.2.1 7 (u.2.1 6)) 5))) hx hb hK hP hD hS 2 0 rfl rfl ⟨by decide, by decide⟩ dX0_tellCount_20 (fun H locs hP hD hS => ?_)
  have hP : va_P D vwCl (wMc cA a (u.1, (upd (upd (upd u.2.1 7 (u.2.1 6)) 6 ((upd u.2.1 7 (u.2.1 6)) 5)) 5 ((upd (upd u.2.1 7 (u.2.1 6)) 6 ((upd u.2.1 7 (u.2.1 6)) 5)) 4)), u.2.2.1, u.2.2.2.1, u.2.2.2.2.1, u.2.2.2.2.2.1, u.2.2.2.2.2.2)) H := hP
  have hD : va_D A (wMc cA a (u.1, (upd (upd (upd u.2.1 7 (u.2.1 6)) 6 ((upd u.2.1 7 (u.2.1 6)) 5)) 5 ((upd (upd u.2.1 7 (u.2.1 6)) 6 ((upd u.2.1 7 (u.2.1 6)) 5)) 4)), u.2.2.1, u.2.2.2.1, u.2.2.2.2.1, u.2.2.2.2.2.1, u.2.2.2.2.2.2)) := hD
  refine lv_iinc (v := 4) (lv' := [(1, .int 4), (0, .ref (a 5))]) hx hb dX0_tellCount_21 hl (k := 0) rfl (by decide) (by decide) rfl (fun ls hl => ?_)
  refine lv_goto (tgt := 3) hx hb dX0_tellCount_24 (by decide) ?_
  refine lv_iload_n hx hb dX0_tellCount_3 rfl (lv_at hl 0 rfl) ?_
  refine lv_if_le (tgt := 27) hx hb dX0_tellCount_4 (by decide) (fun h => absurd h (by decide)) (fun _ => ?_)
  refine lv_aload_n hx hb dX0_tellCount_7 rfl (lv_at hl 1 rfl) ?_
  refine va_get (D := D) (ci := 0) (v := .ref (a 7)) (C := RX0) (T := TX0) (N := 7) hx hb hts iX0_tellCount_X0 hown hK hP 0 rfl rfl 1 (by decide) (hts _ mX0_tellCount_f15) (fun _ h9 => h9) rfl dX0_tellCount_8 ?_
  refine lv_iload_n hx hb dX0_tellCount_11 rfl (lv_at hl 0 rfl) ?_
  refine lv_aload_n hx hb dX0_tellCount_12 rfl (lv_at hl 1 rfl) ?_
  refine va_get (D := D) (ci := 0) (v := .ref (a 7)) (C := RX0) (T := TX0) (N := 7) hx hb hts iX0_tellCount_X0 hown hK hP 0 rfl rfl 1 (by decide) (hts _ mX0_tellCount_f15) (fun _ h9 => h9) rfl dX0_tellCount_13 ?_
  refine lv_iload_n hx hb dX0_tellCount_16 rfl (lv_at hl 0 rfl) ?_
  refine lv_iconst (v := 1) hx hb dX0_tellCount_17 (by decide) ?_
  refine lz_isub (v := 3) hx hb dX0_tellCount_18 (by decide) ?_
  refine lz_iald (k := 3) (f := (upd (upd (upd u.2.1 7 (u.2.1 6)) 6 ((upd u.2.1 7 (u.2.1 6)) 5)) 5 ((upd (upd u.2.1 7 (u.2.1 6)) 6 ((upd u.2.1 7 (u.2.1 6)) 5)) 4))) hx hb hK hP 2 0 rfl rfl ⟨by decide, by decide⟩ dX0_tellCount_19 ?_
  refine lz_iast (k := 4) (f := (upd (upd (upd u.2.1 7 (u.2.1 6)) 6 ((upd u.2.1 7 (u.2.1 6)) 5)) 5 ((upd (upd u.2.1 7 (u.2.1 6)) 6 ((upd u.2.1 7 (u.2.1 6)) 5)) 4))) hx hb hK hP hD hS 2 0 rfl rfl ⟨by decide, by decide⟩ dX0_tellCount_20 (fun H locs hP hD hS => ?_)
  have hP : va_P D vwCl (wMc cA a (u.1, (upd (upd (upd (upd u.2.1 7 (u.2.1 6)) 6 ((upd u.2.1 7 (u.2.1 6)) 5)) 5 ((upd (upd u.2.1 7 (u.2.1 6)) 6 ((upd u.2.1 7 (u.2.1 6)) 5)) 4)) 4 ((upd (upd (upd u.2.1 7 (u.2.1 6)) 6 ((upd u.2.1 7 (u.2.1 6)) 5)) 5 ((upd (upd u.2.1 7 (u.2.1 6)) 6 ((upd u.2.1 7 (u.2.1 6)) 5)) 4)) 3)), u.2.2.1, u.2.2.2.1, u.2.2.2.2.1, u.2.2.2.2.2.1, u.2.2.2.2.2.2)) H := hP
  have hD : va_D A (wMc cA a (u.1, (upd (upd (upd (upd u.2.1 7 (u.2.1 6)) 6 ((upd u.2.1 7 (u.2.1 6)) 5)) 5 ((upd (upd u.2.1 7 (u.2.1 6)) 6 ((upd u.2.1 7 (u.2.1 6)) 5)) 4)) 4 ((upd (upd (upd u.2.1 7 (u.2.1 6)) 6 ((upd u.2.1 7 (u.2.1 6)) 5)) 5 ((upd (upd u.2.1 7 (u.2.1 6)) 6 ((upd u.2.1 7 (u.2.1 6)) 5)) 4)) 3)), u.2.2.1, u.2.2.2.1, u.2.2.2.2.1, u.2.2.2.2.2.1, u.2.2.2.2.2.2)) := hD
  refine lv_iinc (v := 3) (lv' := [(1, .int 3), (0, .ref (a 5))]) hx hb dX0_tellCount_21 hl (k := 0) rfl (by decide) (by decide) rfl (fun ls hl => ?_)
  refine lv_goto (tgt := 3) hx hb dX0_tellCount_24 (by decide) ?_
  refine lv_iload_n hx hb dX0_tellCount_3 rfl (lv_at hl 0 rfl) ?_
  refine lv_if_le (tgt := 27) hx hb dX0_tellCount_4 (by decide) (fun h => absurd h (by decide)) (fun _ => ?_)
  refine lv_aload_n hx hb dX0_tellCount_7 rfl (lv_at hl 1 rfl) ?_
  refine va_get (D := D) (ci := 0) (v := .ref (a 7)) (C := RX0) (T := TX0) (N := 7) hx hb hts iX0_tellCount_X0 hown hK hP 0 rfl rfl 1 (by decide) (hts _ mX0_tellCount_f15) (fun _ h9 => h9) rfl dX0_tellCount_8 ?_
  refine lv_iload_n hx hb dX0_tellCount_11 rfl (lv_at hl 0 rfl) ?_
  refine lv_aload_n hx hb dX0_tellCount_12 rfl (lv_at hl 1 rfl) ?_
  refine va_get (D := D) (ci := 0) (v := .ref (a 7)) (C := RX0) (T := TX0) (N := 7) hx hb hts iX0_tellCount_X0 hown hK hP 0 rfl rfl 1 (by decide) (hts _ mX0_tellCount_f15) (fun _ h9 => h9) rfl dX0_tellCount_13 ?_
  refine lv_iload_n hx hb dX0_tellCount_16 rfl (lv_at hl 0 rfl) ?_
  refine lv_iconst (v := 1) hx hb dX0_tellCount_17 (by decide) ?_
  refine lz_isub (v := 2) hx hb dX0_tellCount_18 (by decide) ?_
  refine lz_iald (k := 2) (f := (upd (upd (upd (upd u.2.1 7 (u.2.1 6)) 6 ((upd u.2.1 7 (u.2.1 6)) 5)) 5 ((upd (upd u.2.1 7 (u.2.1 6)) 6 ((upd u.2.1 7 (u.2.1 6)) 5)) 4)) 4 ((upd (upd (upd u.2.1 7 (u.2.1 6)) 6 ((upd u.2.1 7 (u.2.1 6)) 5)) 5 ((upd (upd u.2.1 7 (u.2.1 6)) 6 ((upd u.2.1 7 (u.2.1 6)) 5)) 4)) 3))) hx hb hK hP 2 0 rfl rfl ⟨by decide, by decide⟩ dX0_tellCount_19 ?_
  refine lz_iast (k := 3) (f := (upd (upd (upd (upd u.2.1 7 (u.2.1 6)) 6 ((upd u.2.1 7 (u.2.1 6)) 5)) 5 ((upd (upd u.2.1 7 (u.2.1 6)) 6 ((upd u.2.1 7 (u.2.1 6)) 5)) 4)) 4 ((upd (upd (upd u.2.1 7 (u.2.1 6)) 6 ((upd u.2.1 7 (u.2.1 6)) 5)) 5 ((upd (upd u.2.1 7 (u.2.1 6)) 6 ((upd u.2.1 7 (u.2.1 6)) 5)) 4)) 3))) hx hb hK hP hD hS 2 0 rfl rfl ⟨by decide, by decide⟩ dX0_tellCount_20 (fun H locs hP hD hS => ?_)
  have hP : va_P D vwCl (wMc cA a (u.1, (upd (upd (upd (upd (upd u.2.1 7 (u.2.1 6)) 6 ((upd u.2.1 7 (u.2.1 6)) 5)) 5 ((upd (upd u.2.1 7 (u.2.1 6)) 6 ((upd u.2.1 7 (u.2.1 6)) 5)) 4)) 4 ((upd (upd (upd u.2.1 7 (u.2.1 6)) 6 ((upd u.2.1 7 (u.2.1 6)) 5)) 5 ((upd (upd u.2.1 7 (u.2.1 6)) 6 ((upd u.2.1 7 (u.2.1 6)) 5)) 4)) 3)) 3 ((upd (upd (upd (upd u.2.1 7 (u.2.1 6)) 6 ((upd u.2.1 7 (u.2.1 6)) 5)) 5 ((upd (upd u.2.1 7 (u.2.1 6)) 6 ((upd u.2.1 7 (u.2.1 6)) 5)) 4)) 4 ((upd (upd (upd u.2.1 7 (u.2.1 6)) 6 ((upd u.2.1 7 (u.2.1 6)) 5)) 5 ((upd (upd u.2.1 7 (u.2.1 6)) 6 ((upd u.2.1 7 (u.2.1 6)) 5)) 4)) 3)) 2)), u.2.2.1, u.2.2.2.1, u.2.2.2.2.1, u.2.2.2.2.2.1, u.2.2.2.2.2.2)) H := hP
  have hD : va_D A (wMc cA a (u.1, (upd (upd (upd (upd (upd u.2.1 7 (u.2.1 6)) 6 ((upd u.2.1 7 (u.2.1 6)) 5)) 5 ((upd (upd u.2.1 7 (u.2.1 6)) 6 ((upd u.2.1 7 (u.2.1 6)) 5)) 4)) 4 ((upd (upd (upd u.2.1 7 (u.2.1 6)) 6 ((upd u.2.1 7 (u.2.1 6)) 5)) 5 ((upd (upd u.2.1 7 (u.2.1 6)) 6 ((upd u.2.1 7 (u.2.1 6)) 5)) 4)) 3)) 3 ((upd (upd (upd (upd u.2.1 7 (u.2.1 6)) 6 ((upd u.2.1 7 (u.2.1 6)) 5)) 5 ((upd (upd u.2.1 7 (u.2.1 6)) 6 ((upd u.2.1 7 (u.2.1 6)) 5)) 4)) 4 ((upd (upd (upd u.2.1 7 (u.2.1 6)) 6 ((upd u.2.1 7 (u.2.1 6)) 5)) 5 ((upd (upd u.2.1 7 (u.2.1 6)) 6 ((upd u.2.1 7 (u.2.1 6)) 5)) 4)) 3)) 2)), u.2.2.1, u.2.2.2.1, u.2.2.2.2.1, u.2.2.2.2.2.1, u.2.2.2.2.2.2)) := hD
  refine lv_iinc (v := 2) (lv' := [(1, .int 2), (0, .ref (a 5))]) hx hb dX0_tellCount_21 hl (k := 0) rfl (by decide) (by decide) rfl (fun ls hl => ?_)
  refine lv_goto (tgt := 3) hx hb dX0_tellCount_24 (by decide) ?_
  refine lv_iload_n hx hb dX0_tellCount_3 rfl (lv_at hl 0 rfl) ?_
  refine lv_if_le (tgt := 27) hx hb dX0_tellCount_4 (by decide) (fun h => absurd h (by decide)) (fun _ => ?_)
  refine lv_aload_n hx hb dX0_tellCount_7 rfl (lv_at hl 1 rfl) ?_
  refine va_get (D := D) (ci := 0) (v := .ref (a 7)) (C := RX0) (T := TX0) (N := 7) hx hb hts iX0_tellCount_X0 hown hK hP 0 rfl rfl 1 (by decide) (hts _ mX0_tellCount_f15) (fun _ h9 => h9) rfl dX0_tellCount_8 ?_
  refine lv_iload_n hx hb dX0_tellCount_11 rfl (lv_at hl 0 rfl) ?_
  refine lv_aload_n hx hb dX0_tellCount_12 rfl (lv_at hl 1 rfl) ?_
  refine va_get (D := D) (ci := 0) (v := .ref (a 7)) (C := RX0) (T := TX0) (N := 7) hx hb hts iX0_tellCount_X0 hown hK hP 0 rfl rfl 1 (by decide) (hts _ mX0_tellCount_f15) (fun _ h9 => h9) rfl dX0_tellCount_13 ?_
  refine lv_iload_n hx hb dX0_tellCount_16 rfl (lv_at hl 0 rfl) ?_
  refine lv_iconst (v := 1) hx hb dX0_tellCount_17 (by decide) ?_
  refine lz_isub (v := 1) hx hb dX0_tellCount_18 (by decide) ?_
  refine lz_iald (k := 1) (f := (upd (upd (upd (upd (upd u.2.1 7 (u.2.1 6)) 6 ((upd u.2.1 7 (u.2.1 6)) 5)) 5 ((upd (upd u.2.1 7 (u.2.1 6)) 6 ((upd u.2.1 7 (u.2.1 6)) 5)) 4)) 4 ((upd (upd (upd u.2.1 7 (u.2.1 6)) 6 ((upd u.2.1 7 (u.2.1 6)) 5)) 5 ((upd (upd u.2.1 7 (u.2.1 6)) 6 ((upd u.2.1 7 (u.2.1 6)) 5)) 4)) 3)) 3 ((upd (upd (upd (upd u.2.1 7 (u.2.1 6)) 6 ((upd u.2.1 7 (u.2.1 6)) 5)) 5 ((upd (upd u.2.1 7 (u.2.1 6)) 6 ((upd u.2.1 7 (u.2.1 6)) 5)) 4)) 4 ((upd (upd (upd u.2.1 7 (u.2.1 6)) 6 ((upd u.2.1 7 (u.2.1 6)) 5)) 5 ((upd (upd u.2.1 7 (u.2.1 6)) 6 ((upd u.2.1 7 (u.2.1 6)) 5)) 4)) 3)) 2))) hx hb hK hP 2 0 rfl rfl ⟨by decide, by decide⟩ dX0_tellCount_19 ?_
  refine lz_iast (k := 2) (f := (upd (upd (upd (upd (upd u.2.1 7 (u.2.1 6)) 6 ((upd u.2.1 7 (u.2.1 6)) 5)) 5 ((upd (upd u.2.1 7 (u.2.1 6)) 6 ((upd u.2.1 7 (u.2.1 6)) 5)) 4)) 4 ((upd (upd (upd u.2.1 7 (u.2.1 6)) 6 ((upd u.2.1 7 (u.2.1 6)) 5)) 5 ((upd (upd u.2.1 7 (u.2.1 6)) 6 ((upd u.2.1 7 (u.2.1 6)) 5)) 4)) 3)) 3 ((upd (upd (upd (upd u.2.1 7 (u.2.1 6)) 6 ((upd u.2.1 7 (u.2.1 6)) 5)) 5 ((upd (upd u.2.1 7 (u.2.1 6)) 6 ((upd u.2.1 7 (u.2.1 6)) 5)) 4)) 4 ((upd (upd (upd u.2.1 7 (u.2.1 6)) 6 ((upd u.2.1 7 (u.2.1 6)) 5)) 5 ((upd (upd u.2.1 7 (u.2.1 6)) 6 ((upd u.2.1 7 (u.2.1 6)) 5)) 4)) 3)) 2))) hx hb hK hP hD hS 2 0 rfl rfl ⟨by decide, by decide⟩ dX0_tellCount_20 (fun H locs hP hD hS => ?_)
  have hP : va_P D vwCl (wMc cA a (u.1, (upd (upd (upd (upd (upd (upd u.2.1 7 (u.2.1 6)) 6 ((upd u.2.1 7 (u.2.1 6)) 5)) 5 ((upd (upd u.2.1 7 (u.2.1 6)) 6 ((upd u.2.1 7 (u.2.1 6)) 5)) 4)) 4 ((upd (upd (upd u.2.1 7 (u.2.1 6)) 6 ((upd u.2.1 7 (u.2.1 6)) 5)) 5 ((upd (upd u.2.1 7 (u.2.1 6)) 6 ((upd u.2.1 7 (u.2.1 6)) 5)) 4)) 3)) 3 ((upd (upd (upd (upd u.2.1 7 (u.2.1 6)) 6 ((upd u.2.1 7 (u.2.1 6)) 5)) 5 ((upd (upd u.2.1 7 (u.2.1 6)) 6 ((upd u.2.1 7 (u.2.1 6)) 5)) 4)) 4 ((upd (upd (upd u.2.1 7 (u.2.1 6)) 6 ((upd u.2.1 7 (u.2.1 6)) 5)) 5 ((upd (upd u.2.1 7 (u.2.1 6)) 6 ((upd u.2.1 7 (u.2.1 6)) 5)) 4)) 3)) 2)) 2 ((upd (upd (upd (upd (upd u.2.1 7 (u.2.1 6)) 6 ((upd u.2.1 7 (u.2.1 6)) 5)) 5 ((upd (upd u.2.1 7 (u.2.1 6)) 6 ((upd u.2.1 7 (u.2.1 6)) 5)) 4)) 4 ((upd (upd (upd u.2.1 7 (u.2.1 6)) 6 ((upd u.2.1 7 (u.2.1 6)) 5)) 5 ((upd (upd u.2.1 7 (u.2.1 6)) 6 ((upd u.2.1 7 (u.2.1 6)) 5)) 4)) 3)) 3 ((upd (upd (upd (upd u.2.1 7 (u.2.1 6)) 6 ((upd u.2.1 7 (u.2.1 6)) 5)) 5 ((upd (upd u.2.1 7 (u.2.1 6)) 6 ((upd u.2.1 7 (u.2.1 6)) 5)) 4)) 4 ((upd (upd (upd u.2.1 7 (u.2.1 6)) 6 ((upd u.2.1 7 (u.2.1 6)) 5)) 5 ((upd (upd u.2.1 7 (u.2.1 6)) 6 ((upd u.2.1 7 (u.2.1 6)) 5)) 4)) 3)) 2)) 1)), u.2.2.1, u.2.2.2.1, u.2.2.2.2.1, u.2.2.2.2.2.1, u.2.2.2.2.2.2)) H := hP
  have hD : va_D A (wMc cA a (u.1, (upd (upd (upd (upd (upd (upd u.2.1 7 (u.2.1 6)) 6 ((upd u.2.1 7 (u.2.1 6)) 5)) 5 ((upd (upd u.2.1 7 (u.2.1 6)) 6 ((upd u.2.1 7 (u.2.1 6)) 5)) 4)) 4 ((upd (upd (upd u.2.1 7 (u.2.1 6)) 6 ((upd u.2.1 7 (u.2.1 6)) 5)) 5 ((upd (upd u.2.1 7 (u.2.1 6)) 6 ((upd u.2.1 7 (u.2.1 6)) 5)) 4)) 3)) 3 ((upd (upd (upd (upd u.2.1 7 (u.2.1 6)) 6 ((upd u.2.1 7 (u.2.1 6)) 5)) 5 ((upd (upd u.2.1 7 (u.2.1 6)) 6 ((upd u.2.1 7 (u.2.1 6)) 5)) 4)) 4 ((upd (upd (upd u.2.1 7 (u.2.1 6)) 6 ((upd u.2.1 7 (u.2.1 6)) 5)) 5 ((upd (upd u.2.1 7 (u.2.1 6)) 6 ((upd u.2.1 7 (u.2.1 6)) 5)) 4)) 3)) 2)) 2 ((upd (upd (upd (upd (upd u.2.1 7 (u.2.1 6)) 6 ((upd u.2.1 7 (u.2.1 6)) 5)) 5 ((upd (upd u.2.1 7 (u.2.1 6)) 6 ((upd u.2.1 7 (u.2.1 6)) 5)) 4)) 4 ((upd (upd (upd u.2.1 7 (u.2.1 6)) 6 ((upd u.2.1 7 (u.2.1 6)) 5)) 5 ((upd (upd u.2.1 7 (u.2.1 6)) 6 ((upd u.2.1 7 (u.2.1 6)) 5)) 4)) 3)) 3 ((upd (upd (upd (upd u.2.1 7 (u.2.1 6)) 6 ((upd u.2.1 7 (u.2.1 6)) 5)) 5 ((upd (upd u.2.1 7 (u.2.1 6)) 6 ((upd u.2.1 7 (u.2.1 6)) 5)) 4)) 4 ((upd (upd (upd u.2.1 7 (u.2.1 6)) 6 ((upd u.2.1 7 (u.2.1 6)) 5)) 5 ((upd (upd u.2.1 7 (u.2.1 6)) 6 ((upd u.2.1 7 (u.2.1 6)) 5)) 4)) 3)) 2)) 1)), u.2.2.1, u.2.2.2.1, u.2.2.2.2.1, u.2.2.2.2.2.1, u.2.2.2.2.2.2)) := hD
  refine lv_iinc (v := 1) (lv' := [(1, .int 1), (0, .ref (a 5))]) hx hb dX0_tellCount_21 hl (k := 0) rfl (by decide) (by decide) rfl (fun ls hl => ?_)
  refine lv_goto (tgt := 3) hx hb dX0_tellCount_24 (by decide) ?_
  refine lv_iload_n hx hb dX0_tellCount_3 rfl (lv_at hl 0 rfl) ?_
  refine lv_if_le (tgt := 27) hx hb dX0_tellCount_4 (by decide) (fun h => absurd h (by decide)) (fun _ => ?_)
  refine lv_aload_n hx hb dX0_tellCount_7 rfl (lv_at hl 1 rfl) ?_
  refine va_get (D := D) (ci := 0) (v := .ref (a 7)) (C := RX0) (T := TX0) (N := 7) hx hb hts iX0_tellCount_X0 hown hK hP 0 rfl rfl 1 (by decide) (hts _ mX0_tellCount_f15) (fun _ h9 => h9) rfl dX0_tellCount_8 ?_
  refine lv_iload_n hx hb dX0_tellCount_11 rfl (lv_at hl 0 rfl) ?_
  refine lv_aload_n hx hb dX0_tellCount_12 rfl (lv_at hl 1 rfl) ?_
  refine va_get (D := D) (ci := 0) (v := .ref (a 7)) (C := RX0) (T := TX0) (N := 7) hx hb hts iX0_tellCount_X0 hown hK hP 0 rfl rfl 1 (by decide) (hts _ mX0_tellCount_f15) (fun _ h9 => h9) rfl dX0_tellCount_13 ?_
  refine lv_iload_n hx hb dX0_tellCount_16 rfl (lv_at hl 0 rfl) ?_
  refine lv_iconst (v := 1) hx hb dX0_tellCount_17 (by decide) ?_
  refine lz_isub (v := 0) hx hb dX0_tellCount_18 (by decide) ?_
  refine lz_iald (k := 0) (f := (upd (upd (upd (upd (upd (upd u.2.1 7 (u.2.1 6)) 6 ((upd u.2.1 7 (u.2.1 6)) 5)) 5 ((upd (upd u.2.1 7 (u.2.1 6)) 6 ((upd u.2.1 7 (u.2.1 6)) 5)) 4)) 4 ((upd (upd (upd u.2.1 7 (u.2.1 6)) 6 ((upd u.2.1 7 (u.2.1 6)) 5)) 5 ((upd (upd u.2.1 7 (u.2.1 6)) 6 ((upd u.2.1 7 (u.2.1 6)) 5)) 4)) 3)) 3 ((upd (upd (upd (upd u.2.1 7 (u.2.1 6)) 6 ((upd u.2.1 7 (u.2.1 6)) 5)) 5 ((upd (upd u.2.1 7 (u.2.1 6)) 6 ((upd u.2.1 7 (u.2.1 6)) 5)) 4)) 4 ((upd (upd (upd u.2.1 7 (u.2.1 6)) 6 ((upd u.2.1 7 (u.2.1 6)) 5)) 5 ((upd (upd u.2.1 7 (u.2.1 6)) 6 ((upd u.2.1 7 (u.2.1 6)) 5)) 4)) 3)) 2)) 2 ((upd (upd (upd (upd (upd u.2.1 7 (u.2.1 6)) 6 ((upd u.2.1 7 (u.2.1 6)) 5)) 5 ((upd (upd u.2.1 7 (u.2.1 6)) 6 ((upd u.2.1 7 (u.2.1 6)) 5)) 4)) 4 ((upd (upd (upd u.2.1 7 (u.2.1 6)) 6 ((upd u.2.1 7 (u.2.1 6)) 5)) 5 ((upd (upd u.2.1 7 (u.2.1 6)) 6 ((upd u.2.1 7 (u.2.1 6)) 5)) 4)) 3)) 3 ((upd (upd (upd (upd u.2.1 7 (u.2.1 6)) 6 ((upd u.2.1 7 (u.2.1 6)) 5)) 5 ((upd (upd u.2.1 7 (u.2.1 6)) 6 ((upd u.2.1 7 (u.2.1 6)) 5)) 4)) 4 ((upd (upd (upd u.2.1 7 (u.2.1 6)) 6 ((upd u.2.1 7 (u.2.1 6)) 5)) 5 ((upd (upd u.2.1 7 (u.2.1 6)) 6 ((upd u.2.1 7 (u.2.1 6)) 5)) 4)) 3)) 2)) 1))) hx hb hK hP 2 0 rfl rfl ⟨by decide, by decide⟩ dX0_tellCount_19 ?_
  refine lz_iast (k := 1) (f := (upd (upd (upd (upd (upd (upd u.2.1 7 (u.2.1 6)) 6 ((upd u.2.1 7 (u.2.1 6)) 5)) 5 ((upd (upd u.2.1 7 (u.2.1 6)) 6 ((upd u.2.1 7 (u.2.1 6)) 5)) 4)) 4 ((upd (upd (upd u.2.1 7 (u.2.1 6)) 6 ((upd u.2.1 7 (u.2.1 6)) 5)) 5 ((upd (upd u.2.1 7 (u.2.1 6)) 6 ((upd u.2.1 7 (u.2.1 6)) 5)) 4)) 3)) 3 ((upd (upd (upd (upd u.2.1 7 (u.2.1 6)) 6 ((upd u.2.1 7 (u.2.1 6)) 5)) 5 ((upd (upd u.2.1 7 (u.2.1 6)) 6 ((upd u.2.1 7 (u.2.1 6)) 5)) 4)) 4 ((upd (upd (upd u.2.1 7 (u.2.1 6)) 6 ((upd u.2.1 7 (u.2.1 6)) 5)) 5 ((upd (upd u.2.1 7 (u.2.1 6)) 6 ((upd u.2.1 7 (u.2.1 6)) 5)) 4)) 3)) 2)) 2 ((upd (upd (upd (upd (upd u.2.1 7 (u.2.1 6)) 6 ((upd u.2.1 7 (u.2.1 6)) 5)) 5 ((upd (upd u.2.1 7 (u.2.1 6)) 6 ((upd u.2.1 7 (u.2.1 6)) 5)) 4)) 4 ((upd (upd (upd u.2.1 7 (u.2.1 6)) 6 ((upd u.2.1 7 (u.2.1 6)) 5)) 5 ((upd (upd u.2.1 7 (u.2.1 6)) 6 ((upd u.2.1 7 (u.2.1 6)) 5)) 4)) 3)) 3 ((upd (upd (upd (upd u.2.1 7 (u.2.1 6)) 6 ((upd u.2.1 7 (u.2.1 6)) 5)) 5 ((upd (upd u.2.1 7 (u.2.1 6)) 6 ((upd u.2.1 7 (u.2.1 6)) 5)) 4)) 4 ((upd (upd (upd u.2.1 7 (u.2.1 6)) 6 ((upd u.2.1 7 (u.2.1 6)) 5)) 5 ((upd (upd u.2.1 7 (u.2.1 6)) 6 ((upd u.2.1 7 (u.2.1 6)) 5)) 4)) 3)) 2)) 1))) hx hb hK hP hD hS 2 0 rfl rfl ⟨by decide, by decide⟩ dX0_tellCount_20 (fun H locs hP hD hS => ?_)
  have hP : va_P D vwCl (wMc cA a (u.1, (upd (upd (upd (upd (upd (upd (upd u.2.1 7 (u.2.1 6)) 6 ((upd u.2.1 7 (u.2.1 6)) 5)) 5 ((upd (upd u.2.1 7 (u.2.1 6)) 6 ((upd u.2.1 7 (u.2.1 6)) 5)) 4)) 4 ((upd (upd (upd u.2.1 7 (u.2.1 6)) 6 ((upd u.2.1 7 (u.2.1 6)) 5)) 5 ((upd (upd u.2.1 7 (u.2.1 6)) 6 ((upd u.2.1 7 (u.2.1 6)) 5)) 4)) 3)) 3 ((upd (upd (upd (upd u.2.1 7 (u.2.1 6)) 6 ((upd u.2.1 7 (u.2.1 6)) 5)) 5 ((upd (upd u.2.1 7 (u.2.1 6)) 6 ((upd u.2.1 7 (u.2.1 6)) 5)) 4)) 4 ((upd (upd (upd u.2.1 7 (u.2.1 6)) 6 ((upd u.2.1 7 (u.2.1 6)) 5)) 5 ((upd (upd u.2.1 7 (u.2.1 6)) 6 ((upd u.2.1 7 (u.2.1 6)) 5)) 4)) 3)) 2)) 2 ((upd (upd (upd (upd (upd u.2.1 7 (u.2.1 6)) 6 ((upd u.2.1 7 (u.2.1 6)) 5)) 5 ((upd (upd u.2.1 7 (u.2.1 6)) 6 ((upd u.2.1 7 (u.2.1 6)) 5)) 4)) 4 ((upd (upd (upd u.2.1 7 (u.2.1 6)) 6 ((upd u.2.1 7 (u.2.1 6)) 5)) 5 ((upd (upd u.2.1 7 (u.2.1 6)) 6 ((upd u.2.1 7 (u.2.1 6)) 5)) 4)) 3)) 3 ((upd (upd (upd (upd u.2.1 7 (u.2.1 6)) 6 ((upd u.2.1 7 (u.2.1 6)) 5)) 5 ((upd (upd u.2.1 7 (u.2.1 6)) 6 ((upd u.2.1 7 (u.2.1 6)) 5)) 4)) 4 ((upd (upd (upd u.2.1 7 (u.2.1 6)) 6 ((upd u.2.1 7 (u.2.1 6)) 5)) 5 ((upd (upd u.2.1 7 (u.2.1 6)) 6 ((upd u.2.1 7 (u.2.1 6)) 5)) 4)) 3)) 2)) 1)) 1 ((upd (upd (upd (upd (upd (upd u.2.1 7 (u.2.1 6)) 6 ((upd u.2.1 7 (u.2.1 6)) 5)) 5 ((upd (upd u.2.1 7 (u.2.1 6)) 6 ((upd u.2.1 7 (u.2.1 6)) 5)) 4)) 4 ((upd (upd (upd u.2.1 7 (u.2.1 6)) 6 ((upd u.2.1 7 (u.2.1 6)) 5)) 5 ((upd (upd u.2.1 7 (u.2.1 6)) 6 ((upd u.2.1 7 (u.2.1 6)) 5)) 4)) 3)) 3 ((upd (upd (upd (upd u.2.1 7 (u.2.1 6)) 6 ((upd u.2.1 7 (u.2.1 6)) 5)) 5 ((upd (upd u.2.1 7 (u.2.1 6)) 6 ((upd u.2.1 7 (u.2.1 6)) 5)) 4)) 4 ((upd (upd (upd u.2.1 7 (u.2.1 6)) 6 ((upd u.2.1 7 (u.2.1 6)) 5)) 5 ((upd (upd u.2.1 7 (u.2.1 6)) 6 ((upd u.2.1 7 (u.2.1 6)) 5)) 4)) 3)) 2)) 2 ((upd (upd (upd (upd (upd u.2.1 7 (u.2.1 6)) 6 ((upd u.2.1 7 (u.2.1 6)) 5)) 5 ((upd (upd u.2.1 7 (u.2.1 6)) 6 ((upd u.2.1 7 (u.2.1 6)) 5)) 4)) 4 ((upd (upd (upd u.2.1 7 (u.2.1 6)) 6 ((upd u.2.1 7 (u.2.1 6)) 5)) 5 ((upd (upd u.2.1 7 (u.2.1 6)) 6 ((upd u.2.1 7 (u.2.1 6)) 5)) 4)) 3)) 3 ((upd (upd (upd (upd u.2.1 7 (u.2.1 6)) 6 ((upd u.2.1 7 (u.2.1 6)) 5)) 5 ((upd (upd u.2.1 7 (u.2.1 6)) 6 ((upd u.2.1 7 (u.2.1 6)) 5)) 4)) 4 ((upd (upd (upd u.2.1 7 (u.2.1 6)) 6 ((upd u.2.1 7 (u.2.1 6)) 5)) 5 ((upd (upd u.2.1 7 (u.2.1 6)) 6 ((upd u.2.1 7 (u.2.1 6)) 5)) 4)) 3)) 2)) 1)) 0)), u.2.2.1, u.2.2.2.1, u.2.2.2.2.1, u.2.2.2.2.2.1, u.2.2.2.2.2.2)) H := hP
  have hD : va_D A (wMc cA a (u.1, (upd (upd (upd (upd (upd (upd (upd u.2.1 7 (u.2.1 6)) 6 ((upd u.2.1 7 (u.2.1 6)) 5)) 5 ((upd (upd u.2.1 7 (u.2.1 6)) 6 ((upd u.2.1 7 (u.2.1 6)) 5)) 4)) 4 ((upd (upd (upd u.2.1 7 (u.2.1 6)) 6 ((upd u.2.1 7 (u.2.1 6)) 5)) 5 ((upd (upd u.2.1 7 (u.2.1 6)) 6 ((upd u.2.1 7 (u.2.1 6)) 5)) 4)) 3)) 3 ((upd (upd (upd (upd u.2.1 7 (u.2.1 6)) 6 ((upd u.2.1 7 (u.2.1 6)) 5)) 5 ((upd (upd u.2.1 7 (u.2.1 6)) 6 ((upd u.2.1 7 (u.2.1 6)) 5)) 4)) 4 ((upd (upd (upd u.2.1 7 (u.2.1 6)) 6 ((upd u.2.1 7 (u.2.1 6)) 5)) 5 ((upd (upd u.2.1 7 (u.2.1 6)) 6 ((upd u.2.1 7 (u.2.1 6)) 5)) 4)) 3)) 2)) 2 ((upd (upd (upd (upd (upd u.2.1 7 (u.2.1 6)) 6 ((upd u.2.1 7 (u.2.1 6)) 5)) 5 ((upd (upd u.2.1 7 (u.2.1 6)) 6 ((upd u.2.1 7 (u.2.1 6)) 5)) 4)) 4 ((upd (upd (upd u.2.1 7 (u.2.1 6)) 6 ((upd u.2.1 7 (u.2.1 6)) 5)) 5 ((upd (upd u.2.1 7 (u.2.1 6)) 6 ((upd u.2.1 7 (u.2.1 6)) 5)) 4)) 3)) 3 ((upd (upd (upd (upd u.2.1 7 (u.2.1 6)) 6 ((upd u.2.1 7 (u.2.1 6)) 5)) 5 ((upd (upd u.2.1 7 (u.2.1 6)) 6 ((upd u.2.1 7 (u.2.1 6)) 5)) 4)) 4 ((upd (upd (upd u.2.1 7 (u.2.1 6)) 6 ((upd u.2.1 7 (u.2.1 6)) 5)) 5 ((upd (upd u.2.1 7 (u.2.1 6)) 6 ((upd u.2.1 7 (u.2.1 6)) 5)) 4)) 3)) 2)) 1)) 1 ((upd (upd (upd (upd (upd (upd u.2.1 7 (u.2.1 6)) 6 ((upd u.2.1 7 (u.2.1 6)) 5)) 5 ((upd (upd u.2.1 7 (u.2.1 6)) 6 ((upd u.2.1 7 (u.2.1 6)) 5)) 4)) 4 ((upd (upd (upd u.2.1 7 (u.2.1 6)) 6 ((upd u.2.1 7 (u.2.1 6)) 5)) 5 ((upd (upd u.2.1 7 (u.2.1 6)) 6 ((upd u.2.1 7 (u.2.1 6)) 5)) 4)) 3)) 3 ((upd (upd (upd (upd u.2.1 7 (u.2.1 6)) 6 ((upd u.2.1 7 (u.2.1 6)) 5)) 5 ((upd (upd u.2.1 7 (u.2.1 6)) 6 ((upd u.2.1 7 (u.2.1 6)) 5)) 4)) 4 ((upd (upd (upd u.2.1 7 (u.2.1 6)) 6 ((upd u.2.1 7 (u.2.1 6)) 5)) 5 ((upd (upd u.2.1 7 (u.2.1 6)) 6 ((upd u.2.1 7 (u.2.1 6)) 5)) 4)) 3)) 2)) 2 ((upd (upd (upd (upd (upd u.2.1 7 (u.2.1 6)) 6 ((upd u.2.1 7 (u.2.1 6)) 5)) 5 ((upd (upd u.2.1 7 (u.2.1 6)) 6 ((upd u.2.1 7 (u.2.1 6)) 5)) 4)) 4 ((upd (upd (upd u.2.1 7 (u.2.1 6)) 6 ((upd u.2.1 7 (u.2.1 6)) 5)) 5 ((upd (upd u.2.1 7 (u.2.1 6)) 6 ((upd u.2.1 7 (u.2.1 6)) 5)) 4)) 3)) 3 ((upd (upd (upd (upd u.2.1 7 (u.2.1 6)) 6 ((upd u.2.1 7 (u.2.1 6)) 5)) 5 ((upd (upd u.2.1 7 (u.2.1 6)) 6 ((upd u.2.1 7 (u.2.1 6)) 5)) 4)) 4 ((upd (upd (upd u.2.1 7 (u.2.1 6)) 6 ((upd u.2.1 7 (u.2.1 6)) 5)) 5 ((upd (upd u.2.1 7 (u.2.1 6)) 6 ((upd u.2.1 7 (u.2.1 6)) 5)) 4)) 3)) 2)) 1)) 0)), u.2.2.1, u.2.2.2.1, u.2.2.2.2.1, u.2.2.2.2.2.1, u.2.2.2.2.2.2)) := hD
  refine lv_iinc (v := 0) (lv' := [(1, .int 0), (0, .ref (a 5))]) hx hb dX0_tellCount_21 hl (k := 0) rfl (by decide) (by decide) rfl (fun ls hl => ?_)
  refine lv_goto (tgt := 3) hx hb dX0_tellCount_24 (by decide) ?_
  refine lv_iload_n hx hb dX0_tellCount_3 rfl (lv_at hl 0 rfl) ?_
  refine lv_if_le (tgt := 27) hx hb dX0_tellCount_4 (by decide) (fun _ => ?_) (fun h => absurd (by decide) h)
  refine lv_aload_n hx hb dX0_tellCount_27 rfl (lv_at hl 1 rfl) ?_
  refine va_get (D := D) (ci := 0) (v := .ref (a 7)) (C := RX0) (T := TX0) (N := 7) hx hb hts iX0_tellCount_X0 hown hK hP 0 rfl rfl 1 (by decide) (hts _ mX0_tellCount_f15) (fun _ h9 => h9) rfl dX0_tellCount_28 ?_
  refine lv_iconst (v := 0) hx hb dX0_tellCount_31 (by decide) ?_
  refine lv_aload_n hx hb dX0_tellCount_32 rfl (lv_at hl 1 rfl) ?_
  refine va_get (D := D) (ci := 0) (v := .int u.2.2.2.1) (C := RX0) (T := TX0) (N := 7) hx hb hts iX0_tellCount_X0 hown hK hP 0 rfl rfl 3 (by decide) (hts _ mX0_tellCount_f25) (fun _ h9 => h9) rfl dX0_tellCount_33 ?_
  refine lz_iast (k := 0) (f := (upd (upd (upd (upd (upd (upd (upd u.2.1 7 (u.2.1 6)) 6 ((upd u.2.1 7 (u.2.1 6)) 5)) 5 ((upd (upd u.2.1 7 (u.2.1 6)) 6 ((upd u.2.1 7 (u.2.1 6)) 5)) 4)) 4 ((upd (upd (upd u.2.1 7 (u.2.1 6)) 6 ((upd u.2.1 7 (u.2.1 6)) 5)) 5 ((upd (upd u.2.1 7 (u.2.1 6)) 6 ((upd u.2.1 7 (u.2.1 6)) 5)) 4)) 3)) 3 ((upd (upd (upd (upd u.2.1 7 (u.2.1 6)) 6 ((upd u.2.1 7 (u.2.1 6)) 5)) 5 ((upd (upd u.2.1 7 (u.2.1 6)) 6 ((upd u.2.1 7 (u.2.1 6)) 5)) 4)) 4 ((upd (upd (upd u.2.1 7 (u.2.1 6)) 6 ((upd u.2.1 7 (u.2.1 6)) 5)) 5 ((upd (upd u.2.1 7 (u.2.1 6)) 6 ((upd u.2.1 7 (u.2.1 6)) 5)) 4)) 3)) 2)) 2 ((upd (upd (upd (upd (upd u.2.1 7 (u.2.1 6)) 6 ((upd u.2.1 7 (u.2.1 6)) 5)) 5 ((upd (upd u.2.1 7 (u.2.1 6)) 6 ((upd u.2.1 7 (u.2.1 6)) 5)) 4)) 4 ((upd (upd (upd u.2.1 7 (u.2.1 6)) 6 ((upd u.2.1 7 (u.2.1 6)) 5)) 5 ((upd (upd u.2.1 7 (u.2.1 6)) 6 ((upd u.2.1 7 (u.2.1 6)) 5)) 4)) 3)) 3 ((upd (upd (upd (upd u.2.1 7 (u.2.1 6)) 6 ((upd u.2.1 7 (u.2.1 6)) 5)) 5 ((upd (upd u.2.1 7 (u.2.1 6)) 6 ((upd u.2.1 7 (u.2.1 6)) 5)) 4)) 4 ((upd (upd (upd u.2.1 7 (u.2.1 6)) 6 ((upd u.2.1 7 (u.2.1 6)) 5)) 5 ((upd (upd u.2.1 7 (u.2.1 6)) 6 ((upd u.2.1 7 (u.2.1 6)) 5)) 4)) 3)) 2)) 1)) 1 ((upd (upd (upd (upd (upd (upd u.2.1 7 (u.2.1 6)) 6 ((upd u.2.1 7 (u.2.1 6)) 5)) 5 ((upd (upd u.2.1 7 (u.2.1 6)) 6 ((upd u.2.1 7 (u.2.1 6)) 5)) 4)) 4 ((upd (upd (upd u.2.1 7 (u.2.1 6)) 6 ((upd u.2.1 7 (u.2.1 6)) 5)) 5 ((upd (upd u.2.1 7 (u.2.1 6)) 6 ((upd u.2.1 7 (u.2.1 6)) 5)) 4)) 3)) 3 ((upd (upd (upd (upd u.2.1 7 (u.2.1 6)) 6 ((upd u.2.1 7 (u.2.1 6)) 5)) 5 ((upd (upd u.2.1 7 (u.2.1 6)) 6 ((upd u.2.1 7 (u.2.1 6)) 5)) 4)) 4 ((upd (upd (upd u.2.1 7 (u.2.1 6)) 6 ((upd u.2.1 7 (u.2.1 6)) 5)) 5 ((upd (upd u.2.1 7 (u.2.1 6)) 6 ((upd u.2.1 7 (u.2.1 6)) 5)) 4)) 3)) 2)) 2 ((upd (upd (upd (upd (upd u.2.1 7 (u.2.1 6)) 6 ((upd u.2.1 7 (u.2.1 6)) 5)) 5 ((upd (upd u.2.1 7 (u.2.1 6)) 6 ((upd u.2.1 7 (u.2.1 6)) 5)) 4)) 4 ((upd (upd (upd u.2.1 7 (u.2.1 6)) 6 ((upd u.2.1 7 (u.2.1 6)) 5)) 5 ((upd (upd u.2.1 7 (u.2.1 6)) 6 ((upd u.2.1 7 (u.2.1 6)) 5)) 4)) 3)) 3 ((upd (upd (upd (upd u.2.1 7 (u.2.1 6)) 6 ((upd u.2.1 7 (u.2.1 6)) 5)) 5 ((upd (upd u.2.1 7 (u.2.1 6)) 6 ((upd u.2.1 7 (u.2.1 6)) 5)) 4)) 4 ((upd (upd (upd u.2.1 7 (u.2.1 6)) 6 ((upd u.2.1 7 (u.2.1 6)) 5)) 5 ((upd (upd u.2.1 7 (u.2.1 6)) 6 ((upd u.2.1 7 (u.2.1 6)) 5)) 4)) 3)) 2)) 1)) 0))) hx hb hK hP hD hS 2 0 rfl rfl ⟨by decide, by decide⟩ dX0_tellCount_36 (fun H locs hP hD hS => ?_)
  have hP : va_P D vwCl (wMc cA a (u.1, (upd (upd (upd (upd (upd (upd (upd (upd u.2.1 7 (u.2.1 6)) 6 ((upd u.2.1 7 (u.2.1 6)) 5)) 5 ((upd (upd u.2.1 7 (u.2.1 6)) 6 ((upd u.2.1 7 (u.2.1 6)) 5)) 4)) 4 ((upd (upd (upd u.2.1 7 (u.2.1 6)) 6 ((upd u.2.1 7 (u.2.1 6)) 5)) 5 ((upd (upd u.2.1 7 (u.2.1 6)) 6 ((upd u.2.1 7 (u.2.1 6)) 5)) 4)) 3)) 3 ((upd (upd (upd (upd u.2.1 7 (u.2.1 6)) 6 ((upd u.2.1 7 (u.2.1 6)) 5)) 5 ((upd (upd u.2.1 7 (u.2.1 6)) 6 ((upd u.2.1 7 (u.2.1 6)) 5)) 4)) 4 ((upd (upd (upd u.2.1 7 (u.2.1 6)) 6 ((upd u.2.1 7 (u.2.1 6)) 5)) 5 ((upd (upd u.2.1 7 (u.2.1 6)) 6 ((upd u.2.1 7 (u.2.1 6)) 5)) 4)) 3)) 2)) 2 ((upd (upd (upd (upd (upd u.2.1 7 (u.2.1 6)) 6 ((upd u.2.1 7 (u.2.1 6)) 5)) 5 ((upd (upd u.2.1 7 (u.2.1 6)) 6 ((upd u.2.1 7 (u.2.1 6)) 5)) 4)) 4 ((upd (upd (upd u.2.1 7 (u.2.1 6)) 6 ((upd u.2.1 7 (u.2.1 6)) 5)) 5 ((upd (upd u.2.1 7 (u.2.1 6)) 6 ((upd u.2.1 7 (u.2.1 6)) 5)) 4)) 3)) 3 ((upd (upd (upd (upd u.2.1 7 (u.2.1 6)) 6 ((upd u.2.1 7 (u.2.1 6)) 5)) 5 ((upd (upd u.2.1 7 (u.2.1 6)) 6 ((upd u.2.1 7 (u.2.1 6)) 5)) 4)) 4 ((upd (upd (upd u.2.1 7 (u.2.1 6)) 6 ((upd u.2.1 7 (u.2.1 6)) 5)) 5 ((upd (upd u.2.1 7 (u.2.1 6)) 6 ((upd u.2.1 7 (u.2.1 6)) 5)) 4)) 3)) 2)) 1)) 1 ((upd (upd (upd (upd (upd (upd u.2.1 7 (u.2.1 6)) 6 ((upd u.2.1 7 (u.2.1 6)) 5)) 5 ((upd (upd u.2.1 7 (u.2.1 6)) 6 ((upd u.2.1 7 (u.2.1 6)) 5)) 4)) 4 ((upd (upd (upd u.2.1 7 (u.2.1 6)) 6 ((upd u.2.1 7 (u.2.1 6)) 5)) 5 ((upd (upd u.2.1 7 (u.2.1 6)) 6 ((upd u.2.1 7 (u.2.1 6)) 5)) 4)) 3)) 3 ((upd (upd (upd (upd u.2.1 7 (u.2.1 6)) 6 ((upd u.2.1 7 (u.2.1 6)) 5)) 5 ((upd (upd u.2.1 7 (u.2.1 6)) 6 ((upd u.2.1 7 (u.2.1 6)) 5)) 4)) 4 ((upd (upd (upd u.2.1 7 (u.2.1 6)) 6 ((upd u.2.1 7 (u.2.1 6)) 5)) 5 ((upd (upd u.2.1 7 (u.2.1 6)) 6 ((upd u.2.1 7 (u.2.1 6)) 5)) 4)) 3)) 2)) 2 ((upd (upd (upd (upd (upd u.2.1 7 (u.2.1 6)) 6 ((upd u.2.1 7 (u.2.1 6)) 5)) 5 ((upd (upd u.2.1 7 (u.2.1 6)) 6 ((upd u.2.1 7 (u.2.1 6)) 5)) 4)) 4 ((upd (upd (upd u.2.1 7 (u.2.1 6)) 6 ((upd u.2.1 7 (u.2.1 6)) 5)) 5 ((upd (upd u.2.1 7 (u.2.1 6)) 6 ((upd u.2.1 7 (u.2.1 6)) 5)) 4)) 3)) 3 ((upd (upd (upd (upd u.2.1 7 (u.2.1 6)) 6 ((upd u.2.1 7 (u.2.1 6)) 5)) 5 ((upd (upd u.2.1 7 (u.2.1 6)) 6 ((upd u.2.1 7 (u.2.1 6)) 5)) 4)) 4 ((upd (upd (upd u.2.1 7 (u.2.1 6)) 6 ((upd u.2.1 7 (u.2.1 6)) 5)) 5 ((upd (upd u.2.1 7 (u.2.1 6)) 6 ((upd u.2.1 7 (u.2.1 6)) 5)) 4)) 3)) 2)) 1)) 0)) 0 u.2.2.2.1), u.2.2.1, u.2.2.2.1, u.2.2.2.2.1, u.2.2.2.2.2.1, u.2.2.2.2.2.2)) H := hP
  have hD : va_D A (wMc cA a (u.1, (upd (upd (upd (upd (upd (upd (upd (upd u.2.1 7 (u.2.1 6)) 6 ((upd u.2.1 7 (u.2.1 6)) 5)) 5 ((upd (upd u.2.1 7 (u.2.1 6)) 6 ((upd u.2.1 7 (u.2.1 6)) 5)) 4)) 4 ((upd (upd (upd u.2.1 7 (u.2.1 6)) 6 ((upd u.2.1 7 (u.2.1 6)) 5)) 5 ((upd (upd u.2.1 7 (u.2.1 6)) 6 ((upd u.2.1 7 (u.2.1 6)) 5)) 4)) 3)) 3 ((upd (upd (upd (upd u.2.1 7 (u.2.1 6)) 6 ((upd u.2.1 7 (u.2.1 6)) 5)) 5 ((upd (upd u.2.1 7 (u.2.1 6)) 6 ((upd u.2.1 7 (u.2.1 6)) 5)) 4)) 4 ((upd (upd (upd u.2.1 7 (u.2.1 6)) 6 ((upd u.2.1 7 (u.2.1 6)) 5)) 5 ((upd (upd u.2.1 7 (u.2.1 6)) 6 ((upd u.2.1 7 (u.2.1 6)) 5)) 4)) 3)) 2)) 2 ((upd (upd (upd (upd (upd u.2.1 7 (u.2.1 6)) 6 ((upd u.2.1 7 (u.2.1 6)) 5)) 5 ((upd (upd u.2.1 7 (u.2.1 6)) 6 ((upd u.2.1 7 (u.2.1 6)) 5)) 4)) 4 ((upd (upd (upd u.2.1 7 (u.2.1 6)) 6 ((upd u.2.1 7 (u.2.1 6)) 5)) 5 ((upd (upd u.2.1 7 (u.2.1 6)) 6 ((upd u.2.1 7 (u.2.1 6)) 5)) 4)) 3)) 3 ((upd (upd (upd (upd u.2.1 7 (u.2.1 6)) 6 ((upd u.2.1 7 (u.2.1 6)) 5)) 5 ((upd (upd u.2.1 7 (u.2.1 6)) 6 ((upd u.2.1 7 (u.2.1 6)) 5)) 4)) 4 ((upd (upd (upd u.2.1 7 (u.2.1 6)) 6 ((upd u.2.1 7 (u.2.1 6)) 5)) 5 ((upd (upd u.2.1 7 (u.2.1 6)) 6 ((upd u.2.1 7 (u.2.1 6)) 5)) 4)) 3)) 2)) 1)) 1 ((upd (upd (upd (upd (upd (upd u.2.1 7 (u.2.1 6)) 6 ((upd u.2.1 7 (u.2.1 6)) 5)) 5 ((upd (upd u.2.1 7 (u.2.1 6)) 6 ((upd u.2.1 7 (u.2.1 6)) 5)) 4)) 4 ((upd (upd (upd u.2.1 7 (u.2.1 6)) 6 ((upd u.2.1 7 (u.2.1 6)) 5)) 5 ((upd (upd u.2.1 7 (u.2.1 6)) 6 ((upd u.2.1 7 (u.2.1 6)) 5)) 4)) 3)) 3 ((upd (upd (upd (upd u.2.1 7 (u.2.1 6)) 6 ((upd u.2.1 7 (u.2.1 6)) 5)) 5 ((upd (upd u.2.1 7 (u.2.1 6)) 6 ((upd u.2.1 7 (u.2.1 6)) 5)) 4)) 4 ((upd (upd (upd u.2.1 7 (u.2.1 6)) 6 ((upd u.2.1 7 (u.2.1 6)) 5)) 5 ((upd (upd u.2.1 7 (u.2.1 6)) 6 ((upd u.2.1 7 (u.2.1 6)) 5)) 4)) 3)) 2)) 2 ((upd (upd (upd (upd (upd u.2.1 7 (u.2.1 6)) 6 ((upd u.2.1 7 (u.2.1 6)) 5)) 5 ((upd (upd u.2.1 7 (u.2.1 6)) 6 ((upd u.2.1 7 (u.2.1 6)) 5)) 4)) 4 ((upd (upd (upd u.2.1 7 (u.2.1 6)) 6 ((upd u.2.1 7 (u.2.1 6)) 5)) 5 ((upd (upd u.2.1 7 (u.2.1 6)) 6 ((upd u.2.1 7 (u.2.1 6)) 5)) 4)) 3)) 3 ((upd (upd (upd (upd u.2.1 7 (u.2.1 6)) 6 ((upd u.2.1 7 (u.2.1 6)) 5)) 5 ((upd (upd u.2.1 7 (u.2.1 6)) 6 ((upd u.2.1 7 (u.2.1 6)) 5)) 4)) 4 ((upd (upd (upd u.2.1 7 (u.2.1 6)) 6 ((upd u.2.1 7 (u.2.1 6)) 5)) 5 ((upd (upd u.2.1 7 (u.2.1 6)) 6 ((upd u.2.1 7 (u.2.1 6)) 5)) 4)) 3)) 2)) 1)) 0)) 0 u.2.2.2.1), u.2.2.1, u.2.2.2.1, u.2.2.2.2.1, u.2.2.2.2.2.1, u.2.2.2.2.2.2)) := hD
  refine lv_aload_n hx hb dX0_tellCount_37 rfl (lv_at hl 1 rfl) ?_
  refine lv_dup hx hb dX0_tellCount_38 rfl ?_
  refine va_get (D := D) (ci := 0) (v := .int u.2.2.2.2.2.2) (C := RX0) (T := TX0) (N := 7) hx hb hts iX0_tellCount_X0 hown hK hP 0 rfl rfl 6 (by decide) (hts _ mX0_tellCount_f35) (fun _ h9 => h9) rfl dX0_tellCount_39 ?_
  refine lv_iconst (v := 1) hx hb dX0_tellCount_42 (by decide) ?_
  refine lv_iadd hx hb dX0_tellCount_43 ?_
  refine va_put (D := D) (ci := 0) (v := .int (u.2.2.2.2.2.2 + 1)) (ty := .int) (C := RX0) (T := TX0) (N := 7) hx hb hts iX0_tellCount_X0 tyX0 tyX0_ok nmX0 hown hK hP hD hS 0 rfl rfl 6 (by decide) (hts _ mX0_tellCount_f35) (fun _ h9 => h9) rfl (by decide +kernel) rfl rfl (Nat.le_of_ble_eq_true rfl) dX0_tellCount_44 (fun H locs hP hD hS => ?_)
  have hP : va_P D vwCl (wMc cA a (u.1, (upd (upd (upd (upd (upd (upd (upd (upd u.2.1 7 (u.2.1 6)) 6 ((upd u.2.1 7 (u.2.1 6)) 5)) 5 ((upd (upd u.2.1 7 (u.2.1 6)) 6 ((upd u.2.1 7 (u.2.1 6)) 5)) 4)) 4 ((upd (upd (upd u.2.1 7 (u.2.1 6)) 6 ((upd u.2.1 7 (u.2.1 6)) 5)) 5 ((upd (upd u.2.1 7 (u.2.1 6)) 6 ((upd u.2.1 7 (u.2.1 6)) 5)) 4)) 3)) 3 ((upd (upd (upd (upd u.2.1 7 (u.2.1 6)) 6 ((upd u.2.1 7 (u.2.1 6)) 5)) 5 ((upd (upd u.2.1 7 (u.2.1 6)) 6 ((upd u.2.1 7 (u.2.1 6)) 5)) 4)) 4 ((upd (upd (upd u.2.1 7 (u.2.1 6)) 6 ((upd u.2.1 7 (u.2.1 6)) 5)) 5 ((upd (upd u.2.1 7 (u.2.1 6)) 6 ((upd u.2.1 7 (u.2.1 6)) 5)) 4)) 3)) 2)) 2 ((upd (upd (upd (upd (upd u.2.1 7 (u.2.1 6)) 6 ((upd u.2.1 7 (u.2.1 6)) 5)) 5 ((upd (upd u.2.1 7 (u.2.1 6)) 6 ((upd u.2.1 7 (u.2.1 6)) 5)) 4)) 4 ((upd (upd (upd u.2.1 7 (u.2.1 6)) 6 ((upd u.2.1 7 (u.2.1 6)) 5)) 5 ((upd (upd u.2.1 7 (u.2.1 6)) 6 ((upd u.2.1 7 (u.2.1 6)) 5)) 4)) 3)) 3 ((upd (upd (upd (upd u.2.1 7 (u.2.1 6)) 6 ((upd u.2.1 7 (u.2.1 6)) 5)) 5 ((upd (upd u.2.1 7 (u.2.1 6)) 6 ((upd u.2.1 7 (u.2.1 6)) 5)) 4)) 4 ((upd (upd (upd u.2.1 7 (u.2.1 6)) 6 ((upd u.2.1 7 (u.2.1 6)) 5)) 5 ((upd (upd u.2.1 7 (u.2.1 6)) 6 ((upd u.2.1 7 (u.2.1 6)) 5)) 4)) 3)) 2)) 1)) 1 ((upd (upd (upd (upd (upd (upd u.2.1 7 (u.2.1 6)) 6 ((upd u.2.1 7 (u.2.1 6)) 5)) 5 ((upd (upd u.2.1 7 (u.2.1 6)) 6 ((upd u.2.1 7 (u.2.1 6)) 5)) 4)) 4 ((upd (upd (upd u.2.1 7 (u.2.1 6)) 6 ((upd u.2.1 7 (u.2.1 6)) 5)) 5 ((upd (upd u.2.1 7 (u.2.1 6)) 6 ((upd u.2.1 7 (u.2.1 6)) 5)) 4)) 3)) 3 ((upd (upd (upd (upd u.2.1 7 (u.2.1 6)) 6 ((upd u.2.1 7 (u.2.1 6)) 5)) 5 ((upd (upd u.2.1 7 (u.2.1 6)) 6 ((upd u.2.1 7 (u.2.1 6)) 5)) 4)) 4 ((upd (upd (upd u.2.1 7 (u.2.1 6)) 6 ((upd u.2.1 7 (u.2.1 6)) 5)) 5 ((upd (upd u.2.1 7 (u.2.1 6)) 6 ((upd u.2.1 7 (u.2.1 6)) 5)) 4)) 3)) 2)) 2 ((upd (upd (upd (upd (upd u.2.1 7 (u.2.1 6)) 6 ((upd u.2.1 7 (u.2.1 6)) 5)) 5 ((upd (upd u.2.1 7 (u.2.1 6)) 6 ((upd u.2.1 7 (u.2.1 6)) 5)) 4)) 4 ((upd (upd (upd u.2.1 7 (u.2.1 6)) 6 ((upd u.2.1 7 (u.2.1 6)) 5)) 5 ((upd (upd u.2.1 7 (u.2.1 6)) 6 ((upd u.2.1 7 (u.2.1 6)) 5)) 4)) 3)) 3 ((upd (upd (upd (upd u.2.1 7 (u.2.1 6)) 6 ((upd u.2.1 7 (u.2.1 6)) 5)) 5 ((upd (upd u.2.1 7 (u.2.1 6)) 6 ((upd u.2.1 7 (u.2.1 6)) 5)) 4)) 4 ((upd (upd (upd u.2.1 7 (u.2.1 6)) 6 ((upd u.2.1 7 (u.2.1 6)) 5)) 5 ((upd (upd u.2.1 7 (u.2.1 6)) 6 ((upd u.2.1 7 (u.2.1 6)) 5)) 4)) 3)) 2)) 1)) 0)) 0 u.2.2.2.1), u.2.2.1, u.2.2.2.1, u.2.2.2.2.1, u.2.2.2.2.2.1, (u.2.2.2.2.2.2 + 1))) H := hP
  have hD : va_D A (wMc cA a (u.1, (upd (upd (upd (upd (upd (upd (upd (upd u.2.1 7 (u.2.1 6)) 6 ((upd u.2.1 7 (u.2.1 6)) 5)) 5 ((upd (upd u.2.1 7 (u.2.1 6)) 6 ((upd u.2.1 7 (u.2.1 6)) 5)) 4)) 4 ((upd (upd (upd u.2.1 7 (u.2.1 6)) 6 ((upd u.2.1 7 (u.2.1 6)) 5)) 5 ((upd (upd u.2.1 7 (u.2.1 6)) 6 ((upd u.2.1 7 (u.2.1 6)) 5)) 4)) 3)) 3 ((upd (upd (upd (upd u.2.1 7 (u.2.1 6)) 6 ((upd u.2.1 7 (u.2.1 6)) 5)) 5 ((upd (upd u.2.1 7 (u.2.1 6)) 6 ((upd u.2.1 7 (u.2.1 6)) 5)) 4)) 4 ((upd (upd (upd u.2.1 7 (u.2.1 6)) 6 ((upd u.2.1 7 (u.2.1 6)) 5)) 5 ((upd (upd u.2.1 7 (u.2.1 6)) 6 ((upd u.2.1 7 (u.2.1 6)) 5)) 4)) 3)) 2)) 2 ((upd (upd (upd (upd (upd u.2.1 7 (u.2.1 6)) 6 ((upd u.2.1 7 (u.2.1 6)) 5)) 5 ((upd (upd u.2.1 7 (u.2.1 6)) 6 ((upd u.2.1 7 (u.2.1 6)) 5)) 4)) 4 ((upd (upd (upd u.2.1 7 (u.2.1 6)) 6 ((upd u.2.1 7 (u.2.1 6)) 5)) 5 ((upd (upd u.2.1 7 (u.2.1 6)) 6 ((upd u.2.1 7 (u.2.1 6)) 5)) 4)) 3)) 3 ((upd (upd (upd (upd u.2.1 7 (u.2.1 6)) 6 ((upd u.2.1 7 (u.2.1 6)) 5)) 5 ((upd (upd u.2.1 7 (u.2.1 6)) 6 ((upd u.2.1 7 (u.2.1 6)) 5)) 4)) 4 ((upd (upd (upd u.2.1 7 (u.2.1 6)) 6 ((upd u.2.1 7 (u.2.1 6)) 5)) 5 ((upd (upd u.2.1 7 (u.2.1 6)) 6 ((upd u.2.1 7 (u.2.1 6)) 5)) 4)) 3)) 2)) 1)) 1 ((upd (upd (upd (upd (upd (upd u.2.1 7 (u.2.1 6)) 6 ((upd u.2.1 7 (u.2.1 6)) 5)) 5 ((upd (upd u.2.1 7 (u.2.1 6)) 6 ((upd u.2.1 7 (u.2.1 6)) 5)) 4)) 4 ((upd (upd (upd u.2.1 7 (u.2.1 6)) 6 ((upd u.2.1 7 (u.2.1 6)) 5)) 5 ((upd (upd u.2.1 7 (u.2.1 6)) 6 ((upd u.2.1 7 (u.2.1 6)) 5)) 4)) 3)) 3 ((upd (upd (upd (upd u.2.1 7 (u.2.1 6)) 6 ((upd u.2.1 7 (u.2.1 6)) 5)) 5 ((upd (upd u.2.1 7 (u.2.1 6)) 6 ((upd u.2.1 7 (u.2.1 6)) 5)) 4)) 4 ((upd (upd (upd u.2.1 7 (u.2.1 6)) 6 ((upd u.2.1 7 (u.2.1 6)) 5)) 5 ((upd (upd u.2.1 7 (u.2.1 6)) 6 ((upd u.2.1 7 (u.2.1 6)) 5)) 4)) 3)) 2)) 2 ((upd (upd (upd (upd (upd u.2.1 7 (u.2.1 6)) 6 ((upd u.2.1 7 (u.2.1 6)) 5)) 5 ((upd (upd u.2.1 7 (u.2.1 6)) 6 ((upd u.2.1 7 (u.2.1 6)) 5)) 4)) 4 ((upd (upd (upd u.2.1 7 (u.2.1 6)) 6 ((upd u.2.1 7 (u.2.1 6)) 5)) 5 ((upd (upd u.2.1 7 (u.2.1 6)) 6 ((upd u.2.1 7 (u.2.1 6)) 5)) 4)) 3)) 3 ((upd (upd (upd (upd u.2.1 7 (u.2.1 6)) 6 ((upd u.2.1 7 (u.2.1 6)) 5)) 5 ((upd (upd u.2.1 7 (u.2.1 6)) 6 ((upd u.2.1 7 (u.2.1 6)) 5)) 4)) 4 ((upd (upd (upd u.2.1 7 (u.2.1 6)) 6 ((upd u.2.1 7 (u.2.1 6)) 5)) 5 ((upd (upd u.2.1 7 (u.2.1 6)) 6 ((upd u.2.1 7 (u.2.1 6)) 5)) 4)) 3)) 2)) 1)) 0)) 0 u.2.2.2.1), u.2.2.1, u.2.2.2.1, u.2.2.2.2.1, u.2.2.2.2.2.1, (u.2.2.2.2.2.2 + 1))) := hD
  exact mu_vret hx hb hr hlocks dX0_tellCount_47 hAe hS hP
theorem mX0_obey_f32 : Cond.fieldLink RX0 32 "WireLoom$Machine" "steps" "I" ∈ wsX0_obey := by decide +kernel
theorem mX0_obey_f21 : Cond.fieldLink RX0 21 "WireLoom$Machine" "place" "I" ∈ wsX0_obey := by decide +kernel
theorem mX0_obey_f28 : Cond.fieldLink RX0 28 "WireLoom$Machine" "running" "Z" ∈ wsX0_obey := by decide +kernel
theorem mX0_obey_f25 : Cond.fieldLink RX0 25 "WireLoom$Machine" "count" "I" ∈ wsX0_obey := by decide +kernel
theorem mX0_obey_f11 : Cond.fieldLink RX0 11 "WireLoom$Machine" "cells" "[I" ∈ wsX0_obey := by decide +kernel
set_option maxRecDepth 20000 in
theorem iX0_obey_X0 : ∀ w ∈ wsX00, w ∈ wsX0_obey := by decide +kernel
set_option maxHeartbeats 4000000 in
set_option maxRecDepth 100000 in
theorem c_X0_obey (l : Launch) (D : va_G) (cA : Nat → ClassId) (H : Heap) (a : Nat → Nat) (u : MV) (pl w : Nat) (hp : u.2.2.1 = nI pl) (hp16 : pl < 16) (hw : w < 256) (hP0 : va_P D vwCl (wMc cA a u) H) (hD0 : va_D (fun _ => True) (wMc cA a u)) : MU l yX0_obey wsX0_obey ({ frames := 1, cells := 0, slots := 0, locals := 21 } : Room) D cA [.ref (a 5), .int (nI w)] H (wMc cA a u) (wMc cA a (obeyS u pl w)) none := by
  refine Met.ofW (cc := cX0_obey) (maxL := 4) (ret := none) (by decide) rfl ?_
  intro p e s m args below meth c s₁ B hml hv
  obtain ⟨rfl, hH, hKN⟩ := hv
  have hK := hKN.1
  have hx := B.exec
  have hb := B.bytes
  have hr := B.returns
  have hts := atoms_spec (ws := wsX0_obey) B.pre
  have hown : s.vm.findClass RX0 = some m.cls := findClass_of_methodNamed B.named
  have hlocks := B.notSynchronized
  subst hH
  have hD := hD0.self (sz := s.heap.size)
  generalize hAe : va_A (wMc cA a u) s.heap.size = A at hD ⊢
  have hA : ∀ q : Nat, s.heap.size ≤ q → A q := fun q h => by rw [← hAe]; exact Or.inr h
  have hS : va_S A s.heap s.heap [] := va_S.rf
  have hP : va_P D vwCl (wMc cA a u) s.heap := hP0
  have hl := lv_entry ([.ref (a 5), .int (nI w)] : List Value) (n := 4) (Nat.le_of_ble_eq_true rfl)
  rw [lg_entry_eq]
  generalize (lg_sl ([.ref (a 5), .int (nI w)] : List Value) ++ List.replicate (4 - (lg_sl ([.ref (a 5), .int (nI w)] : List Value)).length) Slot.unset).toArray = ls at hl ⊢
  have hl : lv_has ls 4 [(0, .ref (a 5)), (1, .int (nI w))] := hl
  refine lv_iload_n hx hb dX0_obey_0 rfl (lv_at hl 1 rfl) ?_
  refine lv_bipush (v := 32) hx hb dX0_obey_1 (by decide) ?_
  refine lz_idiv (v := (nI (w / 32))) hx hb dX0_obey_3 (by decide) (pk_div (d := 32) (by omega) (by decide) (by decide)) ?_
  refine lv_istore_n (lv' := [(2, .int (nI (w / 32))), (0, .ref (a 5)), (1, .int (nI w))]) hx hb dX0_obey_4 rfl hl (by decide) rfl (fun ls hl => ?_)
  refine lv_iload_n hx hb dX0_obey_5 rfl (lv_at hl 2 rfl) ?_
  refine lv_bipush (v := 32) hx hb dX0_obey_6 (by decide) ?_
  refine lz_irem (v := (nI (w % 32))) hx hb dX0_obey_8 (by decide) (pk_rem (d := 32) (by omega) (by decide) (by decide)) ?_
  refine lv_istore_n (lv' := [(3, .int (nI (w % 32))), (2, .int (nI (w / 32))), (0, .ref (a 5)), (1, .int (nI w))]) hx hb dX0_obey_9 rfl hl (by decide) rfl (fun ls hl => ?_)
  refine lv_aload_n hx hb dX0_obey_10 rfl (lv_at hl 2 rfl) ?_
  refine lv_dup hx hb dX0_obey_11 rfl ?_
  refine va_get (D := D) (ci := 0) (v := .int u.2.2.2.2.2.1) (C := RX0) (T := TX0) (N := 7) hx hb hts iX0_obey_X0 hown hK hP 0 rfl rfl 5 (by decide) (hts _ mX0_obey_f32) (fun _ h9 => h9) rfl dX0_obey_12 ?_
  refine lv_iconst (v := 1) hx hb dX0_obey_15 (by decide) ?_
  refine lv_iadd hx hb dX0_obey_16 ?_
  refine va_put (D := D) (ci := 0) (v := .int (u.2.2.2.2.2.1 + 1)) (ty := .int) (C := RX0) (T := TX0) (N := 7) hx hb hts iX0_obey_X0 tyX0 tyX0_ok nmX0 hown hK hP hD hS 0 rfl rfl 5 (by decide) (hts _ mX0_obey_f32) (fun _ h9 => h9) rfl (by decide +kernel) rfl rfl (Nat.le_of_ble_eq_true rfl) dX0_obey_17 (fun H locs hP hD hS => ?_)
  have hP : va_P D vwCl (wMc cA a (u.1, u.2.1, u.2.2.1, u.2.2.2.1, u.2.2.2.2.1, (u.2.2.2.2.2.1 + 1), u.2.2.2.2.2.2)) H := hP
  have hD : va_D A (wMc cA a (u.1, u.2.1, u.2.2.1, u.2.2.2.1, u.2.2.2.2.1, (u.2.2.2.2.2.1 + 1), u.2.2.2.2.2.2)) := hD
  refine lv_aload_n hx hb dX0_obey_20 rfl (lv_at hl 2 rfl) ?_
  refine lv_aload_n hx hb dX0_obey_21 rfl (lv_at hl 2 rfl) ?_
  refine va_get (D := D) (ci := 0) (v := .int u.2.2.1) (C := RX0) (T := TX0) (N := 7) hx hb hts iX0_obey_X0 hown hK hP 0 rfl rfl 2 (by decide) (hts _ mX0_obey_f21) (fun _ h9 => h9) rfl dX0_obey_22 ?_
  refine lz_top (v := nI pl) hp ?_
  refine lv_iconst (v := 1) hx hb dX0_obey_25 (by decide) ?_
  refine lz_iadd (v := (nI (pl + 1))) hx hb dX0_obey_26 (nI_add _ _) ?_
  refine lv_bipush (v := 16) hx hb dX0_obey_27 (by decide) ?_
  refine lz_irem (v := (nI ((pl + 1) % 16))) hx hb dX0_obey_29 (by decide) (pk_rem (d := 16) (by omega) (by decide) (by decide)) ?_
  refine va_put (D := D) (ci := 0) (v := .int (nI ((pl + 1) % 16))) (ty := .int) (C := RX0) (T := TX0) (N := 7) hx hb hts iX0_obey_X0 tyX0 tyX0_ok nmX0 hown hK hP hD hS 0 rfl rfl 2 (by decide) (hts _ mX0_obey_f21) (fun _ h9 => h9) rfl (by decide +kernel) rfl rfl (Nat.le_of_ble_eq_true rfl) dX0_obey_30 (fun H locs hP hD hS => ?_)
  have hP : va_P D vwCl (wMc cA a (u.1, u.2.1, (nI ((pl + 1) % 16)), u.2.2.2.1, u.2.2.2.2.1, (u.2.2.2.2.2.1 + 1), u.2.2.2.2.2.2)) H := hP
  have hD : va_D A (wMc cA a (u.1, u.2.1, (nI ((pl + 1) % 16)), u.2.2.2.1, u.2.2.2.2.1, (u.2.2.2.2.2.1 + 1), u.2.2.2.2.2.2)) := hD
  refine lv_iload_n hx hb dX0_obey_33 rfl (lv_at hl 1 rfl) ?_
  have hc_34 : (w / 32) = 0 ∨ (w / 32) = 1 ∨ (w / 32) = 2 ∨ (w / 32) = 3 ∨ (w / 32) = 4 ∨ (w / 32) = 5 ∨ (w / 32) = 6 ∨ (w / 32) = 7 := (by omega)
  rcases hc_34 with hc_34 | hc_34 | hc_34 | hc_34 | hc_34 | hc_34 | hc_34 | hc_34
  · refine lz_top (v := 0) (by rw [hc_34]; rfl) ?_
    refine lv_tableIn (tgt := 76) (off := 42) hx hb dX0_obey_34 (by decide) (by decide) rfl (by decide) ?_
    refine lv_aload_n hx hb dX0_obey_76 rfl (lv_at hl 2 rfl) ?_
    refine lv_iconst (v := 0) hx hb dX0_obey_77 (by decide) ?_
    refine va_put (D := D) (ci := 0) (v := .int 0) (ty := .boolean) (C := RX0) (T := TX0) (N := 7) hx hb hts iX0_obey_X0 tyX0 tyX0_ok nmX0 hown hK hP hD hS 0 rfl rfl 4 (by decide) (hts _ mX0_obey_f28) (fun _ h9 => h9) rfl (by decide +kernel) rfl rfl (Nat.le_of_ble_eq_true rfl) dX0_obey_78 (fun H locs hP hD hS => ?_)
    have hP : va_P D vwCl (wMc cA a (u.1, u.2.1, (nI ((pl + 1) % 16)), u.2.2.2.1, 0, (u.2.2.2.2.2.1 + 1), u.2.2.2.2.2.2)) H := hP
    have hD : va_D A (wMc cA a (u.1, u.2.1, (nI ((pl + 1) % 16)), u.2.2.2.1, 0, (u.2.2.2.2.2.1 + 1), u.2.2.2.2.2.2)) := hD
    refine lv_goto (tgt := 192) hx hb dX0_obey_81 (by decide) ?_
    exact mu_vret hx hb hr hlocks dX0_obey_192 hAe hS (by have e9 : obeyS u pl w = (u.1, u.2.1, (nI ((pl + 1) % 16)), u.2.2.2.1, 0, (u.2.2.2.2.2.1 + 1), u.2.2.2.2.2.2) := (by simp only [obeyS, hc_34, if_true, if_false] <;> rfl); rw [e9]; exact hP)
  · refine lz_top (v := 1) (by rw [hc_34]; rfl) ?_
    refine lv_tableIn (tgt := 84) (off := 50) hx hb dX0_obey_34 (by decide) (by decide) rfl (by decide) ?_
    refine lv_aload_n hx hb dX0_obey_84 rfl (lv_at hl 2 rfl) ?_
    refine lv_iload_n hx hb dX0_obey_85 rfl (lv_at hl 0 rfl) ?_
    refine va_put (D := D) (ci := 0) (v := .int (nI (w % 32))) (ty := .int) (C := RX0) (T := TX0) (N := 7) hx hb hts iX0_obey_X0 tyX0 tyX0_ok nmX0 hown hK hP hD hS 0 rfl rfl 3 (by decide) (hts _ mX0_obey_f25) (fun _ h9 => h9) rfl (by decide +kernel) rfl rfl (Nat.le_of_ble_eq_true rfl) dX0_obey_86 (fun H locs hP hD hS => ?_)
    have hP : va_P D vwCl (wMc cA a (u.1, u.2.1, (nI ((pl + 1) % 16)), (nI (w % 32)), u.2.2.2.2.1, (u.2.2.2.2.2.1 + 1), u.2.2.2.2.2.2)) H := hP
    have hD : va_D A (wMc cA a (u.1, u.2.1, (nI ((pl + 1) % 16)), (nI (w % 32)), u.2.2.2.2.1, (u.2.2.2.2.2.1 + 1), u.2.2.2.2.2.2)) := hD
    refine lv_goto (tgt := 192) hx hb dX0_obey_89 (by decide) ?_
    exact mu_vret hx hb hr hlocks dX0_obey_192 hAe hS (by have e9 : obeyS u pl w = (u.1, u.2.1, (nI ((pl + 1) % 16)), (nI (w % 32)), u.2.2.2.2.1, (u.2.2.2.2.2.1 + 1), u.2.2.2.2.2.2) := (by simp only [obeyS, hc_34, if_true, if_false] <;> rfl); rw [e9]; exact hP)
  · refine lz_top (v := 2) (by rw [hc_34]; rfl) ?_
    refine lv_tableIn (tgt := 92) (off := 58) hx hb dX0_obey_34 (by decide) (by decide) rfl (by decide) ?_
    refine lv_aload_n hx hb dX0_obey_92 rfl (lv_at hl 2 rfl) ?_
    refine lv_aload_n hx hb dX0_obey_93 rfl (lv_at hl 2 rfl) ?_
    refine va_get (D := D) (ci := 0) (v := .int u.2.2.2.1) (C := RX0) (T := TX0) (N := 7) hx hb hts iX0_obey_X0 hown hK hP 0 rfl rfl 3 (by decide) (hts _ mX0_obey_f25) (fun _ h9 => h9) rfl dX0_obey_94 ?_
    refine lv_aload_n hx hb dX0_obey_97 rfl (lv_at hl 2 rfl) ?_
    refine va_get (D := D) (ci := 0) (v := .ref (a 6)) (C := RX0) (T := TX0) (N := 7) hx hb hts iX0_obey_X0 hown hK hP 0 rfl rfl 0 (by decide) (hts _ mX0_obey_f11) (fun _ h9 => h9) rfl dX0_obey_98 ?_
    refine lv_iload_n hx hb dX0_obey_101 rfl (lv_at hl 0 rfl) ?_
    refine lv_iconst (v := 4) hx hb dX0_obey_102 (by decide) ?_
    refine lz_irem (v := (nI (w % 32 % 4))) hx hb dX0_obey_103 (by decide) (pk_rem (d := 4) (by omega) (by decide) (by decide)) ?_
    refine lz_iald (k := (w % 32 % 4)) (f := u.1) hx hb hK hP 1 0 rfl rfl ⟨by omega, by decide⟩ dX0_obey_104 ?_
    refine lv_iadd hx hb dX0_obey_105 ?_
    refine lv_sipush (v := 256) hx hb dX0_obey_106 (by decide) ?_
    refine lz_irem (v := (remF (u.2.2.2.1 + (u.1 (w % 32 % 4))) 256)) hx hb dX0_obey_109 (by decide) rfl ?_
    refine va_put (D := D) (ci := 0) (v := .int (remF (u.2.2.2.1 + (u.1 (w % 32 % 4))) 256)) (ty := .int) (C := RX0) (T := TX0) (N := 7) hx hb hts iX0_obey_X0 tyX0 tyX0_ok nmX0 hown hK hP hD hS 0 rfl rfl 3 (by decide) (hts _ mX0_obey_f25) (fun _ h9 => h9) rfl (by decide +kernel) rfl rfl (Nat.le_of_ble_eq_true rfl) dX0_obey_110 (fun H locs hP hD hS => ?_)
    have hP : va_P D vwCl (wMc cA a (u.1, u.2.1, (nI ((pl + 1) % 16)), (remF (u.2.2.2.1 + (u.1 (w % 32 % 4))) 256), u.2.2.2.2.1, (u.2.2.2.2.2.1 + 1), u.2.2.2.2.2.2)) H := hP
    have hD : va_D A (wMc cA a (u.1, u.2.1, (nI ((pl + 1) % 16)), (remF (u.2.2.2.1 + (u.1 (w % 32 % 4))) 256), u.2.2.2.2.1, (u.2.2.2.2.2.1 + 1), u.2.2.2.2.2.2)) := hD
    refine lv_goto (tgt := 192) hx hb dX0_obey_113 (by decide) ?_
    exact mu_vret hx hb hr hlocks dX0_obey_192 hAe hS (by have e9 : obeyS u pl w = (u.1, u.2.1, (nI ((pl + 1) % 16)), (remF (u.2.2.2.1 + (u.1 (w % 32 % 4))) 256), u.2.2.2.2.1, (u.2.2.2.2.2.1 + 1), u.2.2.2.2.2.2) := (by simp only [obeyS, hc_34, if_true, if_false] <;> rfl); rw [e9]; exact hP)
  · refine lz_top (v := 3) (by rw [hc_34]; rfl) ?_
    refine lv_tableIn (tgt := 116) (off := 82) hx hb dX0_obey_34 (by decide) (by decide) rfl (by decide) ?_
    refine lv_aload_n hx hb dX0_obey_116 rfl (lv_at hl 2 rfl) ?_
    refine va_get (D := D) (ci := 0) (v := .ref (a 6)) (C := RX0) (T := TX0) (N := 7) hx hb hts iX0_obey_X0 hown hK hP 0 rfl rfl 0 (by decide) (hts _ mX0_obey_f11) (fun _ h9 => h9) rfl dX0_obey_117 ?_
    refine lv_iload_n hx hb dX0_obey_120 rfl (lv_at hl 0 rfl) ?_
    refine lv_iconst (v := 4) hx hb dX0_obey_121 (by decide) ?_
    refine lz_irem (v := (nI (w % 32 % 4))) hx hb dX0_obey_122 (by decide) (pk_rem (d := 4) (by omega) (by decide) (by decide)) ?_
    refine lv_aload_n hx hb dX0_obey_123 rfl (lv_at hl 2 rfl) ?_
    refine va_get (D := D) (ci := 0) (v := .int u.2.2.2.1) (C := RX0) (T := TX0) (N := 7) hx hb hts iX0_obey_X0 hown hK hP 0 rfl rfl 3 (by decide) (hts _ mX0_obey_f25) (fun _ h9 => h9) rfl dX0_obey_124 ?_
    refine lz_iast (k := (w % 32 % 4)) (f := u.1) hx hb hK hP hD hS 1 0 rfl rfl ⟨by omega, by decide⟩ dX0_obey_127 (fun H locs hP hD hS => ?_)
    have hP : va_P D vwCl (wMc cA a ((upd u.1 (w % 32 % 4) u.2.2.2.1), u.2.1, (nI ((pl + 1) % 16)), u.2.2.2.1, u.2.2.2.2.1, (u.2.2.2.2.2.1 + 1), u.2.2.2.2.2.2)) H := hP
    have hD : va_D A (wMc cA a ((upd u.1 (w % 32 % 4) u.2.2.2.1), u.2.1, (nI ((pl + 1) % 16)), u.2.2.2.1, u.2.2.2.2.1, (u.2.2.2.2.2.1 + 1), u.2.2.2.2.2.2)) := hD
    refine lv_goto (tgt := 192) hx hb dX0_obey_128 (by decide) ?_
    exact mu_vret hx hb hr hlocks dX0_obey_192 hAe hS (by have e9 : obeyS u pl w = ((upd u.1 (w % 32 % 4) u.2.2.2.1), u.2.1, (nI ((pl + 1) % 16)), u.2.2.2.1, u.2.2.2.2.1, (u.2.2.2.2.2.1 + 1), u.2.2.2.2.2.2) := (by simp only [obeyS, hc_34, if_true, if_false] <;> rfl); rw [e9]; exact hP)
  · refine lz_top (v := 4) (by rw [hc_34]; rfl) ?_
    refine lv_tableIn (tgt := 131) (off := 97) hx hb dX0_obey_34 (by decide) (by decide) rfl (by decide) ?_
    refine lv_aload_n hx hb dX0_obey_131 rfl (lv_at hl 2 rfl) ?_
    refine lv_iload_n hx hb dX0_obey_132 rfl (lv_at hl 0 rfl) ?_
    refine lv_bipush (v := 16) hx hb dX0_obey_133 (by decide) ?_
    refine lz_irem (v := (nI (w % 32 % 16))) hx hb dX0_obey_135 (by decide) (pk_rem (d := 16) (by omega) (by decide) (by decide)) ?_
    refine va_put (D := D) (ci := 0) (v := .int (nI (w % 32 % 16))) (ty := .int) (C := RX0) (T := TX0) (N := 7) hx hb hts iX0_obey_X0 tyX0 tyX0_ok nmX0 hown hK hP hD hS 0 rfl rfl 2 (by decide) (hts _ mX0_obey_f21) (fun _ h9 => h9) rfl (by decide +kernel) rfl rfl (Nat.le_of_ble_eq_true rfl) dX0_obey_136 (fun H locs hP hD hS => ?_)
    have hP : va_P D vwCl (wMc cA a (u.1, u.2.1, (nI (w % 32 % 16)), u.2.2.2.1, u.2.2.2.2.1, (u.2.2.2.2.2.1 + 1), u.2.2.2.2.2.2)) H := hP
    have hD : va_D A (wMc cA a (u.1, u.2.1, (nI (w % 32 % 16)), u.2.2.2.1, u.2.2.2.2.1, (u.2.2.2.2.2.1 + 1), u.2.2.2.2.2.2)) := hD
    refine lv_goto (tgt := 192) hx hb dX0_obey_139 (by decide) ?_
    exact mu_vret hx hb hr hlocks dX0_obey_192 hAe hS (by have e9 : obeyS u pl w = (u.1, u.2.1, (nI (w % 32 % 16)), u.2.2.2.1, u.2.2.2.2.1, (u.2.2.2.2.2.1 + 1), u.2.2.2.2.2.2) := (by simp only [obeyS, hc_34, if_true, if_false] <;> rfl); rw [e9]; exact hP)
  · refine lz_top (v := 5) (by rw [hc_34]; rfl) ?_
    refine lv_tableIn (tgt := 142) (off := 108) hx hb dX0_obey_34 (by decide) (by decide) rfl (by decide) ?_
    refine lv_aload_n hx hb dX0_obey_142 rfl (lv_at hl 2 rfl) ?_
    refine lv_aload_n hx hb dX0_obey_143 rfl (lv_at hl 2 rfl) ?_
    refine va_get (D := D) (ci := 0) (v := .int u.2.2.2.1) (C := RX0) (T := TX0) (N := 7) hx hb hts iX0_obey_X0 hown hK hP 0 rfl rfl 3 (by decide) (hts _ mX0_obey_f25) (fun _ h9 => h9) rfl dX0_obey_144 ?_
    refine lv_if_ne (tgt := 157) hx hb dX0_obey_147 (by decide) (fun c_147 => ?_) (fun c_147 => ?_)
    · refine lv_aload_n hx hb dX0_obey_157 rfl (lv_at hl 2 rfl) ?_
      refine va_get (D := D) (ci := 0) (v := .int (nI ((pl + 1) % 16))) (C := RX0) (T := TX0) (N := 7) hx hb hts iX0_obey_X0 hown hK hP 0 rfl rfl 2 (by decide) (hts _ mX0_obey_f21) (fun _ h9 => h9) rfl dX0_obey_158 ?_
      refine va_put (D := D) (ci := 0) (v := .int (nI ((pl + 1) % 16))) (ty := .int) (C := RX0) (T := TX0) (N := 7) hx hb hts iX0_obey_X0 tyX0 tyX0_ok nmX0 hown hK hP hD hS 0 rfl rfl 2 (by decide) (hts _ mX0_obey_f21) (fun _ h9 => h9) rfl (by decide +kernel) rfl rfl (Nat.le_of_ble_eq_true rfl) dX0_obey_161 (fun H locs hP hD hS => ?_)
      have hP : va_P D vwCl (wMc cA a (u.1, u.2.1, (nI ((pl + 1) % 16)), u.2.2.2.1, u.2.2.2.2.1, (u.2.2.2.2.2.1 + 1), u.2.2.2.2.2.2)) H := hP
      have hD : va_D A (wMc cA a (u.1, u.2.1, (nI ((pl + 1) % 16)), u.2.2.2.1, u.2.2.2.2.1, (u.2.2.2.2.2.1 + 1), u.2.2.2.2.2.2)) := hD
      refine lv_goto (tgt := 192) hx hb dX0_obey_164 (by decide) ?_
      exact mu_vret hx hb hr hlocks dX0_obey_192 hAe hS (by have e9 : obeyS u pl w = (u.1, u.2.1, (nI ((pl + 1) % 16)), u.2.2.2.1, u.2.2.2.2.1, (u.2.2.2.2.2.1 + 1), u.2.2.2.2.2.2) := (by simp only [obeyS, hc_34, c_147, if_true, if_false] <;> rfl); rw [e9]; exact hP)
    · refine lv_iload_n hx hb dX0_obey_150 rfl (lv_at hl 0 rfl) ?_
      refine lv_bipush (v := 16) hx hb dX0_obey_151 (by decide) ?_
      refine lz_irem (v := (nI (w % 32 % 16))) hx hb dX0_obey_153 (by decide) (pk_rem (d := 16) (by omega) (by decide) (by decide)) ?_
      refine lv_goto (tgt := 161) hx hb dX0_obey_154 (by decide) ?_
      refine va_put (D := D) (ci := 0) (v := .int (nI (w % 32 % 16))) (ty := .int) (C := RX0) (T := TX0) (N := 7) hx hb hts iX0_obey_X0 tyX0 tyX0_ok nmX0 hown hK hP hD hS 0 rfl rfl 2 (by decide) (hts _ mX0_obey_f21) (fun _ h9 => h9) rfl (by decide +kernel) rfl rfl (Nat.le_of_ble_eq_true rfl) dX0_obey_161 (fun H locs hP hD hS => ?_)
      have hP : va_P D vwCl (wMc cA a (u.1, u.2.1, (nI (w % 32 % 16)), u.2.2.2.1, u.2.2.2.2.1, (u.2.2.2.2.2.1 + 1), u.2.2.2.2.2.2)) H := hP
      have hD : va_D A (wMc cA a (u.1, u.2.1, (nI (w % 32 % 16)), u.2.2.2.1, u.2.2.2.2.1, (u.2.2.2.2.2.1 + 1), u.2.2.2.2.2.2)) := hD
      refine lv_goto (tgt := 192) hx hb dX0_obey_164 (by decide) ?_
      exact mu_vret hx hb hr hlocks dX0_obey_192 hAe hS (by have e9 : obeyS u pl w = (u.1, u.2.1, (nI (w % 32 % 16)), u.2.2.2.1, u.2.2.2.2.1, (u.2.2.2.2.2.1 + 1), u.2.2.2.2.2.2) := (by simp only [obeyS, hc_34, c_147, if_true, if_false] <;> rfl); rw [e9]; exact hP)
  · refine lz_top (v := 6) (by rw [hc_34]; rfl) ?_
    refine lv_tableIn (tgt := 167) (off := 133) hx hb dX0_obey_34 (by decide) (by decide) rfl (by decide) ?_
    refine lv_aload_n hx hb dX0_obey_167 rfl (lv_at hl 2 rfl) ?_
    refine lv_aload_n hx hb dX0_obey_168 rfl (lv_at hl 2 rfl) ?_
    refine va_get (D := D) (ci := 0) (v := .int u.2.2.2.1) (C := RX0) (T := TX0) (N := 7) hx hb hts iX0_obey_X0 hown hK hP 0 rfl rfl 3 (by decide) (hts _ mX0_obey_f25) (fun _ h9 => h9) rfl dX0_obey_169 ?_
    refine lv_sipush (v := 256) hx hb dX0_obey_172 (by decide) ?_
    refine lv_iadd hx hb dX0_obey_175 ?_
    refine lv_iload_n hx hb dX0_obey_176 rfl (lv_at hl 0 rfl) ?_
    refine lv_isub hx hb dX0_obey_177 ?_
    refine lv_sipush (v := 256) hx hb dX0_obey_178 (by decide) ?_
    refine lz_irem (v := (remF ((u.2.2.2.1 + 256) - (nI (w % 32))) 256)) hx hb dX0_obey_181 (by decide) rfl ?_
    refine va_put (D := D) (ci := 0) (v := .int (remF ((u.2.2.2.1 + 256) - (nI (w % 32))) 256)) (ty := .int) (C := RX0) (T := TX0) (N := 7) hx hb hts iX0_obey_X0 tyX0 tyX0_ok nmX0 hown hK hP hD hS 0 rfl rfl 3 (by decide) (hts _ mX0_obey_f25) (fun _ h9 => h9) rfl (by decide +kernel) rfl rfl (Nat.le_of_ble_eq_true rfl) dX0_obey_182 (fun H locs hP hD hS => ?_)
    have hP : va_P D vwCl (wMc cA a (u.1, u.2.1, (nI ((pl + 1) % 16)), (remF ((u.2.2.2.1 + 256) - (nI (w % 32))) 256), u.2.2.2.2.1, (u.2.2.2.2.2.1 + 1), u.2.2.2.2.2.2)) H := hP
    have hD : va_D A (wMc cA a (u.1, u.2.1, (nI ((pl + 1) % 16)), (remF ((u.2.2.2.1 + 256) - (nI (w % 32))) 256), u.2.2.2.2.1, (u.2.2.2.2.2.1 + 1), u.2.2.2.2.2.2)) := hD
    refine lv_goto (tgt := 192) hx hb dX0_obey_185 (by decide) ?_
    exact mu_vret hx hb hr hlocks dX0_obey_192 hAe hS (by have e9 : obeyS u pl w = (u.1, u.2.1, (nI ((pl + 1) % 16)), (remF ((u.2.2.2.1 + 256) - (nI (w % 32))) 256), u.2.2.2.2.1, (u.2.2.2.2.2.1 + 1), u.2.2.2.2.2.2) := (by simp only [obeyS, hc_34, if_true, if_false] <;> rfl); rw [e9]; exact hP)
  · refine lz_top (v := 7) (by rw [hc_34]; rfl) ?_
    refine lv_tableOut (tgt := 188) hx hb dX0_obey_34 (by decide) (by decide) ?_
    refine lv_aload_n hx hb dX0_obey_188 rfl (lv_at hl 2 rfl) ?_
    refine mu_V (ci := 0) (q0 := 0) (As := []) (rest := []) (ws' := (wMc cA a (u.1, (shiftLa u.2.1 u.2.2.2.1), (nI ((pl + 1) % 16)), u.2.2.2.1, u.2.2.2.2.1, (u.2.2.2.2.2.1 + 1), (u.2.2.2.2.2.2 + 1)))) ⟨hx, hb, hml, hown, hts⟩ (c_X0_tellCount l D cA _ a (u.1, u.2.1, (nI ((pl + 1) % 16)), u.2.2.2.1, u.2.2.2.2.1, (u.2.2.2.2.2.1 + 1), u.2.2.2.2.2.2)  hP (hD.weaken (fun _ _ _ _ => trivial))) (cwV 0 hts gX0_obey_X0_tellCount rfl rfl rfl (by decide +kernel) ⟨Nat.le_of_ble_eq_true rfl, Nat.le_of_ble_eq_true rfl⟩) hKN hP hD hS hA rfl rfl [0, 1, 2] rfl ((wMc_fst _ _ _).trans (wMc_fst _ _ _).symm) rfl rfl hl.1 rfl (lv_room (Nat.le_of_ble_eq_true rfl)) dX0_obey_189 ⟨Nat.zero_le _, Nat.zero_le _⟩ (fun H locs hP hD hS => ?_)
    exact mu_vret hx hb hr hlocks dX0_obey_192 hAe hS (by have e9 : obeyS u pl w = (u.1, (shiftLa u.2.1 u.2.2.2.1), (nI ((pl + 1) % 16)), u.2.2.2.1, u.2.2.2.2.1, (u.2.2.2.2.2.1 + 1), (u.2.2.2.2.2.2 + 1)) := (by simp only [obeyS, hc_34, if_true, if_false] <;> rfl); rw [e9]; exact hP)
