-- the loom: saved states, and the methods of the face that write
theorem mX1_push_f11 : Cond.fieldLink RX1 11 "WireLoom$Past" "saved" "[LWireLoom$State;" ∈ wsX1_push := by decide +kernel
theorem mX1_push_f16 : Cond.fieldLink RX1 16 "WireLoom$Past" "oldest" "I" ∈ wsX1_push := by decide +kernel
theorem mX1_push_f20 : Cond.fieldLink RX1 20 "WireLoom$Past" "size" "I" ∈ wsX1_push := by decide +kernel
set_option maxRecDepth 20000 in
theorem iX1_push_X1 : ∀ w ∈ wsX10, w ∈ wsX1_push := by decide +kernel
set_option maxHeartbeats 4000000 in
set_option maxRecDepth 100000 in
theorem c_X1_push (l : Launch) (D : va_G) (cA : Nat → ClassId) (H : Heap) (Ad : Nat → Nat → Nat) (f : Nat → SV) (o z : Nat) (tx : TV) (rt : (Nat → Int32) × (Nat → Int32)) (ho : o < 6) (hz6 : z ≤ 6) (hz : (f 0).2.2.2.2.2.2.2.2.2.2.2.1 = 0 ∨ (f 0).2.2.2.2.2.2.2.2.2.2.2.1 = 1) (hP0 : va_P D vwCl (all cA Ad (f, ((nI o), (nI z)), tx, rt)) H) (hD0 : va_D (fun _ => True) (all cA Ad (f, ((nI o), (nI z)), tx, rt))) : MU l yX1_push wsX1_push ({ frames := 3, cells := 0, slots := 0, locals := 72 } : Room) D cA [.ref (Ad 11 0), .ref (Ad 0 0)] H (all cA Ad (f, ((nI o), (nI z)), tx, rt)) (all cA Ad (upS f (4 + (o + z) % 6) (f 0), (nI (if z < 6 then o else (o + 1) % 6), nI (if z < 6 then z + 1 else z)), tx, rt)) none := by
  refine Met.ofW (cc := cX1_push) (maxL := 2) (ret := none) (by decide) rfl ?_
  intro p e s m args below meth c s₁ B hml hv
  obtain ⟨rfl, hH, hKN⟩ := hv
  have hK := hKN.1
  have hx := B.exec
  have hb := B.bytes
  have hr := B.returns
  have hts := atoms_spec (ws := wsX1_push) B.pre
  have hown : s.vm.findClass RX1 = some m.cls := findClass_of_methodNamed B.named
  have hlocks := B.notSynchronized
  subst hH
  have hWD := hD0.self (sz := s.heap.size)
  generalize hAe : va_A (all cA Ad (f, ((nI o), (nI z)), tx, rt)) s.heap.size = A at hWD ⊢
  have hA : ∀ q : Nat, s.heap.size ≤ q → A q := fun q h => by rw [← hAe]; exact Or.inr h
  have hS : va_S A s.heap s.heap [] := va_S.rf
  have hWP : va_P D vwCl (all cA Ad (f, ((nI o), (nI z)), tx, rt)) s.heap := hP0
  have hl := lv_entry ([.ref (Ad 11 0), .ref (Ad 0 0)] : List Value) (n := 2) (Nat.le_of_ble_eq_true rfl)
  rw [lg_entry_eq]
  generalize (lg_sl ([.ref (Ad 11 0), .ref (Ad 0 0)] : List Value) ++ List.replicate (2 - (lg_sl ([.ref (Ad 11 0), .ref (Ad 0 0)] : List Value)).length) Slot.unset).toArray = ls at hl ⊢
  have hl : lv_has ls 2 [(0, .ref (Ad 11 0)), (1, .ref (Ad 0 0))] := hl
  refine lv_aload_n hx hb dX1_push_0 rfl (lv_at hl 0 rfl) ?_
  have hP : va_P D vwCl ((wPa cA Ad ((nI o), (nI z))) ++ (rst cA Ad (f, ((nI o), (nI z)), tx, rt) 11)) s.heap := lw_fP 11 (by decide) hWP
  have hD : va_D A ((wPa cA Ad ((nI o), (nI z))) ++ (rst cA Ad (f, ((nI o), (nI z)), tx, rt) 11)) := lw_fD 11 (by decide) hWD
  refine va_get (D := D) (ci := 1) (v := .ref (Ad 11 1)) (C := RX1) (T := TX1) (N := 3) hx hb hts iX1_push_X1 hown hK hP 0 rfl rfl 0 (by decide) (hts _ mX1_push_f11) (fun _ h9 => h9) rfl dX1_push_1 ?_
  refine lv_aload_n hx hb dX1_push_4 rfl (lv_at hl 0 rfl) ?_
  refine va_get (D := D) (ci := 1) (v := .int (nI o)) (C := RX1) (T := TX1) (N := 3) hx hb hts iX1_push_X1 hown hK hP 0 rfl rfl 1 (by decide) (hts _ mX1_push_f16) (fun _ h9 => h9) rfl dX1_push_5 ?_
  refine lv_aload_n hx hb dX1_push_8 rfl (lv_at hl 0 rfl) ?_
  refine va_get (D := D) (ci := 1) (v := .int (nI z)) (C := RX1) (T := TX1) (N := 3) hx hb hts iX1_push_X1 hown hK hP 0 rfl rfl 2 (by decide) (hts _ mX1_push_f20) (fun _ h9 => h9) rfl dX1_push_9 ?_
  refine lz_iadd (v := (nI (o + z))) hx hb dX1_push_12 (nI_add _ _) ?_
  refine lv_bipush (v := 6) hx hb dX1_push_13 (by decide) ?_
  refine lz_irem (v := (nI ((o + z) % 6))) hx hb dX1_push_15 (by decide) (pk_rem (d := 6) (by omega) (by decide) (by decide)) ?_
  have hs_16 : ((o + z) % 6) = 0 ∨ ((o + z) % 6) = 1 ∨ ((o + z) % 6) = 2 ∨ ((o + z) % 6) = 3 ∨ ((o + z) % 6) = 4 ∨ ((o + z) % 6) = 5 := (by omega)
  rcases hs_16 with hs_16 | hs_16 | hs_16 | hs_16 | hs_16 | hs_16
  · refine lz_top (v := 0) (by rw [hs_16]; rfl) ?_
    refine lz_aldr (k := 0) (f := (fun i => some (Ad (i + 4) 0))) (q := Ad 4 0) hx hb hK hP 1 rfl rfl rfl ⟨by decide, by decide⟩ dX1_push_16 ?_
    refine lv_aload_n hx hb dX1_push_17 rfl (lv_at hl 1 rfl) ?_
    have hP : va_P D vwCl (((wSt cA (Ad 4) (f 4)) ++ (wSt cA (Ad 0) (f 0))) ++ (rst2 cA Ad (f, ((nI o), (nI z)), tx, rt) 4 0)) s.heap := lw_fP2 4 0 (by decide) hWP
    have hD : va_D A (((wSt cA (Ad 4) (f 4)) ++ (wSt cA (Ad 0) (f 0))) ++ (rst2 cA Ad (f, ((nI o), (nI z)), tx, rt) 4 0)) := lw_fD2 4 0 (by decide) hWD
    refine mu_Va (ci := 2) (q0 := 0) (As := [.ref (Ad 0 0)]) (rest := []) ⟨hx, hb, hml, hown, hts⟩ (c_X2_become l D cA _ (Ad 4) (Ad 0) (f 4) (f 0) hz (va_P_l hP) (va_D_l hD)) (cwV 1 hts gX1_push_X2_become rfl rfl rfl (by decide +kernel) ⟨Nat.le_of_ble_eq_true rfl, Nat.le_of_ble_eq_true rfl⟩) hKN hP hD hS hA rfl rfl (fst_app ((wSt_fst _ _ _).trans (wSt_fst _ _ _).symm) ((wSt_fst _ _ _).trans (wSt_fst _ _ _).symm)) rfl hl.1 rfl (lv_room (Nat.le_of_ble_eq_true rfl)) dX1_push_18 ⟨Nat.zero_le _, Nat.zero_le _⟩ (fun H locs hP hD hS => ?_)
    have hP : va_P D vwCl (((wSt cA (Ad 4) (f 0)) ++ (wSt cA (Ad 0) (f 0))) ++ (rst2 cA Ad (f, ((nI o), (nI z)), tx, rt) 4 0)) H := hP
    have hD : va_D A (((wSt cA (Ad 4) (f 0)) ++ (wSt cA (Ad 0) (f 0))) ++ (rst2 cA Ad (f, ((nI o), (nI z)), tx, rt) 4 0)) := hD
    refine lv_aload_n hx hb dX1_push_21 rfl (lv_at hl 0 rfl) ?_
    have hWP : va_P D vwCl (all cA Ad ((upS f 4 (f 0)), ((nI o), (nI z)), tx, rt)) H := lw_uP2 4 0 ((upS f 4 (f 0)), ((nI o), (nI z)), tx, rt) (by decide) (bc_st 4 _ (by decide)) hP
    have hWD : va_D A (all cA Ad ((upS f 4 (f 0)), ((nI o), (nI z)), tx, rt)) := lw_uD2 4 0 ((upS f 4 (f 0)), ((nI o), (nI z)), tx, rt) (by decide) (bc_st 4 _ (by decide)) hD
    have hP : va_P D vwCl ((wPa cA Ad ((nI o), (nI z))) ++ (rst cA Ad ((upS f 4 (f 0)), ((nI o), (nI z)), tx, rt) 11)) H := lw_fP 11 (by decide) hWP
    have hD : va_D A ((wPa cA Ad ((nI o), (nI z))) ++ (rst cA Ad ((upS f 4 (f 0)), ((nI o), (nI z)), tx, rt) 11)) := lw_fD 11 (by decide) hWD
    refine va_get (D := D) (ci := 1) (v := .int (nI z)) (C := RX1) (T := TX1) (N := 3) hx hb hts iX1_push_X1 hown hK hP 0 rfl rfl 2 (by decide) (hts _ mX1_push_f20) (fun _ h9 => h9) rfl dX1_push_22 ?_
    refine lv_bipush (v := 6) hx hb dX1_push_25 (by decide) ?_
    refine lv_icmp_ge (tgt := 43) hx hb dX1_push_27 (by decide) (fun c_27 => ?_) (fun c_27 => ?_)
    · refine lv_aload_n hx hb dX1_push_43 rfl (lv_at hl 0 rfl) ?_
      refine lv_aload_n hx hb dX1_push_44 rfl (lv_at hl 0 rfl) ?_
      refine va_get (D := D) (ci := 1) (v := .int (nI o)) (C := RX1) (T := TX1) (N := 3) hx hb hts iX1_push_X1 hown hK hP 0 rfl rfl 1 (by decide) (hts _ mX1_push_f16) (fun _ h9 => h9) rfl dX1_push_45 ?_
      refine lv_iconst (v := 1) hx hb dX1_push_48 (by decide) ?_
      refine lz_iadd (v := (nI (o + 1))) hx hb dX1_push_49 (nI_add _ _) ?_
      refine lv_bipush (v := 6) hx hb dX1_push_50 (by decide) ?_
      refine lz_irem (v := (nI ((o + 1) % 6))) hx hb dX1_push_52 (by decide) (pk_rem (d := 6) (by omega) (by decide) (by decide)) ?_
      refine va_put (D := D) (ci := 1) (v := .int (nI ((o + 1) % 6))) (ty := .int) (C := RX1) (T := TX1) (N := 3) hx hb hts iX1_push_X1 tyX1 tyX1_ok nmX1 hown hK hP hD hS 0 rfl rfl 1 (by decide) (hts _ mX1_push_f16) (fun _ h9 => h9) rfl (by decide +kernel) rfl rfl (Nat.le_of_ble_eq_true rfl) dX1_push_53 (fun H locs hP hD hS => ?_)
      have hP : va_P D vwCl ((wPa cA Ad ((nI ((o + 1) % 6)), (nI z))) ++ (rst cA Ad ((upS f 4 (f 0)), ((nI o), (nI z)), tx, rt) 11)) H := hP
      have hD : va_D A ((wPa cA Ad ((nI ((o + 1) % 6)), (nI z))) ++ (rst cA Ad ((upS f 4 (f 0)), ((nI o), (nI z)), tx, rt) 11)) := hD
      have hWP : va_P D vwCl (all cA Ad ((upS f 4 (f 0)), ((nI ((o + 1) % 6)), (nI z)), tx, rt)) H := lw_uP 11 ((upS f 4 (f 0)), ((nI ((o + 1) % 6)), (nI z)), tx, rt) (by decide) bc_pa hP
      have hWD : va_D A (all cA Ad ((upS f 4 (f 0)), ((nI ((o + 1) % 6)), (nI z)), tx, rt)) := lw_uD 11 ((upS f 4 (f 0)), ((nI ((o + 1) % 6)), (nI z)), tx, rt) (by decide) bc_pa hD
      exact mu_vret hx hb hr hlocks dX1_push_56 hAe hS (by have h6 : 6 ≤ z := (nI_leI (a := 6) (by decide) (by omega)).mp c_27; rw [hs_16, if_neg (by omega), if_neg (by omega)]; exact hWP)
    · refine lv_aload_n hx hb dX1_push_30 rfl (lv_at hl 0 rfl) ?_
      refine lv_dup hx hb dX1_push_31 rfl ?_
      refine va_get (D := D) (ci := 1) (v := .int (nI z)) (C := RX1) (T := TX1) (N := 3) hx hb hts iX1_push_X1 hown hK hP 0 rfl rfl 2 (by decide) (hts _ mX1_push_f20) (fun _ h9 => h9) rfl dX1_push_32 ?_
      refine lv_iconst (v := 1) hx hb dX1_push_35 (by decide) ?_
      refine lz_iadd (v := (nI (z + 1))) hx hb dX1_push_36 (nI_add _ _) ?_
      refine va_put (D := D) (ci := 1) (v := .int (nI (z + 1))) (ty := .int) (C := RX1) (T := TX1) (N := 3) hx hb hts iX1_push_X1 tyX1 tyX1_ok nmX1 hown hK hP hD hS 0 rfl rfl 2 (by decide) (hts _ mX1_push_f20) (fun _ h9 => h9) rfl (by decide +kernel) rfl rfl (Nat.le_of_ble_eq_true rfl) dX1_push_37 (fun H locs hP hD hS => ?_)
      have hP : va_P D vwCl ((wPa cA Ad ((nI o), (nI (z + 1)))) ++ (rst cA Ad ((upS f 4 (f 0)), ((nI o), (nI z)), tx, rt) 11)) H := hP
      have hD : va_D A ((wPa cA Ad ((nI o), (nI (z + 1)))) ++ (rst cA Ad ((upS f 4 (f 0)), ((nI o), (nI z)), tx, rt) 11)) := hD
      refine lv_goto (tgt := 56) hx hb dX1_push_40 (by decide) ?_
      have hWP : va_P D vwCl (all cA Ad ((upS f 4 (f 0)), ((nI o), (nI (z + 1))), tx, rt)) H := lw_uP 11 ((upS f 4 (f 0)), ((nI o), (nI (z + 1))), tx, rt) (by decide) bc_pa hP
      have hWD : va_D A (all cA Ad ((upS f 4 (f 0)), ((nI o), (nI (z + 1))), tx, rt)) := lw_uD 11 ((upS f 4 (f 0)), ((nI o), (nI (z + 1))), tx, rt) (by decide) bc_pa hD
      exact mu_vret hx hb hr hlocks dX1_push_56 hAe hS (by have h6 : ¬ 6 ≤ z := fun h => c_27 ((nI_leI (a := 6) (by decide) (by omega)).mpr h); rw [hs_16, if_pos (by omega), if_pos (by omega)]; exact hWP)
  · refine lz_top (v := 1) (by rw [hs_16]; rfl) ?_
    refine lz_aldr (k := 1) (f := (fun i => some (Ad (i + 4) 0))) (q := Ad 5 0) hx hb hK hP 1 rfl rfl rfl ⟨by decide, by decide⟩ dX1_push_16 ?_
    refine lv_aload_n hx hb dX1_push_17 rfl (lv_at hl 1 rfl) ?_
    have hP : va_P D vwCl (((wSt cA (Ad 5) (f 5)) ++ (wSt cA (Ad 0) (f 0))) ++ (rst2 cA Ad (f, ((nI o), (nI z)), tx, rt) 5 0)) s.heap := lw_fP2 5 0 (by decide) hWP
    have hD : va_D A (((wSt cA (Ad 5) (f 5)) ++ (wSt cA (Ad 0) (f 0))) ++ (rst2 cA Ad (f, ((nI o), (nI z)), tx, rt) 5 0)) := lw_fD2 5 0 (by decide) hWD
    refine mu_Va (ci := 2) (q0 := 0) (As := [.ref (Ad 0 0)]) (rest := []) ⟨hx, hb, hml, hown, hts⟩ (c_X2_become l D cA _ (Ad 5) (Ad 0) (f 5) (f 0) hz (va_P_l hP) (va_D_l hD)) (cwV 1 hts gX1_push_X2_become rfl rfl rfl (by decide +kernel) ⟨Nat.le_of_ble_eq_true rfl, Nat.le_of_ble_eq_true rfl⟩) hKN hP hD hS hA rfl rfl (fst_app ((wSt_fst _ _ _).trans (wSt_fst _ _ _).symm) ((wSt_fst _ _ _).trans (wSt_fst _ _ _).symm)) rfl hl.1 rfl (lv_room (Nat.le_of_ble_eq_true rfl)) dX1_push_18 ⟨Nat.zero_le _, Nat.zero_le _⟩ (fun H locs hP hD hS => ?_)
    have hP : va_P D vwCl (((wSt cA (Ad 5) (f 0)) ++ (wSt cA (Ad 0) (f 0))) ++ (rst2 cA Ad (f, ((nI o), (nI z)), tx, rt) 5 0)) H := hP
    have hD : va_D A (((wSt cA (Ad 5) (f 0)) ++ (wSt cA (Ad 0) (f 0))) ++ (rst2 cA Ad (f, ((nI o), (nI z)), tx, rt) 5 0)) := hD
    refine lv_aload_n hx hb dX1_push_21 rfl (lv_at hl 0 rfl) ?_
    have hWP : va_P D vwCl (all cA Ad ((upS f 5 (f 0)), ((nI o), (nI z)), tx, rt)) H := lw_uP2 5 0 ((upS f 5 (f 0)), ((nI o), (nI z)), tx, rt) (by decide) (bc_st 5 _ (by decide)) hP
    have hWD : va_D A (all cA Ad ((upS f 5 (f 0)), ((nI o), (nI z)), tx, rt)) := lw_uD2 5 0 ((upS f 5 (f 0)), ((nI o), (nI z)), tx, rt) (by decide) (bc_st 5 _ (by decide)) hD
    have hP : va_P D vwCl ((wPa cA Ad ((nI o), (nI z))) ++ (rst cA Ad ((upS f 5 (f 0)), ((nI o), (nI z)), tx, rt) 11)) H := lw_fP 11 (by decide) hWP
    have hD : va_D A ((wPa cA Ad ((nI o), (nI z))) ++ (rst cA Ad ((upS f 5 (f 0)), ((nI o), (nI z)), tx, rt) 11)) := lw_fD 11 (by decide) hWD
    refine va_get (D := D) (ci := 1) (v := .int (nI z)) (C := RX1) (T := TX1) (N := 3) hx hb hts iX1_push_X1 hown hK hP 0 rfl rfl 2 (by decide) (hts _ mX1_push_f20) (fun _ h9 => h9) rfl dX1_push_22 ?_
    refine lv_bipush (v := 6) hx hb dX1_push_25 (by decide) ?_
    refine lv_icmp_ge (tgt := 43) hx hb dX1_push_27 (by decide) (fun c_27 => ?_) (fun c_27 => ?_)
    · refine lv_aload_n hx hb dX1_push_43 rfl (lv_at hl 0 rfl) ?_
      refine lv_aload_n hx hb dX1_push_44 rfl (lv_at hl 0 rfl) ?_
      refine va_get (D := D) (ci := 1) (v := .int (nI o)) (C := RX1) (T := TX1) (N := 3) hx hb hts iX1_push_X1 hown hK hP 0 rfl rfl 1 (by decide) (hts _ mX1_push_f16) (fun _ h9 => h9) rfl dX1_push_45 ?_
      refine lv_iconst (v := 1) hx hb dX1_push_48 (by decide) ?_
      refine lz_iadd (v := (nI (o + 1))) hx hb dX1_push_49 (nI_add _ _) ?_
      refine lv_bipush (v := 6) hx hb dX1_push_50 (by decide) ?_
      refine lz_irem (v := (nI ((o + 1) % 6))) hx hb dX1_push_52 (by decide) (pk_rem (d := 6) (by omega) (by decide) (by decide)) ?_
      refine va_put (D := D) (ci := 1) (v := .int (nI ((o + 1) % 6))) (ty := .int) (C := RX1) (T := TX1) (N := 3) hx hb hts iX1_push_X1 tyX1 tyX1_ok nmX1 hown hK hP hD hS 0 rfl rfl 1 (by decide) (hts _ mX1_push_f16) (fun _ h9 => h9) rfl (by decide +kernel) rfl rfl (Nat.le_of_ble_eq_true rfl) dX1_push_53 (fun H locs hP hD hS => ?_)
      have hP : va_P D vwCl ((wPa cA Ad ((nI ((o + 1) % 6)), (nI z))) ++ (rst cA Ad ((upS f 5 (f 0)), ((nI o), (nI z)), tx, rt) 11)) H := hP
      have hD : va_D A ((wPa cA Ad ((nI ((o + 1) % 6)), (nI z))) ++ (rst cA Ad ((upS f 5 (f 0)), ((nI o), (nI z)), tx, rt) 11)) := hD
      have hWP : va_P D vwCl (all cA Ad ((upS f 5 (f 0)), ((nI ((o + 1) % 6)), (nI z)), tx, rt)) H := lw_uP 11 ((upS f 5 (f 0)), ((nI ((o + 1) % 6)), (nI z)), tx, rt) (by decide) bc_pa hP
      have hWD : va_D A (all cA Ad ((upS f 5 (f 0)), ((nI ((o + 1) % 6)), (nI z)), tx, rt)) := lw_uD 11 ((upS f 5 (f 0)), ((nI ((o + 1) % 6)), (nI z)), tx, rt) (by decide) bc_pa hD
      exact mu_vret hx hb hr hlocks dX1_push_56 hAe hS (by have h6 : 6 ≤ z := (nI_leI (a := 6) (by decide) (by omega)).mp c_27; rw [hs_16, if_neg (by omega), if_neg (by omega)]; exact hWP)
    · refine lv_aload_n hx hb dX1_push_30 rfl (lv_at hl 0 rfl) ?_
      refine lv_dup hx hb dX1_push_31 rfl ?_
      refine va_get (D := D) (ci := 1) (v := .int (nI z)) (C := RX1) (T := TX1) (N := 3) hx hb hts iX1_push_X1 hown hK hP 0 rfl rfl 2 (by decide) (hts _ mX1_push_f20) (fun _ h9 => h9) rfl dX1_push_32 ?_
      refine lv_iconst (v := 1) hx hb dX1_push_35 (by decide) ?_
      refine lz_iadd (v := (nI (z + 1))) hx hb dX1_push_36 (nI_add _ _) ?_
      refine va_put (D := D) (ci := 1) (v := .int (nI (z + 1))) (ty := .int) (C := RX1) (T := TX1) (N := 3) hx hb hts iX1_push_X1 tyX1 tyX1_ok nmX1 hown hK hP hD hS 0 rfl rfl 2 (by decide) (hts _ mX1_push_f20) (fun _ h9 => h9) rfl (by decide +kernel) rfl rfl (Nat.le_of_ble_eq_true rfl) dX1_push_37 (fun H locs hP hD hS => ?_)
      have hP : va_P D vwCl ((wPa cA Ad ((nI o), (nI (z + 1)))) ++ (rst cA Ad ((upS f 5 (f 0)), ((nI o), (nI z)), tx, rt) 11)) H := hP
      have hD : va_D A ((wPa cA Ad ((nI o), (nI (z + 1)))) ++ (rst cA Ad ((upS f 5 (f 0)), ((nI o), (nI z)), tx, rt) 11)) := hD
      refine lv_goto (tgt := 56) hx hb dX1_push_40 (by decide) ?_
      have hWP : va_P D vwCl (all cA Ad ((upS f 5 (f 0)), ((nI o), (nI (z + 1))), tx, rt)) H := lw_uP 11 ((upS f 5 (f 0)), ((nI o), (nI (z + 1))), tx, rt) (by decide) bc_pa hP
      have hWD : va_D A (all cA Ad ((upS f 5 (f 0)), ((nI o), (nI (z + 1))), tx, rt)) := lw_uD 11 ((upS f 5 (f 0)), ((nI o), (nI (z + 1))), tx, rt) (by decide) bc_pa hD
      exact mu_vret hx hb hr hlocks dX1_push_56 hAe hS (by have h6 : ¬ 6 ≤ z := fun h => c_27 ((nI_leI (a := 6) (by decide) (by omega)).mpr h); rw [hs_16, if_pos (by omega), if_pos (by omega)]; exact hWP)
  · refine lz_top (v := 2) (by rw [hs_16]; rfl) ?_
    refine lz_aldr (k := 2) (f := (fun i => some (Ad (i + 4) 0))) (q := Ad 6 0) hx hb hK hP 1 rfl rfl rfl ⟨by decide, by decide⟩ dX1_push_16 ?_
    refine lv_aload_n hx hb dX1_push_17 rfl (lv_at hl 1 rfl) ?_
    have hP : va_P D vwCl (((wSt cA (Ad 6) (f 6)) ++ (wSt cA (Ad 0) (f 0))) ++ (rst2 cA Ad (f, ((nI o), (nI z)), tx, rt) 6 0)) s.heap := lw_fP2 6 0 (by decide) hWP
    have hD : va_D A (((wSt cA (Ad 6) (f 6)) ++ (wSt cA (Ad 0) (f 0))) ++ (rst2 cA Ad (f, ((nI o), (nI z)), tx, rt) 6 0)) := lw_fD2 6 0 (by decide) hWD
    refine mu_Va (ci := 2) (q0 := 0) (As := [.ref (Ad 0 0)]) (rest := []) ⟨hx, hb, hml, hown, hts⟩ (c_X2_become l D cA _ (Ad 6) (Ad 0) (f 6) (f 0) hz (va_P_l hP) (va_D_l hD)) (cwV 1 hts gX1_push_X2_become rfl rfl rfl (by decide +kernel) ⟨Nat.le_of_ble_eq_true rfl, Nat.le_of_ble_eq_true rfl⟩) hKN hP hD hS hA rfl rfl (fst_app ((wSt_fst _ _ _).trans (wSt_fst _ _ _).symm) ((wSt_fst _ _ _).trans (wSt_fst _ _ _).symm)) rfl hl.1 rfl (lv_room (Nat.le_of_ble_eq_true rfl)) dX1_push_18 ⟨Nat.zero_le _, Nat.zero_le _⟩ (fun H locs hP hD hS => ?_)
    have hP : va_P D vwCl (((wSt cA (Ad 6) (f 0)) ++ (wSt cA (Ad 0) (f 0))) ++ (rst2 cA Ad (f, ((nI o), (nI z)), tx, rt) 6 0)) H := hP
    have hD : va_D A (((wSt cA (Ad 6) (f 0)) ++ (wSt cA (Ad 0) (f 0))) ++ (rst2 cA Ad (f, ((nI o), (nI z)), tx, rt) 6 0)) := hD
    refine lv_aload_n hx hb dX1_push_21 rfl (lv_at hl 0 rfl) ?_
    have hWP : va_P D vwCl (all cA Ad ((upS f 6 (f 0)), ((nI o), (nI z)), tx, rt)) H := lw_uP2 6 0 ((upS f 6 (f 0)), ((nI o), (nI z)), tx, rt) (by decide) (bc_st 6 _ (by decide)) hP
    have hWD : va_D A (all cA Ad ((upS f 6 (f 0)), ((nI o), (nI z)), tx, rt)) := lw_uD2 6 0 ((upS f 6 (f 0)), ((nI o), (nI z)), tx, rt) (by decide) (bc_st 6 _ (by decide)) hD
    have hP : va_P D vwCl ((wPa cA Ad ((nI o), (nI z))) ++ (rst cA Ad ((upS f 6 (f 0)), ((nI o), (nI z)), tx, rt) 11)) H := lw_fP 11 (by decide) hWP
    have hD : va_D A ((wPa cA Ad ((nI o), (nI z))) ++ (rst cA Ad ((upS f 6 (f 0)), ((nI o), (nI z)), tx, rt) 11)) := lw_fD 11 (by decide) hWD
    refine va_get (D := D) (ci := 1) (v := .int (nI z)) (C := RX1) (T := TX1) (N := 3) hx hb hts iX1_push_X1 hown hK hP 0 rfl rfl 2 (by decide) (hts _ mX1_push_f20) (fun _ h9 => h9) rfl dX1_push_22 ?_
    refine lv_bipush (v := 6) hx hb dX1_push_25 (by decide) ?_
    refine lv_icmp_ge (tgt := 43) hx hb dX1_push_27 (by decide) (fun c_27 => ?_) (fun c_27 => ?_)
    · refine lv_aload_n hx hb dX1_push_43 rfl (lv_at hl 0 rfl) ?_
      refine lv_aload_n hx hb dX1_push_44 rfl (lv_at hl 0 rfl) ?_
      refine va_get (D := D) (ci := 1) (v := .int (nI o)) (C := RX1) (T := TX1) (N := 3) hx hb hts iX1_push_X1 hown hK hP 0 rfl rfl 1 (by decide) (hts _ mX1_push_f16) (fun _ h9 => h9) rfl dX1_push_45 ?_
      refine lv_iconst (v := 1) hx hb dX1_push_48 (by decide) ?_
      refine lz_iadd (v := (nI (o + 1))) hx hb dX1_push_49 (nI_add _ _) ?_
      refine lv_bipush (v := 6) hx hb dX1_push_50 (by decide) ?_
      refine lz_irem (v := (nI ((o + 1) % 6))) hx hb dX1_push_52 (by decide) (pk_rem (d := 6) (by omega) (by decide) (by decide)) ?_
      refine va_put (D := D) (ci := 1) (v := .int (nI ((o + 1) % 6))) (ty := .int) (C := RX1) (T := TX1) (N := 3) hx hb hts iX1_push_X1 tyX1 tyX1_ok nmX1 hown hK hP hD hS 0 rfl rfl 1 (by decide) (hts _ mX1_push_f16) (fun _ h9 => h9) rfl (by decide +kernel) rfl rfl (Nat.le_of_ble_eq_true rfl) dX1_push_53 (fun H locs hP hD hS => ?_)
      have hP : va_P D vwCl ((wPa cA Ad ((nI ((o + 1) % 6)), (nI z))) ++ (rst cA Ad ((upS f 6 (f 0)), ((nI o), (nI z)), tx, rt) 11)) H := hP
      have hD : va_D A ((wPa cA Ad ((nI ((o + 1) % 6)), (nI z))) ++ (rst cA Ad ((upS f 6 (f 0)), ((nI o), (nI z)), tx, rt) 11)) := hD
      have hWP : va_P D vwCl (all cA Ad ((upS f 6 (f 0)), ((nI ((o + 1) % 6)), (nI z)), tx, rt)) H := lw_uP 11 ((upS f 6 (f 0)), ((nI ((o + 1) % 6)), (nI z)), tx, rt) (by decide) bc_pa hP
      have hWD : va_D A (all cA Ad ((upS f 6 (f 0)), ((nI ((o + 1) % 6)), (nI z)), tx, rt)) := lw_uD 11 ((upS f 6 (f 0)), ((nI ((o + 1) % 6)), (nI z)), tx, rt) (by decide) bc_pa hD
      exact mu_vret hx hb hr hlocks dX1_push_56 hAe hS (by have h6 : 6 ≤ z := (nI_leI (a := 6) (by decide) (by omega)).mp c_27; rw [hs_16, if_neg (by omega), if_neg (by omega)]; exact hWP)
    · refine lv_aload_n hx hb dX1_push_30 rfl (lv_at hl 0 rfl) ?_
      refine lv_dup hx hb dX1_push_31 rfl ?_
      refine va_get (D := D) (ci := 1) (v := .int (nI z)) (C := RX1) (T := TX1) (N := 3) hx hb hts iX1_push_X1 hown hK hP 0 rfl rfl 2 (by decide) (hts _ mX1_push_f20) (fun _ h9 => h9) rfl dX1_push_32 ?_
      refine lv_iconst (v := 1) hx hb dX1_push_35 (by decide) ?_
      refine lz_iadd (v := (nI (z + 1))) hx hb dX1_push_36 (nI_add _ _) ?_
      refine va_put (D := D) (ci := 1) (v := .int (nI (z + 1))) (ty := .int) (C := RX1) (T := TX1) (N := 3) hx hb hts iX1_push_X1 tyX1 tyX1_ok nmX1 hown hK hP hD hS 0 rfl rfl 2 (by decide) (hts _ mX1_push_f20) (fun _ h9 => h9) rfl (by decide +kernel) rfl rfl (Nat.le_of_ble_eq_true rfl) dX1_push_37 (fun H locs hP hD hS => ?_)
      have hP : va_P D vwCl ((wPa cA Ad ((nI o), (nI (z + 1)))) ++ (rst cA Ad ((upS f 6 (f 0)), ((nI o), (nI z)), tx, rt) 11)) H := hP
      have hD : va_D A ((wPa cA Ad ((nI o), (nI (z + 1)))) ++ (rst cA Ad ((upS f 6 (f 0)), ((nI o), (nI z)), tx, rt) 11)) := hD
      refine lv_goto (tgt := 56) hx hb dX1_push_40 (by decide) ?_
      have hWP : va_P D vwCl (all cA Ad ((upS f 6 (f 0)), ((nI o), (nI (z + 1))), tx, rt)) H := lw_uP 11 ((upS f 6 (f 0)), ((nI o), (nI (z + 1))), tx, rt) (by decide) bc_pa hP
      have hWD : va_D A (all cA Ad ((upS f 6 (f 0)), ((nI o), (nI (z + 1))), tx, rt)) := lw_uD 11 ((upS f 6 (f 0)), ((nI o), (nI (z + 1))), tx, rt) (by decide) bc_pa hD
      exact mu_vret hx hb hr hlocks dX1_push_56 hAe hS (by have h6 : ¬ 6 ≤ z := fun h => c_27 ((nI_leI (a := 6) (by decide) (by omega)).mpr h); rw [hs_16, if_pos (by omega), if_pos (by omega)]; exact hWP)
  · refine lz_top (v := 3) (by rw [hs_16]; rfl) ?_
    refine lz_aldr (k := 3) (f := (fun i => some (Ad (i + 4) 0))) (q := Ad 7 0) hx hb hK hP 1 rfl rfl rfl ⟨by decide, by decide⟩ dX1_push_16 ?_
    refine lv_aload_n hx hb dX1_push_17 rfl (lv_at hl 1 rfl) ?_
    have hP : va_P D vwCl (((wSt cA (Ad 7) (f 7)) ++ (wSt cA (Ad 0) (f 0))) ++ (rst2 cA Ad (f, ((nI o), (nI z)), tx, rt) 7 0)) s.heap := lw_fP2 7 0 (by decide) hWP
    have hD : va_D A (((wSt cA (Ad 7) (f 7)) ++ (wSt cA (Ad 0) (f 0))) ++ (rst2 cA Ad (f, ((nI o), (nI z)), tx, rt) 7 0)) := lw_fD2 7 0 (by decide) hWD
    refine mu_Va (ci := 2) (q0 := 0) (As := [.ref (Ad 0 0)]) (rest := []) ⟨hx, hb, hml, hown, hts⟩ (c_X2_become l D cA _ (Ad 7) (Ad 0) (f 7) (f 0) hz (va_P_l hP) (va_D_l hD)) (cwV 1 hts gX1_push_X2_become rfl rfl rfl (by decide +kernel) ⟨Nat.le_of_ble_eq_true rfl, Nat.le_of_ble_eq_true rfl⟩) hKN hP hD hS hA rfl rfl (fst_app ((wSt_fst _ _ _).trans (wSt_fst _ _ _).symm) ((wSt_fst _ _ _).trans (wSt_fst _ _ _).symm)) rfl hl.1 rfl (lv_room (Nat.le_of_ble_eq_true rfl)) dX1_push_18 ⟨Nat.zero_le _, Nat.zero_le _⟩ (fun H locs hP hD hS => ?_)
    have hP : va_P D vwCl (((wSt cA (Ad 7) (f 0)) ++ (wSt cA (Ad 0) (f 0))) ++ (rst2 cA Ad (f, ((nI o), (nI z)), tx, rt) 7 0)) H := hP
    have hD : va_D A (((wSt cA (Ad 7) (f 0)) ++ (wSt cA (Ad 0) (f 0))) ++ (rst2 cA Ad (f, ((nI o), (nI z)), tx, rt) 7 0)) := hD
    refine lv_aload_n hx hb dX1_push_21 rfl (lv_at hl 0 rfl) ?_
    have hWP : va_P D vwCl (all cA Ad ((upS f 7 (f 0)), ((nI o), (nI z)), tx, rt)) H := lw_uP2 7 0 ((upS f 7 (f 0)), ((nI o), (nI z)), tx, rt) (by decide) (bc_st 7 _ (by decide)) hP
    have hWD : va_D A (all cA Ad ((upS f 7 (f 0)), ((nI o), (nI z)), tx, rt)) := lw_uD2 7 0 ((upS f 7 (f 0)), ((nI o), (nI z)), tx, rt) (by decide) (bc_st 7 _ (by decide)) hD
    have hP : va_P D vwCl ((wPa cA Ad ((nI o), (nI z))) ++ (rst cA Ad ((upS f 7 (f 0)), ((nI o), (nI z)), tx, rt) 11)) H := lw_fP 11 (by decide) hWP
    have hD : va_D A ((wPa cA Ad ((nI o), (nI z))) ++ (rst cA Ad ((upS f 7 (f 0)), ((nI o), (nI z)), tx, rt) 11)) := lw_fD 11 (by decide) hWD
    refine va_get (D := D) (ci := 1) (v := .int (nI z)) (C := RX1) (T := TX1) (N := 3) hx hb hts iX1_push_X1 hown hK hP 0 rfl rfl 2 (by decide) (hts _ mX1_push_f20) (fun _ h9 => h9) rfl dX1_push_22 ?_
    refine lv_bipush (v := 6) hx hb dX1_push_25 (by decide) ?_
    refine lv_icmp_ge (tgt := 43) hx hb dX1_push_27 (by decide) (fun c_27 => ?_) (fun c_27 => ?_)
    · refine lv_aload_n hx hb dX1_push_43 rfl (lv_at hl 0 rfl) ?_
      refine lv_aload_n hx hb dX1_push_44 rfl (lv_at hl 0 rfl) ?_
      refine va_get (D := D) (ci := 1) (v := .int (nI o)) (C := RX1) (T := TX1) (N := 3) hx hb hts iX1_push_X1 hown hK hP 0 rfl rfl 1 (by decide) (hts _ mX1_push_f16) (fun _ h9 => h9) rfl dX1_push_45 ?_
      refine lv_iconst (v := 1) hx hb dX1_push_48 (by decide) ?_
      refine lz_iadd (v := (nI (o + 1))) hx hb dX1_push_49 (nI_add _ _) ?_
      refine lv_bipush (v := 6) hx hb dX1_push_50 (by decide) ?_
      refine lz_irem (v := (nI ((o + 1) % 6))) hx hb dX1_push_52 (by decide) (pk_rem (d := 6) (by omega) (by decide) (by decide)) ?_
      refine va_put (D := D) (ci := 1) (v := .int (nI ((o + 1) % 6))) (ty := .int) (C := RX1) (T := TX1) (N := 3) hx hb hts iX1_push_X1 tyX1 tyX1_ok nmX1 hown hK hP hD hS 0 rfl rfl 1 (by decide) (hts _ mX1_push_f16) (fun _ h9 => h9) rfl (by decide +kernel) rfl rfl (Nat.le_of_ble_eq_true rfl) dX1_push_53 (fun H locs hP hD hS => ?_)
      have hP : va_P D vwCl ((wPa cA Ad ((nI ((o + 1) % 6)), (nI z))) ++ (rst cA Ad ((upS f 7 (f 0)), ((nI o), (nI z)), tx, rt) 11)) H := hP
      have hD : va_D A ((wPa cA Ad ((nI ((o + 1) % 6)), (nI z))) ++ (rst cA Ad ((upS f 7 (f 0)), ((nI o), (nI z)), tx, rt) 11)) := hD
      have hWP : va_P D vwCl (all cA Ad ((upS f 7 (f 0)), ((nI ((o + 1) % 6)), (nI z)), tx, rt)) H := lw_uP 11 ((upS f 7 (f 0)), ((nI ((o + 1) % 6)), (nI z)), tx, rt) (by decide) bc_pa hP
      have hWD : va_D A (all cA Ad ((upS f 7 (f 0)), ((nI ((o + 1) % 6)), (nI z)), tx, rt)) := lw_uD 11 ((upS f 7 (f 0)), ((nI ((o + 1) % 6)), (nI z)), tx, rt) (by decide) bc_pa hD
      exact mu_vret hx hb hr hlocks dX1_push_56 hAe hS (by have h6 : 6 ≤ z := (nI_leI (a := 6) (by decide) (by omega)).mp c_27; rw [hs_16, if_neg (by omega), if_neg (by omega)]; exact hWP)
    · refine lv_aload_n hx hb dX1_push_30 rfl (lv_at hl 0 rfl) ?_
      refine lv_dup hx hb dX1_push_31 rfl ?_
      refine va_get (D := D) (ci := 1) (v := .int (nI z)) (C := RX1) (T := TX1) (N := 3) hx hb hts iX1_push_X1 hown hK hP 0 rfl rfl 2 (by decide) (hts _ mX1_push_f20) (fun _ h9 => h9) rfl dX1_push_32 ?_
      refine lv_iconst (v := 1) hx hb dX1_push_35 (by decide) ?_
      refine lz_iadd (v := (nI (z + 1))) hx hb dX1_push_36 (nI_add _ _) ?_
      refine va_put (D := D) (ci := 1) (v := .int (nI (z + 1))) (ty := .int) (C := RX1) (T := TX1) (N := 3) hx hb hts iX1_push_X1 tyX1 tyX1_ok nmX1 hown hK hP hD hS 0 rfl rfl 2 (by decide) (hts _ mX1_push_f20) (fun _ h9 => h9) rfl (by decide +kernel) rfl rfl (Nat.le_of_ble_eq_true rfl) dX1_push_37 (fun H locs hP hD hS => ?_)
      have hP : va_P D vwCl ((wPa cA Ad ((nI o), (nI (z + 1)))) ++ (rst cA Ad ((upS f 7 (f 0)), ((nI o), (nI z)), tx, rt) 11)) H := hP
      have hD : va_D A ((wPa cA Ad ((nI o), (nI (z + 1)))) ++ (rst cA Ad ((upS f 7 (f 0)), ((nI o), (nI z)), tx, rt) 11)) := hD
      refine lv_goto (tgt := 56) hx hb dX1_push_40 (by decide) ?_
      have hWP : va_P D vwCl (all cA Ad ((upS f 7 (f 0)), ((nI o), (nI (z + 1))), tx, rt)) H := lw_uP 11 ((upS f 7 (f 0)), ((nI o), (nI (z + 1))), tx, rt) (by decide) bc_pa hP
      have hWD : va_D A (all cA Ad ((upS f 7 (f 0)), ((nI o), (nI (z + 1))), tx, rt)) := lw_uD 11 ((upS f 7 (f 0)), ((nI o), (nI (z + 1))), tx, rt) (by decide) bc_pa hD
      exact mu_vret hx hb hr hlocks dX1_push_56 hAe hS (by have h6 : ¬ 6 ≤ z := fun h => c_27 ((nI_leI (a := 6) (by decide) (by omega)).mpr h); rw [hs_16, if_pos (by omega), if_pos (by omega)]; exact hWP)
  · refine lz_top (v := 4) (by rw [hs_16]; rfl) ?_
    refine lz_aldr (k := 4) (f := (fun i => some (Ad (i + 4) 0))) (q := Ad 8 0) hx hb hK hP 1 rfl rfl rfl ⟨by decide, by decide⟩ dX1_push_16 ?_
    refine lv_aload_n hx hb dX1_push_17 rfl (lv_at hl 1 rfl) ?_
    have hP : va_P D vwCl (((wSt cA (Ad 8) (f 8)) ++ (wSt cA (Ad 0) (f 0))) ++ (rst2 cA Ad (f, ((nI o), (nI z)), tx, rt) 8 0)) s.heap := lw_fP2 8 0 (by decide) hWP
    have hD : va_D A (((wSt cA (Ad 8) (f 8)) ++ (wSt cA (Ad 0) (f 0))) ++ (rst2 cA Ad (f, ((nI o), (nI z)), tx, rt) 8 0)) := lw_fD2 8 0 (by decide) hWD
    refine mu_Va (ci := 2) (q0 := 0) (As := [.ref (Ad 0 0)]) (rest := []) ⟨hx, hb, hml, hown, hts⟩ (c_X2_become l D cA _ (Ad 8) (Ad 0) (f 8) (f 0) hz (va_P_l hP) (va_D_l hD)) (cwV 1 hts gX1_push_X2_become rfl rfl rfl (by decide +kernel) ⟨Nat.le_of_ble_eq_true rfl, Nat.le_of_ble_eq_true rfl⟩) hKN hP hD hS hA rfl rfl (fst_app ((wSt_fst _ _ _).trans (wSt_fst _ _ _).symm) ((wSt_fst _ _ _).trans (wSt_fst _ _ _).symm)) rfl hl.1 rfl (lv_room (Nat.le_of_ble_eq_true rfl)) dX1_push_18 ⟨Nat.zero_le _, Nat.zero_le _⟩ (fun H locs hP hD hS => ?_)
    have hP : va_P D vwCl (((wSt cA (Ad 8) (f 0)) ++ (wSt cA (Ad 0) (f 0))) ++ (rst2 cA Ad (f, ((nI o), (nI z)), tx, rt) 8 0)) H := hP
    have hD : va_D A (((wSt cA (Ad 8) (f 0)) ++ (wSt cA (Ad 0) (f 0))) ++ (rst2 cA Ad (f, ((nI o), (nI z)), tx, rt) 8 0)) := hD
    refine lv_aload_n hx hb dX1_push_21 rfl (lv_at hl 0 rfl) ?_
    have hWP : va_P D vwCl (all cA Ad ((upS f 8 (f 0)), ((nI o), (nI z)), tx, rt)) H := lw_uP2 8 0 ((upS f 8 (f 0)), ((nI o), (nI z)), tx, rt) (by decide) (bc_st 8 _ (by decide)) hP
    have hWD : va_D A (all cA Ad ((upS f 8 (f 0)), ((nI o), (nI z)), tx, rt)) := lw_uD2 8 0 ((upS f 8 (f 0)), ((nI o), (nI z)), tx, rt) (by decide) (bc_st 8 _ (by decide)) hD
    have hP : va_P D vwCl ((wPa cA Ad ((nI o), (nI z))) ++ (rst cA Ad ((upS f 8 (f 0)), ((nI o), (nI z)), tx, rt) 11)) H := lw_fP 11 (by decide) hWP
    have hD : va_D A ((wPa cA Ad ((nI o), (nI z))) ++ (rst cA Ad ((upS f 8 (f 0)), ((nI o), (nI z)), tx, rt) 11)) := lw_fD 11 (by decide) hWD
    refine va_get (D := D) (ci := 1) (v := .int (nI z)) (C := RX1) (T := TX1) (N := 3) hx hb hts iX1_push_X1 hown hK hP 0 rfl rfl 2 (by decide) (hts _ mX1_push_f20) (fun _ h9 => h9) rfl dX1_push_22 ?_
    refine lv_bipush (v := 6) hx hb dX1_push_25 (by decide) ?_
    refine lv_icmp_ge (tgt := 43) hx hb dX1_push_27 (by decide) (fun c_27 => ?_) (fun c_27 => ?_)
    · refine lv_aload_n hx hb dX1_push_43 rfl (lv_at hl 0 rfl) ?_
      refine lv_aload_n hx hb dX1_push_44 rfl (lv_at hl 0 rfl) ?_
      refine va_get (D := D) (ci := 1) (v := .int (nI o)) (C := RX1) (T := TX1) (N := 3) hx hb hts iX1_push_X1 hown hK hP 0 rfl rfl 1 (by decide) (hts _ mX1_push_f16) (fun _ h9 => h9) rfl dX1_push_45 ?_
      refine lv_iconst (v := 1) hx hb dX1_push_48 (by decide) ?_
      refine lz_iadd (v := (nI (o + 1))) hx hb dX1_push_49 (nI_add _ _) ?_
      refine lv_bipush (v := 6) hx hb dX1_push_50 (by decide) ?_
      refine lz_irem (v := (nI ((o + 1) % 6))) hx hb dX1_push_52 (by decide) (pk_rem (d := 6) (by omega) (by decide) (by decide)) ?_
      refine va_put (D := D) (ci := 1) (v := .int (nI ((o + 1) % 6))) (ty := .int) (C := RX1) (T := TX1) (N := 3) hx hb hts iX1_push_X1 tyX1 tyX1_ok nmX1 hown hK hP hD hS 0 rfl rfl 1 (by decide) (hts _ mX1_push_f16) (fun _ h9 => h9) rfl (by decide +kernel) rfl rfl (Nat.le_of_ble_eq_true rfl) dX1_push_53 (fun H locs hP hD hS => ?_)
      have hP : va_P D vwCl ((wPa cA Ad ((nI ((o + 1) % 6)), (nI z))) ++ (rst cA Ad ((upS f 8 (f 0)), ((nI o), (nI z)), tx, rt) 11)) H := hP
      have hD : va_D A ((wPa cA Ad ((nI ((o + 1) % 6)), (nI z))) ++ (rst cA Ad ((upS f 8 (f 0)), ((nI o), (nI z)), tx, rt) 11)) := hD
      have hWP : va_P D vwCl (all cA Ad ((upS f 8 (f 0)), ((nI ((o + 1) % 6)), (nI z)), tx, rt)) H := lw_uP 11 ((upS f 8 (f 0)), ((nI ((o + 1) % 6)), (nI z)), tx, rt) (by decide) bc_pa hP
      have hWD : va_D A (all cA Ad ((upS f 8 (f 0)), ((nI ((o + 1) % 6)), (nI z)), tx, rt)) := lw_uD 11 ((upS f 8 (f 0)), ((nI ((o + 1) % 6)), (nI z)), tx, rt) (by decide) bc_pa hD
      exact mu_vret hx hb hr hlocks dX1_push_56 hAe hS (by have h6 : 6 ≤ z := (nI_leI (a := 6) (by decide) (by omega)).mp c_27; rw [hs_16, if_neg (by omega), if_neg (by omega)]; exact hWP)
    · refine lv_aload_n hx hb dX1_push_30 rfl (lv_at hl 0 rfl) ?_
      refine lv_dup hx hb dX1_push_31 rfl ?_
      refine va_get (D := D) (ci := 1) (v := .int (nI z)) (C := RX1) (T := TX1) (N := 3) hx hb hts iX1_push_X1 hown hK hP 0 rfl rfl 2 (by decide) (hts _ mX1_push_f20) (fun _ h9 => h9) rfl dX1_push_32 ?_
      refine lv_iconst (v := 1) hx hb dX1_push_35 (by decide) ?_
      refine lz_iadd (v := (nI (z + 1))) hx hb dX1_push_36 (nI_add _ _) ?_
      refine va_put (D := D) (ci := 1) (v := .int (nI (z + 1))) (ty := .int) (C := RX1) (T := TX1) (N := 3) hx hb hts iX1_push_X1 tyX1 tyX1_ok nmX1 hown hK hP hD hS 0 rfl rfl 2 (by decide) (hts _ mX1_push_f20) (fun _ h9 => h9) rfl (by decide +kernel) rfl rfl (Nat.le_of_ble_eq_true rfl) dX1_push_37 (fun H locs hP hD hS => ?_)
      have hP : va_P D vwCl ((wPa cA Ad ((nI o), (nI (z + 1)))) ++ (rst cA Ad ((upS f 8 (f 0)), ((nI o), (nI z)), tx, rt) 11)) H := hP
      have hD : va_D A ((wPa cA Ad ((nI o), (nI (z + 1)))) ++ (rst cA Ad ((upS f 8 (f 0)), ((nI o), (nI z)), tx, rt) 11)) := hD
      refine lv_goto (tgt := 56) hx hb dX1_push_40 (by decide) ?_
      have hWP : va_P D vwCl (all cA Ad ((upS f 8 (f 0)), ((nI o), (nI (z + 1))), tx, rt)) H := lw_uP 11 ((upS f 8 (f 0)), ((nI o), (nI (z + 1))), tx, rt) (by decide) bc_pa hP
      have hWD : va_D A (all cA Ad ((upS f 8 (f 0)), ((nI o), (nI (z + 1))), tx, rt)) := lw_uD 11 ((upS f 8 (f 0)), ((nI o), (nI (z + 1))), tx, rt) (by decide) bc_pa hD
      exact mu_vret hx hb hr hlocks dX1_push_56 hAe hS (by have h6 : ¬ 6 ≤ z := fun h => c_27 ((nI_leI (a := 6) (by decide) (by omega)).mpr h); rw [hs_16, if_pos (by omega), if_pos (by omega)]; exact hWP)
  · refine lz_top (v := 5) (by rw [hs_16]; rfl) ?_
    refine lz_aldr (k := 5) (f := (fun i => some (Ad (i + 4) 0))) (q := Ad 9 0) hx hb hK hP 1 rfl rfl rfl ⟨by decide, by decide⟩ dX1_push_16 ?_
    refine lv_aload_n hx hb dX1_push_17 rfl (lv_at hl 1 rfl) ?_
    have hP : va_P D vwCl (((wSt cA (Ad 9) (f 9)) ++ (wSt cA (Ad 0) (f 0))) ++ (rst2 cA Ad (f, ((nI o), (nI z)), tx, rt) 9 0)) s.heap := lw_fP2 9 0 (by decide) hWP
    have hD : va_D A (((wSt cA (Ad 9) (f 9)) ++ (wSt cA (Ad 0) (f 0))) ++ (rst2 cA Ad (f, ((nI o), (nI z)), tx, rt) 9 0)) := lw_fD2 9 0 (by decide) hWD
    refine mu_Va (ci := 2) (q0 := 0) (As := [.ref (Ad 0 0)]) (rest := []) ⟨hx, hb, hml, hown, hts⟩ (c_X2_become l D cA _ (Ad 9) (Ad 0) (f 9) (f 0) hz (va_P_l hP) (va_D_l hD)) (cwV 1 hts gX1_push_X2_become rfl rfl rfl (by decide +kernel) ⟨Nat.le_of_ble_eq_true rfl, Nat.le_of_ble_eq_true rfl⟩) hKN hP hD hS hA rfl rfl (fst_app ((wSt_fst _ _ _).trans (wSt_fst _ _ _).symm) ((wSt_fst _ _ _).trans (wSt_fst _ _ _).symm)) rfl hl.1 rfl (lv_room (Nat.le_of_ble_eq_true rfl)) dX1_push_18 ⟨Nat.zero_le _, Nat.zero_le _⟩ (fun H locs hP hD hS => ?_)
    have hP : va_P D vwCl (((wSt cA (Ad 9) (f 0)) ++ (wSt cA (Ad 0) (f 0))) ++ (rst2 cA Ad (f, ((nI o), (nI z)), tx, rt) 9 0)) H := hP
    have hD : va_D A (((wSt cA (Ad 9) (f 0)) ++ (wSt cA (Ad 0) (f 0))) ++ (rst2 cA Ad (f, ((nI o), (nI z)), tx, rt) 9 0)) := hD
    refine lv_aload_n hx hb dX1_push_21 rfl (lv_at hl 0 rfl) ?_
    have hWP : va_P D vwCl (all cA Ad ((upS f 9 (f 0)), ((nI o), (nI z)), tx, rt)) H := lw_uP2 9 0 ((upS f 9 (f 0)), ((nI o), (nI z)), tx, rt) (by decide) (bc_st 9 _ (by decide)) hP
    have hWD : va_D A (all cA Ad ((upS f 9 (f 0)), ((nI o), (nI z)), tx, rt)) := lw_uD2 9 0 ((upS f 9 (f 0)), ((nI o), (nI z)), tx, rt) (by decide) (bc_st 9 _ (by decide)) hD
    have hP : va_P D vwCl ((wPa cA Ad ((nI o), (nI z))) ++ (rst cA Ad ((upS f 9 (f 0)), ((nI o), (nI z)), tx, rt) 11)) H := lw_fP 11 (by decide) hWP
    have hD : va_D A ((wPa cA Ad ((nI o), (nI z))) ++ (rst cA Ad ((upS f 9 (f 0)), ((nI o), (nI z)), tx, rt) 11)) := lw_fD 11 (by decide) hWD
    refine va_get (D := D) (ci := 1) (v := .int (nI z)) (C := RX1) (T := TX1) (N := 3) hx hb hts iX1_push_X1 hown hK hP 0 rfl rfl 2 (by decide) (hts _ mX1_push_f20) (fun _ h9 => h9) rfl dX1_push_22 ?_
    refine lv_bipush (v := 6) hx hb dX1_push_25 (by decide) ?_
    refine lv_icmp_ge (tgt := 43) hx hb dX1_push_27 (by decide) (fun c_27 => ?_) (fun c_27 => ?_)
    · refine lv_aload_n hx hb dX1_push_43 rfl (lv_at hl 0 rfl) ?_
      refine lv_aload_n hx hb dX1_push_44 rfl (lv_at hl 0 rfl) ?_
      refine va_get (D := D) (ci := 1) (v := .int (nI o)) (C := RX1) (T := TX1) (N := 3) hx hb hts iX1_push_X1 hown hK hP 0 rfl rfl 1 (by decide) (hts _ mX1_push_f16) (fun _ h9 => h9) rfl dX1_push_45 ?_
      refine lv_iconst (v := 1) hx hb dX1_push_48 (by decide) ?_
      refine lz_iadd (v := (nI (o + 1))) hx hb dX1_push_49 (nI_add _ _) ?_
      refine lv_bipush (v := 6) hx hb dX1_push_50 (by decide) ?_
      refine lz_irem (v := (nI ((o + 1) % 6))) hx hb dX1_push_52 (by decide) (pk_rem (d := 6) (by omega) (by decide) (by decide)) ?_
      refine va_put (D := D) (ci := 1) (v := .int (nI ((o + 1) % 6))) (ty := .int) (C := RX1) (T := TX1) (N := 3) hx hb hts iX1_push_X1 tyX1 tyX1_ok nmX1 hown hK hP hD hS 0 rfl rfl 1 (by decide) (hts _ mX1_push_f16) (fun _ h9 => h9) rfl (by decide +kernel) rfl rfl (Nat.le_of_ble_eq_true rfl) dX1_push_53 (fun H locs hP hD hS => ?_)
      have hP : va_P D vwCl ((wPa cA Ad ((nI ((o + 1) % 6)), (nI z))) ++ (rst cA Ad ((upS f 9 (f 0)), ((nI o), (nI z)), tx, rt) 11)) H := hP
      have hD : va_D A ((wPa cA Ad ((nI ((o + 1) % 6)), (nI z))) ++ (rst cA Ad ((upS f 9 (f 0)), ((nI o), (nI z)), tx, rt) 11)) := hD
      have hWP : va_P D vwCl (all cA Ad ((upS f 9 (f 0)), ((nI ((o + 1) % 6)), (nI z)), tx, rt)) H := lw_uP 11 ((upS f 9 (f 0)), ((nI ((o + 1) % 6)), (nI z)), tx, rt) (by decide) bc_pa hP
      have hWD : va_D A (all cA Ad ((upS f 9 (f 0)), ((nI ((o + 1) % 6)), (nI z)), tx, rt)) := lw_uD 11 ((upS f 9 (f 0)), ((nI ((o + 1) % 6)), (nI z)), tx, rt) (by decide) bc_pa hD
      exact mu_vret hx hb hr hlocks dX1_push_56 hAe hS (by have h6 : 6 ≤ z := (nI_leI (a := 6) (by decide) (by omega)).mp c_27; rw [hs_16, if_neg (by omega), if_neg (by omega)]; exact hWP)
    · refine lv_aload_n hx hb dX1_push_30 rfl (lv_at hl 0 rfl) ?_
      refine lv_dup hx hb dX1_push_31 rfl ?_
      refine va_get (D := D) (ci := 1) (v := .int (nI z)) (C := RX1) (T := TX1) (N := 3) hx hb hts iX1_push_X1 hown hK hP 0 rfl rfl 2 (by decide) (hts _ mX1_push_f20) (fun _ h9 => h9) rfl dX1_push_32 ?_
      refine lv_iconst (v := 1) hx hb dX1_push_35 (by decide) ?_
      refine lz_iadd (v := (nI (z + 1))) hx hb dX1_push_36 (nI_add _ _) ?_
      refine va_put (D := D) (ci := 1) (v := .int (nI (z + 1))) (ty := .int) (C := RX1) (T := TX1) (N := 3) hx hb hts iX1_push_X1 tyX1 tyX1_ok nmX1 hown hK hP hD hS 0 rfl rfl 2 (by decide) (hts _ mX1_push_f20) (fun _ h9 => h9) rfl (by decide +kernel) rfl rfl (Nat.le_of_ble_eq_true rfl) dX1_push_37 (fun H locs hP hD hS => ?_)
      have hP : va_P D vwCl ((wPa cA Ad ((nI o), (nI (z + 1)))) ++ (rst cA Ad ((upS f 9 (f 0)), ((nI o), (nI z)), tx, rt) 11)) H := hP
      have hD : va_D A ((wPa cA Ad ((nI o), (nI (z + 1)))) ++ (rst cA Ad ((upS f 9 (f 0)), ((nI o), (nI z)), tx, rt) 11)) := hD
      refine lv_goto (tgt := 56) hx hb dX1_push_40 (by decide) ?_
      have hWP : va_P D vwCl (all cA Ad ((upS f 9 (f 0)), ((nI o), (nI (z + 1))), tx, rt)) H := lw_uP 11 ((upS f 9 (f 0)), ((nI o), (nI (z + 1))), tx, rt) (by decide) bc_pa hP
      have hWD : va_D A (all cA Ad ((upS f 9 (f 0)), ((nI o), (nI (z + 1))), tx, rt)) := lw_uD 11 ((upS f 9 (f 0)), ((nI o), (nI (z + 1))), tx, rt) (by decide) bc_pa hD
      exact mu_vret hx hb hr hlocks dX1_push_56 hAe hS (by have h6 : ¬ 6 ≤ z := fun h => c_27 ((nI_leI (a := 6) (by decide) (by omega)).mpr h); rw [hs_16, if_pos (by omega), if_pos (by omega)]; exact hWP)
theorem mX1_popInto_f20 : Cond.fieldLink RX1 20 "WireLoom$Past" "size" "I" ∈ wsX1_popInto := by decide +kernel
theorem mX1_popInto_f11 : Cond.fieldLink RX1 11 "WireLoom$Past" "saved" "[LWireLoom$State;" ∈ wsX1_popInto := by decide +kernel
theorem mX1_popInto_f16 : Cond.fieldLink RX1 16 "WireLoom$Past" "oldest" "I" ∈ wsX1_popInto := by decide +kernel
set_option maxRecDepth 20000 in
theorem iX1_popInto_X1 : ∀ w ∈ wsX10, w ∈ wsX1_popInto := by decide +kernel
set_option maxHeartbeats 4000000 in
set_option maxRecDepth 100000 in
theorem c_X1_popInto (l : Launch) (D : va_G) (cA : Nat → ClassId) (H : Heap) (Ad : Nat → Nat → Nat) (f : Nat → SV) (o z : Nat) (tx : TV) (rt : (Nat → Int32) × (Nat → Int32)) (ho : o < 6) (hz6 : z < 6) (hz : (f (4 + (o + z) % 6)).2.2.2.2.2.2.2.2.2.2.2.1 = 0 ∨ (f (4 + (o + z) % 6)).2.2.2.2.2.2.2.2.2.2.2.1 = 1) (hP0 : va_P D vwCl (all cA Ad (f, ((nI o), (nI (z + 1))), tx, rt)) H) (hD0 : va_D (fun _ => True) (all cA Ad (f, ((nI o), (nI (z + 1))), tx, rt))) : MU l yX1_popInto wsX1_popInto ({ frames := 3, cells := 0, slots := 0, locals := 72 } : Room) D cA [.ref (Ad 11 0), .ref (Ad 0 0)] H (all cA Ad (f, ((nI o), (nI (z + 1))), tx, rt)) (all cA Ad (upS f 0 (f (4 + (o + z) % 6)), ((nI o), (nI z)), tx, rt)) none := by
  refine Met.ofW (cc := cX1_popInto) (maxL := 2) (ret := none) (by decide) rfl ?_
  intro p e s m args below meth c s₁ B hml hv
  obtain ⟨rfl, hH, hKN⟩ := hv
  have hK := hKN.1
  have hx := B.exec
  have hb := B.bytes
  have hr := B.returns
  have hts := atoms_spec (ws := wsX1_popInto) B.pre
  have hown : s.vm.findClass RX1 = some m.cls := findClass_of_methodNamed B.named
  have hlocks := B.notSynchronized
  subst hH
  have hWD := hD0.self (sz := s.heap.size)
  generalize hAe : va_A (all cA Ad (f, ((nI o), (nI (z + 1))), tx, rt)) s.heap.size = A at hWD ⊢
  have hA : ∀ q : Nat, s.heap.size ≤ q → A q := fun q h => by rw [← hAe]; exact Or.inr h
  have hS : va_S A s.heap s.heap [] := va_S.rf
  have hWP : va_P D vwCl (all cA Ad (f, ((nI o), (nI (z + 1))), tx, rt)) s.heap := hP0
  have hl := lv_entry ([.ref (Ad 11 0), .ref (Ad 0 0)] : List Value) (n := 2) (Nat.le_of_ble_eq_true rfl)
  rw [lg_entry_eq]
  generalize (lg_sl ([.ref (Ad 11 0), .ref (Ad 0 0)] : List Value) ++ List.replicate (2 - (lg_sl ([.ref (Ad 11 0), .ref (Ad 0 0)] : List Value)).length) Slot.unset).toArray = ls at hl ⊢
  have hl : lv_has ls 2 [(0, .ref (Ad 11 0)), (1, .ref (Ad 0 0))] := hl
  refine lv_aload_n hx hb dX1_popInto_0 rfl (lv_at hl 0 rfl) ?_
  have hP : va_P D vwCl ((wPa cA Ad ((nI o), (nI (z + 1)))) ++ (rst cA Ad (f, ((nI o), (nI (z + 1))), tx, rt) 11)) s.heap := lw_fP 11 (by decide) hWP
  have hD : va_D A ((wPa cA Ad ((nI o), (nI (z + 1)))) ++ (rst cA Ad (f, ((nI o), (nI (z + 1))), tx, rt) 11)) := lw_fD 11 (by decide) hWD
  refine va_get (D := D) (ci := 1) (v := .int (nI (z + 1))) (C := RX1) (T := TX1) (N := 3) hx hb hts iX1_popInto_X1 hown hK hP 0 rfl rfl 2 (by decide) (hts _ mX1_popInto_f20) (fun _ h9 => h9) rfl dX1_popInto_1 ?_
  refine lv_if_le (tgt := 38) hx hb dX1_popInto_4 (by decide) (fun h => absurd h (nI_nle (by omega) (by omega))) (fun _ => ?_)
  refine lv_aload_n hx hb dX1_popInto_7 rfl (lv_at hl 0 rfl) ?_
  refine lv_dup hx hb dX1_popInto_8 rfl ?_
  refine va_get (D := D) (ci := 1) (v := .int (nI (z + 1))) (C := RX1) (T := TX1) (N := 3) hx hb hts iX1_popInto_X1 hown hK hP 0 rfl rfl 2 (by decide) (hts _ mX1_popInto_f20) (fun _ h9 => h9) rfl dX1_popInto_9 ?_
  refine lv_iconst (v := 1) hx hb dX1_popInto_12 (by decide) ?_
  refine lz_isub (v := (nI z)) hx hb dX1_popInto_13 (nI_pred _) ?_
  refine va_put (D := D) (ci := 1) (v := .int (nI z)) (ty := .int) (C := RX1) (T := TX1) (N := 3) hx hb hts iX1_popInto_X1 tyX1 tyX1_ok nmX1 hown hK hP hD hS 0 rfl rfl 2 (by decide) (hts _ mX1_popInto_f20) (fun _ h9 => h9) rfl (by decide +kernel) rfl rfl (Nat.le_of_ble_eq_true rfl) dX1_popInto_14 (fun H locs hP hD hS => ?_)
  have hP : va_P D vwCl ((wPa cA Ad ((nI o), (nI z))) ++ (rst cA Ad (f, ((nI o), (nI (z + 1))), tx, rt) 11)) H := hP
  have hD : va_D A ((wPa cA Ad ((nI o), (nI z))) ++ (rst cA Ad (f, ((nI o), (nI (z + 1))), tx, rt) 11)) := hD
  refine lv_aload_n hx hb dX1_popInto_17 rfl (lv_at hl 1 rfl) ?_
  refine lv_aload_n hx hb dX1_popInto_18 rfl (lv_at hl 0 rfl) ?_
  refine va_get (D := D) (ci := 1) (v := .ref (Ad 11 1)) (C := RX1) (T := TX1) (N := 3) hx hb hts iX1_popInto_X1 hown hK hP 0 rfl rfl 0 (by decide) (hts _ mX1_popInto_f11) (fun _ h9 => h9) rfl dX1_popInto_19 ?_
  refine lv_aload_n hx hb dX1_popInto_22 rfl (lv_at hl 0 rfl) ?_
  refine va_get (D := D) (ci := 1) (v := .int (nI o)) (C := RX1) (T := TX1) (N := 3) hx hb hts iX1_popInto_X1 hown hK hP 0 rfl rfl 1 (by decide) (hts _ mX1_popInto_f16) (fun _ h9 => h9) rfl dX1_popInto_23 ?_
  refine lv_aload_n hx hb dX1_popInto_26 rfl (lv_at hl 0 rfl) ?_
  refine va_get (D := D) (ci := 1) (v := .int (nI z)) (C := RX1) (T := TX1) (N := 3) hx hb hts iX1_popInto_X1 hown hK hP 0 rfl rfl 2 (by decide) (hts _ mX1_popInto_f20) (fun _ h9 => h9) rfl dX1_popInto_27 ?_
  refine lz_iadd (v := (nI (o + z))) hx hb dX1_popInto_30 (nI_add _ _) ?_
  refine lv_bipush (v := 6) hx hb dX1_popInto_31 (by decide) ?_
  refine lz_irem (v := (nI ((o + z) % 6))) hx hb dX1_popInto_33 (by decide) (pk_rem (d := 6) (by omega) (by decide) (by decide)) ?_
  have hs_34 : ((o + z) % 6) = 0 ∨ ((o + z) % 6) = 1 ∨ ((o + z) % 6) = 2 ∨ ((o + z) % 6) = 3 ∨ ((o + z) % 6) = 4 ∨ ((o + z) % 6) = 5 := (by omega)
  rcases hs_34 with hs_34 | hs_34 | hs_34 | hs_34 | hs_34 | hs_34
  · refine lz_top (v := 0) (by rw [hs_34]; rfl) ?_
    refine lz_aldr (k := 0) (f := (fun i => some (Ad (i + 4) 0))) (q := Ad 4 0) hx hb hK hP 1 rfl rfl rfl ⟨by decide, by decide⟩ dX1_popInto_34 ?_
    rw [hs_34] at hz
    have hWP : va_P D vwCl (all cA Ad (f, ((nI o), (nI z)), tx, rt)) H := lw_uP 11 (f, ((nI o), (nI z)), tx, rt) (by decide) bc_pa hP
    have hWD : va_D A (all cA Ad (f, ((nI o), (nI z)), tx, rt)) := lw_uD 11 (f, ((nI o), (nI z)), tx, rt) (by decide) bc_pa hD
    have hP : va_P D vwCl (((wSt cA (Ad 0) (f 0)) ++ (wSt cA (Ad 4) (f 4))) ++ (rst2 cA Ad (f, ((nI o), (nI z)), tx, rt) 0 4)) H := lw_fP2 0 4 (by decide) hWP
    have hD : va_D A (((wSt cA (Ad 0) (f 0)) ++ (wSt cA (Ad 4) (f 4))) ++ (rst2 cA Ad (f, ((nI o), (nI z)), tx, rt) 0 4)) := lw_fD2 0 4 (by decide) hWD
    refine mu_Va (ci := 2) (q0 := 0) (As := [.ref (Ad 4 0)]) (rest := []) ⟨hx, hb, hml, hown, hts⟩ (c_X2_become l D cA _ (Ad 0) (Ad 4) (f 0) (f 4) hz (va_P_l hP) (va_D_l hD)) (cwV 1 hts gX1_popInto_X2_become rfl rfl rfl (by decide +kernel) ⟨Nat.le_of_ble_eq_true rfl, Nat.le_of_ble_eq_true rfl⟩) hKN hP hD hS hA rfl rfl (fst_app ((wSt_fst _ _ _).trans (wSt_fst _ _ _).symm) ((wSt_fst _ _ _).trans (wSt_fst _ _ _).symm)) rfl hl.1 rfl (lv_room (Nat.le_of_ble_eq_true rfl)) dX1_popInto_35 ⟨Nat.zero_le _, Nat.zero_le _⟩ (fun H locs hP hD hS => ?_)
    have hP : va_P D vwCl (((wSt cA (Ad 0) (f 4)) ++ (wSt cA (Ad 4) (f 4))) ++ (rst2 cA Ad (f, ((nI o), (nI z)), tx, rt) 0 4)) H := hP
    have hD : va_D A (((wSt cA (Ad 0) (f 4)) ++ (wSt cA (Ad 4) (f 4))) ++ (rst2 cA Ad (f, ((nI o), (nI z)), tx, rt) 0 4)) := hD
    have hWP : va_P D vwCl (all cA Ad ((upS f 0 (f 4)), ((nI o), (nI z)), tx, rt)) H := lw_uP2 0 4 ((upS f 0 (f 4)), ((nI o), (nI z)), tx, rt) (by decide) (bc_st 0 _ (by decide)) hP
    have hWD : va_D A (all cA Ad ((upS f 0 (f 4)), ((nI o), (nI z)), tx, rt)) := lw_uD2 0 4 ((upS f 0 (f 4)), ((nI o), (nI z)), tx, rt) (by decide) (bc_st 0 _ (by decide)) hD
    exact mu_vret hx hb hr hlocks dX1_popInto_38 hAe hS (by rw [hs_34]; exact hWP)
  · refine lz_top (v := 1) (by rw [hs_34]; rfl) ?_
    refine lz_aldr (k := 1) (f := (fun i => some (Ad (i + 4) 0))) (q := Ad 5 0) hx hb hK hP 1 rfl rfl rfl ⟨by decide, by decide⟩ dX1_popInto_34 ?_
    rw [hs_34] at hz
    have hWP : va_P D vwCl (all cA Ad (f, ((nI o), (nI z)), tx, rt)) H := lw_uP 11 (f, ((nI o), (nI z)), tx, rt) (by decide) bc_pa hP
    have hWD : va_D A (all cA Ad (f, ((nI o), (nI z)), tx, rt)) := lw_uD 11 (f, ((nI o), (nI z)), tx, rt) (by decide) bc_pa hD
    have hP : va_P D vwCl (((wSt cA (Ad 0) (f 0)) ++ (wSt cA (Ad 5) (f 5))) ++ (rst2 cA Ad (f, ((nI o), (nI z)), tx, rt) 0 5)) H := lw_fP2 0 5 (by decide) hWP
    have hD : va_D A (((wSt cA (Ad 0) (f 0)) ++ (wSt cA (Ad 5) (f 5))) ++ (rst2 cA Ad (f, ((nI o), (nI z)), tx, rt) 0 5)) := lw_fD2 0 5 (by decide) hWD
    refine mu_Va (ci := 2) (q0 := 0) (As := [.ref (Ad 5 0)]) (rest := []) ⟨hx, hb, hml, hown, hts⟩ (c_X2_become l D cA _ (Ad 0) (Ad 5) (f 0) (f 5) hz (va_P_l hP) (va_D_l hD)) (cwV 1 hts gX1_popInto_X2_become rfl rfl rfl (by decide +kernel) ⟨Nat.le_of_ble_eq_true rfl, Nat.le_of_ble_eq_true rfl⟩) hKN hP hD hS hA rfl rfl (fst_app ((wSt_fst _ _ _).trans (wSt_fst _ _ _).symm) ((wSt_fst _ _ _).trans (wSt_fst _ _ _).symm)) rfl hl.1 rfl (lv_room (Nat.le_of_ble_eq_true rfl)) dX1_popInto_35 ⟨Nat.zero_le _, Nat.zero_le _⟩ (fun H locs hP hD hS => ?_)
    have hP : va_P D vwCl (((wSt cA (Ad 0) (f 5)) ++ (wSt cA (Ad 5) (f 5))) ++ (rst2 cA Ad (f, ((nI o), (nI z)), tx, rt) 0 5)) H := hP
    have hD : va_D A (((wSt cA (Ad 0) (f 5)) ++ (wSt cA (Ad 5) (f 5))) ++ (rst2 cA Ad (f, ((nI o), (nI z)), tx, rt) 0 5)) := hD
    have hWP : va_P D vwCl (all cA Ad ((upS f 0 (f 5)), ((nI o), (nI z)), tx, rt)) H := lw_uP2 0 5 ((upS f 0 (f 5)), ((nI o), (nI z)), tx, rt) (by decide) (bc_st 0 _ (by decide)) hP
    have hWD : va_D A (all cA Ad ((upS f 0 (f 5)), ((nI o), (nI z)), tx, rt)) := lw_uD2 0 5 ((upS f 0 (f 5)), ((nI o), (nI z)), tx, rt) (by decide) (bc_st 0 _ (by decide)) hD
    exact mu_vret hx hb hr hlocks dX1_popInto_38 hAe hS (by rw [hs_34]; exact hWP)
  · refine lz_top (v := 2) (by rw [hs_34]; rfl) ?_
    refine lz_aldr (k := 2) (f := (fun i => some (Ad (i + 4) 0))) (q := Ad 6 0) hx hb hK hP 1 rfl rfl rfl ⟨by decide, by decide⟩ dX1_popInto_34 ?_
    rw [hs_34] at hz
    have hWP : va_P D vwCl (all cA Ad (f, ((nI o), (nI z)), tx, rt)) H := lw_uP 11 (f, ((nI o), (nI z)), tx, rt) (by decide) bc_pa hP
    have hWD : va_D A (all cA Ad (f, ((nI o), (nI z)), tx, rt)) := lw_uD 11 (f, ((nI o), (nI z)), tx, rt) (by decide) bc_pa hD
    have hP : va_P D vwCl (((wSt cA (Ad 0) (f 0)) ++ (wSt cA (Ad 6) (f 6))) ++ (rst2 cA Ad (f, ((nI o), (nI z)), tx, rt) 0 6)) H := lw_fP2 0 6 (by decide) hWP
    have hD : va_D A (((wSt cA (Ad 0) (f 0)) ++ (wSt cA (Ad 6) (f 6))) ++ (rst2 cA Ad (f, ((nI o), (nI z)), tx, rt) 0 6)) := lw_fD2 0 6 (by decide) hWD
    refine mu_Va (ci := 2) (q0 := 0) (As := [.ref (Ad 6 0)]) (rest := []) ⟨hx, hb, hml, hown, hts⟩ (c_X2_become l D cA _ (Ad 0) (Ad 6) (f 0) (f 6) hz (va_P_l hP) (va_D_l hD)) (cwV 1 hts gX1_popInto_X2_become rfl rfl rfl (by decide +kernel) ⟨Nat.le_of_ble_eq_true rfl, Nat.le_of_ble_eq_true rfl⟩) hKN hP hD hS hA rfl rfl (fst_app ((wSt_fst _ _ _).trans (wSt_fst _ _ _).symm) ((wSt_fst _ _ _).trans (wSt_fst _ _ _).symm)) rfl hl.1 rfl (lv_room (Nat.le_of_ble_eq_true rfl)) dX1_popInto_35 ⟨Nat.zero_le _, Nat.zero_le _⟩ (fun H locs hP hD hS => ?_)
    have hP : va_P D vwCl (((wSt cA (Ad 0) (f 6)) ++ (wSt cA (Ad 6) (f 6))) ++ (rst2 cA Ad (f, ((nI o), (nI z)), tx, rt) 0 6)) H := hP
    have hD : va_D A (((wSt cA (Ad 0) (f 6)) ++ (wSt cA (Ad 6) (f 6))) ++ (rst2 cA Ad (f, ((nI o), (nI z)), tx, rt) 0 6)) := hD
    have hWP : va_P D vwCl (all cA Ad ((upS f 0 (f 6)), ((nI o), (nI z)), tx, rt)) H := lw_uP2 0 6 ((upS f 0 (f 6)), ((nI o), (nI z)), tx, rt) (by decide) (bc_st 0 _ (by decide)) hP
    have hWD : va_D A (all cA Ad ((upS f 0 (f 6)), ((nI o), (nI z)), tx, rt)) := lw_uD2 0 6 ((upS f 0 (f 6)), ((nI o), (nI z)), tx, rt) (by decide) (bc_st 0 _ (by decide)) hD
    exact mu_vret hx hb hr hlocks dX1_popInto_38 hAe hS (by rw [hs_34]; exact hWP)
  · refine lz_top (v := 3) (by rw [hs_34]; rfl) ?_
    refine lz_aldr (k := 3) (f := (fun i => some (Ad (i + 4) 0))) (q := Ad 7 0) hx hb hK hP 1 rfl rfl rfl ⟨by decide, by decide⟩ dX1_popInto_34 ?_
    rw [hs_34] at hz
    have hWP : va_P D vwCl (all cA Ad (f, ((nI o), (nI z)), tx, rt)) H := lw_uP 11 (f, ((nI o), (nI z)), tx, rt) (by decide) bc_pa hP
    have hWD : va_D A (all cA Ad (f, ((nI o), (nI z)), tx, rt)) := lw_uD 11 (f, ((nI o), (nI z)), tx, rt) (by decide) bc_pa hD
    have hP : va_P D vwCl (((wSt cA (Ad 0) (f 0)) ++ (wSt cA (Ad 7) (f 7))) ++ (rst2 cA Ad (f, ((nI o), (nI z)), tx, rt) 0 7)) H := lw_fP2 0 7 (by decide) hWP
    have hD : va_D A (((wSt cA (Ad 0) (f 0)) ++ (wSt cA (Ad 7) (f 7))) ++ (rst2 cA Ad (f, ((nI o), (nI z)), tx, rt) 0 7)) := lw_fD2 0 7 (by decide) hWD
    refine mu_Va (ci := 2) (q0 := 0) (As := [.ref (Ad 7 0)]) (rest := []) ⟨hx, hb, hml, hown, hts⟩ (c_X2_become l D cA _ (Ad 0) (Ad 7) (f 0) (f 7) hz (va_P_l hP) (va_D_l hD)) (cwV 1 hts gX1_popInto_X2_become rfl rfl rfl (by decide +kernel) ⟨Nat.le_of_ble_eq_true rfl, Nat.le_of_ble_eq_true rfl⟩) hKN hP hD hS hA rfl rfl (fst_app ((wSt_fst _ _ _).trans (wSt_fst _ _ _).symm) ((wSt_fst _ _ _).trans (wSt_fst _ _ _).symm)) rfl hl.1 rfl (lv_room (Nat.le_of_ble_eq_true rfl)) dX1_popInto_35 ⟨Nat.zero_le _, Nat.zero_le _⟩ (fun H locs hP hD hS => ?_)
    have hP : va_P D vwCl (((wSt cA (Ad 0) (f 7)) ++ (wSt cA (Ad 7) (f 7))) ++ (rst2 cA Ad (f, ((nI o), (nI z)), tx, rt) 0 7)) H := hP
    have hD : va_D A (((wSt cA (Ad 0) (f 7)) ++ (wSt cA (Ad 7) (f 7))) ++ (rst2 cA Ad (f, ((nI o), (nI z)), tx, rt) 0 7)) := hD
    have hWP : va_P D vwCl (all cA Ad ((upS f 0 (f 7)), ((nI o), (nI z)), tx, rt)) H := lw_uP2 0 7 ((upS f 0 (f 7)), ((nI o), (nI z)), tx, rt) (by decide) (bc_st 0 _ (by decide)) hP
    have hWD : va_D A (all cA Ad ((upS f 0 (f 7)), ((nI o), (nI z)), tx, rt)) := lw_uD2 0 7 ((upS f 0 (f 7)), ((nI o), (nI z)), tx, rt) (by decide) (bc_st 0 _ (by decide)) hD
    exact mu_vret hx hb hr hlocks dX1_popInto_38 hAe hS (by rw [hs_34]; exact hWP)
  · refine lz_top (v := 4) (by rw [hs_34]; rfl) ?_
    refine lz_aldr (k := 4) (f := (fun i => some (Ad (i + 4) 0))) (q := Ad 8 0) hx hb hK hP 1 rfl rfl rfl ⟨by decide, by decide⟩ dX1_popInto_34 ?_
    rw [hs_34] at hz
    have hWP : va_P D vwCl (all cA Ad (f, ((nI o), (nI z)), tx, rt)) H := lw_uP 11 (f, ((nI o), (nI z)), tx, rt) (by decide) bc_pa hP
    have hWD : va_D A (all cA Ad (f, ((nI o), (nI z)), tx, rt)) := lw_uD 11 (f, ((nI o), (nI z)), tx, rt) (by decide) bc_pa hD
    have hP : va_P D vwCl (((wSt cA (Ad 0) (f 0)) ++ (wSt cA (Ad 8) (f 8))) ++ (rst2 cA Ad (f, ((nI o), (nI z)), tx, rt) 0 8)) H := lw_fP2 0 8 (by decide) hWP
    have hD : va_D A (((wSt cA (Ad 0) (f 0)) ++ (wSt cA (Ad 8) (f 8))) ++ (rst2 cA Ad (f, ((nI o), (nI z)), tx, rt) 0 8)) := lw_fD2 0 8 (by decide) hWD
    refine mu_Va (ci := 2) (q0 := 0) (As := [.ref (Ad 8 0)]) (rest := []) ⟨hx, hb, hml, hown, hts⟩ (c_X2_become l D cA _ (Ad 0) (Ad 8) (f 0) (f 8) hz (va_P_l hP) (va_D_l hD)) (cwV 1 hts gX1_popInto_X2_become rfl rfl rfl (by decide +kernel) ⟨Nat.le_of_ble_eq_true rfl, Nat.le_of_ble_eq_true rfl⟩) hKN hP hD hS hA rfl rfl (fst_app ((wSt_fst _ _ _).trans (wSt_fst _ _ _).symm) ((wSt_fst _ _ _).trans (wSt_fst _ _ _).symm)) rfl hl.1 rfl (lv_room (Nat.le_of_ble_eq_true rfl)) dX1_popInto_35 ⟨Nat.zero_le _, Nat.zero_le _⟩ (fun H locs hP hD hS => ?_)
    have hP : va_P D vwCl (((wSt cA (Ad 0) (f 8)) ++ (wSt cA (Ad 8) (f 8))) ++ (rst2 cA Ad (f, ((nI o), (nI z)), tx, rt) 0 8)) H := hP
    have hD : va_D A (((wSt cA (Ad 0) (f 8)) ++ (wSt cA (Ad 8) (f 8))) ++ (rst2 cA Ad (f, ((nI o), (nI z)), tx, rt) 0 8)) := hD
    have hWP : va_P D vwCl (all cA Ad ((upS f 0 (f 8)), ((nI o), (nI z)), tx, rt)) H := lw_uP2 0 8 ((upS f 0 (f 8)), ((nI o), (nI z)), tx, rt) (by decide) (bc_st 0 _ (by decide)) hP
    have hWD : va_D A (all cA Ad ((upS f 0 (f 8)), ((nI o), (nI z)), tx, rt)) := lw_uD2 0 8 ((upS f 0 (f 8)), ((nI o), (nI z)), tx, rt) (by decide) (bc_st 0 _ (by decide)) hD
    exact mu_vret hx hb hr hlocks dX1_popInto_38 hAe hS (by rw [hs_34]; exact hWP)
  · refine lz_top (v := 5) (by rw [hs_34]; rfl) ?_
    refine lz_aldr (k := 5) (f := (fun i => some (Ad (i + 4) 0))) (q := Ad 9 0) hx hb hK hP 1 rfl rfl rfl ⟨by decide, by decide⟩ dX1_popInto_34 ?_
    rw [hs_34] at hz
    have hWP : va_P D vwCl (all cA Ad (f, ((nI o), (nI z)), tx, rt)) H := lw_uP 11 (f, ((nI o), (nI z)), tx, rt) (by decide) bc_pa hP
    have hWD : va_D A (all cA Ad (f, ((nI o), (nI z)), tx, rt)) := lw_uD 11 (f, ((nI o), (nI z)), tx, rt) (by decide) bc_pa hD
    have hP : va_P D vwCl (((wSt cA (Ad 0) (f 0)) ++ (wSt cA (Ad 9) (f 9))) ++ (rst2 cA Ad (f, ((nI o), (nI z)), tx, rt) 0 9)) H := lw_fP2 0 9 (by decide) hWP
    have hD : va_D A (((wSt cA (Ad 0) (f 0)) ++ (wSt cA (Ad 9) (f 9))) ++ (rst2 cA Ad (f, ((nI o), (nI z)), tx, rt) 0 9)) := lw_fD2 0 9 (by decide) hWD
    refine mu_Va (ci := 2) (q0 := 0) (As := [.ref (Ad 9 0)]) (rest := []) ⟨hx, hb, hml, hown, hts⟩ (c_X2_become l D cA _ (Ad 0) (Ad 9) (f 0) (f 9) hz (va_P_l hP) (va_D_l hD)) (cwV 1 hts gX1_popInto_X2_become rfl rfl rfl (by decide +kernel) ⟨Nat.le_of_ble_eq_true rfl, Nat.le_of_ble_eq_true rfl⟩) hKN hP hD hS hA rfl rfl (fst_app ((wSt_fst _ _ _).trans (wSt_fst _ _ _).symm) ((wSt_fst _ _ _).trans (wSt_fst _ _ _).symm)) rfl hl.1 rfl (lv_room (Nat.le_of_ble_eq_true rfl)) dX1_popInto_35 ⟨Nat.zero_le _, Nat.zero_le _⟩ (fun H locs hP hD hS => ?_)
    have hP : va_P D vwCl (((wSt cA (Ad 0) (f 9)) ++ (wSt cA (Ad 9) (f 9))) ++ (rst2 cA Ad (f, ((nI o), (nI z)), tx, rt) 0 9)) H := hP
    have hD : va_D A (((wSt cA (Ad 0) (f 9)) ++ (wSt cA (Ad 9) (f 9))) ++ (rst2 cA Ad (f, ((nI o), (nI z)), tx, rt) 0 9)) := hD
    have hWP : va_P D vwCl (all cA Ad ((upS f 0 (f 9)), ((nI o), (nI z)), tx, rt)) H := lw_uP2 0 9 ((upS f 0 (f 9)), ((nI o), (nI z)), tx, rt) (by decide) (bc_st 0 _ (by decide)) hP
    have hWD : va_D A (all cA Ad ((upS f 0 (f 9)), ((nI o), (nI z)), tx, rt)) := lw_uD2 0 9 ((upS f 0 (f 9)), ((nI o), (nI z)), tx, rt) (by decide) (bc_st 0 _ (by decide)) hD
    exact mu_vret hx hb hr hlocks dX1_popInto_38 hAe hS (by rw [hs_34]; exact hWP)
