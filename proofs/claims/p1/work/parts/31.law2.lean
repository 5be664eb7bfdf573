-- the law's helpers, one contract each
set_option maxHeartbeats 4000000 in
set_option maxRecDepth 100000 in
theorem h_cross_v (l : Launch) (hl0 : l.stackTraces = false) (D : va_G) (cA : Nat → ClassId) (H : Heap) (Ad : Nat → Nat → Nat) (o9 : Nat) (t : Nat) (ht : t < 16) (r : Nat) (hr0 : r < 8) (hP0 : va_P D vwCl (all cA Ad L0 ++ [(o9, .inl (cA 3, 1, .inr (.inl (fun _ => 0))))]) H) (hD0 : va_D (fun _ => True) (all cA Ad L0 ++ [(o9, .inl (cA 3, 1, .inr (.inl (fun _ => 0))))])) : LH l yL_cross wsL_cross ({ frames := 7, cells := 1, slots := 6, locals := 115 } : Room) D cA [.ref (Ad 10 0), .int (nI t), .int (nI r), .ref o9] H (va_A (all cA Ad L0 ++ [(o9, .inl (cA 3, 1, .inr (.inl (fun _ => 0))))]) H.size) := by
  refine vx_ofWH (cc := cL_cross) (maxL := 5) (ret := some .int) (hh := [(0, 10, 13, 13)]) (by decide) rfl ?_
  intro p e s m args below meth c s₁ B hml hv
  obtain ⟨rfl, hH, hKN, hKY, hXZ⟩ := hv
  have hK := hKN.1
  have hx := B.exec
  have hb := B.bytes
  have hr := B.returns
  have hts := atoms_spec (ws := wsL_cross) B.pre
  have hown : s.vm.findClass RL = some m.cls := findClass_of_methodNamed B.named
  have hlocks := B.notSynchronized
  subst hH
  have hD := hD0.self (sz := s.heap.size)
  generalize hAe : va_A (all cA Ad L0 ++ [(o9, .inl (cA 3, 1, .inr (.inl (fun _ => 0))))]) s.heap.size = A at hD ⊢
  have hA : ∀ q : Nat, s.heap.size ≤ q → A q := fun q h => by rw [← hAe]; exact Or.inr h
  have hS : va_S A s.heap s.heap [] := va_S.rf
  have hP : va_P D vwCl (all cA Ad L0 ++ [(o9, .inl (cA 3, 1, .inr (.inl (fun _ => 0))))]) s.heap := hP0
  have hl := lv_entry ([.ref (Ad 10 0), .int (nI t), .int (nI r), .ref o9] : List Value) (n := 5) (Nat.le_of_ble_eq_true rfl)
  rw [lg_entry_eq]
  generalize (lg_sl ([.ref (Ad 10 0), .int (nI t), .int (nI r), .ref o9] : List Value) ++ List.replicate (5 - (lg_sl ([.ref (Ad 10 0), .int (nI t), .int (nI r), .ref o9] : List Value)).length) Slot.unset).toArray = ls at hl ⊢
  have hl : lv_has ls 5 [(0, .ref (Ad 10 0)), (1, .int (nI t)), (2, .int (nI r)), (3, .ref o9)] := hl
  refine lv_aload_n hx hb dL_cross_0 rfl (lv_at hl 3 rfl) ?_
  refine lv_iconst (v := 0) hx hb dL_cross_1 (by decide) ?_
  refine lv_aload_n hx hb dL_cross_2 rfl (lv_at hl 0 rfl) ?_
  refine lv_iload_n hx hb dL_cross_3 rfl (lv_at hl 1 rfl) ?_
  refine lv_iload_n hx hb dL_cross_4 rfl (lv_at hl 2 rfl) ?_
  refine mu_Vx (ci := 4) (q0 := 0) (As := [.int (nI t), .int (nI r)]) (rest := [.int 0, .ref o9]) ⟨hx, hb, hml, hown, hts⟩ (c_X4_cross l D cA _ Ad (fun _ => initS) 0 0 (fun _ => 0, fun _ => 0, 0, 0, 0) (fun _ => 0, fun _ => 0) (by decide) (by decide) (Or.inr rfl) t ht r hr0 (va_P_l hP) (va_D_l hD)) (cwV 2 hts gL_cross_X4_cross rfl rfl rfl (by decide +kernel) ⟨Nat.le_of_ble_eq_true rfl, Nat.le_of_ble_eq_true rfl⟩) hKN hP hD hS hA (lw_fP 10 (by decide) (va_P_l hP)) rfl rfl (all_fst _ _ _ _) rfl hl.1 rfl (lv_room (Nat.le_of_ble_eq_true rfl)) dL_cross_5 ⟨Nat.zero_le _, Nat.zero_le _⟩ (fun H locs hP hD hS => ?_)
  have hP : va_P D vwCl [(o9, .inl (cA 3, 1, .inr (.inl (fun _ => 0))))] H := hP
  have hD : va_D A [(o9, .inl (cA 3, 1, .inr (.inl (fun _ => 0))))] := hD
  refine lv_topi (fun r er => ?_)
  refine lv_i2l (v := (i2lF r)) hx hb dL_cross_8 rfl ?_
  refine lz_last (k := 0) (f := fun _ => 0) hx hb hK hP hD hS 0 3 rfl rfl ⟨by decide, by decide⟩ dL_cross_9 (fun H locs hP hD hS => ?_)
  refine lv_goto (tgt := 17) hx hb dL_cross_10 (by decide) ?_
  refine lv_iconst (v := 0) hx hb dL_cross_17 (by decide) ?_
  exact lh_iret hx hb hr hlocks dL_cross_18 hS (Nat.le_of_ble_eq_true rfl) (Nat.le_of_ble_eq_true rfl)
theorem mL_cross_cw : Cond.codeWith yL_cross cL_cross 5 (some .int) [(0, 10, 13, 13)] ∈ wsL_cross := by decide +kernel
theorem mL_cross_cl13 : Cond.classLink RL 13 "java/lang/IndexOutOfBoundsException" ∈ wsL_cross := by decide +kernel
set_option maxHeartbeats 4000000 in
set_option maxRecDepth 100000 in
theorem h_cross_x1 (l : Launch) (hl0 : l.stackTraces = false) (D : va_G) (cA : Nat → ClassId) (H : Heap) (Ad : Nat → Nat → Nat) (o9 : Nat) (y : Int32) (x : Int32) (hx0 : inF x 0 15 = 0) (hP0 : va_P D vwCl (all cA Ad L0 ++ [(o9, .inl (cA 3, 1, .inr (.inl (fun _ => 0))))]) H) (hD0 : va_D (fun _ => True) (all cA Ad L0 ++ [(o9, .inl (cA 3, 1, .inr (.inl (fun _ => 0))))])) : LH l yL_cross wsL_cross ({ frames := 7, cells := 1, slots := 6, locals := 115 } : Room) D cA [.ref (Ad 10 0), .int x, .int y, .ref o9] H (va_A (all cA Ad L0 ++ [(o9, .inl (cA 3, 1, .inr (.inl (fun _ => 0))))]) H.size) := by
  refine vx_ofWH (cc := cL_cross) (maxL := 5) (ret := some .int) (hh := [(0, 10, 13, 13)]) (by decide) rfl ?_
  intro p e s m args below meth c s₁ B hml hv
  obtain ⟨rfl, hH, hKN, hKY, hXZ⟩ := hv
  have hK := hKN.1
  have hx := B.exec
  have hb := B.bytes
  have hr := B.returns
  have hts := atoms_spec (ws := wsL_cross) B.pre
  have hown : s.vm.findClass RL = some m.cls := findClass_of_methodNamed B.named
  have hlocks := B.notSynchronized
  subst hH
  have hD := hD0.self (sz := s.heap.size)
  generalize hAe : va_A (all cA Ad L0 ++ [(o9, .inl (cA 3, 1, .inr (.inl (fun _ => 0))))]) s.heap.size = A at hD ⊢
  have hA : ∀ q : Nat, s.heap.size ≤ q → A q := fun q h => by rw [← hAe]; exact Or.inr h
  have hS : va_S A s.heap s.heap [] := va_S.rf
  have hP : va_P D vwCl (all cA Ad L0 ++ [(o9, .inl (cA 3, 1, .inr (.inl (fun _ => 0))))]) s.heap := hP0
  have hl := lv_entry ([.ref (Ad 10 0), .int x, .int y, .ref o9] : List Value) (n := 5) (Nat.le_of_ble_eq_true rfl)
  rw [lg_entry_eq]
  generalize (lg_sl ([.ref (Ad 10 0), .int x, .int y, .ref o9] : List Value) ++ List.replicate (5 - (lg_sl ([.ref (Ad 10 0), .int x, .int y, .ref o9] : List Value)).length) Slot.unset).toArray = ls at hl ⊢
  have hl : lv_has ls 5 [(0, .ref (Ad 10 0)), (1, .int x), (2, .int y), (3, .ref o9)] := hl
  refine lv_aload_n hx hb dL_cross_0 rfl (lv_at hl 3 rfl) ?_
  refine lv_iconst (v := 0) hx hb dL_cross_1 (by decide) ?_
  refine lv_aload_n hx hb dL_cross_2 rfl (lv_at hl 0 rfl) ?_
  refine lv_iload_n hx hb dL_cross_3 rfl (lv_at hl 1 rfl) ?_
  refine lv_iload_n hx hb dL_cross_4 rfl (lv_at hl 2 rfl) ?_
  refine xt_V (ci := 4) (q0 := 0) (As := [.int x, .int y]) (rest := [.int 0, .ref o9]) (cls := "java/lang/IndexOutOfBoundsException") ⟨hx, hb, hml, hown, hts⟩ (x_cross1 l hl0 D cA _ (Ad 10 0) y x hx0) (cwV 2 hts gL_cross_X4_cross rfl rfl rfl (by decide +kernel) ⟨Nat.le_of_ble_eq_true rfl, Nat.le_of_ble_eq_true rfl⟩) hKN hKY.1 hXZ hS hA (lw_fP 10 (by decide) (va_P_l hP)) rfl rfl rfl hl.1 rfl (lv_room (Nat.le_of_ble_eq_true rfl)) dL_cross_5 ⟨Nat.le_of_ble_eq_true rfl, Nat.le_of_ble_eq_true rfl⟩ (fun ce q9 H locs hk9 hS hce hcv hcl => ?_)
  refine vx_catch (own := RL) (name := "java/lang/IndexOutOfBoundsException") (E := "java/lang/IndexOutOfBoundsException") (ce := ce) (q := q9) hown [] ⟨0, 10, 13, 13⟩ [] ((vx_table B (hts _ mL_cross_cw)).trans rfl) (fun z hz => nomatch hz) (by decide) (by decide) (hts _ mL_cross_cl13) (hKY.1.use _ (by decide)) hce hcv hcl ?_
  refine lv_astore (lv' := [(4, .ref q9), (0, .ref (Ad 10 0)), (1, .int x), (2, .int y), (3, .ref o9)]) hx hb dL_cross_13 hl (by decide) rfl (fun ls hl => ?_)
  refine lv_iconst (v := 1) hx hb dL_cross_15 (by decide) ?_
  exact lh_iret hx hb hr hlocks dL_cross_16 hS (Nat.le_of_ble_eq_true rfl) (Nat.le_of_ble_eq_true rfl)
set_option maxHeartbeats 4000000 in
set_option maxRecDepth 100000 in
theorem h_cross_x2 (l : Launch) (hl0 : l.stackTraces = false) (D : va_G) (cA : Nat → ClassId) (H : Heap) (Ad : Nat → Nat → Nat) (o9 : Nat) (t : Nat) (ht : t < 16) (x : Int32) (hx0 : inF x 0 7 = 0) (hP0 : va_P D vwCl (all cA Ad L0 ++ [(o9, .inl (cA 3, 1, .inr (.inl (fun _ => 0))))]) H) (hD0 : va_D (fun _ => True) (all cA Ad L0 ++ [(o9, .inl (cA 3, 1, .inr (.inl (fun _ => 0))))])) : LH l yL_cross wsL_cross ({ frames := 7, cells := 1, slots := 6, locals := 115 } : Room) D cA [.ref (Ad 10 0), .int (nI t), .int x, .ref o9] H (va_A (all cA Ad L0 ++ [(o9, .inl (cA 3, 1, .inr (.inl (fun _ => 0))))]) H.size) := by
  refine vx_ofWH (cc := cL_cross) (maxL := 5) (ret := some .int) (hh := [(0, 10, 13, 13)]) (by decide) rfl ?_
  intro p e s m args below meth c s₁ B hml hv
  obtain ⟨rfl, hH, hKN, hKY, hXZ⟩ := hv
  have hK := hKN.1
  have hx := B.exec
  have hb := B.bytes
  have hr := B.returns
  have hts := atoms_spec (ws := wsL_cross) B.pre
  have hown : s.vm.findClass RL = some m.cls := findClass_of_methodNamed B.named
  have hlocks := B.notSynchronized
  subst hH
  have hD := hD0.self (sz := s.heap.size)
  generalize hAe : va_A (all cA Ad L0 ++ [(o9, .inl (cA 3, 1, .inr (.inl (fun _ => 0))))]) s.heap.size = A at hD ⊢
  have hA : ∀ q : Nat, s.heap.size ≤ q → A q := fun q h => by rw [← hAe]; exact Or.inr h
  have hS : va_S A s.heap s.heap [] := va_S.rf
  have hP : va_P D vwCl (all cA Ad L0 ++ [(o9, .inl (cA 3, 1, .inr (.inl (fun _ => 0))))]) s.heap := hP0
  have hl := lv_entry ([.ref (Ad 10 0), .int (nI t), .int x, .ref o9] : List Value) (n := 5) (Nat.le_of_ble_eq_true rfl)
  rw [lg_entry_eq]
  generalize (lg_sl ([.ref (Ad 10 0), .int (nI t), .int x, .ref o9] : List Value) ++ List.replicate (5 - (lg_sl ([.ref (Ad 10 0), .int (nI t), .int x, .ref o9] : List Value)).length) Slot.unset).toArray = ls at hl ⊢
  have hl : lv_has ls 5 [(0, .ref (Ad 10 0)), (1, .int (nI t)), (2, .int x), (3, .ref o9)] := hl
  refine lv_aload_n hx hb dL_cross_0 rfl (lv_at hl 3 rfl) ?_
  refine lv_iconst (v := 0) hx hb dL_cross_1 (by decide) ?_
  refine lv_aload_n hx hb dL_cross_2 rfl (lv_at hl 0 rfl) ?_
  refine lv_iload_n hx hb dL_cross_3 rfl (lv_at hl 1 rfl) ?_
  refine lv_iload_n hx hb dL_cross_4 rfl (lv_at hl 2 rfl) ?_
  refine xt_V (ci := 4) (q0 := 0) (As := [.int (nI t), .int x]) (rest := [.int 0, .ref o9]) (cls := "java/lang/IndexOutOfBoundsException") ⟨hx, hb, hml, hown, hts⟩ (x_cross2 l hl0 D cA _ (Ad 10 0) t ht x hx0) (cwV 2 hts gL_cross_X4_cross rfl rfl rfl (by decide +kernel) ⟨Nat.le_of_ble_eq_true rfl, Nat.le_of_ble_eq_true rfl⟩) hKN hKY.1 hXZ hS hA (lw_fP 10 (by decide) (va_P_l hP)) rfl rfl rfl hl.1 rfl (lv_room (Nat.le_of_ble_eq_true rfl)) dL_cross_5 ⟨Nat.le_of_ble_eq_true rfl, Nat.le_of_ble_eq_true rfl⟩ (fun ce q9 H locs hk9 hS hce hcv hcl => ?_)
  refine vx_catch (own := RL) (name := "java/lang/IndexOutOfBoundsException") (E := "java/lang/IndexOutOfBoundsException") (ce := ce) (q := q9) hown [] ⟨0, 10, 13, 13⟩ [] ((vx_table B (hts _ mL_cross_cw)).trans rfl) (fun z hz => nomatch hz) (by decide) (by decide) (hts _ mL_cross_cl13) (hKY.1.use _ (by decide)) hce hcv hcl ?_
  refine lv_astore (lv' := [(4, .ref q9), (0, .ref (Ad 10 0)), (1, .int (nI t)), (2, .int x), (3, .ref o9)]) hx hb dL_cross_13 hl (by decide) rfl (fun ls hl => ?_)
  refine lv_iconst (v := 1) hx hb dL_cross_15 (by decide) ?_
  exact lh_iret hx hb hr hlocks dL_cross_16 hS (Nat.le_of_ble_eq_true rfl) (Nat.le_of_ble_eq_true rfl)
