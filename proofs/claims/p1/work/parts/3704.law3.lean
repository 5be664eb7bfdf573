-- the law's cases
set_option maxHeartbeats 4000000 in
set_option maxRecDepth 100000 in
theorem lc_start_v {p : Program} {l : Launch} {e : Env} {s : State} {m : MethodId} {below : List Frame} {meth : Method} {c : Code} {b : Nat} {xs : Nat → Int32} {H : Heap} {locs : List Loc} {ls : Array Slot} {Q : State → Prop} {D : va_G} {cA : Nat → ClassId} {Ad : Nat → Nat → Nat} {a : Nat → Nat} {o9 : Nat} {A0 : Nat → Prop} (C : LCtx p l s m c b xs D cA A0) (Wd : LWl D cA Ad a o9 s A0 H locs) (hl : lv_has ls 9 [(4, .int 0), (3, .ref o9), (2, .ref (a 0)), (1, .ref (Ad 10 0)), (0, .ref b)]) (K : LKn p l e s m b below meth c Q A0) : W p l e room_1 s m #[Value.ref b] below meth c H locs 1000 5000 Q (F0 m 548 ls []) := by
  obtain ⟨hx, hb, hml, hown, hts, hKN, hKY, hXZ, hX, hbl, hl0, hA, hbA⟩ := C
  obtain ⟨hP, hD, hS⟩ := Wd
  refine lv_aload_n hx hb dL_law_548 rfl (lv_at hl 3 rfl) ?_
  rw [List.append_assoc] at hP hD
  refine mu_Vx (ci := 4) (q0 := 0) (As := []) (rest := []) ⟨hx, hb, hml, hown, hts⟩ (c_X4_start l D cA _ Ad (fun _ => initS) 0 0 (fun _ => 0, fun _ => 0, 0, 0, 0) (fun _ => 0, fun _ => 0) (by decide) (by decide) (Or.inr rfl)  (va_P_l hP) (va_D_l hD)) (cwV 0 hts gL_law_X4_start rfl rfl rfl (by decide +kernel) ⟨Nat.le_of_ble_eq_true rfl, Nat.le_of_ble_eq_true rfl⟩) hKN hP hD hS hA (lw_fP 10 (by decide) (va_P_l hP)) rfl rfl (all_fst _ _ _ _) rfl hl.1 rfl (lv_room (Nat.le_of_ble_eq_true rfl)) dL_law_549 ⟨Nat.le_of_ble_eq_true rfl, Nat.le_of_ble_eq_true rfl⟩ (fun H locs hP hD hS => ?_)
  have hP := va_P_comm hP
  have hD := va_D_comm hD
  refine lz_top (v := 0) rfl ?_
  refine lv_aload_n hx hb dL_law_552 rfl (lv_at hl 2 rfl) ?_
  refine mu_Va (ci := 5) (q0 := 0) (As := []) (rest := [.int 0]) ⟨hx, hb, hml, hown, hts⟩ (c_X5_start l D cA _ a 0 f0 (fun _ => 0) (fun _ => 0) (fun _ => 0) 0 f0_FR (va_P_l hP) (va_D_l hD)) (cwV 0 hts gL_law_X5_start rfl rfl rfl (by decide +kernel) ⟨Nat.le_of_ble_eq_true rfl, Nat.le_of_ble_eq_true rfl⟩) hKN hP hD hS hA rfl rfl ((wMd_fst _ _ _).trans (wMd_fst _ _ _).symm) rfl hl.1 rfl (lv_room (Nat.le_of_ble_eq_true rfl)) dL_law_553 ⟨Nat.le_of_ble_eq_true rfl, Nat.le_of_ble_eq_true rfl⟩ (fun H locs hP hD hS => ?_)
  refine lz_top (v := 0) pm_start ?_
  refine lv_icmp_eq (tgt := 1723) hx hb dL_law_556 (by decide) (fun _ => ?_) (fun h => absurd (by decide) h)
  exact W.widen (k := 2000) (n := 9000) (by decide) (by decide) (K H locs ls hS (lv_sub hl [0, 4] rfl))
set_option maxHeartbeats 4000000 in
set_option maxRecDepth 100000 in
theorem lc_clearBuffer_v {p : Program} {l : Launch} {e : Env} {s : State} {m : MethodId} {below : List Frame} {meth : Method} {c : Code} {b : Nat} {xs : Nat → Int32} {H : Heap} {locs : List Loc} {ls : Array Slot} {Q : State → Prop} {D : va_G} {cA : Nat → ClassId} {Ad : Nat → Nat → Nat} {a : Nat → Nat} {o9 : Nat} {A0 : Nat → Prop} (C : LCtx p l s m c b xs D cA A0) (Wd : LWl D cA Ad a o9 s A0 H locs) (hl : lv_has ls 9 [(4, .int 0), (3, .ref o9), (2, .ref (a 0)), (1, .ref (Ad 10 0)), (0, .ref b)]) (K : LKn p l e s m b below meth c Q A0) : W p l e room_1 s m #[Value.ref b] below meth c H locs 1000 5000 Q (F0 m 673 ls []) := by
  obtain ⟨hx, hb, hml, hown, hts, hKN, hKY, hXZ, hX, hbl, hl0, hA, hbA⟩ := C
  obtain ⟨hP, hD, hS⟩ := Wd
  refine lv_aload_n hx hb dL_law_673 rfl (lv_at hl 3 rfl) ?_
  rw [List.append_assoc] at hP hD
  refine mu_Vx (ci := 4) (q0 := 0) (As := []) (rest := []) ⟨hx, hb, hml, hown, hts⟩ (c_X4_clearBuffer l D cA _ Ad (fun _ => initS) 0 0 (fun _ => 0, fun _ => 0, 0, 0, 0) (fun _ => 0, fun _ => 0)  (va_P_l hP) (va_D_l hD)) (cwV 0 hts gL_law_X4_clearBuffer rfl rfl rfl (by decide +kernel) ⟨Nat.le_of_ble_eq_true rfl, Nat.le_of_ble_eq_true rfl⟩) hKN hP hD hS hA (lw_fP 10 (by decide) (va_P_l hP)) rfl rfl (all_fst _ _ _ _) rfl hl.1 rfl (lv_room (Nat.le_of_ble_eq_true rfl)) dL_law_674 ⟨Nat.le_of_ble_eq_true rfl, Nat.le_of_ble_eq_true rfl⟩ (fun H locs hP hD hS => ?_)
  have hP := va_P_comm hP
  have hD := va_D_comm hD
  refine lz_top (v := 0) rfl ?_
  refine lv_aload_n hx hb dL_law_677 rfl (lv_at hl 2 rfl) ?_
  refine mu_Va (ci := 5) (q0 := 0) (As := []) (rest := [.int 0]) ⟨hx, hb, hml, hown, hts⟩ (c_X5_clearBuffer l D cA _ a 0 f0 (fun _ => 0) (fun _ => 0) (fun _ => 0) 0 f0_FR (va_P_l hP) (va_D_l hD)) (cwV 0 hts gL_law_X5_clearBuffer rfl rfl rfl (by decide +kernel) ⟨Nat.le_of_ble_eq_true rfl, Nat.le_of_ble_eq_true rfl⟩) hKN hP hD hS hA rfl rfl ((wMd_fst _ _ _).trans (wMd_fst _ _ _).symm) rfl hl.1 rfl (lv_room (Nat.le_of_ble_eq_true rfl)) dL_law_678 ⟨Nat.le_of_ble_eq_true rfl, Nat.le_of_ble_eq_true rfl⟩ (fun H locs hP hD hS => ?_)
  refine lz_top (v := 0) rfl ?_
  refine lv_icmp_eq (tgt := 1723) hx hb dL_law_681 (by decide) (fun _ => ?_) (fun h => absurd (by decide) h)
  exact W.widen (k := 2000) (n := 9000) (by decide) (by decide) (K H locs ls hS (lv_sub hl [0, 4] rfl))
set_option maxHeartbeats 4000000 in
set_option maxRecDepth 100000 in
theorem lc_firstError_v {p : Program} {l : Launch} {e : Env} {s : State} {m : MethodId} {below : List Frame} {meth : Method} {c : Code} {b : Nat} {xs : Nat → Int32} {H : Heap} {locs : List Loc} {ls : Array Slot} {Q : State → Prop} {D : va_G} {cA : Nat → ClassId} {Ad : Nat → Nat → Nat} {a : Nat → Nat} {o9 : Nat} {A0 : Nat → Prop} (C : LCtx p l s m c b xs D cA A0) (Wd : LWl D cA Ad a o9 s A0 H locs) (hl : lv_has ls 9 [(4, .int 0), (3, .ref o9), (2, .ref (a 0)), (1, .ref (Ad 10 0)), (0, .ref b)]) (K : LKn p l e s m b below meth c Q A0) : W p l e room_1 s m #[Value.ref b] below meth c H locs 1000 5000 Q (F0 m 686 ls []) := by
  obtain ⟨hx, hb, hml, hown, hts, hKN, hKY, hXZ, hX, hbl, hl0, hA, hbA⟩ := C
  obtain ⟨hP, hD, hS⟩ := Wd
  refine lv_aload_n hx hb dL_law_686 rfl (lv_at hl 3 rfl) ?_
  rw [List.append_assoc] at hP hD
  refine mu_Vx (ci := 4) (q0 := 0) (As := []) (rest := []) ⟨hx, hb, hml, hown, hts⟩ (c_X4_firstError l D cA _ Ad (fun _ => initS) 0 0 (fun _ => 0) (fun _ => 0) 0 0 (fun _ => 0, fun _ => 0)  (va_P_l hP) (va_D_l hD)) (cwV 0 hts gL_law_X4_firstError rfl rfl rfl (by decide +kernel) ⟨Nat.le_of_ble_eq_true rfl, Nat.le_of_ble_eq_true rfl⟩) hKN hP hD hS hA (lw_fP 10 (by decide) (va_P_l hP)) rfl rfl (all_fst _ _ _ _) rfl hl.1 rfl (lv_room (Nat.le_of_ble_eq_true rfl)) dL_law_687 ⟨Nat.le_of_ble_eq_true rfl, Nat.le_of_ble_eq_true rfl⟩ (fun H locs hP hD hS => ?_)
  have hP := va_P_comm hP
  have hD := va_D_comm hD
  refine lz_top (v := 0) rfl ?_
  refine lv_aload_n hx hb dL_law_690 rfl (lv_at hl 2 rfl) ?_
  refine mu_Va (ci := 5) (q0 := 0) (As := []) (rest := [.int 0]) ⟨hx, hb, hml, hown, hts⟩ (c_X5_firstError l D cA _ a 0 f0 (fun _ => 0) (fun _ => 0) (fun _ => 0) 0 f0_FR (va_P_l hP) (va_D_l hD)) (cwV 0 hts gL_law_X5_firstError rfl rfl rfl (by decide +kernel) ⟨Nat.le_of_ble_eq_true rfl, Nat.le_of_ble_eq_true rfl⟩) hKN hP hD hS hA rfl rfl ((wMd_fst _ _ _).trans (wMd_fst _ _ _).symm) rfl hl.1 rfl (lv_room (Nat.le_of_ble_eq_true rfl)) dL_law_691 ⟨Nat.le_of_ble_eq_true rfl, Nat.le_of_ble_eq_true rfl⟩ (fun H locs hP hD hS => ?_)
  refine lz_top (v := 0) rfl ?_
  refine lv_icmp_eq (tgt := 1723) hx hb dL_law_694 (by decide) (fun _ => ?_) (fun h => absurd (by decide) h)
  exact W.widen (k := 2000) (n := 9000) (by decide) (by decide) (K H locs ls hS (lv_sub hl [0, 4] rfl))
set_option maxHeartbeats 4000000 in
set_option maxRecDepth 100000 in
theorem lc_bestPlace_v {p : Program} {l : Launch} {e : Env} {s : State} {m : MethodId} {below : List Frame} {meth : Method} {c : Code} {b : Nat} {xs : Nat → Int32} {H : Heap} {locs : List Loc} {ls : Array Slot} {Q : State → Prop} {D : va_G} {cA : Nat → ClassId} {Ad : Nat → Nat → Nat} {a : Nat → Nat} {o9 : Nat} {A0 : Nat → Prop} (C : LCtx p l s m c b xs D cA A0) (Wd : LWl D cA Ad a o9 s A0 H locs) (hl : lv_has ls 9 [(4, .int 0), (3, .ref o9), (2, .ref (a 0)), (1, .ref (Ad 10 0)), (0, .ref b)]) (K : LKn p l e s m b below meth c Q A0) : W p l e room_1 s m #[Value.ref b] below meth c H locs 1000 5000 Q (F0 m 1475 ls []) := by
  obtain ⟨hx, hb, hml, hown, hts, hKN, hKY, hXZ, hX, hbl, hl0, hA, hbA⟩ := C
  obtain ⟨hP, hD, hS⟩ := Wd
  refine lv_aload_n hx hb dL_law_1475 rfl (lv_at hl 3 rfl) ?_
  rw [List.append_assoc] at hP hD
  refine mu_Vx (ci := 4) (q0 := 0) (As := []) (rest := []) ⟨hx, hb, hml, hown, hts⟩ (c_X4_bestPlace l D cA _ Ad (fun _ => initS) 0 0 (fun _ => 0) (fun _ => 0) 0 0 (fun _ => 0, fun _ => 0)  (va_P_l hP) (va_D_l hD)) (cwV 0 hts gL_law_X4_bestPlace rfl rfl rfl (by decide +kernel) ⟨Nat.le_of_ble_eq_true rfl, Nat.le_of_ble_eq_true rfl⟩) hKN hP hD hS hA (lw_fP 10 (by decide) (va_P_l hP)) rfl rfl (all_fst _ _ _ _) rfl hl.1 rfl (lv_room (Nat.le_of_ble_eq_true rfl)) dL_law_1476 ⟨Nat.le_of_ble_eq_true rfl, Nat.le_of_ble_eq_true rfl⟩ (fun H locs hP hD hS => ?_)
  have hP := va_P_comm hP
  have hD := va_D_comm hD
  refine lz_top (v := (-1)) rfl ?_
  refine lv_aload_n hx hb dL_law_1479 rfl (lv_at hl 2 rfl) ?_
  refine mu_Va (ci := 5) (q0 := 0) (As := []) (rest := [.int (-1)]) ⟨hx, hb, hml, hown, hts⟩ (c_X5_bestPlace l D cA _ a 0 f0 (fun _ => 0) (fun _ => 0) (fun _ => 0) 0 f0_FR (va_P_l hP) (va_D_l hD)) (cwV 0 hts gL_law_X5_bestPlace rfl rfl rfl (by decide +kernel) ⟨Nat.le_of_ble_eq_true rfl, Nat.le_of_ble_eq_true rfl⟩) hKN hP hD hS hA rfl rfl ((wMd_fst _ _ _).trans (wMd_fst _ _ _).symm) rfl hl.1 rfl (lv_room (Nat.le_of_ble_eq_true rfl)) dL_law_1480 ⟨Nat.le_of_ble_eq_true rfl, Nat.le_of_ble_eq_true rfl⟩ (fun H locs hP hD hS => ?_)
  refine lz_top (v := (-1)) rfl ?_
  refine lv_icmp_eq (tgt := 1723) hx hb dL_law_1483 (by decide) (fun _ => ?_) (fun h => absurd (by decide) h)
  exact W.widen (k := 2000) (n := 9000) (by decide) (by decide) (K H locs ls hS (lv_sub hl [0, 4] rfl))
set_option maxHeartbeats 4000000 in
set_option maxRecDepth 100000 in
theorem lc_bestGuard_v {p : Program} {l : Launch} {e : Env} {s : State} {m : MethodId} {below : List Frame} {meth : Method} {c : Code} {b : Nat} {xs : Nat → Int32} {H : Heap} {locs : List Loc} {ls : Array Slot} {Q : State → Prop} {D : va_G} {cA : Nat → ClassId} {Ad : Nat → Nat → Nat} {a : Nat → Nat} {o9 : Nat} {A0 : Nat → Prop} (C : LCtx p l s m c b xs D cA A0) (Wd : LWl D cA Ad a o9 s A0 H locs) (hl : lv_has ls 9 [(4, .int 0), (3, .ref o9), (2, .ref (a 0)), (1, .ref (Ad 10 0)), (0, .ref b)]) (K : LKn p l e s m b below meth c Q A0) : W p l e room_1 s m #[Value.ref b] below meth c H locs 1000 5000 Q (F0 m 1488 ls []) := by
  obtain ⟨hx, hb, hml, hown, hts, hKN, hKY, hXZ, hX, hbl, hl0, hA, hbA⟩ := C
  obtain ⟨hP, hD, hS⟩ := Wd
  refine lv_aload_n hx hb dL_law_1488 rfl (lv_at hl 3 rfl) ?_
  rw [List.append_assoc] at hP hD
  refine mu_Vx (ci := 4) (q0 := 0) (As := []) (rest := []) ⟨hx, hb, hml, hown, hts⟩ (c_X4_bestGuard l D cA _ Ad (fun _ => initS) 0 0 (fun _ => 0, fun _ => 0, 0, 0, 0) (fun _ => 0, fun _ => 0) (Or.inr rfl)  (va_P_l hP) (va_D_l hD)) (cwV 0 hts gL_law_X4_bestGuard rfl rfl rfl (by decide +kernel) ⟨Nat.le_of_ble_eq_true rfl, Nat.le_of_ble_eq_true rfl⟩) hKN hP hD hS hA (lw_fP 10 (by decide) (va_P_l hP)) rfl rfl (all_fst _ _ _ _) rfl hl.1 rfl (lv_room (Nat.le_of_ble_eq_true rfl)) dL_law_1489 ⟨Nat.le_of_ble_eq_true rfl, Nat.le_of_ble_eq_true rfl⟩ (fun H locs hP hD hS => ?_)
  have hP := va_P_comm hP
  have hD := va_D_comm hD
  refine lz_top (v := (bgB 16)) pv_bestGuard ?_
  refine lv_aload_n hx hb dL_law_1492 rfl (lv_at hl 2 rfl) ?_
  refine mu_Va (ci := 5) (q0 := 0) (As := []) (rest := [.int (bgB 16)]) ⟨hx, hb, hml, hown, hts⟩ (c_X5_bestGuard l D cA _ a 0 f0 (fun _ => 0) (fun _ => 0) (fun _ => 0) 0 f0_FR (va_P_l hP) (va_D_l hD)) (cwV 0 hts gL_law_X5_bestGuard rfl rfl rfl (by decide +kernel) ⟨Nat.le_of_ble_eq_true rfl, Nat.le_of_ble_eq_true rfl⟩) hKN hP hD hS hA rfl rfl ((wMd_fst _ _ _).trans (wMd_fst _ _ _).symm) rfl hl.1 rfl (lv_room (Nat.le_of_ble_eq_true rfl)) dL_law_1493 ⟨Nat.le_of_ble_eq_true rfl, Nat.le_of_ble_eq_true rfl⟩ (fun H locs hP hD hS => ?_)
  refine lz_top (v := (bgB 16)) rfl ?_
  refine lv_icmp_eq (tgt := 1723) hx hb dL_law_1496 (by decide) (fun _ => ?_) (fun h => absurd rfl h)
  exact W.widen (k := 2000) (n := 9000) (by decide) (by decide) (K H locs ls hS (lv_sub hl [0, 4] rfl))
set_option maxHeartbeats 4000000 in
set_option maxRecDepth 100000 in
theorem lc_rightShare_v {p : Program} {l : Launch} {e : Env} {s : State} {m : MethodId} {below : List Frame} {meth : Method} {c : Code} {b : Nat} {xs : Nat → Int32} {H : Heap} {locs : List Loc} {ls : Array Slot} {Q : State → Prop} {D : va_G} {cA : Nat → ClassId} {Ad : Nat → Nat → Nat} {a : Nat → Nat} {o9 : Nat} {A0 : Nat → Prop} (C : LCtx p l s m c b xs D cA A0) (Wd : LWl D cA Ad a o9 s A0 H locs) (hl : lv_has ls 9 [(4, .int 0), (3, .ref o9), (2, .ref (a 0)), (1, .ref (Ad 10 0)), (0, .ref b)]) (K : LKn p l e s m b below meth c Q A0) : W p l e room_1 s m #[Value.ref b] below meth c H locs 1000 5000 Q (F0 m 1625 ls []) := by
  obtain ⟨hx, hb, hml, hown, hts, hKN, hKY, hXZ, hX, hbl, hl0, hA, hbA⟩ := C
  obtain ⟨hP, hD, hS⟩ := Wd
  refine lv_aload_n hx hb dL_law_1625 rfl (lv_at hl 3 rfl) ?_
  rw [List.append_assoc] at hP hD
  refine ro_V (ci := 4) (q0 := 0) (As := []) (rest := []) ⟨hx, hb, hml, hown, hts⟩ (c_X4_rightShare l D cA _ Ad (fun _ => initS) 0 0 (fun _ => 0, fun _ => 0, 0, 0, 0) (fun _ => 0, fun _ => 0)  (va_P_l hP)) (cwV 0 hts gL_law_X4_rightShare rfl rfl rfl (by decide +kernel) ⟨Nat.le_of_ble_eq_true rfl, Nat.le_of_ble_eq_true rfl⟩) hKN (lw_fP 10 (by decide) (va_P_l hP)) rfl rfl rfl hl.1 rfl (lv_room (Nat.le_of_ble_eq_true rfl)) dL_law_1626 ⟨Nat.le_of_ble_eq_true rfl, Nat.le_of_ble_eq_true rfl⟩ ?_
  have hP := va_P_r hP
  have hD := va_D_r hD
  have hP := va_P_comm hP
  have hD := va_D_comm hD
  refine lz_topD (v := (shareF 16)) (congrArg shareF pv_right) ?_
  refine lv_dstore (lv' := [(5, .double (shareF 16)), (4, .int 0), (3, .ref o9), (2, .ref (a 0)), (1, .ref (Ad 10 0)), (0, .ref b)]) hx hb dL_law_1629 hl (by decide) rfl (fun ls hl => ?_)
  refine lv_aload_n hx hb dL_law_1631 rfl (lv_at hl 3 rfl) ?_
  refine mu_Va (ci := 5) (q0 := 0) (As := []) (rest := []) ⟨hx, hb, hml, hown, hts⟩ (c_X5_rightShare l D cA _ a 0 f0 (fun _ => 0) (fun _ => 0) (fun _ => 0) 0 f0_FR (va_P_l hP) (va_D_l hD)) (cwV 0 hts gL_law_X5_rightShare rfl rfl rfl (by decide +kernel) ⟨Nat.le_of_ble_eq_true rfl, Nat.le_of_ble_eq_true rfl⟩) hKN hP hD hS hA rfl rfl ((wMd_fst _ _ _).trans (wMd_fst _ _ _).symm) rfl hl.1 rfl (lv_room (Nat.le_of_ble_eq_true rfl)) dL_law_1632 ⟨Nat.le_of_ble_eq_true rfl, Nat.le_of_ble_eq_true rfl⟩ (fun H locs hP hD hS => ?_)
  refine lz_topD (v := (shareF 16)) rfl ?_
  refine lv_dstore (lv' := [(7, .double (shareF 16)), (5, .double (shareF 16)), (4, .int 0), (3, .ref o9), (2, .ref (a 0)), (1, .ref (Ad 10 0)), (0, .ref b)]) hx hb dL_law_1635 hl (by decide) rfl (fun ls hl => ?_)
  refine lv_dload hx hb dL_law_1637 (lv_at hl 1 rfl) ?_
  refine lv_dload hx hb dL_law_1639 (lv_at hl 0 rfl) ?_
  refine lv_dcmp hx hb dL_law_1641 ?_
  refine lz_top (v := 0) dc_share ?_
  refine lv_if_eq (tgt := 1663) hx hb dL_law_1642 (by decide) (fun _ => ?_) (fun h => absurd (by decide) h)
  refine lv_goto (tgt := 1723) hx hb dL_law_1663 (by decide) ?_
  exact W.widen (k := 2000) (n := 9000) (by decide) (by decide) (K H locs ls hS (lv_sub hl [2, 6] rfl))
set_option maxHeartbeats 4000000 in
set_option maxRecDepth 100000 in
theorem lc_meanWear_v {p : Program} {l : Launch} {e : Env} {s : State} {m : MethodId} {below : List Frame} {meth : Method} {c : Code} {b : Nat} {xs : Nat → Int32} {H : Heap} {locs : List Loc} {ls : Array Slot} {Q : State → Prop} {D : va_G} {cA : Nat → ClassId} {Ad : Nat → Nat → Nat} {a : Nat → Nat} {o9 : Nat} {A0 : Nat → Prop} (C : LCtx p l s m c b xs D cA A0) (Wd : LWl D cA Ad a o9 s A0 H locs) (hl : lv_has ls 9 [(4, .int 0), (3, .ref o9), (2, .ref (a 0)), (1, .ref (Ad 10 0)), (0, .ref b)]) (K : LKn p l e s m b below meth c Q A0) : W p l e room_1 s m #[Value.ref b] below meth c H locs 1000 5000 Q (F0 m 1666 ls []) := by
  obtain ⟨hx, hb, hml, hown, hts, hKN, hKY, hXZ, hX, hbl, hl0, hA, hbA⟩ := C
  obtain ⟨hP, hD, hS⟩ := Wd
  refine lv_aload_n hx hb dL_law_1666 rfl (lv_at hl 3 rfl) ?_
  rw [List.append_assoc] at hP hD
  refine ro_V (ci := 4) (q0 := 0) (As := []) (rest := []) ⟨hx, hb, hml, hown, hts⟩ (c_X4_meanWear l D cA _ Ad (fun _ => initS) 0 0 (fun _ => 0, fun _ => 0, 0, 0, 0) (fun _ => 0, fun _ => 0) pv_woa (va_P_l hP)) (cwV 0 hts gL_law_X4_meanWear rfl rfl rfl (by decide +kernel) ⟨Nat.le_of_ble_eq_true rfl, Nat.le_of_ble_eq_true rfl⟩) hKN (lw_fP 10 (by decide) (va_P_l hP)) rfl rfl rfl hl.1 rfl (lv_room (Nat.le_of_ble_eq_true rfl)) dL_law_1667 ⟨Nat.le_of_ble_eq_true rfl, Nat.le_of_ble_eq_true rfl⟩ ?_
  have hP := va_P_r hP
  have hD := va_D_r hD
  have hP := va_P_comm hP
  have hD := va_D_comm hD
  refine lv_f2d hx hb dL_law_1670 nn_mean ?_
  refine lv_dstore (lv' := [(5, .double (FP.f2d (meanF 0))), (4, .int 0), (3, .ref o9), (2, .ref (a 0)), (1, .ref (Ad 10 0)), (0, .ref b)]) hx hb dL_law_1671 hl (by decide) rfl (fun ls hl => ?_)
  refine lv_aload_n hx hb dL_law_1673 rfl (lv_at hl 3 rfl) ?_
  refine mu_Va (ci := 5) (q0 := 0) (As := []) (rest := []) ⟨hx, hb, hml, hown, hts⟩ (c_X5_meanWear l D cA _ a 0 f0 (fun _ => 0) (fun _ => 0) (fun _ => 0) 0 f0_FR (va_P_l hP) (va_D_l hD)) (cwV 0 hts gL_law_X5_meanWear rfl rfl rfl (by decide +kernel) ⟨Nat.le_of_ble_eq_true rfl, Nat.le_of_ble_eq_true rfl⟩) hKN hP hD hS hA rfl rfl ((wMd_fst _ _ _).trans (wMd_fst _ _ _).symm) rfl hl.1 rfl (lv_room (Nat.le_of_ble_eq_true rfl)) dL_law_1674 ⟨Nat.le_of_ble_eq_true rfl, Nat.le_of_ble_eq_true rfl⟩ (fun H locs hP hD hS => ?_)
  refine lv_f2d hx hb dL_law_1677 nn_mean ?_
  refine lv_dstore (lv' := [(7, .double (FP.f2d (meanF 0))), (5, .double (FP.f2d (meanF 0))), (4, .int 0), (3, .ref o9), (2, .ref (a 0)), (1, .ref (Ad 10 0)), (0, .ref b)]) hx hb dL_law_1678 hl (by decide) rfl (fun ls hl => ?_)
  refine lv_dload hx hb dL_law_1680 (lv_at hl 1 rfl) ?_
  refine lv_dload hx hb dL_law_1682 (lv_at hl 0 rfl) ?_
  refine lv_dcmp hx hb dL_law_1684 ?_
  refine lz_top (v := 0) dc_mean ?_
  refine lv_if_eq (tgt := 1706) hx hb dL_law_1685 (by decide) (fun _ => ?_) (fun h => absurd (by decide) h)
  refine lv_goto (tgt := 1723) hx hb dL_law_1706 (by decide) ?_
  exact W.widen (k := 2000) (n := 9000) (by decide) (by decide) (K H locs ls hS (lv_sub hl [2, 6] rfl))
set_option maxHeartbeats 4000000 in
set_option maxRecDepth 100000 in
theorem lc_digest_v {p : Program} {l : Launch} {e : Env} {s : State} {m : MethodId} {below : List Frame} {meth : Method} {c : Code} {b : Nat} {xs : Nat → Int32} {H : Heap} {locs : List Loc} {ls : Array Slot} {Q : State → Prop} {D : va_G} {cA : Nat → ClassId} {Ad : Nat → Nat → Nat} {a : Nat → Nat} {o9 : Nat} {A0 : Nat → Prop} (C : LCtx p l s m c b xs D cA A0) (Wd : LWl D cA Ad a o9 s A0 H locs) (hl : lv_has ls 9 [(4, .int 0), (3, .ref o9), (2, .ref (a 0)), (1, .ref (Ad 10 0)), (0, .ref b)]) (K : LKn p l e s m b below meth c Q A0) : W p l e room_1 s m #[Value.ref b] below meth c H locs 1000 5000 Q (F0 m 1709 ls []) := by
  obtain ⟨hx, hb, hml, hown, hts, hKN, hKY, hXZ, hX, hbl, hl0, hA, hbA⟩ := C
  obtain ⟨hP, hD, hS⟩ := Wd
  refine lv_aload_n hx hb dL_law_1709 rfl (lv_at hl 3 rfl) ?_
  rw [List.append_assoc] at hP hD
  refine mu_Vx (ci := 4) (q0 := 0) (As := []) (rest := []) ⟨hx, hb, hml, hown, hts⟩ (c_X4_digest l D cA _ Ad (fun _ => initS) 0 0 (fun _ => 0) (fun _ => 0) 0 0 (fun _ => 0, fun _ => 0) (Or.inr rfl) PlOk_init pv_right pv_woa rfl rfl (va_P_l hP) (va_D_l hD)) (cwV 0 hts gL_law_X4_digest rfl rfl rfl (by decide +kernel) ⟨Nat.le_of_ble_eq_true rfl, Nat.le_of_ble_eq_true rfl⟩) hKN hP hD hS hA (lw_fP 10 (by decide) (va_P_l hP)) rfl rfl (all_fst _ _ _ _) rfl hl.1 rfl (lv_room (Nat.le_of_ble_eq_true rfl)) dL_law_1710 ⟨Nat.le_of_ble_eq_true rfl, Nat.le_of_ble_eq_true rfl⟩ (fun H locs hP hD hS => ?_)
  have hP := va_P_comm hP
  have hD := va_D_comm hD
  refine lz_topL (v := digM) pv_digest ?_
  refine lv_aload_n hx hb dL_law_1713 rfl (lv_at hl 2 rfl) ?_
  refine mu_Va (ci := 5) (q0 := 0) (As := []) (rest := [.long digM]) ⟨hx, hb, hml, hown, hts⟩ (c_X5_digest l D cA _ a 0 f0 (fun _ => 0) (fun _ => 0) (fun _ => 0) 0 f0_FR rfl rfl (va_P_l hP) (va_D_l hD)) (cwV 0 hts gL_law_X5_digest rfl rfl rfl (by decide +kernel) ⟨Nat.le_of_ble_eq_true rfl, Nat.le_of_ble_eq_true rfl⟩) hKN hP hD hS hA rfl rfl ((wMd_fst _ _ _).trans (wMd_fst _ _ _).symm) rfl hl.1 rfl (lv_room (Nat.le_of_ble_eq_true rfl)) dL_law_1714 ⟨Nat.le_of_ble_eq_true rfl, Nat.le_of_ble_eq_true rfl⟩ (fun H locs hP hD hS => ?_)
  refine lz_topL (v := digM) rfl ?_
  refine W.lcmp hx hb dL_law_1717 ?_
  refine lz_top (v := 0) (lg_cmp_self _) ?_
  refine lv_if_eq (tgt := 1723) hx hb dL_law_1718 (by decide) (fun _ => ?_) (fun h => absurd (by decide) h)
  exact W.widen (k := 2000) (n := 9000) (by decide) (by decide) (K H locs ls hS (lv_sub hl [0, 4] rfl))
