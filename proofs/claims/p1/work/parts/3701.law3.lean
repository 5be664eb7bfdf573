-- the law's cases
set_option maxHeartbeats 4000000 in
set_option maxRecDepth 100000 in
theorem lc_read_x1 {p : Program} {l : Launch} {e : Env} {s : State} {m : MethodId} {below : List Frame} {meth : Method} {c : Code} {b : Nat} {xs : Nat → Int32} {H : Heap} {locs : List Loc} {ls : Array Slot} {Q : State → Prop} {D : va_G} {cA : Nat → ClassId} {Ad : Nat → Nat → Nat} {a : Nat → Nat} {o9 : Nat} {A0 : Nat → Prop} (C : LCtx p l s m c b xs D cA A0) (Wd : LWl D cA Ad a o9 s A0 H locs) (hl : lv_has ls 9 [(4, .int 0), (3, .ref o9), (2, .ref (a 0)), (1, .ref (Ad 10 0)), (0, .ref b)]) (K : LKn p l e s m b below meth c Q A0) (x : Int32) (hx0 : inF x 0 15 = 0) (hx1 : xs 1 = x) : W p l e room_1 s m #[Value.ref b] below meth c H locs 1000 5000 Q (F0 m 492 ls []) := by
  obtain ⟨hx, hb, hml, hown, hts, hKN, hKY, hXZ, hX, hbl, hl0, hA, hbA⟩ := C
  obtain ⟨hP, hD, hS⟩ := Wd
  refine lv_aload_n hx hb dL_law_492 rfl (lv_at hl 3 rfl) ?_
  refine lv_aload_n hx hb dL_law_493 rfl (lv_at hl 4 rfl) ?_
  refine lv_iload hx hb dL_law_494 (lv_at hl 0 rfl) ?_
  refine lv_iconst (v := 1) hx hb dL_law_496 (by decide) ?_
  refine lz_iadd (v := 1) hx hb dL_law_497 (by decide) ?_
  refine va_sld hx hb hX hbl hbA hS vi_1 dL_law_498 ?_
  refine lz_top (v := x) (by rw [cl_1]; exact hx1) ?_
  refine lv_aload_n hx hb dL_law_499 rfl (lv_at hl 1 rfl) ?_
  refine lh_S (As := [.ref (Ad 10 0), .int x, .ref o9]) (rest := []) ⟨hx, hb, hml, hown, hts⟩ (h_read_x1 l hl0 D cA _ Ad o9 x hx0 (va_P_l hP) (va_D_l hD)) (vx_cwSW 3 hts gL_law_L_read rfl rfl rfl (by decide +kernel) ⟨Nat.le_of_ble_eq_true rfl, Nat.le_of_ble_eq_true rfl⟩) hKN hKY ((hXZ.kept (fun q h1 h2 => hS.2.1 q h1 h2)).narrow (lc_F hD hS hA)) mem_o9 hP hD hS hA rfl hl.1 rfl (lv_room (Nat.le_of_ble_eq_true rfl)) dL_law_500 ⟨Nat.le_of_ble_eq_true rfl, Nat.le_of_ble_eq_true rfl⟩ (fun H locs hP hD hS => ?_)
  refine lv_istore (lv' := [(5, .int 1), (4, .int 0), (3, .ref o9), (2, .ref (a 0)), (1, .ref (Ad 10 0)), (0, .ref b)]) hx hb dL_law_503 hl (by decide) rfl (fun ls hl => ?_)
  refine lv_aload_n hx hb dL_law_505 rfl (lv_at hl 3 rfl) ?_
  refine lv_aload_n hx hb dL_law_506 rfl (lv_at hl 5 rfl) ?_
  refine lv_iload hx hb dL_law_507 (lv_at hl 1 rfl) ?_
  refine lv_iconst (v := 1) hx hb dL_law_509 (by decide) ?_
  refine lz_iadd (v := 1) hx hb dL_law_510 (by decide) ?_
  refine va_sld hx hb hX hbl hbA hS vi_1 dL_law_511 ?_
  refine lz_top (v := x) (by rw [cl_1]; exact hx1) ?_
  refine mu_Va (ci := 5) (q0 := 0) (As := [.int x]) (rest := []) ⟨hx, hb, hml, hown, hts⟩ (n_read l D cA _ a 0 f0 (fun _ => 0) (fun _ => 0) (fun _ => 0) 0 x hx0 (va_P_l hP) (va_D_l hD)) (cwV 1 hts gL_law_X5_read rfl rfl rfl (by decide +kernel) ⟨Nat.le_of_ble_eq_true rfl, Nat.le_of_ble_eq_true rfl⟩) hKN hP hD hS hA rfl rfl ((wMd_fst _ _ _).trans (wMd_fst _ _ _).symm) rfl hl.1 rfl (lv_room (Nat.le_of_ble_eq_true rfl)) dL_law_512 ⟨Nat.le_of_ble_eq_true rfl, Nat.le_of_ble_eq_true rfl⟩ (fun H locs hP hD hS => ?_)
  refine lz_top (v := 0) rfl ?_
  refine lv_istore (lv' := [(6, .int 0), (5, .int 1), (4, .int 0), (3, .ref o9), (2, .ref (a 0)), (1, .ref (Ad 10 0)), (0, .ref b)]) hx hb dL_law_515 hl (by decide) rfl (fun ls hl => ?_)
  refine lv_aload_n hx hb dL_law_517 rfl (lv_at hl 4 rfl) ?_
  refine ro_V (ci := 5) (q0 := 0) (As := []) (rest := []) ⟨hx, hb, hml, hown, hts⟩ (c_X5_thrown l D cA _ a _ (va_P_l hP)) (cwV 0 hts gL_law_X5_thrown rfl rfl rfl (by decide +kernel) ⟨Nat.le_of_ble_eq_true rfl, Nat.le_of_ble_eq_true rfl⟩) hKN hP rfl rfl rfl hl.1 rfl (lv_room (Nat.le_of_ble_eq_true rfl)) dL_law_518 ⟨Nat.le_of_ble_eq_true rfl, Nat.le_of_ble_eq_true rfl⟩ ?_
  refine lz_top (v := 1) rfl ?_
  refine lv_iload hx hb dL_law_521 (lv_at hl 1 rfl) ?_
  refine lv_icmp_eq (tgt := 528) hx hb dL_law_523 (by decide) (fun _ => ?_) (fun h => absurd (by decide) h)
  refine lv_iload hx hb dL_law_528 (lv_at hl 1 rfl) ?_
  refine lv_if_ne (tgt := 545) hx hb dL_law_530 (by decide) (fun _ => ?_) (fun h => absurd h (by decide))
  refine lv_goto (tgt := 1723) hx hb dL_law_545 (by decide) ?_
  exact W.widen (k := 2000) (n := 9000) (by decide) (by decide) (K H locs ls hS (lv_sub hl [2, 6] rfl))
set_option maxHeartbeats 4000000 in
set_option maxRecDepth 100000 in
theorem lc_go_v {p : Program} {l : Launch} {e : Env} {s : State} {m : MethodId} {below : List Frame} {meth : Method} {c : Code} {b : Nat} {xs : Nat → Int32} {H : Heap} {locs : List Loc} {ls : Array Slot} {Q : State → Prop} {D : va_G} {cA : Nat → ClassId} {Ad : Nat → Nat → Nat} {a : Nat → Nat} {o9 : Nat} {A0 : Nat → Prop} (C : LCtx p l s m c b xs D cA A0) (Wd : LWl D cA Ad a o9 s A0 H locs) (hl : lv_has ls 9 [(4, .int 0), (3, .ref o9), (2, .ref (a 0)), (1, .ref (Ad 10 0)), (0, .ref b)]) (K : LKn p l e s m b below meth c Q A0) (n : Nat) (h1 : 1 ≤ n) (h99 : n ≤ 99) (hx1 : xs 1 = (nI n)) : W p l e room_1 s m #[Value.ref b] below meth c H locs 1000 5000 Q (F0 m 561 ls []) := by
  obtain ⟨hx, hb, hml, hown, hts, hKN, hKY, hXZ, hX, hbl, hl0, hA, hbA⟩ := C
  obtain ⟨hP, hD, hS⟩ := Wd
  refine lv_aload_n hx hb dL_law_561 rfl (lv_at hl 3 rfl) ?_
  refine lv_aload_n hx hb dL_law_562 rfl (lv_at hl 4 rfl) ?_
  refine lv_iload hx hb dL_law_563 (lv_at hl 0 rfl) ?_
  refine lv_iconst (v := 1) hx hb dL_law_565 (by decide) ?_
  refine lz_iadd (v := 1) hx hb dL_law_566 (by decide) ?_
  refine va_sld hx hb hX hbl hbA hS vi_1 dL_law_567 ?_
  refine lz_top (v := (nI n)) (by rw [cl_1]; exact hx1) ?_
  refine lv_aload_n hx hb dL_law_568 rfl (lv_at hl 1 rfl) ?_
  refine lh_S (As := [.ref (Ad 10 0), .int (nI n), .ref o9]) (rest := []) ⟨hx, hb, hml, hown, hts⟩ (h_go_v l hl0 D cA _ Ad o9 n h1 h99 (va_P_l hP) (va_D_l hD)) (vx_cwSW 3 hts gL_law_L_go rfl rfl rfl (by decide +kernel) ⟨Nat.le_of_ble_eq_true rfl, Nat.le_of_ble_eq_true rfl⟩) hKN hKY ((hXZ.kept (fun q h1 h2 => hS.2.1 q h1 h2)).narrow (lc_F hD hS hA)) mem_o9 hP hD hS hA rfl hl.1 rfl (lv_room (Nat.le_of_ble_eq_true rfl)) dL_law_569 ⟨Nat.le_of_ble_eq_true rfl, Nat.le_of_ble_eq_true rfl⟩ (fun H locs hP hD hS => ?_)
  refine lv_istore (lv' := [(5, .int 0), (4, .int 0), (3, .ref o9), (2, .ref (a 0)), (1, .ref (Ad 10 0)), (0, .ref b)]) hx hb dL_law_572 hl (by decide) rfl (fun ls hl => ?_)
  refine lv_aload_n hx hb dL_law_574 rfl (lv_at hl 3 rfl) ?_
  refine lv_aload_n hx hb dL_law_575 rfl (lv_at hl 5 rfl) ?_
  refine lv_iload hx hb dL_law_576 (lv_at hl 1 rfl) ?_
  refine lv_iconst (v := 1) hx hb dL_law_578 (by decide) ?_
  refine lz_iadd (v := 1) hx hb dL_law_579 (by decide) ?_
  refine va_sld hx hb hX hbl hbA hS vi_1 dL_law_580 ?_
  refine lz_top (v := (nI n)) (by rw [cl_1]; exact hx1) ?_
  refine mu_Va (ci := 5) (q0 := 0) (As := [.int (nI n)]) (rest := []) ⟨hx, hb, hml, hown, hts⟩ (c_X5_go l D cA _ a 0 f0 (fun _ => 0) (fun _ => 0) (fun _ => 0) 0 n h1 h99 f0_FR (va_P_l hP) (va_D_l hD)) (cwV 1 hts gL_law_X5_go rfl rfl rfl (by decide +kernel) ⟨Nat.le_of_ble_eq_true rfl, Nat.le_of_ble_eq_true rfl⟩) hKN hP hD hS hA rfl rfl ((wMd_fst _ _ _).trans (wMd_fst _ _ _).symm) rfl hl.1 rfl (lv_room (Nat.le_of_ble_eq_true rfl)) dL_law_581 ⟨Nat.le_of_ble_eq_true rfl, Nat.le_of_ble_eq_true rfl⟩ (fun H locs hP hD hS => ?_)
  refine lz_top (v := 1) rfl ?_
  refine lv_istore (lv' := [(6, .int 1), (5, .int 0), (4, .int 0), (3, .ref o9), (2, .ref (a 0)), (1, .ref (Ad 10 0)), (0, .ref b)]) hx hb dL_law_584 hl (by decide) rfl (fun ls hl => ?_)
  refine lv_aload_n hx hb dL_law_586 rfl (lv_at hl 4 rfl) ?_
  refine ro_V (ci := 5) (q0 := 0) (As := []) (rest := []) ⟨hx, hb, hml, hown, hts⟩ (c_X5_thrown l D cA _ a _ (va_P_l hP)) (cwV 0 hts gL_law_X5_thrown rfl rfl rfl (by decide +kernel) ⟨Nat.le_of_ble_eq_true rfl, Nat.le_of_ble_eq_true rfl⟩) hKN hP rfl rfl rfl hl.1 rfl (lv_room (Nat.le_of_ble_eq_true rfl)) dL_law_587 ⟨Nat.le_of_ble_eq_true rfl, Nat.le_of_ble_eq_true rfl⟩ ?_
  refine lz_top (v := 0) rfl ?_
  refine lv_iload hx hb dL_law_590 (lv_at hl 1 rfl) ?_
  refine lv_icmp_eq (tgt := 597) hx hb dL_law_592 (by decide) (fun _ => ?_) (fun h => absurd (by decide) h)
  refine lv_iload hx hb dL_law_597 (lv_at hl 1 rfl) ?_
  refine lv_if_ne (tgt := 614) hx hb dL_law_599 (by decide) (fun h => absurd (by decide) h) (fun _ => ?_)
  refine lv_aload_n hx hb dL_law_602 rfl (lv_at hl 3 rfl) ?_
  refine lv_iconst (v := 0) hx hb dL_law_603 (by decide) ?_
  refine lz_lald (k := 0) (f := (vp_updL (fun _ => 0) 0 (i2lF 1))) hx hb hKN.1 hP 5 3 rfl rfl ⟨by decide, by decide⟩ dL_law_604 ?_
  refine lz_topL (v := (i2lF 1)) rfl ?_
  refine lv_iload hx hb dL_law_605 (lv_at hl 0 rfl) ?_
  refine lv_i2l (v := (i2lF 1)) hx hb dL_law_607 rfl ?_
  refine W.lcmp hx hb dL_law_608 ?_
  refine lz_top (v := 0) (lg_cmp_self _) ?_
  refine lv_if_eq (tgt := 614) hx hb dL_law_609 (by decide) (fun _ => ?_) (fun h => absurd (by decide) h)
  refine lv_goto (tgt := 1723) hx hb dL_law_614 (by decide) ?_
  exact W.widen (k := 2000) (n := 9000) (by decide) (by decide) (K H locs ls hS (lv_sub hl [2, 6] rfl))
set_option maxHeartbeats 4000000 in
set_option maxRecDepth 100000 in
theorem lc_go_x1 {p : Program} {l : Launch} {e : Env} {s : State} {m : MethodId} {below : List Frame} {meth : Method} {c : Code} {b : Nat} {xs : Nat → Int32} {H : Heap} {locs : List Loc} {ls : Array Slot} {Q : State → Prop} {D : va_G} {cA : Nat → ClassId} {Ad : Nat → Nat → Nat} {a : Nat → Nat} {o9 : Nat} {A0 : Nat → Prop} (C : LCtx p l s m c b xs D cA A0) (Wd : LWl D cA Ad a o9 s A0 H locs) (hl : lv_has ls 9 [(4, .int 0), (3, .ref o9), (2, .ref (a 0)), (1, .ref (Ad 10 0)), (0, .ref b)]) (K : LKn p l e s m b below meth c Q A0) (x : Int32) (hx0 : inF x 1 99 = 0) (hx1 : xs 1 = x) : W p l e room_1 s m #[Value.ref b] below meth c H locs 1000 5000 Q (F0 m 561 ls []) := by
  obtain ⟨hx, hb, hml, hown, hts, hKN, hKY, hXZ, hX, hbl, hl0, hA, hbA⟩ := C
  obtain ⟨hP, hD, hS⟩ := Wd
  refine lv_aload_n hx hb dL_law_561 rfl (lv_at hl 3 rfl) ?_
  refine lv_aload_n hx hb dL_law_562 rfl (lv_at hl 4 rfl) ?_
  refine lv_iload hx hb dL_law_563 (lv_at hl 0 rfl) ?_
  refine lv_iconst (v := 1) hx hb dL_law_565 (by decide) ?_
  refine lz_iadd (v := 1) hx hb dL_law_566 (by decide) ?_
  refine va_sld hx hb hX hbl hbA hS vi_1 dL_law_567 ?_
  refine lz_top (v := x) (by rw [cl_1]; exact hx1) ?_
  refine lv_aload_n hx hb dL_law_568 rfl (lv_at hl 1 rfl) ?_
  refine lh_S (As := [.ref (Ad 10 0), .int x, .ref o9]) (rest := []) ⟨hx, hb, hml, hown, hts⟩ (h_go_x1 l hl0 D cA _ Ad o9 x hx0 (va_P_l hP) (va_D_l hD)) (vx_cwSW 3 hts gL_law_L_go rfl rfl rfl (by decide +kernel) ⟨Nat.le_of_ble_eq_true rfl, Nat.le_of_ble_eq_true rfl⟩) hKN hKY ((hXZ.kept (fun q h1 h2 => hS.2.1 q h1 h2)).narrow (lc_F hD hS hA)) mem_o9 hP hD hS hA rfl hl.1 rfl (lv_room (Nat.le_of_ble_eq_true rfl)) dL_law_569 ⟨Nat.le_of_ble_eq_true rfl, Nat.le_of_ble_eq_true rfl⟩ (fun H locs hP hD hS => ?_)
  refine lv_istore (lv' := [(5, .int 1), (4, .int 0), (3, .ref o9), (2, .ref (a 0)), (1, .ref (Ad 10 0)), (0, .ref b)]) hx hb dL_law_572 hl (by decide) rfl (fun ls hl => ?_)
  refine lv_aload_n hx hb dL_law_574 rfl (lv_at hl 3 rfl) ?_
  refine lv_aload_n hx hb dL_law_575 rfl (lv_at hl 5 rfl) ?_
  refine lv_iload hx hb dL_law_576 (lv_at hl 1 rfl) ?_
  refine lv_iconst (v := 1) hx hb dL_law_578 (by decide) ?_
  refine lz_iadd (v := 1) hx hb dL_law_579 (by decide) ?_
  refine va_sld hx hb hX hbl hbA hS vi_1 dL_law_580 ?_
  refine lz_top (v := x) (by rw [cl_1]; exact hx1) ?_
  refine mu_Va (ci := 5) (q0 := 0) (As := [.int x]) (rest := []) ⟨hx, hb, hml, hown, hts⟩ (n_go l D cA _ a 0 f0 (fun _ => 0) (fun _ => 0) (fun _ => 0) 0 x hx0 (va_P_l hP) (va_D_l hD)) (cwV 1 hts gL_law_X5_go rfl rfl rfl (by decide +kernel) ⟨Nat.le_of_ble_eq_true rfl, Nat.le_of_ble_eq_true rfl⟩) hKN hP hD hS hA rfl rfl ((wMd_fst _ _ _).trans (wMd_fst _ _ _).symm) rfl hl.1 rfl (lv_room (Nat.le_of_ble_eq_true rfl)) dL_law_581 ⟨Nat.le_of_ble_eq_true rfl, Nat.le_of_ble_eq_true rfl⟩ (fun H locs hP hD hS => ?_)
  refine lz_top (v := 0) rfl ?_
  refine lv_istore (lv' := [(6, .int 0), (5, .int 1), (4, .int 0), (3, .ref o9), (2, .ref (a 0)), (1, .ref (Ad 10 0)), (0, .ref b)]) hx hb dL_law_584 hl (by decide) rfl (fun ls hl => ?_)
  refine lv_aload_n hx hb dL_law_586 rfl (lv_at hl 4 rfl) ?_
  refine ro_V (ci := 5) (q0 := 0) (As := []) (rest := []) ⟨hx, hb, hml, hown, hts⟩ (c_X5_thrown l D cA _ a _ (va_P_l hP)) (cwV 0 hts gL_law_X5_thrown rfl rfl rfl (by decide +kernel) ⟨Nat.le_of_ble_eq_true rfl, Nat.le_of_ble_eq_true rfl⟩) hKN hP rfl rfl rfl hl.1 rfl (lv_room (Nat.le_of_ble_eq_true rfl)) dL_law_587 ⟨Nat.le_of_ble_eq_true rfl, Nat.le_of_ble_eq_true rfl⟩ ?_
  refine lz_top (v := 1) rfl ?_
  refine lv_iload hx hb dL_law_590 (lv_at hl 1 rfl) ?_
  refine lv_icmp_eq (tgt := 597) hx hb dL_law_592 (by decide) (fun _ => ?_) (fun h => absurd (by decide) h)
  refine lv_iload hx hb dL_law_597 (lv_at hl 1 rfl) ?_
  refine lv_if_ne (tgt := 614) hx hb dL_law_599 (by decide) (fun _ => ?_) (fun h => absurd h (by decide))
  refine lv_goto (tgt := 1723) hx hb dL_law_614 (by decide) ?_
  exact W.widen (k := 2000) (n := 9000) (by decide) (by decide) (K H locs ls hS (lv_sub hl [2, 6] rfl))
set_option maxHeartbeats 4000000 in
set_option maxRecDepth 100000 in
theorem lc_append_v {p : Program} {l : Launch} {e : Env} {s : State} {m : MethodId} {below : List Frame} {meth : Method} {c : Code} {b : Nat} {xs : Nat → Int32} {H : Heap} {locs : List Loc} {ls : Array Slot} {Q : State → Prop} {D : va_G} {cA : Nat → ClassId} {Ad : Nat → Nat → Nat} {a : Nat → Nat} {o9 : Nat} {A0 : Nat → Prop} (C : LCtx p l s m c b xs D cA A0) (Wd : LWl D cA Ad a o9 s A0 H locs) (hl : lv_has ls 9 [(4, .int 0), (3, .ref o9), (2, .ref (a 0)), (1, .ref (Ad 10 0)), (0, .ref b)]) (K : LKn p l e s m b below meth c Q A0) (k : Nat) (h1 : 33 ≤ k) (h2 : k ≤ 126) (hx1 : xs 1 = (nI k)) : W p l e room_1 s m #[Value.ref b] below meth c H locs 1000 5000 Q (F0 m 617 ls []) := by
  obtain ⟨hx, hb, hml, hown, hts, hKN, hKY, hXZ, hX, hbl, hl0, hA, hbA⟩ := C
  obtain ⟨hP, hD, hS⟩ := Wd
  refine lv_aload_n hx hb dL_law_617 rfl (lv_at hl 3 rfl) ?_
  refine lv_aload_n hx hb dL_law_618 rfl (lv_at hl 4 rfl) ?_
  refine lv_iload hx hb dL_law_619 (lv_at hl 0 rfl) ?_
  refine lv_iconst (v := 1) hx hb dL_law_621 (by decide) ?_
  refine lz_iadd (v := 1) hx hb dL_law_622 (by decide) ?_
  refine va_sld hx hb hX hbl hbA hS vi_1 dL_law_623 ?_
  refine lz_top (v := (nI k)) (by rw [cl_1]; exact hx1) ?_
  refine lv_aload_n hx hb dL_law_624 rfl (lv_at hl 1 rfl) ?_
  refine lh_S (As := [.ref (Ad 10 0), .int (nI k), .ref o9]) (rest := []) ⟨hx, hb, hml, hown, hts⟩ (h_append_v l hl0 D cA _ Ad o9 k h1 h2 (va_P_l hP) (va_D_l hD)) (vx_cwSW 3 hts gL_law_L_append rfl rfl rfl (by decide +kernel) ⟨Nat.le_of_ble_eq_true rfl, Nat.le_of_ble_eq_true rfl⟩) hKN hKY ((hXZ.kept (fun q h1 h2 => hS.2.1 q h1 h2)).narrow (lc_F hD hS hA)) mem_o9 hP hD hS hA rfl hl.1 rfl (lv_room (Nat.le_of_ble_eq_true rfl)) dL_law_625 ⟨Nat.le_of_ble_eq_true rfl, Nat.le_of_ble_eq_true rfl⟩ (fun H locs hP hD hS => ?_)
  refine lv_istore (lv' := [(5, .int 0), (4, .int 0), (3, .ref o9), (2, .ref (a 0)), (1, .ref (Ad 10 0)), (0, .ref b)]) hx hb dL_law_628 hl (by decide) rfl (fun ls hl => ?_)
  refine lv_aload_n hx hb dL_law_630 rfl (lv_at hl 3 rfl) ?_
  refine lv_aload_n hx hb dL_law_631 rfl (lv_at hl 5 rfl) ?_
  refine lv_iload hx hb dL_law_632 (lv_at hl 1 rfl) ?_
  refine lv_iconst (v := 1) hx hb dL_law_634 (by decide) ?_
  refine lz_iadd (v := 1) hx hb dL_law_635 (by decide) ?_
  refine va_sld hx hb hX hbl hbA hS vi_1 dL_law_636 ?_
  refine lz_top (v := (nI k)) (by rw [cl_1]; exact hx1) ?_
  refine mu_Va (ci := 5) (q0 := 0) (As := [.int (nI k)]) (rest := []) ⟨hx, hb, hml, hown, hts⟩ (c_X5_append l D cA _ a 0 f0 (fun _ => 0) (fun _ => 0) (fun _ => 0) 0 k h1 h2 f0_FR (va_P_l hP) (va_D_l hD)) (cwV 1 hts gL_law_X5_append rfl rfl rfl (by decide +kernel) ⟨Nat.le_of_ble_eq_true rfl, Nat.le_of_ble_eq_true rfl⟩) hKN hP hD hS hA rfl rfl ((wMd_fst _ _ _).trans (wMd_fst _ _ _).symm) rfl hl.1 rfl (lv_room (Nat.le_of_ble_eq_true rfl)) dL_law_637 ⟨Nat.le_of_ble_eq_true rfl, Nat.le_of_ble_eq_true rfl⟩ (fun H locs hP hD hS => ?_)
  refine lz_top (v := 1) rfl ?_
  refine lv_istore (lv' := [(6, .int 1), (5, .int 0), (4, .int 0), (3, .ref o9), (2, .ref (a 0)), (1, .ref (Ad 10 0)), (0, .ref b)]) hx hb dL_law_640 hl (by decide) rfl (fun ls hl => ?_)
  refine lv_aload_n hx hb dL_law_642 rfl (lv_at hl 4 rfl) ?_
  refine ro_V (ci := 5) (q0 := 0) (As := []) (rest := []) ⟨hx, hb, hml, hown, hts⟩ (c_X5_thrown l D cA _ a _ (va_P_l hP)) (cwV 0 hts gL_law_X5_thrown rfl rfl rfl (by decide +kernel) ⟨Nat.le_of_ble_eq_true rfl, Nat.le_of_ble_eq_true rfl⟩) hKN hP rfl rfl rfl hl.1 rfl (lv_room (Nat.le_of_ble_eq_true rfl)) dL_law_643 ⟨Nat.le_of_ble_eq_true rfl, Nat.le_of_ble_eq_true rfl⟩ ?_
  refine lz_top (v := 0) rfl ?_
  refine lv_iload hx hb dL_law_646 (lv_at hl 1 rfl) ?_
  refine lv_icmp_eq (tgt := 653) hx hb dL_law_648 (by decide) (fun _ => ?_) (fun h => absurd (by decide) h)
  refine lv_iload hx hb dL_law_653 (lv_at hl 1 rfl) ?_
  refine lv_if_ne (tgt := 670) hx hb dL_law_655 (by decide) (fun h => absurd (by decide) h) (fun _ => ?_)
  refine lv_aload_n hx hb dL_law_658 rfl (lv_at hl 3 rfl) ?_
  refine lv_iconst (v := 0) hx hb dL_law_659 (by decide) ?_
  refine lz_lald (k := 0) (f := (vp_updL (fun _ => 0) 0 (i2lF 1))) hx hb hKN.1 hP 5 3 rfl rfl ⟨by decide, by decide⟩ dL_law_660 ?_
  refine lz_topL (v := (i2lF 1)) rfl ?_
  refine lv_iload hx hb dL_law_661 (lv_at hl 0 rfl) ?_
  refine lv_i2l (v := (i2lF 1)) hx hb dL_law_663 rfl ?_
  refine W.lcmp hx hb dL_law_664 ?_
  refine lz_top (v := 0) (lg_cmp_self _) ?_
  refine lv_if_eq (tgt := 670) hx hb dL_law_665 (by decide) (fun _ => ?_) (fun h => absurd (by decide) h)
  refine lv_goto (tgt := 1723) hx hb dL_law_670 (by decide) ?_
  exact W.widen (k := 2000) (n := 9000) (by decide) (by decide) (K H locs ls hS (lv_sub hl [2, 6] rfl))
set_option maxHeartbeats 4000000 in
set_option maxRecDepth 100000 in
theorem lc_append_x1 {p : Program} {l : Launch} {e : Env} {s : State} {m : MethodId} {below : List Frame} {meth : Method} {c : Code} {b : Nat} {xs : Nat → Int32} {H : Heap} {locs : List Loc} {ls : Array Slot} {Q : State → Prop} {D : va_G} {cA : Nat → ClassId} {Ad : Nat → Nat → Nat} {a : Nat → Nat} {o9 : Nat} {A0 : Nat → Prop} (C : LCtx p l s m c b xs D cA A0) (Wd : LWl D cA Ad a o9 s A0 H locs) (hl : lv_has ls 9 [(4, .int 0), (3, .ref o9), (2, .ref (a 0)), (1, .ref (Ad 10 0)), (0, .ref b)]) (K : LKn p l e s m b below meth c Q A0) (x : Int32) (hx0 : inF x 33 126 = 0) (hx1 : xs 1 = x) : W p l e room_1 s m #[Value.ref b] below meth c H locs 1000 5000 Q (F0 m 617 ls []) := by
  obtain ⟨hx, hb, hml, hown, hts, hKN, hKY, hXZ, hX, hbl, hl0, hA, hbA⟩ := C
  obtain ⟨hP, hD, hS⟩ := Wd
  refine lv_aload_n hx hb dL_law_617 rfl (lv_at hl 3 rfl) ?_
  refine lv_aload_n hx hb dL_law_618 rfl (lv_at hl 4 rfl) ?_
  refine lv_iload hx hb dL_law_619 (lv_at hl 0 rfl) ?_
  refine lv_iconst (v := 1) hx hb dL_law_621 (by decide) ?_
  refine lz_iadd (v := 1) hx hb dL_law_622 (by decide) ?_
  refine va_sld hx hb hX hbl hbA hS vi_1 dL_law_623 ?_
  refine lz_top (v := x) (by rw [cl_1]; exact hx1) ?_
  refine lv_aload_n hx hb dL_law_624 rfl (lv_at hl 1 rfl) ?_
  refine lh_S (As := [.ref (Ad 10 0), .int x, .ref o9]) (rest := []) ⟨hx, hb, hml, hown, hts⟩ (h_append_x1 l hl0 D cA _ Ad o9 x hx0 (va_P_l hP) (va_D_l hD)) (vx_cwSW 3 hts gL_law_L_append rfl rfl rfl (by decide +kernel) ⟨Nat.le_of_ble_eq_true rfl, Nat.le_of_ble_eq_true rfl⟩) hKN hKY ((hXZ.kept (fun q h1 h2 => hS.2.1 q h1 h2)).narrow (lc_F hD hS hA)) mem_o9 hP hD hS hA rfl hl.1 rfl (lv_room (Nat.le_of_ble_eq_true rfl)) dL_law_625 ⟨Nat.le_of_ble_eq_true rfl, Nat.le_of_ble_eq_true rfl⟩ (fun H locs hP hD hS => ?_)
  refine lv_istore (lv' := [(5, .int 1), (4, .int 0), (3, .ref o9), (2, .ref (a 0)), (1, .ref (Ad 10 0)), (0, .ref b)]) hx hb dL_law_628 hl (by decide) rfl (fun ls hl => ?_)
  refine lv_aload_n hx hb dL_law_630 rfl (lv_at hl 3 rfl) ?_
  refine lv_aload_n hx hb dL_law_631 rfl (lv_at hl 5 rfl) ?_
  refine lv_iload hx hb dL_law_632 (lv_at hl 1 rfl) ?_
  refine lv_iconst (v := 1) hx hb dL_law_634 (by decide) ?_
  refine lz_iadd (v := 1) hx hb dL_law_635 (by decide) ?_
  refine va_sld hx hb hX hbl hbA hS vi_1 dL_law_636 ?_
  refine lz_top (v := x) (by rw [cl_1]; exact hx1) ?_
  refine mu_Va (ci := 5) (q0 := 0) (As := [.int x]) (rest := []) ⟨hx, hb, hml, hown, hts⟩ (n_append l D cA _ a 0 f0 (fun _ => 0) (fun _ => 0) (fun _ => 0) 0 x hx0 (va_P_l hP) (va_D_l hD)) (cwV 1 hts gL_law_X5_append rfl rfl rfl (by decide +kernel) ⟨Nat.le_of_ble_eq_true rfl, Nat.le_of_ble_eq_true rfl⟩) hKN hP hD hS hA rfl rfl ((wMd_fst _ _ _).trans (wMd_fst _ _ _).symm) rfl hl.1 rfl (lv_room (Nat.le_of_ble_eq_true rfl)) dL_law_637 ⟨Nat.le_of_ble_eq_true rfl, Nat.le_of_ble_eq_true rfl⟩ (fun H locs hP hD hS => ?_)
  refine lz_top (v := 0) rfl ?_
  refine lv_istore (lv' := [(6, .int 0), (5, .int 1), (4, .int 0), (3, .ref o9), (2, .ref (a 0)), (1, .ref (Ad 10 0)), (0, .ref b)]) hx hb dL_law_640 hl (by decide) rfl (fun ls hl => ?_)
  refine lv_aload_n hx hb dL_law_642 rfl (lv_at hl 4 rfl) ?_
  refine ro_V (ci := 5) (q0 := 0) (As := []) (rest := []) ⟨hx, hb, hml, hown, hts⟩ (c_X5_thrown l D cA _ a _ (va_P_l hP)) (cwV 0 hts gL_law_X5_thrown rfl rfl rfl (by decide +kernel) ⟨Nat.le_of_ble_eq_true rfl, Nat.le_of_ble_eq_true rfl⟩) hKN hP rfl rfl rfl hl.1 rfl (lv_room (Nat.le_of_ble_eq_true rfl)) dL_law_643 ⟨Nat.le_of_ble_eq_true rfl, Nat.le_of_ble_eq_true rfl⟩ ?_
  refine lz_top (v := 1) rfl ?_
  refine lv_iload hx hb dL_law_646 (lv_at hl 1 rfl) ?_
  refine lv_icmp_eq (tgt := 653) hx hb dL_law_648 (by decide) (fun _ => ?_) (fun h => absurd (by decide) h)
  refine lv_iload hx hb dL_law_653 (lv_at hl 1 rfl) ?_
  refine lv_if_ne (tgt := 670) hx hb dL_law_655 (by decide) (fun _ => ?_) (fun h => absurd h (by decide))
  refine lv_goto (tgt := 1723) hx hb dL_law_670 (by decide) ?_
  exact W.widen (k := 2000) (n := 9000) (by decide) (by decide) (K H locs ls hS (lv_sub hl [2, 6] rfl))
set_option maxHeartbeats 4000000 in
set_option maxRecDepth 100000 in
theorem lc_load_v {p : Program} {l : Launch} {e : Env} {s : State} {m : MethodId} {below : List Frame} {meth : Method} {c : Code} {b : Nat} {xs : Nat → Int32} {H : Heap} {locs : List Loc} {ls : Array Slot} {Q : State → Prop} {D : va_G} {cA : Nat → ClassId} {Ad : Nat → Nat → Nat} {a : Nat → Nat} {o9 : Nat} {A0 : Nat → Prop} (C : LCtx p l s m c b xs D cA A0) (Wd : LWl D cA Ad a o9 s A0 H locs) (hl : lv_has ls 9 [(4, .int 0), (3, .ref o9), (2, .ref (a 0)), (1, .ref (Ad 10 0)), (0, .ref b)]) (K : LKn p l e s m b below meth c Q A0) (t : Nat) (ht : t < 16) (hx1 : xs 1 = (nI t)) : W p l e room_1 s m #[Value.ref b] below meth c H locs 1000 5000 Q (F0 m 699 ls []) := by
  obtain ⟨hx, hb, hml, hown, hts, hKN, hKY, hXZ, hX, hbl, hl0, hA, hbA⟩ := C
  obtain ⟨hP, hD, hS⟩ := Wd
  refine lv_aload_n hx hb dL_law_699 rfl (lv_at hl 3 rfl) ?_
  refine lv_aload_n hx hb dL_law_700 rfl (lv_at hl 4 rfl) ?_
  refine lv_iload hx hb dL_law_701 (lv_at hl 0 rfl) ?_
  refine lv_iconst (v := 1) hx hb dL_law_703 (by decide) ?_
  refine lz_iadd (v := 1) hx hb dL_law_704 (by decide) ?_
  refine va_sld hx hb hX hbl hbA hS vi_1 dL_law_705 ?_
  refine lz_top (v := (nI t)) (by rw [cl_1]; exact hx1) ?_
  refine lv_aload_n hx hb dL_law_706 rfl (lv_at hl 1 rfl) ?_
  refine lh_S (As := [.ref (Ad 10 0), .int (nI t), .ref o9]) (rest := []) ⟨hx, hb, hml, hown, hts⟩ (h_load_v l hl0 D cA _ Ad o9 t ht (va_P_l hP) (va_D_l hD)) (vx_cwSW 3 hts gL_law_L_load rfl rfl rfl (by decide +kernel) ⟨Nat.le_of_ble_eq_true rfl, Nat.le_of_ble_eq_true rfl⟩) hKN hKY ((hXZ.kept (fun q h1 h2 => hS.2.1 q h1 h2)).narrow (lc_F hD hS hA)) mem_o9 hP hD hS hA rfl hl.1 rfl (lv_room (Nat.le_of_ble_eq_true rfl)) dL_law_707 ⟨Nat.le_of_ble_eq_true rfl, Nat.le_of_ble_eq_true rfl⟩ (fun H locs hP hD hS => ?_)
  refine lv_istore (lv' := [(5, .int 2), (4, .int 0), (3, .ref o9), (2, .ref (a 0)), (1, .ref (Ad 10 0)), (0, .ref b)]) hx hb dL_law_710 hl (by decide) rfl (fun ls hl => ?_)
  refine lv_aload_n hx hb dL_law_712 rfl (lv_at hl 3 rfl) ?_
  refine lv_aload_n hx hb dL_law_713 rfl (lv_at hl 5 rfl) ?_
  refine lv_iload hx hb dL_law_714 (lv_at hl 1 rfl) ?_
  refine lv_iconst (v := 1) hx hb dL_law_716 (by decide) ?_
  refine lz_iadd (v := 1) hx hb dL_law_717 (by decide) ?_
  refine va_sld hx hb hX hbl hbA hS vi_1 dL_law_718 ?_
  refine lz_top (v := (nI t)) (by rw [cl_1]; exact hx1) ?_
  refine mu_Va (ci := 5) (q0 := 0) (As := [.int (nI t)]) (rest := []) ⟨hx, hb, hml, hown, hts⟩ (c_X5_load l D cA _ a 0 f0 (fun _ => 0) (fun _ => 0) (fun _ => 0) 0 t ht f0_FR (va_P_l hP) (va_D_l hD)) (cwV 1 hts gL_law_X5_load rfl rfl rfl (by decide +kernel) ⟨Nat.le_of_ble_eq_true rfl, Nat.le_of_ble_eq_true rfl⟩) hKN hP hD hS hA rfl rfl ((wMd_fst _ _ _).trans (wMd_fst _ _ _).symm) rfl hl.1 rfl (lv_room (Nat.le_of_ble_eq_true rfl)) dL_law_719 ⟨Nat.le_of_ble_eq_true rfl, Nat.le_of_ble_eq_true rfl⟩ (fun H locs hP hD hS => ?_)
  refine lz_top (v := 0) rfl ?_
  refine lv_istore (lv' := [(6, .int 0), (5, .int 2), (4, .int 0), (3, .ref o9), (2, .ref (a 0)), (1, .ref (Ad 10 0)), (0, .ref b)]) hx hb dL_law_722 hl (by decide) rfl (fun ls hl => ?_)
  refine lv_aload_n hx hb dL_law_724 rfl (lv_at hl 4 rfl) ?_
  refine ro_V (ci := 5) (q0 := 0) (As := []) (rest := []) ⟨hx, hb, hml, hown, hts⟩ (c_X5_thrown l D cA _ a _ (va_P_l hP)) (cwV 0 hts gL_law_X5_thrown rfl rfl rfl (by decide +kernel) ⟨Nat.le_of_ble_eq_true rfl, Nat.le_of_ble_eq_true rfl⟩) hKN hP rfl rfl rfl hl.1 rfl (lv_room (Nat.le_of_ble_eq_true rfl)) dL_law_725 ⟨Nat.le_of_ble_eq_true rfl, Nat.le_of_ble_eq_true rfl⟩ ?_
  refine lz_top (v := 2) rfl ?_
  refine lv_iload hx hb dL_law_728 (lv_at hl 1 rfl) ?_
  refine lv_icmp_eq (tgt := 735) hx hb dL_law_730 (by decide) (fun _ => ?_) (fun h => absurd (by decide) h)
  refine lv_iload hx hb dL_law_735 (lv_at hl 1 rfl) ?_
  refine lv_if_ne (tgt := 752) hx hb dL_law_737 (by decide) (fun _ => ?_) (fun h => absurd h (by decide))
  refine lv_goto (tgt := 1723) hx hb dL_law_752 (by decide) ?_
  exact W.widen (k := 2000) (n := 9000) (by decide) (by decide) (K H locs ls hS (lv_sub hl [2, 6] rfl))
set_option maxHeartbeats 4000000 in
set_option maxRecDepth 100000 in
theorem lc_load_x1 {p : Program} {l : Launch} {e : Env} {s : State} {m : MethodId} {below : List Frame} {meth : Method} {c : Code} {b : Nat} {xs : Nat → Int32} {H : Heap} {locs : List Loc} {ls : Array Slot} {Q : State → Prop} {D : va_G} {cA : Nat → ClassId} {Ad : Nat → Nat → Nat} {a : Nat → Nat} {o9 : Nat} {A0 : Nat → Prop} (C : LCtx p l s m c b xs D cA A0) (Wd : LWl D cA Ad a o9 s A0 H locs) (hl : lv_has ls 9 [(4, .int 0), (3, .ref o9), (2, .ref (a 0)), (1, .ref (Ad 10 0)), (0, .ref b)]) (K : LKn p l e s m b below meth c Q A0) (x : Int32) (hx0 : inF x 0 15 = 0) (hx1 : xs 1 = x) : W p l e room_1 s m #[Value.ref b] below meth c H locs 1000 5000 Q (F0 m 699 ls []) := by
  obtain ⟨hx, hb, hml, hown, hts, hKN, hKY, hXZ, hX, hbl, hl0, hA, hbA⟩ := C
  obtain ⟨hP, hD, hS⟩ := Wd
  refine lv_aload_n hx hb dL_law_699 rfl (lv_at hl 3 rfl) ?_
  refine lv_aload_n hx hb dL_law_700 rfl (lv_at hl 4 rfl) ?_
  refine lv_iload hx hb dL_law_701 (lv_at hl 0 rfl) ?_
  refine lv_iconst (v := 1) hx hb dL_law_703 (by decide) ?_
  refine lz_iadd (v := 1) hx hb dL_law_704 (by decide) ?_
  refine va_sld hx hb hX hbl hbA hS vi_1 dL_law_705 ?_
  refine lz_top (v := x) (by rw [cl_1]; exact hx1) ?_
  refine lv_aload_n hx hb dL_law_706 rfl (lv_at hl 1 rfl) ?_
  refine lh_S (As := [.ref (Ad 10 0), .int x, .ref o9]) (rest := []) ⟨hx, hb, hml, hown, hts⟩ (h_load_x1 l hl0 D cA _ Ad o9 x hx0 (va_P_l hP) (va_D_l hD)) (vx_cwSW 3 hts gL_law_L_load rfl rfl rfl (by decide +kernel) ⟨Nat.le_of_ble_eq_true rfl, Nat.le_of_ble_eq_true rfl⟩) hKN hKY ((hXZ.kept (fun q h1 h2 => hS.2.1 q h1 h2)).narrow (lc_F hD hS hA)) mem_o9 hP hD hS hA rfl hl.1 rfl (lv_room (Nat.le_of_ble_eq_true rfl)) dL_law_707 ⟨Nat.le_of_ble_eq_true rfl, Nat.le_of_ble_eq_true rfl⟩ (fun H locs hP hD hS => ?_)
  refine lv_istore (lv' := [(5, .int 1), (4, .int 0), (3, .ref o9), (2, .ref (a 0)), (1, .ref (Ad 10 0)), (0, .ref b)]) hx hb dL_law_710 hl (by decide) rfl (fun ls hl => ?_)
  refine lv_aload_n hx hb dL_law_712 rfl (lv_at hl 3 rfl) ?_
  refine lv_aload_n hx hb dL_law_713 rfl (lv_at hl 5 rfl) ?_
  refine lv_iload hx hb dL_law_714 (lv_at hl 1 rfl) ?_
  refine lv_iconst (v := 1) hx hb dL_law_716 (by decide) ?_
  refine lz_iadd (v := 1) hx hb dL_law_717 (by decide) ?_
  refine va_sld hx hb hX hbl hbA hS vi_1 dL_law_718 ?_
  refine lz_top (v := x) (by rw [cl_1]; exact hx1) ?_
  refine mu_Va (ci := 5) (q0 := 0) (As := [.int x]) (rest := []) ⟨hx, hb, hml, hown, hts⟩ (n_load l D cA _ a 0 f0 (fun _ => 0) (fun _ => 0) (fun _ => 0) 0 x hx0 (va_P_l hP) (va_D_l hD)) (cwV 1 hts gL_law_X5_load rfl rfl rfl (by decide +kernel) ⟨Nat.le_of_ble_eq_true rfl, Nat.le_of_ble_eq_true rfl⟩) hKN hP hD hS hA rfl rfl ((wMd_fst _ _ _).trans (wMd_fst _ _ _).symm) rfl hl.1 rfl (lv_room (Nat.le_of_ble_eq_true rfl)) dL_law_719 ⟨Nat.le_of_ble_eq_true rfl, Nat.le_of_ble_eq_true rfl⟩ (fun H locs hP hD hS => ?_)
  refine lz_top (v := 0) rfl ?_
  refine lv_istore (lv' := [(6, .int 0), (5, .int 1), (4, .int 0), (3, .ref o9), (2, .ref (a 0)), (1, .ref (Ad 10 0)), (0, .ref b)]) hx hb dL_law_722 hl (by decide) rfl (fun ls hl => ?_)
  refine lv_aload_n hx hb dL_law_724 rfl (lv_at hl 4 rfl) ?_
  refine ro_V (ci := 5) (q0 := 0) (As := []) (rest := []) ⟨hx, hb, hml, hown, hts⟩ (c_X5_thrown l D cA _ a _ (va_P_l hP)) (cwV 0 hts gL_law_X5_thrown rfl rfl rfl (by decide +kernel) ⟨Nat.le_of_ble_eq_true rfl, Nat.le_of_ble_eq_true rfl⟩) hKN hP rfl rfl rfl hl.1 rfl (lv_room (Nat.le_of_ble_eq_true rfl)) dL_law_725 ⟨Nat.le_of_ble_eq_true rfl, Nat.le_of_ble_eq_true rfl⟩ ?_
  refine lz_top (v := 1) rfl ?_
  refine lv_iload hx hb dL_law_728 (lv_at hl 1 rfl) ?_
  refine lv_icmp_eq (tgt := 735) hx hb dL_law_730 (by decide) (fun _ => ?_) (fun h => absurd (by decide) h)
  refine lv_iload hx hb dL_law_735 (lv_at hl 1 rfl) ?_
  refine lv_if_ne (tgt := 752) hx hb dL_law_737 (by decide) (fun _ => ?_) (fun h => absurd h (by decide))
  refine lv_goto (tgt := 1723) hx hb dL_law_752 (by decide) ?_
  exact W.widen (k := 2000) (n := 9000) (by decide) (by decide) (K H locs ls hS (lv_sub hl [2, 6] rfl))
set_option maxHeartbeats 4000000 in
set_option maxRecDepth 100000 in
theorem lc_write_v {p : Program} {l : Launch} {e : Env} {s : State} {m : MethodId} {below : List Frame} {meth : Method} {c : Code} {b : Nat} {xs : Nat → Int32} {H : Heap} {locs : List Loc} {ls : Array Slot} {Q : State → Prop} {D : va_G} {cA : Nat → ClassId} {Ad : Nat → Nat → Nat} {a : Nat → Nat} {o9 : Nat} {A0 : Nat → Prop} (C : LCtx p l s m c b xs D cA A0) (Wd : LWl D cA Ad a o9 s A0 H locs) (hl : lv_has ls 9 [(4, .int 0), (3, .ref o9), (2, .ref (a 0)), (1, .ref (Ad 10 0)), (0, .ref b)]) (K : LKn p l e s m b below meth c Q A0) (t : Nat) (ht : t < 16) (v : Nat) (hv0 : v < 16) (htv : t ≤ v) (hx1 : xs 1 = (nI t)) (hx2 : xs 2 = (nI v)) : W p l e room_1 s m #[Value.ref b] below meth c H locs 1000 5000 Q (F0 m 755 ls []) := by
  obtain ⟨hx, hb, hml, hown, hts, hKN, hKY, hXZ, hX, hbl, hl0, hA, hbA⟩ := C
  obtain ⟨hP, hD, hS⟩ := Wd
  refine lv_aload_n hx hb dL_law_755 rfl (lv_at hl 3 rfl) ?_
  refine lv_aload_n hx hb dL_law_756 rfl (lv_at hl 4 rfl) ?_
  refine lv_iload hx hb dL_law_757 (lv_at hl 0 rfl) ?_
  refine lv_iconst (v := 1) hx hb dL_law_759 (by decide) ?_
  refine lz_iadd (v := 1) hx hb dL_law_760 (by decide) ?_
  refine va_sld hx hb hX hbl hbA hS vi_1 dL_law_761 ?_
  refine lz_top (v := (nI t)) (by rw [cl_1]; exact hx1) ?_
  refine lv_aload_n hx hb dL_law_762 rfl (lv_at hl 4 rfl) ?_
  refine lv_iload hx hb dL_law_763 (lv_at hl 0 rfl) ?_
  refine lv_iconst (v := 2) hx hb dL_law_765 (by decide) ?_
  refine lz_iadd (v := 2) hx hb dL_law_766 (by decide) ?_
  refine va_sld hx hb hX hbl hbA hS vi_2 dL_law_767 ?_
  refine lz_top (v := (nI v)) (by rw [cl_2]; exact hx2) ?_
  refine lv_aload_n hx hb dL_law_768 rfl (lv_at hl 1 rfl) ?_
  refine lh_S (As := [.ref (Ad 10 0), .int (nI t), .int (nI v), .ref o9]) (rest := []) ⟨hx, hb, hml, hown, hts⟩ (h_write_v l hl0 D cA _ Ad o9 t ht v hv0 htv (va_P_l hP) (va_D_l hD)) (vx_cwSW 4 hts gL_law_L_write rfl rfl rfl (by decide +kernel) ⟨Nat.le_of_ble_eq_true rfl, Nat.le_of_ble_eq_true rfl⟩) hKN hKY ((hXZ.kept (fun q h1 h2 => hS.2.1 q h1 h2)).narrow (lc_F hD hS hA)) mem_o9 hP hD hS hA rfl hl.1 rfl (lv_room (Nat.le_of_ble_eq_true rfl)) dL_law_769 ⟨Nat.le_of_ble_eq_true rfl, Nat.le_of_ble_eq_true rfl⟩ (fun H locs hP hD hS => ?_)
  refine lv_istore (lv' := [(5, .int 0), (4, .int 0), (3, .ref o9), (2, .ref (a 0)), (1, .ref (Ad 10 0)), (0, .ref b)]) hx hb dL_law_772 hl (by decide) rfl (fun ls hl => ?_)
  refine lv_aload_n hx hb dL_law_774 rfl (lv_at hl 3 rfl) ?_
  refine lv_aload_n hx hb dL_law_775 rfl (lv_at hl 5 rfl) ?_
  refine lv_iload hx hb dL_law_776 (lv_at hl 1 rfl) ?_
  refine lv_iconst (v := 1) hx hb dL_law_778 (by decide) ?_
  refine lz_iadd (v := 1) hx hb dL_law_779 (by decide) ?_
  refine va_sld hx hb hX hbl hbA hS vi_1 dL_law_780 ?_
  refine lz_top (v := (nI t)) (by rw [cl_1]; exact hx1) ?_
  refine lv_aload_n hx hb dL_law_781 rfl (lv_at hl 5 rfl) ?_
  refine lv_iload hx hb dL_law_782 (lv_at hl 1 rfl) ?_
  refine lv_iconst (v := 2) hx hb dL_law_784 (by decide) ?_
  refine lz_iadd (v := 2) hx hb dL_law_785 (by decide) ?_
  refine va_sld hx hb hX hbl hbA hS vi_2 dL_law_786 ?_
  refine lz_top (v := (nI v)) (by rw [cl_2]; exact hx2) ?_
  refine mu_Va (ci := 5) (q0 := 0) (As := [.int (nI t), .int (nI v)]) (rest := []) ⟨hx, hb, hml, hown, hts⟩ (c_X5_write l D cA _ a 0 f0 (fun _ => 0) (fun _ => 0) (fun _ => 0) 0 t v ht hv0 htv f0_FR (va_P_l hP) (va_D_l hD)) (cwV 2 hts gL_law_X5_write rfl rfl rfl (by decide +kernel) ⟨Nat.le_of_ble_eq_true rfl, Nat.le_of_ble_eq_true rfl⟩) hKN hP hD hS hA rfl rfl ((wMd_fst _ _ _).trans (wMd_fst _ _ _).symm) rfl hl.1 rfl (lv_room (Nat.le_of_ble_eq_true rfl)) dL_law_787 ⟨Nat.le_of_ble_eq_true rfl, Nat.le_of_ble_eq_true rfl⟩ (fun H locs hP hD hS => ?_)
  refine lz_top (v := (nI (2 * (v + 1 - t)))) rfl ?_
  refine lv_istore (lv' := [(6, .int (nI (2 * (v + 1 - t)))), (5, .int 0), (4, .int 0), (3, .ref o9), (2, .ref (a 0)), (1, .ref (Ad 10 0)), (0, .ref b)]) hx hb dL_law_790 hl (by decide) rfl (fun ls hl => ?_)
  refine lv_aload_n hx hb dL_law_792 rfl (lv_at hl 4 rfl) ?_
  refine ro_V (ci := 5) (q0 := 0) (As := []) (rest := []) ⟨hx, hb, hml, hown, hts⟩ (c_X5_thrown l D cA _ a _ (va_P_l hP)) (cwV 0 hts gL_law_X5_thrown rfl rfl rfl (by decide +kernel) ⟨Nat.le_of_ble_eq_true rfl, Nat.le_of_ble_eq_true rfl⟩) hKN hP rfl rfl rfl hl.1 rfl (lv_room (Nat.le_of_ble_eq_true rfl)) dL_law_793 ⟨Nat.le_of_ble_eq_true rfl, Nat.le_of_ble_eq_true rfl⟩ ?_
  refine lz_top (v := 0) rfl ?_
  refine lv_iload hx hb dL_law_796 (lv_at hl 1 rfl) ?_
  refine lv_icmp_eq (tgt := 803) hx hb dL_law_798 (by decide) (fun _ => ?_) (fun h => absurd (by decide) h)
  refine lv_iload hx hb dL_law_803 (lv_at hl 1 rfl) ?_
  refine lv_if_ne (tgt := 820) hx hb dL_law_805 (by decide) (fun h => absurd (by decide) h) (fun _ => ?_)
  refine lv_aload_n hx hb dL_law_808 rfl (lv_at hl 3 rfl) ?_
  refine lv_iconst (v := 0) hx hb dL_law_809 (by decide) ?_
  refine lz_lald (k := 0) (f := (vp_updL (fun _ => 0) 0 (i2lF (nI (2 * (v + 1 - t)))))) hx hb hKN.1 hP 5 3 rfl rfl ⟨by decide, by decide⟩ dL_law_810 ?_
  refine lz_topL (v := (i2lF (nI (2 * (v + 1 - t))))) rfl ?_
  refine lv_iload hx hb dL_law_811 (lv_at hl 0 rfl) ?_
  refine lv_i2l (v := (i2lF (nI (2 * (v + 1 - t))))) hx hb dL_law_813 rfl ?_
  refine W.lcmp hx hb dL_law_814 ?_
  refine lz_top (v := 0) (lg_cmp_self _) ?_
  refine lv_if_eq (tgt := 820) hx hb dL_law_815 (by decide) (fun _ => ?_) (fun h => absurd (by decide) h)
  refine lv_goto (tgt := 1723) hx hb dL_law_820 (by decide) ?_
  exact W.widen (k := 2000) (n := 9000) (by decide) (by decide) (K H locs ls hS (lv_sub hl [2, 6] rfl))
set_option maxHeartbeats 4000000 in
set_option maxRecDepth 100000 in
theorem lc_write_x1 {p : Program} {l : Launch} {e : Env} {s : State} {m : MethodId} {below : List Frame} {meth : Method} {c : Code} {b : Nat} {xs : Nat → Int32} {H : Heap} {locs : List Loc} {ls : Array Slot} {Q : State → Prop} {D : va_G} {cA : Nat → ClassId} {Ad : Nat → Nat → Nat} {a : Nat → Nat} {o9 : Nat} {A0 : Nat → Prop} (C : LCtx p l s m c b xs D cA A0) (Wd : LWl D cA Ad a o9 s A0 H locs) (hl : lv_has ls 9 [(4, .int 0), (3, .ref o9), (2, .ref (a 0)), (1, .ref (Ad 10 0)), (0, .ref b)]) (K : LKn p l e s m b below meth c Q A0) (y : Int32) (x : Int32) (hx0 : inF x 0 15 = 0) (hx1 : xs 1 = x) (hx2 : xs 2 = y) : W p l e room_1 s m #[Value.ref b] below meth c H locs 1000 5000 Q (F0 m 755 ls []) := by
  obtain ⟨hx, hb, hml, hown, hts, hKN, hKY, hXZ, hX, hbl, hl0, hA, hbA⟩ := C
  obtain ⟨hP, hD, hS⟩ := Wd
  refine lv_aload_n hx hb dL_law_755 rfl (lv_at hl 3 rfl) ?_
  refine lv_aload_n hx hb dL_law_756 rfl (lv_at hl 4 rfl) ?_
  refine lv_iload hx hb dL_law_757 (lv_at hl 0 rfl) ?_
  refine lv_iconst (v := 1) hx hb dL_law_759 (by decide) ?_
  refine lz_iadd (v := 1) hx hb dL_law_760 (by decide) ?_
  refine va_sld hx hb hX hbl hbA hS vi_1 dL_law_761 ?_
  refine lz_top (v := x) (by rw [cl_1]; exact hx1) ?_
  refine lv_aload_n hx hb dL_law_762 rfl (lv_at hl 4 rfl) ?_
  refine lv_iload hx hb dL_law_763 (lv_at hl 0 rfl) ?_
  refine lv_iconst (v := 2) hx hb dL_law_765 (by decide) ?_
  refine lz_iadd (v := 2) hx hb dL_law_766 (by decide) ?_
  refine va_sld hx hb hX hbl hbA hS vi_2 dL_law_767 ?_
  refine lz_top (v := y) (by rw [cl_2]; exact hx2) ?_
  refine lv_aload_n hx hb dL_law_768 rfl (lv_at hl 1 rfl) ?_
  refine lh_S (As := [.ref (Ad 10 0), .int x, .int y, .ref o9]) (rest := []) ⟨hx, hb, hml, hown, hts⟩ (h_write_x1 l hl0 D cA _ Ad o9 y x hx0 (va_P_l hP) (va_D_l hD)) (vx_cwSW 4 hts gL_law_L_write rfl rfl rfl (by decide +kernel) ⟨Nat.le_of_ble_eq_true rfl, Nat.le_of_ble_eq_true rfl⟩) hKN hKY ((hXZ.kept (fun q h1 h2 => hS.2.1 q h1 h2)).narrow (lc_F hD hS hA)) mem_o9 hP hD hS hA rfl hl.1 rfl (lv_room (Nat.le_of_ble_eq_true rfl)) dL_law_769 ⟨Nat.le_of_ble_eq_true rfl, Nat.le_of_ble_eq_true rfl⟩ (fun H locs hP hD hS => ?_)
  refine lv_istore (lv' := [(5, .int 1), (4, .int 0), (3, .ref o9), (2, .ref (a 0)), (1, .ref (Ad 10 0)), (0, .ref b)]) hx hb dL_law_772 hl (by decide) rfl (fun ls hl => ?_)
  refine lv_aload_n hx hb dL_law_774 rfl (lv_at hl 3 rfl) ?_
  refine lv_aload_n hx hb dL_law_775 rfl (lv_at hl 5 rfl) ?_
  refine lv_iload hx hb dL_law_776 (lv_at hl 1 rfl) ?_
  refine lv_iconst (v := 1) hx hb dL_law_778 (by decide) ?_
  refine lz_iadd (v := 1) hx hb dL_law_779 (by decide) ?_
  refine va_sld hx hb hX hbl hbA hS vi_1 dL_law_780 ?_
  refine lz_top (v := x) (by rw [cl_1]; exact hx1) ?_
  refine lv_aload_n hx hb dL_law_781 rfl (lv_at hl 5 rfl) ?_
  refine lv_iload hx hb dL_law_782 (lv_at hl 1 rfl) ?_
  refine lv_iconst (v := 2) hx hb dL_law_784 (by decide) ?_
  refine lz_iadd (v := 2) hx hb dL_law_785 (by decide) ?_
  refine va_sld hx hb hX hbl hbA hS vi_2 dL_law_786 ?_
  refine lz_top (v := y) (by rw [cl_2]; exact hx2) ?_
  refine mu_Va (ci := 5) (q0 := 0) (As := [.int x, .int y]) (rest := []) ⟨hx, hb, hml, hown, hts⟩ (n_write1 l D cA _ a 0 f0 (fun _ => 0) (fun _ => 0) (fun _ => 0) 0 y x hx0 (va_P_l hP) (va_D_l hD)) (cwV 2 hts gL_law_X5_write rfl rfl rfl (by decide +kernel) ⟨Nat.le_of_ble_eq_true rfl, Nat.le_of_ble_eq_true rfl⟩) hKN hP hD hS hA rfl rfl ((wMd_fst _ _ _).trans (wMd_fst _ _ _).symm) rfl hl.1 rfl (lv_room (Nat.le_of_ble_eq_true rfl)) dL_law_787 ⟨Nat.le_of_ble_eq_true rfl, Nat.le_of_ble_eq_true rfl⟩ (fun H locs hP hD hS => ?_)
  refine lz_top (v := 0) rfl ?_
  refine lv_istore (lv' := [(6, .int 0), (5, .int 1), (4, .int 0), (3, .ref o9), (2, .ref (a 0)), (1, .ref (Ad 10 0)), (0, .ref b)]) hx hb dL_law_790 hl (by decide) rfl (fun ls hl => ?_)
  refine lv_aload_n hx hb dL_law_792 rfl (lv_at hl 4 rfl) ?_
  refine ro_V (ci := 5) (q0 := 0) (As := []) (rest := []) ⟨hx, hb, hml, hown, hts⟩ (c_X5_thrown l D cA _ a _ (va_P_l hP)) (cwV 0 hts gL_law_X5_thrown rfl rfl rfl (by decide +kernel) ⟨Nat.le_of_ble_eq_true rfl, Nat.le_of_ble_eq_true rfl⟩) hKN hP rfl rfl rfl hl.1 rfl (lv_room (Nat.le_of_ble_eq_true rfl)) dL_law_793 ⟨Nat.le_of_ble_eq_true rfl, Nat.le_of_ble_eq_true rfl⟩ ?_
  refine lz_top (v := 1) rfl ?_
  refine lv_iload hx hb dL_law_796 (lv_at hl 1 rfl) ?_
  refine lv_icmp_eq (tgt := 803) hx hb dL_law_798 (by decide) (fun _ => ?_) (fun h => absurd (by decide) h)
  refine lv_iload hx hb dL_law_803 (lv_at hl 1 rfl) ?_
  refine lv_if_ne (tgt := 820) hx hb dL_law_805 (by decide) (fun _ => ?_) (fun h => absurd h (by decide))
  refine lv_goto (tgt := 1723) hx hb dL_law_820 (by decide) ?_
  exact W.widen (k := 2000) (n := 9000) (by decide) (by decide) (K H locs ls hS (lv_sub hl [2, 6] rfl))
set_option maxHeartbeats 4000000 in
set_option maxRecDepth 100000 in
theorem lc_write_x2 {p : Program} {l : Launch} {e : Env} {s : State} {m : MethodId} {below : List Frame} {meth : Method} {c : Code} {b : Nat} {xs : Nat → Int32} {H : Heap} {locs : List Loc} {ls : Array Slot} {Q : State → Prop} {D : va_G} {cA : Nat → ClassId} {Ad : Nat → Nat → Nat} {a : Nat → Nat} {o9 : Nat} {A0 : Nat → Prop} (C : LCtx p l s m c b xs D cA A0) (Wd : LWl D cA Ad a o9 s A0 H locs) (hl : lv_has ls 9 [(4, .int 0), (3, .ref o9), (2, .ref (a 0)), (1, .ref (Ad 10 0)), (0, .ref b)]) (K : LKn p l e s m b below meth c Q A0) (t : Nat) (ht : t < 16) (x : Int32) (hx0 : inF x 0 15 = 0) (hx1 : xs 1 = (nI t)) (hx2 : xs 2 = x) : W p l e room_1 s m #[Value.ref b] below meth c H locs 1000 5000 Q (F0 m 755 ls []) := by
  obtain ⟨hx, hb, hml, hown, hts, hKN, hKY, hXZ, hX, hbl, hl0, hA, hbA⟩ := C
  obtain ⟨hP, hD, hS⟩ := Wd
  refine lv_aload_n hx hb dL_law_755 rfl (lv_at hl 3 rfl) ?_
  refine lv_aload_n hx hb dL_law_756 rfl (lv_at hl 4 rfl) ?_
  refine lv_iload hx hb dL_law_757 (lv_at hl 0 rfl) ?_
  refine lv_iconst (v := 1) hx hb dL_law_759 (by decide) ?_
  refine lz_iadd (v := 1) hx hb dL_law_760 (by decide) ?_
  refine va_sld hx hb hX hbl hbA hS vi_1 dL_law_761 ?_
  refine lz_top (v := (nI t)) (by rw [cl_1]; exact hx1) ?_
  refine lv_aload_n hx hb dL_law_762 rfl (lv_at hl 4 rfl) ?_
  refine lv_iload hx hb dL_law_763 (lv_at hl 0 rfl) ?_
  refine lv_iconst (v := 2) hx hb dL_law_765 (by decide) ?_
  refine lz_iadd (v := 2) hx hb dL_law_766 (by decide) ?_
  refine va_sld hx hb hX hbl hbA hS vi_2 dL_law_767 ?_
  refine lz_top (v := x) (by rw [cl_2]; exact hx2) ?_
  refine lv_aload_n hx hb dL_law_768 rfl (lv_at hl 1 rfl) ?_
  refine lh_S (As := [.ref (Ad 10 0), .int (nI t), .int x, .ref o9]) (rest := []) ⟨hx, hb, hml, hown, hts⟩ (h_write_x2 l hl0 D cA _ Ad o9 t ht x hx0 (va_P_l hP) (va_D_l hD)) (vx_cwSW 4 hts gL_law_L_write rfl rfl rfl (by decide +kernel) ⟨Nat.le_of_ble_eq_true rfl, Nat.le_of_ble_eq_true rfl⟩) hKN hKY ((hXZ.kept (fun q h1 h2 => hS.2.1 q h1 h2)).narrow (lc_F hD hS hA)) mem_o9 hP hD hS hA rfl hl.1 rfl (lv_room (Nat.le_of_ble_eq_true rfl)) dL_law_769 ⟨Nat.le_of_ble_eq_true rfl, Nat.le_of_ble_eq_true rfl⟩ (fun H locs hP hD hS => ?_)
  refine lv_istore (lv' := [(5, .int 1), (4, .int 0), (3, .ref o9), (2, .ref (a 0)), (1, .ref (Ad 10 0)), (0, .ref b)]) hx hb dL_law_772 hl (by decide) rfl (fun ls hl => ?_)
  refine lv_aload_n hx hb dL_law_774 rfl (lv_at hl 3 rfl) ?_
  refine lv_aload_n hx hb dL_law_775 rfl (lv_at hl 5 rfl) ?_
  refine lv_iload hx hb dL_law_776 (lv_at hl 1 rfl) ?_
  refine lv_iconst (v := 1) hx hb dL_law_778 (by decide) ?_
  refine lz_iadd (v := 1) hx hb dL_law_779 (by decide) ?_
  refine va_sld hx hb hX hbl hbA hS vi_1 dL_law_780 ?_
  refine lz_top (v := (nI t)) (by rw [cl_1]; exact hx1) ?_
  refine lv_aload_n hx hb dL_law_781 rfl (lv_at hl 5 rfl) ?_
  refine lv_iload hx hb dL_law_782 (lv_at hl 1 rfl) ?_
  refine lv_iconst (v := 2) hx hb dL_law_784 (by decide) ?_
  refine lz_iadd (v := 2) hx hb dL_law_785 (by decide) ?_
  refine va_sld hx hb hX hbl hbA hS vi_2 dL_law_786 ?_
  refine lz_top (v := x) (by rw [cl_2]; exact hx2) ?_
  refine mu_Va (ci := 5) (q0 := 0) (As := [.int (nI t), .int x]) (rest := []) ⟨hx, hb, hml, hown, hts⟩ (n_write2 l D cA _ a 0 f0 (fun _ => 0) (fun _ => 0) (fun _ => 0) 0 t ht x hx0 (va_P_l hP) (va_D_l hD)) (cwV 2 hts gL_law_X5_write rfl rfl rfl (by decide +kernel) ⟨Nat.le_of_ble_eq_true rfl, Nat.le_of_ble_eq_true rfl⟩) hKN hP hD hS hA rfl rfl ((wMd_fst _ _ _).trans (wMd_fst _ _ _).symm) rfl hl.1 rfl (lv_room (Nat.le_of_ble_eq_true rfl)) dL_law_787 ⟨Nat.le_of_ble_eq_true rfl, Nat.le_of_ble_eq_true rfl⟩ (fun H locs hP hD hS => ?_)
  refine lz_top (v := 0) rfl ?_
  refine lv_istore (lv' := [(6, .int 0), (5, .int 1), (4, .int 0), (3, .ref o9), (2, .ref (a 0)), (1, .ref (Ad 10 0)), (0, .ref b)]) hx hb dL_law_790 hl (by decide) rfl (fun ls hl => ?_)
  refine lv_aload_n hx hb dL_law_792 rfl (lv_at hl 4 rfl) ?_
  refine ro_V (ci := 5) (q0 := 0) (As := []) (rest := []) ⟨hx, hb, hml, hown, hts⟩ (c_X5_thrown l D cA _ a _ (va_P_l hP)) (cwV 0 hts gL_law_X5_thrown rfl rfl rfl (by decide +kernel) ⟨Nat.le_of_ble_eq_true rfl, Nat.le_of_ble_eq_true rfl⟩) hKN hP rfl rfl rfl hl.1 rfl (lv_room (Nat.le_of_ble_eq_true rfl)) dL_law_793 ⟨Nat.le_of_ble_eq_true rfl, Nat.le_of_ble_eq_true rfl⟩ ?_
  refine lz_top (v := 1) rfl ?_
  refine lv_iload hx hb dL_law_796 (lv_at hl 1 rfl) ?_
  refine lv_icmp_eq (tgt := 803) hx hb dL_law_798 (by decide) (fun _ => ?_) (fun h => absurd (by decide) h)
  refine lv_iload hx hb dL_law_803 (lv_at hl 1 rfl) ?_
  refine lv_if_ne (tgt := 820) hx hb dL_law_805 (by decide) (fun _ => ?_) (fun h => absurd h (by decide))
  refine lv_goto (tgt := 1723) hx hb dL_law_820 (by decide) ?_
  exact W.widen (k := 2000) (n := 9000) (by decide) (by decide) (K H locs ls hS (lv_sub hl [2, 6] rfl))
set_option maxHeartbeats 4000000 in
set_option maxRecDepth 100000 in
theorem lc_write_x3 {p : Program} {l : Launch} {e : Env} {s : State} {m : MethodId} {below : List Frame} {meth : Method} {c : Code} {b : Nat} {xs : Nat → Int32} {H : Heap} {locs : List Loc} {ls : Array Slot} {Q : State → Prop} {D : va_G} {cA : Nat → ClassId} {Ad : Nat → Nat → Nat} {a : Nat → Nat} {o9 : Nat} {A0 : Nat → Prop} (C : LCtx p l s m c b xs D cA A0) (Wd : LWl D cA Ad a o9 s A0 H locs) (hl : lv_has ls 9 [(4, .int 0), (3, .ref o9), (2, .ref (a 0)), (1, .ref (Ad 10 0)), (0, .ref b)]) (K : LKn p l e s m b below meth c Q A0) (t : Nat) (ht : t < 16) (v : Nat) (hv0 : v < 16) (hvt : v < t) (hx1 : xs 1 = (nI t)) (hx2 : xs 2 = (nI v)) : W p l e room_1 s m #[Value.ref b] below meth c H locs 1000 5000 Q (F0 m 755 ls []) := by
  obtain ⟨hx, hb, hml, hown, hts, hKN, hKY, hXZ, hX, hbl, hl0, hA, hbA⟩ := C
  obtain ⟨hP, hD, hS⟩ := Wd
  refine lv_aload_n hx hb dL_law_755 rfl (lv_at hl 3 rfl) ?_
  refine lv_aload_n hx hb dL_law_756 rfl (lv_at hl 4 rfl) ?_
  refine lv_iload hx hb dL_law_757 (lv_at hl 0 rfl) ?_
  refine lv_iconst (v := 1) hx hb dL_law_759 (by decide) ?_
  refine lz_iadd (v := 1) hx hb dL_law_760 (by decide) ?_
  refine va_sld hx hb hX hbl hbA hS vi_1 dL_law_761 ?_
  refine lz_top (v := (nI t)) (by rw [cl_1]; exact hx1) ?_
  refine lv_aload_n hx hb dL_law_762 rfl (lv_at hl 4 rfl) ?_
  refine lv_iload hx hb dL_law_763 (lv_at hl 0 rfl) ?_
  refine lv_iconst (v := 2) hx hb dL_law_765 (by decide) ?_
  refine lz_iadd (v := 2) hx hb dL_law_766 (by decide) ?_
  refine va_sld hx hb hX hbl hbA hS vi_2 dL_law_767 ?_
  refine lz_top (v := (nI v)) (by rw [cl_2]; exact hx2) ?_
  refine lv_aload_n hx hb dL_law_768 rfl (lv_at hl 1 rfl) ?_
  refine lh_S (As := [.ref (Ad 10 0), .int (nI t), .int (nI v), .ref o9]) (rest := []) ⟨hx, hb, hml, hown, hts⟩ (h_write_x3 l hl0 D cA _ Ad o9 t ht v hv0 hvt (va_P_l hP) (va_D_l hD)) (vx_cwSW 4 hts gL_law_L_write rfl rfl rfl (by decide +kernel) ⟨Nat.le_of_ble_eq_true rfl, Nat.le_of_ble_eq_true rfl⟩) hKN hKY ((hXZ.kept (fun q h1 h2 => hS.2.1 q h1 h2)).narrow (lc_F hD hS hA)) mem_o9 hP hD hS hA rfl hl.1 rfl (lv_room (Nat.le_of_ble_eq_true rfl)) dL_law_769 ⟨Nat.le_of_ble_eq_true rfl, Nat.le_of_ble_eq_true rfl⟩ (fun H locs hP hD hS => ?_)
  refine lv_istore (lv' := [(5, .int 1), (4, .int 0), (3, .ref o9), (2, .ref (a 0)), (1, .ref (Ad 10 0)), (0, .ref b)]) hx hb dL_law_772 hl (by decide) rfl (fun ls hl => ?_)
  refine lv_aload_n hx hb dL_law_774 rfl (lv_at hl 3 rfl) ?_
  refine lv_aload_n hx hb dL_law_775 rfl (lv_at hl 5 rfl) ?_
  refine lv_iload hx hb dL_law_776 (lv_at hl 1 rfl) ?_
  refine lv_iconst (v := 1) hx hb dL_law_778 (by decide) ?_
  refine lz_iadd (v := 1) hx hb dL_law_779 (by decide) ?_
  refine va_sld hx hb hX hbl hbA hS vi_1 dL_law_780 ?_
  refine lz_top (v := (nI t)) (by rw [cl_1]; exact hx1) ?_
  refine lv_aload_n hx hb dL_law_781 rfl (lv_at hl 5 rfl) ?_
  refine lv_iload hx hb dL_law_782 (lv_at hl 1 rfl) ?_
  refine lv_iconst (v := 2) hx hb dL_law_784 (by decide) ?_
  refine lz_iadd (v := 2) hx hb dL_law_785 (by decide) ?_
  refine va_sld hx hb hX hbl hbA hS vi_2 dL_law_786 ?_
  refine lz_top (v := (nI v)) (by rw [cl_2]; exact hx2) ?_
  refine mu_Va (ci := 5) (q0 := 0) (As := [.int (nI t), .int (nI v)]) (rest := []) ⟨hx, hb, hml, hown, hts⟩ (n_write3 l D cA _ a 0 f0 (fun _ => 0) (fun _ => 0) (fun _ => 0) 0 t ht v hv0 hvt (va_P_l hP) (va_D_l hD)) (cwV 2 hts gL_law_X5_write rfl rfl rfl (by decide +kernel) ⟨Nat.le_of_ble_eq_true rfl, Nat.le_of_ble_eq_true rfl⟩) hKN hP hD hS hA rfl rfl ((wMd_fst _ _ _).trans (wMd_fst _ _ _).symm) rfl hl.1 rfl (lv_room (Nat.le_of_ble_eq_true rfl)) dL_law_787 ⟨Nat.le_of_ble_eq_true rfl, Nat.le_of_ble_eq_true rfl⟩ (fun H locs hP hD hS => ?_)
  refine lz_top (v := 0) rfl ?_
  refine lv_istore (lv' := [(6, .int 0), (5, .int 1), (4, .int 0), (3, .ref o9), (2, .ref (a 0)), (1, .ref (Ad 10 0)), (0, .ref b)]) hx hb dL_law_790 hl (by decide) rfl (fun ls hl => ?_)
  refine lv_aload_n hx hb dL_law_792 rfl (lv_at hl 4 rfl) ?_
  refine ro_V (ci := 5) (q0 := 0) (As := []) (rest := []) ⟨hx, hb, hml, hown, hts⟩ (c_X5_thrown l D cA _ a _ (va_P_l hP)) (cwV 0 hts gL_law_X5_thrown rfl rfl rfl (by decide +kernel) ⟨Nat.le_of_ble_eq_true rfl, Nat.le_of_ble_eq_true rfl⟩) hKN hP rfl rfl rfl hl.1 rfl (lv_room (Nat.le_of_ble_eq_true rfl)) dL_law_793 ⟨Nat.le_of_ble_eq_true rfl, Nat.le_of_ble_eq_true rfl⟩ ?_
  refine lz_top (v := 1) rfl ?_
  refine lv_iload hx hb dL_law_796 (lv_at hl 1 rfl) ?_
  refine lv_icmp_eq (tgt := 803) hx hb dL_law_798 (by decide) (fun _ => ?_) (fun h => absurd (by decide) h)
  refine lv_iload hx hb dL_law_803 (lv_at hl 1 rfl) ?_
  refine lv_if_ne (tgt := 820) hx hb dL_law_805 (by decide) (fun _ => ?_) (fun h => absurd h (by decide))
  refine lv_goto (tgt := 1723) hx hb dL_law_820 (by decide) ?_
  exact W.widen (k := 2000) (n := 9000) (by decide) (by decide) (K H locs ls hS (lv_sub hl [2, 6] rfl))
set_option maxHeartbeats 4000000 in
set_option maxRecDepth 100000 in
theorem lc_keep_v0 {p : Program} {l : Launch} {e : Env} {s : State} {m : MethodId} {below : List Frame} {meth : Method} {c : Code} {b : Nat} {xs : Nat → Int32} {H : Heap} {locs : List Loc} {ls : Array Slot} {Q : State → Prop} {D : va_G} {cA : Nat → ClassId} {Ad : Nat → Nat → Nat} {a : Nat → Nat} {o9 : Nat} {A0 : Nat → Prop} (C : LCtx p l s m c b xs D cA A0) (Wd : LWl D cA Ad a o9 s A0 H locs) (hl : lv_has ls 9 [(4, .int 0), (3, .ref o9), (2, .ref (a 0)), (1, .ref (Ad 10 0)), (0, .ref b)]) (K : LKn p l e s m b below meth c Q A0) (hx1 : xs 1 = 0) : W p l e room_1 s m #[Value.ref b] below meth c H locs 1000 5000 Q (F0 m 823 ls []) := by
  obtain ⟨hx, hb, hml, hown, hts, hKN, hKY, hXZ, hX, hbl, hl0, hA, hbA⟩ := C
  obtain ⟨hP, hD, hS⟩ := Wd
  refine lv_aload_n hx hb dL_law_823 rfl (lv_at hl 3 rfl) ?_
  refine lv_aload_n hx hb dL_law_824 rfl (lv_at hl 4 rfl) ?_
  refine lv_iload hx hb dL_law_825 (lv_at hl 0 rfl) ?_
  refine lv_iconst (v := 1) hx hb dL_law_827 (by decide) ?_
  refine lz_iadd (v := 1) hx hb dL_law_828 (by decide) ?_
  refine va_sld hx hb hX hbl hbA hS vi_1 dL_law_829 ?_
  refine lz_top (v := 0) (by rw [cl_1]; exact hx1) ?_
  refine lv_aload_n hx hb dL_law_830 rfl (lv_at hl 1 rfl) ?_
  refine lh_S (As := [.ref (Ad 10 0), .int 0, .ref o9]) (rest := []) ⟨hx, hb, hml, hown, hts⟩ (h_keep_v0 l hl0 D cA _ Ad o9  (va_P_l hP) (va_D_l hD)) (vx_cwSW 3 hts gL_law_L_keep rfl rfl rfl (by decide +kernel) ⟨Nat.le_of_ble_eq_true rfl, Nat.le_of_ble_eq_true rfl⟩) hKN hKY ((hXZ.kept (fun q h1 h2 => hS.2.1 q h1 h2)).narrow (lc_F hD hS hA)) mem_o9 hP hD hS hA rfl hl.1 rfl (lv_room (Nat.le_of_ble_eq_true rfl)) dL_law_831 ⟨Nat.le_of_ble_eq_true rfl, Nat.le_of_ble_eq_true rfl⟩ (fun H locs hP hD hS => ?_)
  refine lv_istore (lv' := [(5, .int 0), (4, .int 0), (3, .ref o9), (2, .ref (a 0)), (1, .ref (Ad 10 0)), (0, .ref b)]) hx hb dL_law_834 hl (by decide) rfl (fun ls hl => ?_)
  refine lv_aload_n hx hb dL_law_836 rfl (lv_at hl 3 rfl) ?_
  refine lv_aload_n hx hb dL_law_837 rfl (lv_at hl 5 rfl) ?_
  refine lv_iload hx hb dL_law_838 (lv_at hl 1 rfl) ?_
  refine lv_iconst (v := 1) hx hb dL_law_840 (by decide) ?_
  refine lz_iadd (v := 1) hx hb dL_law_841 (by decide) ?_
  refine va_sld hx hb hX hbl hbA hS vi_1 dL_law_842 ?_
  refine lz_top (v := 0) (by rw [cl_1]; exact hx1) ?_
  refine mu_Va (ci := 5) (q0 := 0) (As := [.int 0]) (rest := []) ⟨hx, hb, hml, hown, hts⟩ (c_X5_keep0 l D cA _ a 0 f0 (fun _ => 0) (fun _ => 0) (fun _ => 0) 0 f0_FR (va_P_l hP) (va_D_l hD)) (cwV 1 hts gL_law_X5_keep rfl rfl rfl (by decide +kernel) ⟨Nat.le_of_ble_eq_true rfl, Nat.le_of_ble_eq_true rfl⟩) hKN hP hD hS hA rfl rfl ((wMd_fst _ _ _).trans (wMd_fst _ _ _).symm) rfl hl.1 rfl (lv_room (Nat.le_of_ble_eq_true rfl)) dL_law_843 ⟨Nat.le_of_ble_eq_true rfl, Nat.le_of_ble_eq_true rfl⟩ (fun H locs hP hD hS => ?_)
  refine lz_top (v := 0) rfl ?_
  refine lv_istore (lv' := [(6, .int 0), (5, .int 0), (4, .int 0), (3, .ref o9), (2, .ref (a 0)), (1, .ref (Ad 10 0)), (0, .ref b)]) hx hb dL_law_846 hl (by decide) rfl (fun ls hl => ?_)
  refine lv_aload_n hx hb dL_law_848 rfl (lv_at hl 4 rfl) ?_
  refine ro_V (ci := 5) (q0 := 0) (As := []) (rest := []) ⟨hx, hb, hml, hown, hts⟩ (c_X5_thrown l D cA _ a _ (va_P_l hP)) (cwV 0 hts gL_law_X5_thrown rfl rfl rfl (by decide +kernel) ⟨Nat.le_of_ble_eq_true rfl, Nat.le_of_ble_eq_true rfl⟩) hKN hP rfl rfl rfl hl.1 rfl (lv_room (Nat.le_of_ble_eq_true rfl)) dL_law_849 ⟨Nat.le_of_ble_eq_true rfl, Nat.le_of_ble_eq_true rfl⟩ ?_
  refine lz_top (v := 0) rfl ?_
  refine lv_iload hx hb dL_law_852 (lv_at hl 1 rfl) ?_
  refine lv_icmp_eq (tgt := 859) hx hb dL_law_854 (by decide) (fun _ => ?_) (fun h => absurd (by decide) h)
  refine lv_iload hx hb dL_law_859 (lv_at hl 1 rfl) ?_
  refine lv_if_ne (tgt := 876) hx hb dL_law_861 (by decide) (fun h => absurd (by decide) h) (fun _ => ?_)
  refine lv_aload_n hx hb dL_law_864 rfl (lv_at hl 3 rfl) ?_
  refine lv_iconst (v := 0) hx hb dL_law_865 (by decide) ?_
  refine lz_lald (k := 0) (f := (vp_updL (fun _ => 0) 0 (i2lF 0))) hx hb hKN.1 hP 5 3 rfl rfl ⟨by decide, by decide⟩ dL_law_866 ?_
  refine lz_topL (v := (i2lF 0)) rfl ?_
  refine lv_iload hx hb dL_law_867 (lv_at hl 0 rfl) ?_
  refine lv_i2l (v := (i2lF 0)) hx hb dL_law_869 rfl ?_
  refine W.lcmp hx hb dL_law_870 ?_
  refine lz_top (v := 0) (lg_cmp_self _) ?_
  refine lv_if_eq (tgt := 876) hx hb dL_law_871 (by decide) (fun _ => ?_) (fun h => absurd (by decide) h)
  refine lv_goto (tgt := 1723) hx hb dL_law_876 (by decide) ?_
  exact W.widen (k := 2000) (n := 9000) (by decide) (by decide) (K H locs ls hS (lv_sub hl [2, 6] rfl))
set_option maxHeartbeats 4000000 in
set_option maxRecDepth 100000 in
theorem lc_keep_v1 {p : Program} {l : Launch} {e : Env} {s : State} {m : MethodId} {below : List Frame} {meth : Method} {c : Code} {b : Nat} {xs : Nat → Int32} {H : Heap} {locs : List Loc} {ls : Array Slot} {Q : State → Prop} {D : va_G} {cA : Nat → ClassId} {Ad : Nat → Nat → Nat} {a : Nat → Nat} {o9 : Nat} {A0 : Nat → Prop} (C : LCtx p l s m c b xs D cA A0) (Wd : LWl D cA Ad a o9 s A0 H locs) (hl : lv_has ls 9 [(4, .int 0), (3, .ref o9), (2, .ref (a 0)), (1, .ref (Ad 10 0)), (0, .ref b)]) (K : LKn p l e s m b below meth c Q A0) (hx1 : xs 1 = 1) : W p l e room_1 s m #[Value.ref b] below meth c H locs 1000 5000 Q (F0 m 823 ls []) := by
  obtain ⟨hx, hb, hml, hown, hts, hKN, hKY, hXZ, hX, hbl, hl0, hA, hbA⟩ := C
  obtain ⟨hP, hD, hS⟩ := Wd
  refine lv_aload_n hx hb dL_law_823 rfl (lv_at hl 3 rfl) ?_
  refine lv_aload_n hx hb dL_law_824 rfl (lv_at hl 4 rfl) ?_
  refine lv_iload hx hb dL_law_825 (lv_at hl 0 rfl) ?_
  refine lv_iconst (v := 1) hx hb dL_law_827 (by decide) ?_
  refine lz_iadd (v := 1) hx hb dL_law_828 (by decide) ?_
  refine va_sld hx hb hX hbl hbA hS vi_1 dL_law_829 ?_
  refine lz_top (v := 1) (by rw [cl_1]; exact hx1) ?_
  refine lv_aload_n hx hb dL_law_830 rfl (lv_at hl 1 rfl) ?_
  refine lh_S (As := [.ref (Ad 10 0), .int 1, .ref o9]) (rest := []) ⟨hx, hb, hml, hown, hts⟩ (h_keep_v1 l hl0 D cA _ Ad o9  (va_P_l hP) (va_D_l hD)) (vx_cwSW 3 hts gL_law_L_keep rfl rfl rfl (by decide +kernel) ⟨Nat.le_of_ble_eq_true rfl, Nat.le_of_ble_eq_true rfl⟩) hKN hKY ((hXZ.kept (fun q h1 h2 => hS.2.1 q h1 h2)).narrow (lc_F hD hS hA)) mem_o9 hP hD hS hA rfl hl.1 rfl (lv_room (Nat.le_of_ble_eq_true rfl)) dL_law_831 ⟨Nat.le_of_ble_eq_true rfl, Nat.le_of_ble_eq_true rfl⟩ (fun H locs hP hD hS => ?_)
  refine lv_istore (lv' := [(5, .int 0), (4, .int 0), (3, .ref o9), (2, .ref (a 0)), (1, .ref (Ad 10 0)), (0, .ref b)]) hx hb dL_law_834 hl (by decide) rfl (fun ls hl => ?_)
  refine lv_aload_n hx hb dL_law_836 rfl (lv_at hl 3 rfl) ?_
  refine lv_aload_n hx hb dL_law_837 rfl (lv_at hl 5 rfl) ?_
  refine lv_iload hx hb dL_law_838 (lv_at hl 1 rfl) ?_
  refine lv_iconst (v := 1) hx hb dL_law_840 (by decide) ?_
  refine lz_iadd (v := 1) hx hb dL_law_841 (by decide) ?_
  refine va_sld hx hb hX hbl hbA hS vi_1 dL_law_842 ?_
  refine lz_top (v := 1) (by rw [cl_1]; exact hx1) ?_
  refine mu_Va (ci := 5) (q0 := 0) (As := [.int 1]) (rest := []) ⟨hx, hb, hml, hown, hts⟩ (c_X5_keep1 l D cA _ a 0 f0 (fun _ => 0) (fun _ => 0) (fun _ => 0) 0 f0_FR (va_P_l hP) (va_D_l hD)) (cwV 1 hts gL_law_X5_keep rfl rfl rfl (by decide +kernel) ⟨Nat.le_of_ble_eq_true rfl, Nat.le_of_ble_eq_true rfl⟩) hKN hP hD hS hA rfl rfl ((wMd_fst _ _ _).trans (wMd_fst _ _ _).symm) rfl hl.1 rfl (lv_room (Nat.le_of_ble_eq_true rfl)) dL_law_843 ⟨Nat.le_of_ble_eq_true rfl, Nat.le_of_ble_eq_true rfl⟩ (fun H locs hP hD hS => ?_)
  refine lz_top (v := 0) rfl ?_
  refine lv_istore (lv' := [(6, .int 0), (5, .int 0), (4, .int 0), (3, .ref o9), (2, .ref (a 0)), (1, .ref (Ad 10 0)), (0, .ref b)]) hx hb dL_law_846 hl (by decide) rfl (fun ls hl => ?_)
  refine lv_aload_n hx hb dL_law_848 rfl (lv_at hl 4 rfl) ?_
  refine ro_V (ci := 5) (q0 := 0) (As := []) (rest := []) ⟨hx, hb, hml, hown, hts⟩ (c_X5_thrown l D cA _ a _ (va_P_l hP)) (cwV 0 hts gL_law_X5_thrown rfl rfl rfl (by decide +kernel) ⟨Nat.le_of_ble_eq_true rfl, Nat.le_of_ble_eq_true rfl⟩) hKN hP rfl rfl rfl hl.1 rfl (lv_room (Nat.le_of_ble_eq_true rfl)) dL_law_849 ⟨Nat.le_of_ble_eq_true rfl, Nat.le_of_ble_eq_true rfl⟩ ?_
  refine lz_top (v := 0) rfl ?_
  refine lv_iload hx hb dL_law_852 (lv_at hl 1 rfl) ?_
  refine lv_icmp_eq (tgt := 859) hx hb dL_law_854 (by decide) (fun _ => ?_) (fun h => absurd (by decide) h)
  refine lv_iload hx hb dL_law_859 (lv_at hl 1 rfl) ?_
  refine lv_if_ne (tgt := 876) hx hb dL_law_861 (by decide) (fun h => absurd (by decide) h) (fun _ => ?_)
  refine lv_aload_n hx hb dL_law_864 rfl (lv_at hl 3 rfl) ?_
  refine lv_iconst (v := 0) hx hb dL_law_865 (by decide) ?_
  refine lz_lald (k := 0) (f := (vp_updL (fun _ => 0) 0 (i2lF 0))) hx hb hKN.1 hP 5 3 rfl rfl ⟨by decide, by decide⟩ dL_law_866 ?_
  refine lz_topL (v := (i2lF 0)) rfl ?_
  refine lv_iload hx hb dL_law_867 (lv_at hl 0 rfl) ?_
  refine lv_i2l (v := (i2lF 0)) hx hb dL_law_869 rfl ?_
  refine W.lcmp hx hb dL_law_870 ?_
  refine lz_top (v := 0) (lg_cmp_self _) ?_
  refine lv_if_eq (tgt := 876) hx hb dL_law_871 (by decide) (fun _ => ?_) (fun h => absurd (by decide) h)
  refine lv_goto (tgt := 1723) hx hb dL_law_876 (by decide) ?_
  exact W.widen (k := 2000) (n := 9000) (by decide) (by decide) (K H locs ls hS (lv_sub hl [2, 6] rfl))
set_option maxHeartbeats 4000000 in
set_option maxRecDepth 100000 in
theorem lc_keep_x1 {p : Program} {l : Launch} {e : Env} {s : State} {m : MethodId} {below : List Frame} {meth : Method} {c : Code} {b : Nat} {xs : Nat → Int32} {H : Heap} {locs : List Loc} {ls : Array Slot} {Q : State → Prop} {D : va_G} {cA : Nat → ClassId} {Ad : Nat → Nat → Nat} {a : Nat → Nat} {o9 : Nat} {A0 : Nat → Prop} (C : LCtx p l s m c b xs D cA A0) (Wd : LWl D cA Ad a o9 s A0 H locs) (hl : lv_has ls 9 [(4, .int 0), (3, .ref o9), (2, .ref (a 0)), (1, .ref (Ad 10 0)), (0, .ref b)]) (K : LKn p l e s m b below meth c Q A0) (x : Int32) (hx0 : inF x 0 1 = 0) (hx1 : xs 1 = x) : W p l e room_1 s m #[Value.ref b] below meth c H locs 1000 5000 Q (F0 m 823 ls []) := by
  obtain ⟨hx, hb, hml, hown, hts, hKN, hKY, hXZ, hX, hbl, hl0, hA, hbA⟩ := C
  obtain ⟨hP, hD, hS⟩ := Wd
  refine lv_aload_n hx hb dL_law_823 rfl (lv_at hl 3 rfl) ?_
  refine lv_aload_n hx hb dL_law_824 rfl (lv_at hl 4 rfl) ?_
  refine lv_iload hx hb dL_law_825 (lv_at hl 0 rfl) ?_
  refine lv_iconst (v := 1) hx hb dL_law_827 (by decide) ?_
  refine lz_iadd (v := 1) hx hb dL_law_828 (by decide) ?_
  refine va_sld hx hb hX hbl hbA hS vi_1 dL_law_829 ?_
  refine lz_top (v := x) (by rw [cl_1]; exact hx1) ?_
  refine lv_aload_n hx hb dL_law_830 rfl (lv_at hl 1 rfl) ?_
  refine lh_S (As := [.ref (Ad 10 0), .int x, .ref o9]) (rest := []) ⟨hx, hb, hml, hown, hts⟩ (h_keep_x1 l hl0 D cA _ Ad o9 x hx0 (va_P_l hP) (va_D_l hD)) (vx_cwSW 3 hts gL_law_L_keep rfl rfl rfl (by decide +kernel) ⟨Nat.le_of_ble_eq_true rfl, Nat.le_of_ble_eq_true rfl⟩) hKN hKY ((hXZ.kept (fun q h1 h2 => hS.2.1 q h1 h2)).narrow (lc_F hD hS hA)) mem_o9 hP hD hS hA rfl hl.1 rfl (lv_room (Nat.le_of_ble_eq_true rfl)) dL_law_831 ⟨Nat.le_of_ble_eq_true rfl, Nat.le_of_ble_eq_true rfl⟩ (fun H locs hP hD hS => ?_)
  refine lv_istore (lv' := [(5, .int 1), (4, .int 0), (3, .ref o9), (2, .ref (a 0)), (1, .ref (Ad 10 0)), (0, .ref b)]) hx hb dL_law_834 hl (by decide) rfl (fun ls hl => ?_)
  refine lv_aload_n hx hb dL_law_836 rfl (lv_at hl 3 rfl) ?_
  refine lv_aload_n hx hb dL_law_837 rfl (lv_at hl 5 rfl) ?_
  refine lv_iload hx hb dL_law_838 (lv_at hl 1 rfl) ?_
  refine lv_iconst (v := 1) hx hb dL_law_840 (by decide) ?_
  refine lz_iadd (v := 1) hx hb dL_law_841 (by decide) ?_
  refine va_sld hx hb hX hbl hbA hS vi_1 dL_law_842 ?_
  refine lz_top (v := x) (by rw [cl_1]; exact hx1) ?_
  refine mu_Va (ci := 5) (q0 := 0) (As := [.int x]) (rest := []) ⟨hx, hb, hml, hown, hts⟩ (n_keep l D cA _ a 0 f0 (fun _ => 0) (fun _ => 0) (fun _ => 0) 0 x hx0 (va_P_l hP) (va_D_l hD)) (cwV 1 hts gL_law_X5_keep rfl rfl rfl (by decide +kernel) ⟨Nat.le_of_ble_eq_true rfl, Nat.le_of_ble_eq_true rfl⟩) hKN hP hD hS hA rfl rfl ((wMd_fst _ _ _).trans (wMd_fst _ _ _).symm) rfl hl.1 rfl (lv_room (Nat.le_of_ble_eq_true rfl)) dL_law_843 ⟨Nat.le_of_ble_eq_true rfl, Nat.le_of_ble_eq_true rfl⟩ (fun H locs hP hD hS => ?_)
  refine lz_top (v := 0) rfl ?_
  refine lv_istore (lv' := [(6, .int 0), (5, .int 1), (4, .int 0), (3, .ref o9), (2, .ref (a 0)), (1, .ref (Ad 10 0)), (0, .ref b)]) hx hb dL_law_846 hl (by decide) rfl (fun ls hl => ?_)
  refine lv_aload_n hx hb dL_law_848 rfl (lv_at hl 4 rfl) ?_
  refine ro_V (ci := 5) (q0 := 0) (As := []) (rest := []) ⟨hx, hb, hml, hown, hts⟩ (c_X5_thrown l D cA _ a _ (va_P_l hP)) (cwV 0 hts gL_law_X5_thrown rfl rfl rfl (by decide +kernel) ⟨Nat.le_of_ble_eq_true rfl, Nat.le_of_ble_eq_true rfl⟩) hKN hP rfl rfl rfl hl.1 rfl (lv_room (Nat.le_of_ble_eq_true rfl)) dL_law_849 ⟨Nat.le_of_ble_eq_true rfl, Nat.le_of_ble_eq_true rfl⟩ ?_
  refine lz_top (v := 1) rfl ?_
  refine lv_iload hx hb dL_law_852 (lv_at hl 1 rfl) ?_
  refine lv_icmp_eq (tgt := 859) hx hb dL_law_854 (by decide) (fun _ => ?_) (fun h => absurd (by decide) h)
  refine lv_iload hx hb dL_law_859 (lv_at hl 1 rfl) ?_
  refine lv_if_ne (tgt := 876) hx hb dL_law_861 (by decide) (fun _ => ?_) (fun h => absurd h (by decide))
  refine lv_goto (tgt := 1723) hx hb dL_law_876 (by decide) ?_
  exact W.widen (k := 2000) (n := 9000) (by decide) (by decide) (K H locs ls hS (lv_sub hl [2, 6] rfl))
set_option maxHeartbeats 4000000 in
set_option maxRecDepth 100000 in
theorem lc_goBack_v0 {p : Program} {l : Launch} {e : Env} {s : State} {m : MethodId} {below : List Frame} {meth : Method} {c : Code} {b : Nat} {xs : Nat → Int32} {H : Heap} {locs : List Loc} {ls : Array Slot} {Q : State → Prop} {D : va_G} {cA : Nat → ClassId} {Ad : Nat → Nat → Nat} {a : Nat → Nat} {o9 : Nat} {A0 : Nat → Prop} (C : LCtx p l s m c b xs D cA A0) (Wd : LWl D cA Ad a o9 s A0 H locs) (hl : lv_has ls 9 [(4, .int 0), (3, .ref o9), (2, .ref (a 0)), (1, .ref (Ad 10 0)), (0, .ref b)]) (K : LKn p l e s m b below meth c Q A0) (hx1 : xs 1 = 0) : W p l e room_1 s m #[Value.ref b] below meth c H locs 1000 5000 Q (F0 m 879 ls []) := by
  obtain ⟨hx, hb, hml, hown, hts, hKN, hKY, hXZ, hX, hbl, hl0, hA, hbA⟩ := C
  obtain ⟨hP, hD, hS⟩ := Wd
  refine lv_aload_n hx hb dL_law_879 rfl (lv_at hl 3 rfl) ?_
  refine lv_aload_n hx hb dL_law_880 rfl (lv_at hl 4 rfl) ?_
  refine lv_iload hx hb dL_law_881 (lv_at hl 0 rfl) ?_
  refine lv_iconst (v := 1) hx hb dL_law_883 (by decide) ?_
  refine lz_iadd (v := 1) hx hb dL_law_884 (by decide) ?_
  refine va_sld hx hb hX hbl hbA hS vi_1 dL_law_885 ?_
  refine lz_top (v := 0) (by rw [cl_1]; exact hx1) ?_
  refine lv_aload_n hx hb dL_law_886 rfl (lv_at hl 1 rfl) ?_
  refine lh_S (As := [.ref (Ad 10 0), .int 0, .ref o9]) (rest := []) ⟨hx, hb, hml, hown, hts⟩ (h_goBack_v0 l hl0 D cA _ Ad o9  (va_P_l hP) (va_D_l hD)) (vx_cwSW 3 hts gL_law_L_goBack rfl rfl rfl (by decide +kernel) ⟨Nat.le_of_ble_eq_true rfl, Nat.le_of_ble_eq_true rfl⟩) hKN hKY ((hXZ.kept (fun q h1 h2 => hS.2.1 q h1 h2)).narrow (lc_F hD hS hA)) mem_o9 hP hD hS hA rfl hl.1 rfl (lv_room (Nat.le_of_ble_eq_true rfl)) dL_law_887 ⟨Nat.le_of_ble_eq_true rfl, Nat.le_of_ble_eq_true rfl⟩ (fun H locs hP hD hS => ?_)
  refine lv_istore (lv' := [(5, .int 2), (4, .int 0), (3, .ref o9), (2, .ref (a 0)), (1, .ref (Ad 10 0)), (0, .ref b)]) hx hb dL_law_890 hl (by decide) rfl (fun ls hl => ?_)
  refine lv_aload_n hx hb dL_law_892 rfl (lv_at hl 3 rfl) ?_
  refine lv_aload_n hx hb dL_law_893 rfl (lv_at hl 5 rfl) ?_
  refine lv_iload hx hb dL_law_894 (lv_at hl 1 rfl) ?_
  refine lv_iconst (v := 1) hx hb dL_law_896 (by decide) ?_
  refine lz_iadd (v := 1) hx hb dL_law_897 (by decide) ?_
  refine va_sld hx hb hX hbl hbA hS vi_1 dL_law_898 ?_
  refine lz_top (v := 0) (by rw [cl_1]; exact hx1) ?_
  refine mu_Va (ci := 5) (q0 := 0) (As := [.int 0]) (rest := []) ⟨hx, hb, hml, hown, hts⟩ (c_X5_goBack0 l D cA _ a 0 f0 (fun _ => 0) (fun _ => 0) (fun _ => 0) 0 f0_FR rfl (va_P_l hP) (va_D_l hD)) (cwV 1 hts gL_law_X5_goBack rfl rfl rfl (by decide +kernel) ⟨Nat.le_of_ble_eq_true rfl, Nat.le_of_ble_eq_true rfl⟩) hKN hP hD hS hA rfl rfl ((wMd_fst _ _ _).trans (wMd_fst _ _ _).symm) rfl hl.1 rfl (lv_room (Nat.le_of_ble_eq_true rfl)) dL_law_899 ⟨Nat.le_of_ble_eq_true rfl, Nat.le_of_ble_eq_true rfl⟩ (fun H locs hP hD hS => ?_)
  refine lz_top (v := 0) rfl ?_
  refine lv_istore (lv' := [(6, .int 0), (5, .int 2), (4, .int 0), (3, .ref o9), (2, .ref (a 0)), (1, .ref (Ad 10 0)), (0, .ref b)]) hx hb dL_law_902 hl (by decide) rfl (fun ls hl => ?_)
  refine lv_aload_n hx hb dL_law_904 rfl (lv_at hl 4 rfl) ?_
  refine ro_V (ci := 5) (q0 := 0) (As := []) (rest := []) ⟨hx, hb, hml, hown, hts⟩ (c_X5_thrown l D cA _ a _ (va_P_l hP)) (cwV 0 hts gL_law_X5_thrown rfl rfl rfl (by decide +kernel) ⟨Nat.le_of_ble_eq_true rfl, Nat.le_of_ble_eq_true rfl⟩) hKN hP rfl rfl rfl hl.1 rfl (lv_room (Nat.le_of_ble_eq_true rfl)) dL_law_905 ⟨Nat.le_of_ble_eq_true rfl, Nat.le_of_ble_eq_true rfl⟩ ?_
  refine lz_top (v := 2) rfl ?_
  refine lv_iload hx hb dL_law_908 (lv_at hl 1 rfl) ?_
  refine lv_icmp_eq (tgt := 915) hx hb dL_law_910 (by decide) (fun _ => ?_) (fun h => absurd (by decide) h)
  refine lv_iload hx hb dL_law_915 (lv_at hl 1 rfl) ?_
  refine lv_if_ne (tgt := 932) hx hb dL_law_917 (by decide) (fun _ => ?_) (fun h => absurd h (by decide))
  refine lv_goto (tgt := 1723) hx hb dL_law_932 (by decide) ?_
  exact W.widen (k := 2000) (n := 9000) (by decide) (by decide) (K H locs ls hS (lv_sub hl [2, 6] rfl))
set_option maxHeartbeats 4000000 in
set_option maxRecDepth 100000 in
theorem lc_goBack_v1 {p : Program} {l : Launch} {e : Env} {s : State} {m : MethodId} {below : List Frame} {meth : Method} {c : Code} {b : Nat} {xs : Nat → Int32} {H : Heap} {locs : List Loc} {ls : Array Slot} {Q : State → Prop} {D : va_G} {cA : Nat → ClassId} {Ad : Nat → Nat → Nat} {a : Nat → Nat} {o9 : Nat} {A0 : Nat → Prop} (C : LCtx p l s m c b xs D cA A0) (Wd : LWl D cA Ad a o9 s A0 H locs) (hl : lv_has ls 9 [(4, .int 0), (3, .ref o9), (2, .ref (a 0)), (1, .ref (Ad 10 0)), (0, .ref b)]) (K : LKn p l e s m b below meth c Q A0) (hx1 : xs 1 = 1) : W p l e room_1 s m #[Value.ref b] below meth c H locs 1000 5000 Q (F0 m 879 ls []) := by
  obtain ⟨hx, hb, hml, hown, hts, hKN, hKY, hXZ, hX, hbl, hl0, hA, hbA⟩ := C
  obtain ⟨hP, hD, hS⟩ := Wd
  refine lv_aload_n hx hb dL_law_879 rfl (lv_at hl 3 rfl) ?_
  refine lv_aload_n hx hb dL_law_880 rfl (lv_at hl 4 rfl) ?_
  refine lv_iload hx hb dL_law_881 (lv_at hl 0 rfl) ?_
  refine lv_iconst (v := 1) hx hb dL_law_883 (by decide) ?_
  refine lz_iadd (v := 1) hx hb dL_law_884 (by decide) ?_
  refine va_sld hx hb hX hbl hbA hS vi_1 dL_law_885 ?_
  refine lz_top (v := 1) (by rw [cl_1]; exact hx1) ?_
  refine lv_aload_n hx hb dL_law_886 rfl (lv_at hl 1 rfl) ?_
  refine lh_S (As := [.ref (Ad 10 0), .int 1, .ref o9]) (rest := []) ⟨hx, hb, hml, hown, hts⟩ (h_goBack_v1 l hl0 D cA _ Ad o9  (va_P_l hP) (va_D_l hD)) (vx_cwSW 3 hts gL_law_L_goBack rfl rfl rfl (by decide +kernel) ⟨Nat.le_of_ble_eq_true rfl, Nat.le_of_ble_eq_true rfl⟩) hKN hKY ((hXZ.kept (fun q h1 h2 => hS.2.1 q h1 h2)).narrow (lc_F hD hS hA)) mem_o9 hP hD hS hA rfl hl.1 rfl (lv_room (Nat.le_of_ble_eq_true rfl)) dL_law_887 ⟨Nat.le_of_ble_eq_true rfl, Nat.le_of_ble_eq_true rfl⟩ (fun H locs hP hD hS => ?_)
  refine lv_istore (lv' := [(5, .int 2), (4, .int 0), (3, .ref o9), (2, .ref (a 0)), (1, .ref (Ad 10 0)), (0, .ref b)]) hx hb dL_law_890 hl (by decide) rfl (fun ls hl => ?_)
  refine lv_aload_n hx hb dL_law_892 rfl (lv_at hl 3 rfl) ?_
  refine lv_aload_n hx hb dL_law_893 rfl (lv_at hl 5 rfl) ?_
  refine lv_iload hx hb dL_law_894 (lv_at hl 1 rfl) ?_
  refine lv_iconst (v := 1) hx hb dL_law_896 (by decide) ?_
  refine lz_iadd (v := 1) hx hb dL_law_897 (by decide) ?_
  refine va_sld hx hb hX hbl hbA hS vi_1 dL_law_898 ?_
  refine lz_top (v := 1) (by rw [cl_1]; exact hx1) ?_
  refine mu_Va (ci := 5) (q0 := 0) (As := [.int 1]) (rest := []) ⟨hx, hb, hml, hown, hts⟩ (c_X5_goBack1 l D cA _ a 0 f0 (fun _ => 0) (fun _ => 0) (fun _ => 0) 0 f0_FR rfl (va_P_l hP) (va_D_l hD)) (cwV 1 hts gL_law_X5_goBack rfl rfl rfl (by decide +kernel) ⟨Nat.le_of_ble_eq_true rfl, Nat.le_of_ble_eq_true rfl⟩) hKN hP hD hS hA rfl rfl ((wMd_fst _ _ _).trans (wMd_fst _ _ _).symm) rfl hl.1 rfl (lv_room (Nat.le_of_ble_eq_true rfl)) dL_law_899 ⟨Nat.le_of_ble_eq_true rfl, Nat.le_of_ble_eq_true rfl⟩ (fun H locs hP hD hS => ?_)
  refine lz_top (v := 0) rfl ?_
  refine lv_istore (lv' := [(6, .int 0), (5, .int 2), (4, .int 0), (3, .ref o9), (2, .ref (a 0)), (1, .ref (Ad 10 0)), (0, .ref b)]) hx hb dL_law_902 hl (by decide) rfl (fun ls hl => ?_)
  refine lv_aload_n hx hb dL_law_904 rfl (lv_at hl 4 rfl) ?_
  refine ro_V (ci := 5) (q0 := 0) (As := []) (rest := []) ⟨hx, hb, hml, hown, hts⟩ (c_X5_thrown l D cA _ a _ (va_P_l hP)) (cwV 0 hts gL_law_X5_thrown rfl rfl rfl (by decide +kernel) ⟨Nat.le_of_ble_eq_true rfl, Nat.le_of_ble_eq_true rfl⟩) hKN hP rfl rfl rfl hl.1 rfl (lv_room (Nat.le_of_ble_eq_true rfl)) dL_law_905 ⟨Nat.le_of_ble_eq_true rfl, Nat.le_of_ble_eq_true rfl⟩ ?_
  refine lz_top (v := 2) rfl ?_
  refine lv_iload hx hb dL_law_908 (lv_at hl 1 rfl) ?_
  refine lv_icmp_eq (tgt := 915) hx hb dL_law_910 (by decide) (fun _ => ?_) (fun h => absurd (by decide) h)
  refine lv_iload hx hb dL_law_915 (lv_at hl 1 rfl) ?_
  refine lv_if_ne (tgt := 932) hx hb dL_law_917 (by decide) (fun _ => ?_) (fun h => absurd h (by decide))
  refine lv_goto (tgt := 1723) hx hb dL_law_932 (by decide) ?_
  exact W.widen (k := 2000) (n := 9000) (by decide) (by decide) (K H locs ls hS (lv_sub hl [2, 6] rfl))
