-- the law's cases
set_option maxHeartbeats 4000000 in
set_option maxRecDepth 100000 in
theorem lc_goBack_x1 {p : Program} {l : Launch} {e : Env} {s : State} {m : MethodId} {below : List Frame} {meth : Method} {c : Code} {b : Nat} {xs : Nat → Int32} {H : Heap} {locs : List Loc} {ls : Array Slot} {Q : State → Prop} {D : va_G} {cA : Nat → ClassId} {Ad : Nat → Nat → Nat} {a : Nat → Nat} {o9 : Nat} {A0 : Nat → Prop} (C : LCtx p l s m c b xs D cA A0) (Wd : LWl D cA Ad a o9 s A0 H locs) (hl : lv_has ls 9 [(4, .int 0), (3, .ref o9), (2, .ref (a 0)), (1, .ref (Ad 10 0)), (0, .ref b)]) (K : LKn p l e s m b below meth c Q A0) (x : Int32) (hx0 : inF x 0 1 = 0) (hx1 : xs 1 = x) : W p l e room_1 s m #[Value.ref b] below meth c H locs 1000 5000 Q (F0 m 879 ls []) := by
  obtain ⟨hx, hb, hml, hown, hts, hKN, hKY, hXZ, hX, hbl, hl0, hA, hbA⟩ := C
  obtain ⟨hP, hD, hS⟩ := Wd
  refine lv_aload_n hx hb dL_law_879 rfl (lv_at hl 3 rfl) ?_
  refine lv_aload_n hx hb dL_law_880 rfl (lv_at hl 4 rfl) ?_
  refine lv_iload hx hb dL_law_881 (lv_at hl 0 rfl) ?_
  refine lv_iconst (v := 1) hx hb dL_law_883 (by decide) ?_
  refine lz_iadd (v := 1) hx hb dL_law_884 (by decide) ?_
  refine va_sld hx hb hX hbl hbA hS vi_1 dL_law_885 ?_
  refine lz_top (v := x) (by rw [cl_1]; exact hx1) ?_
  refine lv_aload_n hx hb dL_law_886 rfl (lv_at hl 1 rfl) ?_
  refine lh_S (As := [.ref (Ad 10 0), .int x, .ref o9]) (rest := []) ⟨hx, hb, hml, hown, hts⟩ (h_goBack_x1 l hl0 D cA _ Ad o9 x hx0 (va_P_l hP) (va_D_l hD)) (vx_cwSW 3 hts gL_law_L_goBack rfl rfl rfl (by decide +kernel) ⟨Nat.le_of_ble_eq_true rfl, Nat.le_of_ble_eq_true rfl⟩) hKN hKY ((hXZ.kept (fun q h1 h2 => hS.2.1 q h1 h2)).narrow (lc_F hD hS hA)) mem_o9 hP hD hS hA rfl hl.1 rfl (lv_room (Nat.le_of_ble_eq_true rfl)) dL_law_887 ⟨Nat.le_of_ble_eq_true rfl, Nat.le_of_ble_eq_true rfl⟩ (fun H locs hP hD hS => ?_)
  refine lv_istore (lv' := [(5, .int 1), (4, .int 0), (3, .ref o9), (2, .ref (a 0)), (1, .ref (Ad 10 0)), (0, .ref b)]) hx hb dL_law_890 hl (by decide) rfl (fun ls hl => ?_)
  refine lv_aload_n hx hb dL_law_892 rfl (lv_at hl 3 rfl) ?_
  refine lv_aload_n hx hb dL_law_893 rfl (lv_at hl 5 rfl) ?_
  refine lv_iload hx hb dL_law_894 (lv_at hl 1 rfl) ?_
  refine lv_iconst (v := 1) hx hb dL_law_896 (by decide) ?_
  refine lz_iadd (v := 1) hx hb dL_law_897 (by decide) ?_
  refine va_sld hx hb hX hbl hbA hS vi_1 dL_law_898 ?_
  refine lz_top (v := x) (by rw [cl_1]; exact hx1) ?_
  refine mu_Va (ci := 5) (q0 := 0) (As := [.int x]) (rest := []) ⟨hx, hb, hml, hown, hts⟩ (n_goBack l D cA _ a 0 f0 (fun _ => 0) (fun _ => 0) (fun _ => 0) 0 x hx0 (va_P_l hP) (va_D_l hD)) (cwV 1 hts gL_law_X5_goBack rfl rfl rfl (by decide +kernel) ⟨Nat.le_of_ble_eq_true rfl, Nat.le_of_ble_eq_true rfl⟩) hKN hP hD hS hA rfl rfl ((wMd_fst _ _ _).trans (wMd_fst _ _ _).symm) rfl hl.1 rfl (lv_room (Nat.le_of_ble_eq_true rfl)) dL_law_899 ⟨Nat.le_of_ble_eq_true rfl, Nat.le_of_ble_eq_true rfl⟩ (fun H locs hP hD hS => ?_)
  refine lz_top (v := 0) rfl ?_
  refine lv_istore (lv' := [(6, .int 0), (5, .int 1), (4, .int 0), (3, .ref o9), (2, .ref (a 0)), (1, .ref (Ad 10 0)), (0, .ref b)]) hx hb dL_law_902 hl (by decide) rfl (fun ls hl => ?_)
  refine lv_aload_n hx hb dL_law_904 rfl (lv_at hl 4 rfl) ?_
  refine ro_V (ci := 5) (q0 := 0) (As := []) (rest := []) ⟨hx, hb, hml, hown, hts⟩ (c_X5_thrown l D cA _ a _ (va_P_l hP)) (cwV 0 hts gL_law_X5_thrown rfl rfl rfl (by decide +kernel) ⟨Nat.le_of_ble_eq_true rfl, Nat.le_of_ble_eq_true rfl⟩) hKN hP rfl rfl rfl hl.1 rfl (lv_room (Nat.le_of_ble_eq_true rfl)) dL_law_905 ⟨Nat.le_of_ble_eq_true rfl, Nat.le_of_ble_eq_true rfl⟩ ?_
  refine lz_top (v := 1) rfl ?_
  refine lv_iload hx hb dL_law_908 (lv_at hl 1 rfl) ?_
  refine lv_icmp_eq (tgt := 915) hx hb dL_law_910 (by decide) (fun _ => ?_) (fun h => absurd (by decide) h)
  refine lv_iload hx hb dL_law_915 (lv_at hl 1 rfl) ?_
  refine lv_if_ne (tgt := 932) hx hb dL_law_917 (by decide) (fun _ => ?_) (fun h => absurd h (by decide))
  refine lv_goto (tgt := 1723) hx hb dL_law_932 (by decide) ?_
  exact W.widen (k := 2000) (n := 9000) (by decide) (by decide) (K H locs ls hS (lv_sub hl [2, 6] rfl))
set_option maxHeartbeats 4000000 in
set_option maxRecDepth 100000 in
theorem lc_undo_v {p : Program} {l : Launch} {e : Env} {s : State} {m : MethodId} {below : List Frame} {meth : Method} {c : Code} {b : Nat} {xs : Nat → Int32} {H : Heap} {locs : List Loc} {ls : Array Slot} {Q : State → Prop} {D : va_G} {cA : Nat → ClassId} {Ad : Nat → Nat → Nat} {a : Nat → Nat} {o9 : Nat} {A0 : Nat → Prop} (C : LCtx p l s m c b xs D cA A0) (Wd : LWl D cA Ad a o9 s A0 H locs) (hl : lv_has ls 9 [(4, .int 0), (3, .ref o9), (2, .ref (a 0)), (1, .ref (Ad 10 0)), (0, .ref b)]) (K : LKn p l e s m b below meth c Q A0) : W p l e room_1 s m #[Value.ref b] below meth c H locs 1000 5000 Q (F0 m 935 ls []) := by
  obtain ⟨hx, hb, hml, hown, hts, hKN, hKY, hXZ, hX, hbl, hl0, hA, hbA⟩ := C
  obtain ⟨hP, hD, hS⟩ := Wd
  refine lv_aload_n hx hb dL_law_935 rfl (lv_at hl 3 rfl) ?_
  refine lv_aload_n hx hb dL_law_936 rfl (lv_at hl 1 rfl) ?_
  refine lh_S (As := [.ref (Ad 10 0), .ref o9]) (rest := []) ⟨hx, hb, hml, hown, hts⟩ (h_undo_v l hl0 D cA _ Ad o9  (va_P_l hP) (va_D_l hD)) (vx_cwSW 2 hts gL_law_L_undo rfl rfl rfl (by decide +kernel) ⟨Nat.le_of_ble_eq_true rfl, Nat.le_of_ble_eq_true rfl⟩) hKN hKY ((hXZ.kept (fun q h1 h2 => hS.2.1 q h1 h2)).narrow (lc_F hD hS hA)) mem_o9 hP hD hS hA rfl hl.1 rfl (lv_room (Nat.le_of_ble_eq_true rfl)) dL_law_937 ⟨Nat.le_of_ble_eq_true rfl, Nat.le_of_ble_eq_true rfl⟩ (fun H locs hP hD hS => ?_)
  refine lv_istore (lv' := [(5, .int 1), (4, .int 0), (3, .ref o9), (2, .ref (a 0)), (1, .ref (Ad 10 0)), (0, .ref b)]) hx hb dL_law_940 hl (by decide) rfl (fun ls hl => ?_)
  refine lv_aload_n hx hb dL_law_942 rfl (lv_at hl 3 rfl) ?_
  refine mu_Va (ci := 5) (q0 := 0) (As := []) (rest := []) ⟨hx, hb, hml, hown, hts⟩ (c_X5_undo l D cA _ a 0 f0 (fun _ => 0) (fun _ => 0) (fun _ => 0) 0 f0_FR (va_P_l hP) (va_D_l hD)) (cwV 0 hts gL_law_X5_undo rfl rfl rfl (by decide +kernel) ⟨Nat.le_of_ble_eq_true rfl, Nat.le_of_ble_eq_true rfl⟩) hKN hP hD hS hA rfl rfl ((wMd_fst _ _ _).trans (wMd_fst _ _ _).symm) rfl hl.1 rfl (lv_room (Nat.le_of_ble_eq_true rfl)) dL_law_943 ⟨Nat.le_of_ble_eq_true rfl, Nat.le_of_ble_eq_true rfl⟩ (fun H locs hP hD hS => ?_)
  refine lz_top (v := 0) rfl ?_
  refine lv_istore (lv' := [(6, .int 0), (5, .int 1), (4, .int 0), (3, .ref o9), (2, .ref (a 0)), (1, .ref (Ad 10 0)), (0, .ref b)]) hx hb dL_law_946 hl (by decide) rfl (fun ls hl => ?_)
  refine lv_aload_n hx hb dL_law_948 rfl (lv_at hl 4 rfl) ?_
  refine ro_V (ci := 5) (q0 := 0) (As := []) (rest := []) ⟨hx, hb, hml, hown, hts⟩ (c_X5_thrown l D cA _ a _ (va_P_l hP)) (cwV 0 hts gL_law_X5_thrown rfl rfl rfl (by decide +kernel) ⟨Nat.le_of_ble_eq_true rfl, Nat.le_of_ble_eq_true rfl⟩) hKN hP rfl rfl rfl hl.1 rfl (lv_room (Nat.le_of_ble_eq_true rfl)) dL_law_949 ⟨Nat.le_of_ble_eq_true rfl, Nat.le_of_ble_eq_true rfl⟩ ?_
  refine lz_top (v := 1) rfl ?_
  refine lv_iload hx hb dL_law_952 (lv_at hl 1 rfl) ?_
  refine lv_icmp_eq (tgt := 959) hx hb dL_law_954 (by decide) (fun _ => ?_) (fun h => absurd (by decide) h)
  refine lv_iload hx hb dL_law_959 (lv_at hl 1 rfl) ?_
  refine lv_if_ne (tgt := 976) hx hb dL_law_961 (by decide) (fun _ => ?_) (fun h => absurd h (by decide))
  refine lv_goto (tgt := 1723) hx hb dL_law_976 (by decide) ?_
  exact W.widen (k := 2000) (n := 9000) (by decide) (by decide) (K H locs ls hS (lv_sub hl [2, 6] rfl))
set_option maxHeartbeats 4000000 in
set_option maxRecDepth 100000 in
theorem lc_threadOf_v {p : Program} {l : Launch} {e : Env} {s : State} {m : MethodId} {below : List Frame} {meth : Method} {c : Code} {b : Nat} {xs : Nat → Int32} {H : Heap} {locs : List Loc} {ls : Array Slot} {Q : State → Prop} {D : va_G} {cA : Nat → ClassId} {Ad : Nat → Nat → Nat} {a : Nat → Nat} {o9 : Nat} {A0 : Nat → Prop} (C : LCtx p l s m c b xs D cA A0) (Wd : LWl D cA Ad a o9 s A0 H locs) (hl : lv_has ls 9 [(4, .int 0), (3, .ref o9), (2, .ref (a 0)), (1, .ref (Ad 10 0)), (0, .ref b)]) (K : LKn p l e s m b below meth c Q A0) (t : Nat) (ht : t < 16) (w : Nat) (hw : w < 8) (hx1 : xs 1 = (nI t)) (hx2 : xs 2 = (nI w)) : W p l e room_1 s m #[Value.ref b] below meth c H locs 1000 5000 Q (F0 m 979 ls []) := by
  obtain ⟨hx, hb, hml, hown, hts, hKN, hKY, hXZ, hX, hbl, hl0, hA, hbA⟩ := C
  obtain ⟨hP, hD, hS⟩ := Wd
  refine lv_aload_n hx hb dL_law_979 rfl (lv_at hl 3 rfl) ?_
  refine lv_aload_n hx hb dL_law_980 rfl (lv_at hl 4 rfl) ?_
  refine lv_iload hx hb dL_law_981 (lv_at hl 0 rfl) ?_
  refine lv_iconst (v := 1) hx hb dL_law_983 (by decide) ?_
  refine lz_iadd (v := 1) hx hb dL_law_984 (by decide) ?_
  refine va_sld hx hb hX hbl hbA hS vi_1 dL_law_985 ?_
  refine lz_top (v := (nI t)) (by rw [cl_1]; exact hx1) ?_
  refine lv_aload_n hx hb dL_law_986 rfl (lv_at hl 4 rfl) ?_
  refine lv_iload hx hb dL_law_987 (lv_at hl 0 rfl) ?_
  refine lv_iconst (v := 2) hx hb dL_law_989 (by decide) ?_
  refine lz_iadd (v := 2) hx hb dL_law_990 (by decide) ?_
  refine va_sld hx hb hX hbl hbA hS vi_2 dL_law_991 ?_
  refine lz_top (v := (nI w)) (by rw [cl_2]; exact hx2) ?_
  refine lv_aload_n hx hb dL_law_992 rfl (lv_at hl 1 rfl) ?_
  refine lh_S (As := [.ref (Ad 10 0), .int (nI t), .int (nI w), .ref o9]) (rest := []) ⟨hx, hb, hml, hown, hts⟩ (h_threadOf_v l hl0 D cA _ Ad o9 t ht w hw (va_P_l hP) (va_D_l hD)) (vx_cwSW 4 hts gL_law_L_threadOf rfl rfl rfl (by decide +kernel) ⟨Nat.le_of_ble_eq_true rfl, Nat.le_of_ble_eq_true rfl⟩) hKN hKY ((hXZ.kept (fun q h1 h2 => hS.2.1 q h1 h2)).narrow (lc_F hD hS hA)) mem_o9 hP hD hS hA rfl hl.1 rfl (lv_room (Nat.le_of_ble_eq_true rfl)) dL_law_993 ⟨Nat.le_of_ble_eq_true rfl, Nat.le_of_ble_eq_true rfl⟩ (fun H locs hP hD hS => ?_)
  refine lv_istore (lv' := [(5, .int 0), (4, .int 0), (3, .ref o9), (2, .ref (a 0)), (1, .ref (Ad 10 0)), (0, .ref b)]) hx hb dL_law_996 hl (by decide) rfl (fun ls hl => ?_)
  refine lv_aload_n hx hb dL_law_998 rfl (lv_at hl 3 rfl) ?_
  refine lv_aload_n hx hb dL_law_999 rfl (lv_at hl 5 rfl) ?_
  refine lv_iload hx hb dL_law_1000 (lv_at hl 1 rfl) ?_
  refine lv_iconst (v := 1) hx hb dL_law_1002 (by decide) ?_
  refine lz_iadd (v := 1) hx hb dL_law_1003 (by decide) ?_
  refine va_sld hx hb hX hbl hbA hS vi_1 dL_law_1004 ?_
  refine lz_top (v := (nI t)) (by rw [cl_1]; exact hx1) ?_
  refine lv_aload_n hx hb dL_law_1005 rfl (lv_at hl 5 rfl) ?_
  refine lv_iload hx hb dL_law_1006 (lv_at hl 1 rfl) ?_
  refine lv_iconst (v := 2) hx hb dL_law_1008 (by decide) ?_
  refine lz_iadd (v := 2) hx hb dL_law_1009 (by decide) ?_
  refine va_sld hx hb hX hbl hbA hS vi_2 dL_law_1010 ?_
  refine lz_top (v := (nI w)) (by rw [cl_2]; exact hx2) ?_
  refine mu_Va (ci := 5) (q0 := 0) (As := [.int (nI t), .int (nI w)]) (rest := []) ⟨hx, hb, hml, hown, hts⟩ (c_X5_threadOf l D cA _ a 0 f0 (fun _ => 0) (fun _ => 0) (fun _ => 0) 0 t ht w hw f0_FR (va_P_l hP) (va_D_l hD)) (cwV 2 hts gL_law_X5_threadOf rfl rfl rfl (by decide +kernel) ⟨Nat.le_of_ble_eq_true rfl, Nat.le_of_ble_eq_true rfl⟩) hKN hP hD hS hA rfl rfl ((wMd_fst _ _ _).trans (wMd_fst _ _ _).symm) rfl hl.1 rfl (lv_room (Nat.le_of_ble_eq_true rfl)) dL_law_1011 ⟨Nat.le_of_ble_eq_true rfl, Nat.le_of_ble_eq_true rfl⟩ (fun H locs hP hD hS => ?_)
  refine lz_top (v := 0) rfl ?_
  refine lv_istore (lv' := [(6, .int 0), (5, .int 0), (4, .int 0), (3, .ref o9), (2, .ref (a 0)), (1, .ref (Ad 10 0)), (0, .ref b)]) hx hb dL_law_1014 hl (by decide) rfl (fun ls hl => ?_)
  refine lv_aload_n hx hb dL_law_1016 rfl (lv_at hl 4 rfl) ?_
  refine ro_V (ci := 5) (q0 := 0) (As := []) (rest := []) ⟨hx, hb, hml, hown, hts⟩ (c_X5_thrown l D cA _ a _ (va_P_l hP)) (cwV 0 hts gL_law_X5_thrown rfl rfl rfl (by decide +kernel) ⟨Nat.le_of_ble_eq_true rfl, Nat.le_of_ble_eq_true rfl⟩) hKN hP rfl rfl rfl hl.1 rfl (lv_room (Nat.le_of_ble_eq_true rfl)) dL_law_1017 ⟨Nat.le_of_ble_eq_true rfl, Nat.le_of_ble_eq_true rfl⟩ ?_
  refine lz_top (v := 0) rfl ?_
  refine lv_iload hx hb dL_law_1020 (lv_at hl 1 rfl) ?_
  refine lv_icmp_eq (tgt := 1027) hx hb dL_law_1022 (by decide) (fun _ => ?_) (fun h => absurd (by decide) h)
  refine lv_iload hx hb dL_law_1027 (lv_at hl 1 rfl) ?_
  refine lv_if_ne (tgt := 1044) hx hb dL_law_1029 (by decide) (fun h => absurd (by decide) h) (fun _ => ?_)
  refine lv_aload_n hx hb dL_law_1032 rfl (lv_at hl 3 rfl) ?_
  refine lv_iconst (v := 0) hx hb dL_law_1033 (by decide) ?_
  refine lz_lald (k := 0) (f := (vp_updL (fun _ => 0) 0 (i2lF 0))) hx hb hKN.1 hP 5 3 rfl rfl ⟨by decide, by decide⟩ dL_law_1034 ?_
  refine lz_topL (v := (i2lF 0)) rfl ?_
  refine lv_iload hx hb dL_law_1035 (lv_at hl 0 rfl) ?_
  refine lv_i2l (v := (i2lF 0)) hx hb dL_law_1037 rfl ?_
  refine W.lcmp hx hb dL_law_1038 ?_
  refine lz_top (v := 0) (lg_cmp_self _) ?_
  refine lv_if_eq (tgt := 1044) hx hb dL_law_1039 (by decide) (fun _ => ?_) (fun h => absurd (by decide) h)
  refine lv_goto (tgt := 1723) hx hb dL_law_1044 (by decide) ?_
  exact W.widen (k := 2000) (n := 9000) (by decide) (by decide) (K H locs ls hS (lv_sub hl [2, 6] rfl))
set_option maxHeartbeats 4000000 in
set_option maxRecDepth 100000 in
theorem lc_threadOf_x1 {p : Program} {l : Launch} {e : Env} {s : State} {m : MethodId} {below : List Frame} {meth : Method} {c : Code} {b : Nat} {xs : Nat → Int32} {H : Heap} {locs : List Loc} {ls : Array Slot} {Q : State → Prop} {D : va_G} {cA : Nat → ClassId} {Ad : Nat → Nat → Nat} {a : Nat → Nat} {o9 : Nat} {A0 : Nat → Prop} (C : LCtx p l s m c b xs D cA A0) (Wd : LWl D cA Ad a o9 s A0 H locs) (hl : lv_has ls 9 [(4, .int 0), (3, .ref o9), (2, .ref (a 0)), (1, .ref (Ad 10 0)), (0, .ref b)]) (K : LKn p l e s m b below meth c Q A0) (y : Int32) (x : Int32) (hx0 : inF x 0 15 = 0) (hx1 : xs 1 = x) (hx2 : xs 2 = y) : W p l e room_1 s m #[Value.ref b] below meth c H locs 1000 5000 Q (F0 m 979 ls []) := by
  obtain ⟨hx, hb, hml, hown, hts, hKN, hKY, hXZ, hX, hbl, hl0, hA, hbA⟩ := C
  obtain ⟨hP, hD, hS⟩ := Wd
  refine lv_aload_n hx hb dL_law_979 rfl (lv_at hl 3 rfl) ?_
  refine lv_aload_n hx hb dL_law_980 rfl (lv_at hl 4 rfl) ?_
  refine lv_iload hx hb dL_law_981 (lv_at hl 0 rfl) ?_
  refine lv_iconst (v := 1) hx hb dL_law_983 (by decide) ?_
  refine lz_iadd (v := 1) hx hb dL_law_984 (by decide) ?_
  refine va_sld hx hb hX hbl hbA hS vi_1 dL_law_985 ?_
  refine lz_top (v := x) (by rw [cl_1]; exact hx1) ?_
  refine lv_aload_n hx hb dL_law_986 rfl (lv_at hl 4 rfl) ?_
  refine lv_iload hx hb dL_law_987 (lv_at hl 0 rfl) ?_
  refine lv_iconst (v := 2) hx hb dL_law_989 (by decide) ?_
  refine lz_iadd (v := 2) hx hb dL_law_990 (by decide) ?_
  refine va_sld hx hb hX hbl hbA hS vi_2 dL_law_991 ?_
  refine lz_top (v := y) (by rw [cl_2]; exact hx2) ?_
  refine lv_aload_n hx hb dL_law_992 rfl (lv_at hl 1 rfl) ?_
  refine lh_S (As := [.ref (Ad 10 0), .int x, .int y, .ref o9]) (rest := []) ⟨hx, hb, hml, hown, hts⟩ (h_threadOf_x1 l hl0 D cA _ Ad o9 y x hx0 (va_P_l hP) (va_D_l hD)) (vx_cwSW 4 hts gL_law_L_threadOf rfl rfl rfl (by decide +kernel) ⟨Nat.le_of_ble_eq_true rfl, Nat.le_of_ble_eq_true rfl⟩) hKN hKY ((hXZ.kept (fun q h1 h2 => hS.2.1 q h1 h2)).narrow (lc_F hD hS hA)) mem_o9 hP hD hS hA rfl hl.1 rfl (lv_room (Nat.le_of_ble_eq_true rfl)) dL_law_993 ⟨Nat.le_of_ble_eq_true rfl, Nat.le_of_ble_eq_true rfl⟩ (fun H locs hP hD hS => ?_)
  refine lv_istore (lv' := [(5, .int 1), (4, .int 0), (3, .ref o9), (2, .ref (a 0)), (1, .ref (Ad 10 0)), (0, .ref b)]) hx hb dL_law_996 hl (by decide) rfl (fun ls hl => ?_)
  refine lv_aload_n hx hb dL_law_998 rfl (lv_at hl 3 rfl) ?_
  refine lv_aload_n hx hb dL_law_999 rfl (lv_at hl 5 rfl) ?_
  refine lv_iload hx hb dL_law_1000 (lv_at hl 1 rfl) ?_
  refine lv_iconst (v := 1) hx hb dL_law_1002 (by decide) ?_
  refine lz_iadd (v := 1) hx hb dL_law_1003 (by decide) ?_
  refine va_sld hx hb hX hbl hbA hS vi_1 dL_law_1004 ?_
  refine lz_top (v := x) (by rw [cl_1]; exact hx1) ?_
  refine lv_aload_n hx hb dL_law_1005 rfl (lv_at hl 5 rfl) ?_
  refine lv_iload hx hb dL_law_1006 (lv_at hl 1 rfl) ?_
  refine lv_iconst (v := 2) hx hb dL_law_1008 (by decide) ?_
  refine lz_iadd (v := 2) hx hb dL_law_1009 (by decide) ?_
  refine va_sld hx hb hX hbl hbA hS vi_2 dL_law_1010 ?_
  refine lz_top (v := y) (by rw [cl_2]; exact hx2) ?_
  refine mu_Va (ci := 5) (q0 := 0) (As := [.int x, .int y]) (rest := []) ⟨hx, hb, hml, hown, hts⟩ (n_threadOf1 l D cA _ a 0 f0 (fun _ => 0) (fun _ => 0) (fun _ => 0) 0 y x hx0 (va_P_l hP) (va_D_l hD)) (cwV 2 hts gL_law_X5_threadOf rfl rfl rfl (by decide +kernel) ⟨Nat.le_of_ble_eq_true rfl, Nat.le_of_ble_eq_true rfl⟩) hKN hP hD hS hA rfl rfl ((wMd_fst _ _ _).trans (wMd_fst _ _ _).symm) rfl hl.1 rfl (lv_room (Nat.le_of_ble_eq_true rfl)) dL_law_1011 ⟨Nat.le_of_ble_eq_true rfl, Nat.le_of_ble_eq_true rfl⟩ (fun H locs hP hD hS => ?_)
  refine lz_top (v := 0) rfl ?_
  refine lv_istore (lv' := [(6, .int 0), (5, .int 1), (4, .int 0), (3, .ref o9), (2, .ref (a 0)), (1, .ref (Ad 10 0)), (0, .ref b)]) hx hb dL_law_1014 hl (by decide) rfl (fun ls hl => ?_)
  refine lv_aload_n hx hb dL_law_1016 rfl (lv_at hl 4 rfl) ?_
  refine ro_V (ci := 5) (q0 := 0) (As := []) (rest := []) ⟨hx, hb, hml, hown, hts⟩ (c_X5_thrown l D cA _ a _ (va_P_l hP)) (cwV 0 hts gL_law_X5_thrown rfl rfl rfl (by decide +kernel) ⟨Nat.le_of_ble_eq_true rfl, Nat.le_of_ble_eq_true rfl⟩) hKN hP rfl rfl rfl hl.1 rfl (lv_room (Nat.le_of_ble_eq_true rfl)) dL_law_1017 ⟨Nat.le_of_ble_eq_true rfl, Nat.le_of_ble_eq_true rfl⟩ ?_
  refine lz_top (v := 1) rfl ?_
  refine lv_iload hx hb dL_law_1020 (lv_at hl 1 rfl) ?_
  refine lv_icmp_eq (tgt := 1027) hx hb dL_law_1022 (by decide) (fun _ => ?_) (fun h => absurd (by decide) h)
  refine lv_iload hx hb dL_law_1027 (lv_at hl 1 rfl) ?_
  refine lv_if_ne (tgt := 1044) hx hb dL_law_1029 (by decide) (fun _ => ?_) (fun h => absurd h (by decide))
  refine lv_goto (tgt := 1723) hx hb dL_law_1044 (by decide) ?_
  exact W.widen (k := 2000) (n := 9000) (by decide) (by decide) (K H locs ls hS (lv_sub hl [2, 6] rfl))
set_option maxHeartbeats 4000000 in
set_option maxRecDepth 100000 in
theorem lc_threadOf_x2 {p : Program} {l : Launch} {e : Env} {s : State} {m : MethodId} {below : List Frame} {meth : Method} {c : Code} {b : Nat} {xs : Nat → Int32} {H : Heap} {locs : List Loc} {ls : Array Slot} {Q : State → Prop} {D : va_G} {cA : Nat → ClassId} {Ad : Nat → Nat → Nat} {a : Nat → Nat} {o9 : Nat} {A0 : Nat → Prop} (C : LCtx p l s m c b xs D cA A0) (Wd : LWl D cA Ad a o9 s A0 H locs) (hl : lv_has ls 9 [(4, .int 0), (3, .ref o9), (2, .ref (a 0)), (1, .ref (Ad 10 0)), (0, .ref b)]) (K : LKn p l e s m b below meth c Q A0) (t : Nat) (ht : t < 16) (x : Int32) (hx0 : inF x 0 7 = 0) (hx1 : xs 1 = (nI t)) (hx2 : xs 2 = x) : W p l e room_1 s m #[Value.ref b] below meth c H locs 1000 5000 Q (F0 m 979 ls []) := by
  obtain ⟨hx, hb, hml, hown, hts, hKN, hKY, hXZ, hX, hbl, hl0, hA, hbA⟩ := C
  obtain ⟨hP, hD, hS⟩ := Wd
  refine lv_aload_n hx hb dL_law_979 rfl (lv_at hl 3 rfl) ?_
  refine lv_aload_n hx hb dL_law_980 rfl (lv_at hl 4 rfl) ?_
  refine lv_iload hx hb dL_law_981 (lv_at hl 0 rfl) ?_
  refine lv_iconst (v := 1) hx hb dL_law_983 (by decide) ?_
  refine lz_iadd (v := 1) hx hb dL_law_984 (by decide) ?_
  refine va_sld hx hb hX hbl hbA hS vi_1 dL_law_985 ?_
  refine lz_top (v := (nI t)) (by rw [cl_1]; exact hx1) ?_
  refine lv_aload_n hx hb dL_law_986 rfl (lv_at hl 4 rfl) ?_
  refine lv_iload hx hb dL_law_987 (lv_at hl 0 rfl) ?_
  refine lv_iconst (v := 2) hx hb dL_law_989 (by decide) ?_
  refine lz_iadd (v := 2) hx hb dL_law_990 (by decide) ?_
  refine va_sld hx hb hX hbl hbA hS vi_2 dL_law_991 ?_
  refine lz_top (v := x) (by rw [cl_2]; exact hx2) ?_
  refine lv_aload_n hx hb dL_law_992 rfl (lv_at hl 1 rfl) ?_
  refine lh_S (As := [.ref (Ad 10 0), .int (nI t), .int x, .ref o9]) (rest := []) ⟨hx, hb, hml, hown, hts⟩ (h_threadOf_x2 l hl0 D cA _ Ad o9 t ht x hx0 (va_P_l hP) (va_D_l hD)) (vx_cwSW 4 hts gL_law_L_threadOf rfl rfl rfl (by decide +kernel) ⟨Nat.le_of_ble_eq_true rfl, Nat.le_of_ble_eq_true rfl⟩) hKN hKY ((hXZ.kept (fun q h1 h2 => hS.2.1 q h1 h2)).narrow (lc_F hD hS hA)) mem_o9 hP hD hS hA rfl hl.1 rfl (lv_room (Nat.le_of_ble_eq_true rfl)) dL_law_993 ⟨Nat.le_of_ble_eq_true rfl, Nat.le_of_ble_eq_true rfl⟩ (fun H locs hP hD hS => ?_)
  refine lv_istore (lv' := [(5, .int 2), (4, .int 0), (3, .ref o9), (2, .ref (a 0)), (1, .ref (Ad 10 0)), (0, .ref b)]) hx hb dL_law_996 hl (by decide) rfl (fun ls hl => ?_)
  refine lv_aload_n hx hb dL_law_998 rfl (lv_at hl 3 rfl) ?_
  refine lv_aload_n hx hb dL_law_999 rfl (lv_at hl 5 rfl) ?_
  refine lv_iload hx hb dL_law_1000 (lv_at hl 1 rfl) ?_
  refine lv_iconst (v := 1) hx hb dL_law_1002 (by decide) ?_
  refine lz_iadd (v := 1) hx hb dL_law_1003 (by decide) ?_
  refine va_sld hx hb hX hbl hbA hS vi_1 dL_law_1004 ?_
  refine lz_top (v := (nI t)) (by rw [cl_1]; exact hx1) ?_
  refine lv_aload_n hx hb dL_law_1005 rfl (lv_at hl 5 rfl) ?_
  refine lv_iload hx hb dL_law_1006 (lv_at hl 1 rfl) ?_
  refine lv_iconst (v := 2) hx hb dL_law_1008 (by decide) ?_
  refine lz_iadd (v := 2) hx hb dL_law_1009 (by decide) ?_
  refine va_sld hx hb hX hbl hbA hS vi_2 dL_law_1010 ?_
  refine lz_top (v := x) (by rw [cl_2]; exact hx2) ?_
  refine mu_Va (ci := 5) (q0 := 0) (As := [.int (nI t), .int x]) (rest := []) ⟨hx, hb, hml, hown, hts⟩ (n_threadOf2 l D cA _ a 0 f0 (fun _ => 0) (fun _ => 0) (fun _ => 0) 0 t ht x hx0 (va_P_l hP) (va_D_l hD)) (cwV 2 hts gL_law_X5_threadOf rfl rfl rfl (by decide +kernel) ⟨Nat.le_of_ble_eq_true rfl, Nat.le_of_ble_eq_true rfl⟩) hKN hP hD hS hA rfl rfl ((wMd_fst _ _ _).trans (wMd_fst _ _ _).symm) rfl hl.1 rfl (lv_room (Nat.le_of_ble_eq_true rfl)) dL_law_1011 ⟨Nat.le_of_ble_eq_true rfl, Nat.le_of_ble_eq_true rfl⟩ (fun H locs hP hD hS => ?_)
  refine lz_top (v := 0) rfl ?_
  refine lv_istore (lv' := [(6, .int 0), (5, .int 2), (4, .int 0), (3, .ref o9), (2, .ref (a 0)), (1, .ref (Ad 10 0)), (0, .ref b)]) hx hb dL_law_1014 hl (by decide) rfl (fun ls hl => ?_)
  refine lv_aload_n hx hb dL_law_1016 rfl (lv_at hl 4 rfl) ?_
  refine ro_V (ci := 5) (q0 := 0) (As := []) (rest := []) ⟨hx, hb, hml, hown, hts⟩ (c_X5_thrown l D cA _ a _ (va_P_l hP)) (cwV 0 hts gL_law_X5_thrown rfl rfl rfl (by decide +kernel) ⟨Nat.le_of_ble_eq_true rfl, Nat.le_of_ble_eq_true rfl⟩) hKN hP rfl rfl rfl hl.1 rfl (lv_room (Nat.le_of_ble_eq_true rfl)) dL_law_1017 ⟨Nat.le_of_ble_eq_true rfl, Nat.le_of_ble_eq_true rfl⟩ ?_
  refine lz_top (v := 2) rfl ?_
  refine lv_iload hx hb dL_law_1020 (lv_at hl 1 rfl) ?_
  refine lv_icmp_eq (tgt := 1027) hx hb dL_law_1022 (by decide) (fun _ => ?_) (fun h => absurd (by decide) h)
  refine lv_iload hx hb dL_law_1027 (lv_at hl 1 rfl) ?_
  refine lv_if_ne (tgt := 1044) hx hb dL_law_1029 (by decide) (fun _ => ?_) (fun h => absurd h (by decide))
  refine lv_goto (tgt := 1723) hx hb dL_law_1044 (by decide) ?_
  exact W.widen (k := 2000) (n := 9000) (by decide) (by decide) (K H locs ls hS (lv_sub hl [2, 6] rfl))
set_option maxHeartbeats 4000000 in
set_option maxRecDepth 100000 in
theorem lc_ringOf_v {p : Program} {l : Launch} {e : Env} {s : State} {m : MethodId} {below : List Frame} {meth : Method} {c : Code} {b : Nat} {xs : Nat → Int32} {H : Heap} {locs : List Loc} {ls : Array Slot} {Q : State → Prop} {D : va_G} {cA : Nat → ClassId} {Ad : Nat → Nat → Nat} {a : Nat → Nat} {o9 : Nat} {A0 : Nat → Prop} (C : LCtx p l s m c b xs D cA A0) (Wd : LWl D cA Ad a o9 s A0 H locs) (hl : lv_has ls 9 [(4, .int 0), (3, .ref o9), (2, .ref (a 0)), (1, .ref (Ad 10 0)), (0, .ref b)]) (K : LKn p l e s m b below meth c Q A0) (r : Nat) (hr0 : r < 8) (w : Nat) (hw : w < 5) (hx1 : xs 1 = (nI r)) (hx2 : xs 2 = (nI w)) : W p l e room_1 s m #[Value.ref b] below meth c H locs 1000 5000 Q (F0 m 1047 ls []) := by
  obtain ⟨hx, hb, hml, hown, hts, hKN, hKY, hXZ, hX, hbl, hl0, hA, hbA⟩ := C
  obtain ⟨hP, hD, hS⟩ := Wd
  refine lv_aload_n hx hb dL_law_1047 rfl (lv_at hl 3 rfl) ?_
  refine lv_aload_n hx hb dL_law_1048 rfl (lv_at hl 4 rfl) ?_
  refine lv_iload hx hb dL_law_1049 (lv_at hl 0 rfl) ?_
  refine lv_iconst (v := 1) hx hb dL_law_1051 (by decide) ?_
  refine lz_iadd (v := 1) hx hb dL_law_1052 (by decide) ?_
  refine va_sld hx hb hX hbl hbA hS vi_1 dL_law_1053 ?_
  refine lz_top (v := (nI r)) (by rw [cl_1]; exact hx1) ?_
  refine lv_aload_n hx hb dL_law_1054 rfl (lv_at hl 4 rfl) ?_
  refine lv_iload hx hb dL_law_1055 (lv_at hl 0 rfl) ?_
  refine lv_iconst (v := 2) hx hb dL_law_1057 (by decide) ?_
  refine lz_iadd (v := 2) hx hb dL_law_1058 (by decide) ?_
  refine va_sld hx hb hX hbl hbA hS vi_2 dL_law_1059 ?_
  refine lz_top (v := (nI w)) (by rw [cl_2]; exact hx2) ?_
  refine lv_aload_n hx hb dL_law_1060 rfl (lv_at hl 1 rfl) ?_
  refine lh_S (As := [.ref (Ad 10 0), .int (nI r), .int (nI w), .ref o9]) (rest := []) ⟨hx, hb, hml, hown, hts⟩ (h_ringOf_v l hl0 D cA _ Ad o9 r hr0 w hw (va_P_l hP) (va_D_l hD)) (vx_cwSW 4 hts gL_law_L_ringOf rfl rfl rfl (by decide +kernel) ⟨Nat.le_of_ble_eq_true rfl, Nat.le_of_ble_eq_true rfl⟩) hKN hKY ((hXZ.kept (fun q h1 h2 => hS.2.1 q h1 h2)).narrow (lc_F hD hS hA)) mem_o9 hP hD hS hA rfl hl.1 rfl (lv_room (Nat.le_of_ble_eq_true rfl)) dL_law_1061 ⟨Nat.le_of_ble_eq_true rfl, Nat.le_of_ble_eq_true rfl⟩ (fun H locs hP hD hS => ?_)
  refine lv_istore (lv' := [(5, .int 0), (4, .int 0), (3, .ref o9), (2, .ref (a 0)), (1, .ref (Ad 10 0)), (0, .ref b)]) hx hb dL_law_1064 hl (by decide) rfl (fun ls hl => ?_)
  refine lv_aload_n hx hb dL_law_1066 rfl (lv_at hl 3 rfl) ?_
  refine lv_aload_n hx hb dL_law_1067 rfl (lv_at hl 5 rfl) ?_
  refine lv_iload hx hb dL_law_1068 (lv_at hl 1 rfl) ?_
  refine lv_iconst (v := 1) hx hb dL_law_1070 (by decide) ?_
  refine lz_iadd (v := 1) hx hb dL_law_1071 (by decide) ?_
  refine va_sld hx hb hX hbl hbA hS vi_1 dL_law_1072 ?_
  refine lz_top (v := (nI r)) (by rw [cl_1]; exact hx1) ?_
  refine lv_aload_n hx hb dL_law_1073 rfl (lv_at hl 5 rfl) ?_
  refine lv_iload hx hb dL_law_1074 (lv_at hl 1 rfl) ?_
  refine lv_iconst (v := 2) hx hb dL_law_1076 (by decide) ?_
  refine lz_iadd (v := 2) hx hb dL_law_1077 (by decide) ?_
  refine va_sld hx hb hX hbl hbA hS vi_2 dL_law_1078 ?_
  refine lz_top (v := (nI w)) (by rw [cl_2]; exact hx2) ?_
  refine mu_Va (ci := 5) (q0 := 0) (As := [.int (nI r), .int (nI w)]) (rest := []) ⟨hx, hb, hml, hown, hts⟩ (c_X5_ringOf l D cA _ a 0 f0 (fun _ => 0) (fun _ => 0) (fun _ => 0) 0 r hr0 w hw f0_FR (va_P_l hP) (va_D_l hD)) (cwV 2 hts gL_law_X5_ringOf rfl rfl rfl (by decide +kernel) ⟨Nat.le_of_ble_eq_true rfl, Nat.le_of_ble_eq_true rfl⟩) hKN hP hD hS hA rfl rfl ((wMd_fst _ _ _).trans (wMd_fst _ _ _).symm) rfl hl.1 rfl (lv_room (Nat.le_of_ble_eq_true rfl)) dL_law_1079 ⟨Nat.le_of_ble_eq_true rfl, Nat.le_of_ble_eq_true rfl⟩ (fun H locs hP hD hS => ?_)
  refine lz_top (v := 0) rfl ?_
  refine lv_istore (lv' := [(6, .int 0), (5, .int 0), (4, .int 0), (3, .ref o9), (2, .ref (a 0)), (1, .ref (Ad 10 0)), (0, .ref b)]) hx hb dL_law_1082 hl (by decide) rfl (fun ls hl => ?_)
  refine lv_aload_n hx hb dL_law_1084 rfl (lv_at hl 4 rfl) ?_
  refine ro_V (ci := 5) (q0 := 0) (As := []) (rest := []) ⟨hx, hb, hml, hown, hts⟩ (c_X5_thrown l D cA _ a _ (va_P_l hP)) (cwV 0 hts gL_law_X5_thrown rfl rfl rfl (by decide +kernel) ⟨Nat.le_of_ble_eq_true rfl, Nat.le_of_ble_eq_true rfl⟩) hKN hP rfl rfl rfl hl.1 rfl (lv_room (Nat.le_of_ble_eq_true rfl)) dL_law_1085 ⟨Nat.le_of_ble_eq_true rfl, Nat.le_of_ble_eq_true rfl⟩ ?_
  refine lz_top (v := 0) rfl ?_
  refine lv_iload hx hb dL_law_1088 (lv_at hl 1 rfl) ?_
  refine lv_icmp_eq (tgt := 1095) hx hb dL_law_1090 (by decide) (fun _ => ?_) (fun h => absurd (by decide) h)
  refine lv_iload hx hb dL_law_1095 (lv_at hl 1 rfl) ?_
  refine lv_if_ne (tgt := 1112) hx hb dL_law_1097 (by decide) (fun h => absurd (by decide) h) (fun _ => ?_)
  refine lv_aload_n hx hb dL_law_1100 rfl (lv_at hl 3 rfl) ?_
  refine lv_iconst (v := 0) hx hb dL_law_1101 (by decide) ?_
  refine lz_lald (k := 0) (f := (vp_updL (fun _ => 0) 0 (i2lF 0))) hx hb hKN.1 hP 5 3 rfl rfl ⟨by decide, by decide⟩ dL_law_1102 ?_
  refine lz_topL (v := (i2lF 0)) rfl ?_
  refine lv_iload hx hb dL_law_1103 (lv_at hl 0 rfl) ?_
  refine lv_i2l (v := (i2lF 0)) hx hb dL_law_1105 rfl ?_
  refine W.lcmp hx hb dL_law_1106 ?_
  refine lz_top (v := 0) (lg_cmp_self _) ?_
  refine lv_if_eq (tgt := 1112) hx hb dL_law_1107 (by decide) (fun _ => ?_) (fun h => absurd (by decide) h)
  refine lv_goto (tgt := 1723) hx hb dL_law_1112 (by decide) ?_
  exact W.widen (k := 2000) (n := 9000) (by decide) (by decide) (K H locs ls hS (lv_sub hl [2, 6] rfl))
set_option maxHeartbeats 4000000 in
set_option maxRecDepth 100000 in
theorem lc_ringOf_x1 {p : Program} {l : Launch} {e : Env} {s : State} {m : MethodId} {below : List Frame} {meth : Method} {c : Code} {b : Nat} {xs : Nat → Int32} {H : Heap} {locs : List Loc} {ls : Array Slot} {Q : State → Prop} {D : va_G} {cA : Nat → ClassId} {Ad : Nat → Nat → Nat} {a : Nat → Nat} {o9 : Nat} {A0 : Nat → Prop} (C : LCtx p l s m c b xs D cA A0) (Wd : LWl D cA Ad a o9 s A0 H locs) (hl : lv_has ls 9 [(4, .int 0), (3, .ref o9), (2, .ref (a 0)), (1, .ref (Ad 10 0)), (0, .ref b)]) (K : LKn p l e s m b below meth c Q A0) (y : Int32) (x : Int32) (hx0 : inF x 0 7 = 0) (hx1 : xs 1 = x) (hx2 : xs 2 = y) : W p l e room_1 s m #[Value.ref b] below meth c H locs 1000 5000 Q (F0 m 1047 ls []) := by
  obtain ⟨hx, hb, hml, hown, hts, hKN, hKY, hXZ, hX, hbl, hl0, hA, hbA⟩ := C
  obtain ⟨hP, hD, hS⟩ := Wd
  refine lv_aload_n hx hb dL_law_1047 rfl (lv_at hl 3 rfl) ?_
  refine lv_aload_n hx hb dL_law_1048 rfl (lv_at hl 4 rfl) ?_
  refine lv_iload hx hb dL_law_1049 (lv_at hl 0 rfl) ?_
  refine lv_iconst (v := 1) hx hb dL_law_1051 (by decide) ?_
  refine lz_iadd (v := 1) hx hb dL_law_1052 (by decide) ?_
  refine va_sld hx hb hX hbl hbA hS vi_1 dL_law_1053 ?_
  refine lz_top (v := x) (by rw [cl_1]; exact hx1) ?_
  refine lv_aload_n hx hb dL_law_1054 rfl (lv_at hl 4 rfl) ?_
  refine lv_iload hx hb dL_law_1055 (lv_at hl 0 rfl) ?_
  refine lv_iconst (v := 2) hx hb dL_law_1057 (by decide) ?_
  refine lz_iadd (v := 2) hx hb dL_law_1058 (by decide) ?_
  refine va_sld hx hb hX hbl hbA hS vi_2 dL_law_1059 ?_
  refine lz_top (v := y) (by rw [cl_2]; exact hx2) ?_
  refine lv_aload_n hx hb dL_law_1060 rfl (lv_at hl 1 rfl) ?_
  refine lh_S (As := [.ref (Ad 10 0), .int x, .int y, .ref o9]) (rest := []) ⟨hx, hb, hml, hown, hts⟩ (h_ringOf_x1 l hl0 D cA _ Ad o9 y x hx0 (va_P_l hP) (va_D_l hD)) (vx_cwSW 4 hts gL_law_L_ringOf rfl rfl rfl (by decide +kernel) ⟨Nat.le_of_ble_eq_true rfl, Nat.le_of_ble_eq_true rfl⟩) hKN hKY ((hXZ.kept (fun q h1 h2 => hS.2.1 q h1 h2)).narrow (lc_F hD hS hA)) mem_o9 hP hD hS hA rfl hl.1 rfl (lv_room (Nat.le_of_ble_eq_true rfl)) dL_law_1061 ⟨Nat.le_of_ble_eq_true rfl, Nat.le_of_ble_eq_true rfl⟩ (fun H locs hP hD hS => ?_)
  refine lv_istore (lv' := [(5, .int 1), (4, .int 0), (3, .ref o9), (2, .ref (a 0)), (1, .ref (Ad 10 0)), (0, .ref b)]) hx hb dL_law_1064 hl (by decide) rfl (fun ls hl => ?_)
  refine lv_aload_n hx hb dL_law_1066 rfl (lv_at hl 3 rfl) ?_
  refine lv_aload_n hx hb dL_law_1067 rfl (lv_at hl 5 rfl) ?_
  refine lv_iload hx hb dL_law_1068 (lv_at hl 1 rfl) ?_
  refine lv_iconst (v := 1) hx hb dL_law_1070 (by decide) ?_
  refine lz_iadd (v := 1) hx hb dL_law_1071 (by decide) ?_
  refine va_sld hx hb hX hbl hbA hS vi_1 dL_law_1072 ?_
  refine lz_top (v := x) (by rw [cl_1]; exact hx1) ?_
  refine lv_aload_n hx hb dL_law_1073 rfl (lv_at hl 5 rfl) ?_
  refine lv_iload hx hb dL_law_1074 (lv_at hl 1 rfl) ?_
  refine lv_iconst (v := 2) hx hb dL_law_1076 (by decide) ?_
  refine lz_iadd (v := 2) hx hb dL_law_1077 (by decide) ?_
  refine va_sld hx hb hX hbl hbA hS vi_2 dL_law_1078 ?_
  refine lz_top (v := y) (by rw [cl_2]; exact hx2) ?_
  refine mu_Va (ci := 5) (q0 := 0) (As := [.int x, .int y]) (rest := []) ⟨hx, hb, hml, hown, hts⟩ (n_ringOf1 l D cA _ a 0 f0 (fun _ => 0) (fun _ => 0) (fun _ => 0) 0 y x hx0 (va_P_l hP) (va_D_l hD)) (cwV 2 hts gL_law_X5_ringOf rfl rfl rfl (by decide +kernel) ⟨Nat.le_of_ble_eq_true rfl, Nat.le_of_ble_eq_true rfl⟩) hKN hP hD hS hA rfl rfl ((wMd_fst _ _ _).trans (wMd_fst _ _ _).symm) rfl hl.1 rfl (lv_room (Nat.le_of_ble_eq_true rfl)) dL_law_1079 ⟨Nat.le_of_ble_eq_true rfl, Nat.le_of_ble_eq_true rfl⟩ (fun H locs hP hD hS => ?_)
  refine lz_top (v := 0) rfl ?_
  refine lv_istore (lv' := [(6, .int 0), (5, .int 1), (4, .int 0), (3, .ref o9), (2, .ref (a 0)), (1, .ref (Ad 10 0)), (0, .ref b)]) hx hb dL_law_1082 hl (by decide) rfl (fun ls hl => ?_)
  refine lv_aload_n hx hb dL_law_1084 rfl (lv_at hl 4 rfl) ?_
  refine ro_V (ci := 5) (q0 := 0) (As := []) (rest := []) ⟨hx, hb, hml, hown, hts⟩ (c_X5_thrown l D cA _ a _ (va_P_l hP)) (cwV 0 hts gL_law_X5_thrown rfl rfl rfl (by decide +kernel) ⟨Nat.le_of_ble_eq_true rfl, Nat.le_of_ble_eq_true rfl⟩) hKN hP rfl rfl rfl hl.1 rfl (lv_room (Nat.le_of_ble_eq_true rfl)) dL_law_1085 ⟨Nat.le_of_ble_eq_true rfl, Nat.le_of_ble_eq_true rfl⟩ ?_
  refine lz_top (v := 1) rfl ?_
  refine lv_iload hx hb dL_law_1088 (lv_at hl 1 rfl) ?_
  refine lv_icmp_eq (tgt := 1095) hx hb dL_law_1090 (by decide) (fun _ => ?_) (fun h => absurd (by decide) h)
  refine lv_iload hx hb dL_law_1095 (lv_at hl 1 rfl) ?_
  refine lv_if_ne (tgt := 1112) hx hb dL_law_1097 (by decide) (fun _ => ?_) (fun h => absurd h (by decide))
  refine lv_goto (tgt := 1723) hx hb dL_law_1112 (by decide) ?_
  exact W.widen (k := 2000) (n := 9000) (by decide) (by decide) (K H locs ls hS (lv_sub hl [2, 6] rfl))
set_option maxHeartbeats 4000000 in
set_option maxRecDepth 100000 in
theorem lc_ringOf_x2 {p : Program} {l : Launch} {e : Env} {s : State} {m : MethodId} {below : List Frame} {meth : Method} {c : Code} {b : Nat} {xs : Nat → Int32} {H : Heap} {locs : List Loc} {ls : Array Slot} {Q : State → Prop} {D : va_G} {cA : Nat → ClassId} {Ad : Nat → Nat → Nat} {a : Nat → Nat} {o9 : Nat} {A0 : Nat → Prop} (C : LCtx p l s m c b xs D cA A0) (Wd : LWl D cA Ad a o9 s A0 H locs) (hl : lv_has ls 9 [(4, .int 0), (3, .ref o9), (2, .ref (a 0)), (1, .ref (Ad 10 0)), (0, .ref b)]) (K : LKn p l e s m b below meth c Q A0) (r : Nat) (hr0 : r < 8) (x : Int32) (hx0 : inF x 0 4 = 0) (hx1 : xs 1 = (nI r)) (hx2 : xs 2 = x) : W p l e room_1 s m #[Value.ref b] below meth c H locs 1000 5000 Q (F0 m 1047 ls []) := by
  obtain ⟨hx, hb, hml, hown, hts, hKN, hKY, hXZ, hX, hbl, hl0, hA, hbA⟩ := C
  obtain ⟨hP, hD, hS⟩ := Wd
  refine lv_aload_n hx hb dL_law_1047 rfl (lv_at hl 3 rfl) ?_
  refine lv_aload_n hx hb dL_law_1048 rfl (lv_at hl 4 rfl) ?_
  refine lv_iload hx hb dL_law_1049 (lv_at hl 0 rfl) ?_
  refine lv_iconst (v := 1) hx hb dL_law_1051 (by decide) ?_
  refine lz_iadd (v := 1) hx hb dL_law_1052 (by decide) ?_
  refine va_sld hx hb hX hbl hbA hS vi_1 dL_law_1053 ?_
  refine lz_top (v := (nI r)) (by rw [cl_1]; exact hx1) ?_
  refine lv_aload_n hx hb dL_law_1054 rfl (lv_at hl 4 rfl) ?_
  refine lv_iload hx hb dL_law_1055 (lv_at hl 0 rfl) ?_
  refine lv_iconst (v := 2) hx hb dL_law_1057 (by decide) ?_
  refine lz_iadd (v := 2) hx hb dL_law_1058 (by decide) ?_
  refine va_sld hx hb hX hbl hbA hS vi_2 dL_law_1059 ?_
  refine lz_top (v := x) (by rw [cl_2]; exact hx2) ?_
  refine lv_aload_n hx hb dL_law_1060 rfl (lv_at hl 1 rfl) ?_
  refine lh_S (As := [.ref (Ad 10 0), .int (nI r), .int x, .ref o9]) (rest := []) ⟨hx, hb, hml, hown, hts⟩ (h_ringOf_x2 l hl0 D cA _ Ad o9 r hr0 x hx0 (va_P_l hP) (va_D_l hD)) (vx_cwSW 4 hts gL_law_L_ringOf rfl rfl rfl (by decide +kernel) ⟨Nat.le_of_ble_eq_true rfl, Nat.le_of_ble_eq_true rfl⟩) hKN hKY ((hXZ.kept (fun q h1 h2 => hS.2.1 q h1 h2)).narrow (lc_F hD hS hA)) mem_o9 hP hD hS hA rfl hl.1 rfl (lv_room (Nat.le_of_ble_eq_true rfl)) dL_law_1061 ⟨Nat.le_of_ble_eq_true rfl, Nat.le_of_ble_eq_true rfl⟩ (fun H locs hP hD hS => ?_)
  refine lv_istore (lv' := [(5, .int 2), (4, .int 0), (3, .ref o9), (2, .ref (a 0)), (1, .ref (Ad 10 0)), (0, .ref b)]) hx hb dL_law_1064 hl (by decide) rfl (fun ls hl => ?_)
  refine lv_aload_n hx hb dL_law_1066 rfl (lv_at hl 3 rfl) ?_
  refine lv_aload_n hx hb dL_law_1067 rfl (lv_at hl 5 rfl) ?_
  refine lv_iload hx hb dL_law_1068 (lv_at hl 1 rfl) ?_
  refine lv_iconst (v := 1) hx hb dL_law_1070 (by decide) ?_
  refine lz_iadd (v := 1) hx hb dL_law_1071 (by decide) ?_
  refine va_sld hx hb hX hbl hbA hS vi_1 dL_law_1072 ?_
  refine lz_top (v := (nI r)) (by rw [cl_1]; exact hx1) ?_
  refine lv_aload_n hx hb dL_law_1073 rfl (lv_at hl 5 rfl) ?_
  refine lv_iload hx hb dL_law_1074 (lv_at hl 1 rfl) ?_
  refine lv_iconst (v := 2) hx hb dL_law_1076 (by decide) ?_
  refine lz_iadd (v := 2) hx hb dL_law_1077 (by decide) ?_
  refine va_sld hx hb hX hbl hbA hS vi_2 dL_law_1078 ?_
  refine lz_top (v := x) (by rw [cl_2]; exact hx2) ?_
  refine mu_Va (ci := 5) (q0 := 0) (As := [.int (nI r), .int x]) (rest := []) ⟨hx, hb, hml, hown, hts⟩ (n_ringOf2 l D cA _ a 0 f0 (fun _ => 0) (fun _ => 0) (fun _ => 0) 0 r hr0 x hx0 (va_P_l hP) (va_D_l hD)) (cwV 2 hts gL_law_X5_ringOf rfl rfl rfl (by decide +kernel) ⟨Nat.le_of_ble_eq_true rfl, Nat.le_of_ble_eq_true rfl⟩) hKN hP hD hS hA rfl rfl ((wMd_fst _ _ _).trans (wMd_fst _ _ _).symm) rfl hl.1 rfl (lv_room (Nat.le_of_ble_eq_true rfl)) dL_law_1079 ⟨Nat.le_of_ble_eq_true rfl, Nat.le_of_ble_eq_true rfl⟩ (fun H locs hP hD hS => ?_)
  refine lz_top (v := 0) rfl ?_
  refine lv_istore (lv' := [(6, .int 0), (5, .int 2), (4, .int 0), (3, .ref o9), (2, .ref (a 0)), (1, .ref (Ad 10 0)), (0, .ref b)]) hx hb dL_law_1082 hl (by decide) rfl (fun ls hl => ?_)
  refine lv_aload_n hx hb dL_law_1084 rfl (lv_at hl 4 rfl) ?_
  refine ro_V (ci := 5) (q0 := 0) (As := []) (rest := []) ⟨hx, hb, hml, hown, hts⟩ (c_X5_thrown l D cA _ a _ (va_P_l hP)) (cwV 0 hts gL_law_X5_thrown rfl rfl rfl (by decide +kernel) ⟨Nat.le_of_ble_eq_true rfl, Nat.le_of_ble_eq_true rfl⟩) hKN hP rfl rfl rfl hl.1 rfl (lv_room (Nat.le_of_ble_eq_true rfl)) dL_law_1085 ⟨Nat.le_of_ble_eq_true rfl, Nat.le_of_ble_eq_true rfl⟩ ?_
  refine lz_top (v := 2) rfl ?_
  refine lv_iload hx hb dL_law_1088 (lv_at hl 1 rfl) ?_
  refine lv_icmp_eq (tgt := 1095) hx hb dL_law_1090 (by decide) (fun _ => ?_) (fun h => absurd (by decide) h)
  refine lv_iload hx hb dL_law_1095 (lv_at hl 1 rfl) ?_
  refine lv_if_ne (tgt := 1112) hx hb dL_law_1097 (by decide) (fun _ => ?_) (fun h => absurd h (by decide))
  refine lv_goto (tgt := 1723) hx hb dL_law_1112 (by decide) ?_
  exact W.widen (k := 2000) (n := 9000) (by decide) (by decide) (K H locs ls hS (lv_sub hl [2, 6] rfl))
set_option maxHeartbeats 4000000 in
set_option maxRecDepth 100000 in
theorem lc_strength_v0 {p : Program} {l : Launch} {e : Env} {s : State} {m : MethodId} {below : List Frame} {meth : Method} {c : Code} {b : Nat} {xs : Nat → Int32} {H : Heap} {locs : List Loc} {ls : Array Slot} {Q : State → Prop} {D : va_G} {cA : Nat → ClassId} {Ad : Nat → Nat → Nat} {a : Nat → Nat} {o9 : Nat} {A0 : Nat → Prop} (C : LCtx p l s m c b xs D cA A0) (Wd : LWl D cA Ad a o9 s A0 H locs) (hl : lv_has ls 9 [(4, .int 0), (3, .ref o9), (2, .ref (a 0)), (1, .ref (Ad 10 0)), (0, .ref b)]) (K : LKn p l e s m b below meth c Q A0) (t : Nat) (ht : t < 16) (r : Nat) (hr0 : r < 8) (hx1 : xs 1 = (nI t)) (hx2 : xs 2 = (nI r)) (hx3 : xs 3 = 0) : W p l e room_1 s m #[Value.ref b] below meth c H locs 1000 5000 Q (F0 m 1115 ls []) := by
  obtain ⟨hx, hb, hml, hown, hts, hKN, hKY, hXZ, hX, hbl, hl0, hA, hbA⟩ := C
  obtain ⟨hP, hD, hS⟩ := Wd
  refine lv_aload_n hx hb dL_law_1115 rfl (lv_at hl 3 rfl) ?_
  refine lv_aload_n hx hb dL_law_1116 rfl (lv_at hl 4 rfl) ?_
  refine lv_iload hx hb dL_law_1117 (lv_at hl 0 rfl) ?_
  refine lv_iconst (v := 1) hx hb dL_law_1119 (by decide) ?_
  refine lz_iadd (v := 1) hx hb dL_law_1120 (by decide) ?_
  refine va_sld hx hb hX hbl hbA hS vi_1 dL_law_1121 ?_
  refine lz_top (v := (nI t)) (by rw [cl_1]; exact hx1) ?_
  refine lv_aload_n hx hb dL_law_1122 rfl (lv_at hl 4 rfl) ?_
  refine lv_iload hx hb dL_law_1123 (lv_at hl 0 rfl) ?_
  refine lv_iconst (v := 2) hx hb dL_law_1125 (by decide) ?_
  refine lz_iadd (v := 2) hx hb dL_law_1126 (by decide) ?_
  refine va_sld hx hb hX hbl hbA hS vi_2 dL_law_1127 ?_
  refine lz_top (v := (nI r)) (by rw [cl_2]; exact hx2) ?_
  refine lv_aload_n hx hb dL_law_1128 rfl (lv_at hl 4 rfl) ?_
  refine lv_iload hx hb dL_law_1129 (lv_at hl 0 rfl) ?_
  refine lv_iconst (v := 3) hx hb dL_law_1131 (by decide) ?_
  refine lz_iadd (v := 3) hx hb dL_law_1132 (by decide) ?_
  refine va_sld hx hb hX hbl hbA hS vi_3 dL_law_1133 ?_
  refine lz_top (v := 0) (by rw [cl_3]; exact hx3) ?_
  refine lv_aload_n hx hb dL_law_1134 rfl (lv_at hl 1 rfl) ?_
  refine lh_S (As := [.ref (Ad 10 0), .int (nI t), .int (nI r), .int 0, .ref o9]) (rest := []) ⟨hx, hb, hml, hown, hts⟩ (h_strength_v0 l hl0 D cA _ Ad o9 t ht r hr0 (va_P_l hP) (va_D_l hD)) (vx_cwSW 5 hts gL_law_L_strength rfl rfl rfl (by decide +kernel) ⟨Nat.le_of_ble_eq_true rfl, Nat.le_of_ble_eq_true rfl⟩) hKN hKY ((hXZ.kept (fun q h1 h2 => hS.2.1 q h1 h2)).narrow (lc_F hD hS hA)) mem_o9 hP hD hS hA rfl hl.1 rfl (lv_room (Nat.le_of_ble_eq_true rfl)) dL_law_1135 ⟨Nat.le_of_ble_eq_true rfl, Nat.le_of_ble_eq_true rfl⟩ (fun H locs hP hD hS => ?_)
  refine lv_istore (lv' := [(5, .int 0), (4, .int 0), (3, .ref o9), (2, .ref (a 0)), (1, .ref (Ad 10 0)), (0, .ref b)]) hx hb dL_law_1138 hl (by decide) rfl (fun ls hl => ?_)
  refine lv_aload_n hx hb dL_law_1140 rfl (lv_at hl 3 rfl) ?_
  refine lv_aload_n hx hb dL_law_1141 rfl (lv_at hl 5 rfl) ?_
  refine lv_iload hx hb dL_law_1142 (lv_at hl 1 rfl) ?_
  refine lv_iconst (v := 1) hx hb dL_law_1144 (by decide) ?_
  refine lz_iadd (v := 1) hx hb dL_law_1145 (by decide) ?_
  refine va_sld hx hb hX hbl hbA hS vi_1 dL_law_1146 ?_
  refine lz_top (v := (nI t)) (by rw [cl_1]; exact hx1) ?_
  refine lv_aload_n hx hb dL_law_1147 rfl (lv_at hl 5 rfl) ?_
  refine lv_iload hx hb dL_law_1148 (lv_at hl 1 rfl) ?_
  refine lv_iconst (v := 2) hx hb dL_law_1150 (by decide) ?_
  refine lz_iadd (v := 2) hx hb dL_law_1151 (by decide) ?_
  refine va_sld hx hb hX hbl hbA hS vi_2 dL_law_1152 ?_
  refine lz_top (v := (nI r)) (by rw [cl_2]; exact hx2) ?_
  refine lv_aload_n hx hb dL_law_1153 rfl (lv_at hl 5 rfl) ?_
  refine lv_iload hx hb dL_law_1154 (lv_at hl 1 rfl) ?_
  refine lv_iconst (v := 3) hx hb dL_law_1156 (by decide) ?_
  refine lz_iadd (v := 3) hx hb dL_law_1157 (by decide) ?_
  refine va_sld hx hb hX hbl hbA hS vi_3 dL_law_1158 ?_
  refine lz_top (v := 0) (by rw [cl_3]; exact hx3) ?_
  refine mu_Va (ci := 5) (q0 := 0) (As := [.int (nI t), .int (nI r), .int 0]) (rest := []) ⟨hx, hb, hml, hown, hts⟩ (c_X5_strength0 l D cA _ a 0 f0 (fun _ => 0) (fun _ => 0) (fun _ => 0) 0 t ht r hr0 f0_FR (va_P_l hP) (va_D_l hD)) (cwV 3 hts gL_law_X5_strength rfl rfl rfl (by decide +kernel) ⟨Nat.le_of_ble_eq_true rfl, Nat.le_of_ble_eq_true rfl⟩) hKN hP hD hS hA rfl rfl ((wMd_fst _ _ _).trans (wMd_fst _ _ _).symm) rfl hl.1 rfl (lv_room (Nat.le_of_ble_eq_true rfl)) dL_law_1159 ⟨Nat.le_of_ble_eq_true rfl, Nat.le_of_ble_eq_true rfl⟩ (fun H locs hP hD hS => ?_)
  refine lz_top (v := 0) rfl ?_
  refine lv_istore (lv' := [(6, .int 0), (5, .int 0), (4, .int 0), (3, .ref o9), (2, .ref (a 0)), (1, .ref (Ad 10 0)), (0, .ref b)]) hx hb dL_law_1162 hl (by decide) rfl (fun ls hl => ?_)
  refine lv_aload_n hx hb dL_law_1164 rfl (lv_at hl 4 rfl) ?_
  refine ro_V (ci := 5) (q0 := 0) (As := []) (rest := []) ⟨hx, hb, hml, hown, hts⟩ (c_X5_thrown l D cA _ a _ (va_P_l hP)) (cwV 0 hts gL_law_X5_thrown rfl rfl rfl (by decide +kernel) ⟨Nat.le_of_ble_eq_true rfl, Nat.le_of_ble_eq_true rfl⟩) hKN hP rfl rfl rfl hl.1 rfl (lv_room (Nat.le_of_ble_eq_true rfl)) dL_law_1165 ⟨Nat.le_of_ble_eq_true rfl, Nat.le_of_ble_eq_true rfl⟩ ?_
  refine lz_top (v := 0) rfl ?_
  refine lv_iload hx hb dL_law_1168 (lv_at hl 1 rfl) ?_
  refine lv_icmp_eq (tgt := 1175) hx hb dL_law_1170 (by decide) (fun _ => ?_) (fun h => absurd (by decide) h)
  refine lv_iload hx hb dL_law_1175 (lv_at hl 1 rfl) ?_
  refine lv_if_ne (tgt := 1192) hx hb dL_law_1177 (by decide) (fun h => absurd (by decide) h) (fun _ => ?_)
  refine lv_aload_n hx hb dL_law_1180 rfl (lv_at hl 3 rfl) ?_
  refine lv_iconst (v := 0) hx hb dL_law_1181 (by decide) ?_
  refine lz_lald (k := 0) (f := (vp_updL (fun _ => 0) 0 (i2lF 0))) hx hb hKN.1 hP 5 3 rfl rfl ⟨by decide, by decide⟩ dL_law_1182 ?_
  refine lz_topL (v := (i2lF 0)) rfl ?_
  refine lv_iload hx hb dL_law_1183 (lv_at hl 0 rfl) ?_
  refine lv_i2l (v := (i2lF 0)) hx hb dL_law_1185 rfl ?_
  refine W.lcmp hx hb dL_law_1186 ?_
  refine lz_top (v := 0) (lg_cmp_self _) ?_
  refine lv_if_eq (tgt := 1192) hx hb dL_law_1187 (by decide) (fun _ => ?_) (fun h => absurd (by decide) h)
  refine lv_goto (tgt := 1723) hx hb dL_law_1192 (by decide) ?_
  exact W.widen (k := 2000) (n := 9000) (by decide) (by decide) (K H locs ls hS (lv_sub hl [2, 6] rfl))
set_option maxHeartbeats 4000000 in
set_option maxRecDepth 100000 in
theorem lc_strength_v1 {p : Program} {l : Launch} {e : Env} {s : State} {m : MethodId} {below : List Frame} {meth : Method} {c : Code} {b : Nat} {xs : Nat → Int32} {H : Heap} {locs : List Loc} {ls : Array Slot} {Q : State → Prop} {D : va_G} {cA : Nat → ClassId} {Ad : Nat → Nat → Nat} {a : Nat → Nat} {o9 : Nat} {A0 : Nat → Prop} (C : LCtx p l s m c b xs D cA A0) (Wd : LWl D cA Ad a o9 s A0 H locs) (hl : lv_has ls 9 [(4, .int 0), (3, .ref o9), (2, .ref (a 0)), (1, .ref (Ad 10 0)), (0, .ref b)]) (K : LKn p l e s m b below meth c Q A0) (t : Nat) (ht : t < 16) (r : Nat) (hr0 : r < 8) (hx1 : xs 1 = (nI t)) (hx2 : xs 2 = (nI r)) (hx3 : xs 3 = 1) : W p l e room_1 s m #[Value.ref b] below meth c H locs 1000 5000 Q (F0 m 1115 ls []) := by
  obtain ⟨hx, hb, hml, hown, hts, hKN, hKY, hXZ, hX, hbl, hl0, hA, hbA⟩ := C
  obtain ⟨hP, hD, hS⟩ := Wd
  refine lv_aload_n hx hb dL_law_1115 rfl (lv_at hl 3 rfl) ?_
  refine lv_aload_n hx hb dL_law_1116 rfl (lv_at hl 4 rfl) ?_
  refine lv_iload hx hb dL_law_1117 (lv_at hl 0 rfl) ?_
  refine lv_iconst (v := 1) hx hb dL_law_1119 (by decide) ?_
  refine lz_iadd (v := 1) hx hb dL_law_1120 (by decide) ?_
  refine va_sld hx hb hX hbl hbA hS vi_1 dL_law_1121 ?_
  refine lz_top (v := (nI t)) (by rw [cl_1]; exact hx1) ?_
  refine lv_aload_n hx hb dL_law_1122 rfl (lv_at hl 4 rfl) ?_
  refine lv_iload hx hb dL_law_1123 (lv_at hl 0 rfl) ?_
  refine lv_iconst (v := 2) hx hb dL_law_1125 (by decide) ?_
  refine lz_iadd (v := 2) hx hb dL_law_1126 (by decide) ?_
  refine va_sld hx hb hX hbl hbA hS vi_2 dL_law_1127 ?_
  refine lz_top (v := (nI r)) (by rw [cl_2]; exact hx2) ?_
  refine lv_aload_n hx hb dL_law_1128 rfl (lv_at hl 4 rfl) ?_
  refine lv_iload hx hb dL_law_1129 (lv_at hl 0 rfl) ?_
  refine lv_iconst (v := 3) hx hb dL_law_1131 (by decide) ?_
  refine lz_iadd (v := 3) hx hb dL_law_1132 (by decide) ?_
  refine va_sld hx hb hX hbl hbA hS vi_3 dL_law_1133 ?_
  refine lz_top (v := 1) (by rw [cl_3]; exact hx3) ?_
  refine lv_aload_n hx hb dL_law_1134 rfl (lv_at hl 1 rfl) ?_
  refine lh_S (As := [.ref (Ad 10 0), .int (nI t), .int (nI r), .int 1, .ref o9]) (rest := []) ⟨hx, hb, hml, hown, hts⟩ (h_strength_v1 l hl0 D cA _ Ad o9 t ht r hr0 (va_P_l hP) (va_D_l hD)) (vx_cwSW 5 hts gL_law_L_strength rfl rfl rfl (by decide +kernel) ⟨Nat.le_of_ble_eq_true rfl, Nat.le_of_ble_eq_true rfl⟩) hKN hKY ((hXZ.kept (fun q h1 h2 => hS.2.1 q h1 h2)).narrow (lc_F hD hS hA)) mem_o9 hP hD hS hA rfl hl.1 rfl (lv_room (Nat.le_of_ble_eq_true rfl)) dL_law_1135 ⟨Nat.le_of_ble_eq_true rfl, Nat.le_of_ble_eq_true rfl⟩ (fun H locs hP hD hS => ?_)
  refine lv_istore (lv' := [(5, .int 0), (4, .int 0), (3, .ref o9), (2, .ref (a 0)), (1, .ref (Ad 10 0)), (0, .ref b)]) hx hb dL_law_1138 hl (by decide) rfl (fun ls hl => ?_)
  refine lv_aload_n hx hb dL_law_1140 rfl (lv_at hl 3 rfl) ?_
  refine lv_aload_n hx hb dL_law_1141 rfl (lv_at hl 5 rfl) ?_
  refine lv_iload hx hb dL_law_1142 (lv_at hl 1 rfl) ?_
  refine lv_iconst (v := 1) hx hb dL_law_1144 (by decide) ?_
  refine lz_iadd (v := 1) hx hb dL_law_1145 (by decide) ?_
  refine va_sld hx hb hX hbl hbA hS vi_1 dL_law_1146 ?_
  refine lz_top (v := (nI t)) (by rw [cl_1]; exact hx1) ?_
  refine lv_aload_n hx hb dL_law_1147 rfl (lv_at hl 5 rfl) ?_
  refine lv_iload hx hb dL_law_1148 (lv_at hl 1 rfl) ?_
  refine lv_iconst (v := 2) hx hb dL_law_1150 (by decide) ?_
  refine lz_iadd (v := 2) hx hb dL_law_1151 (by decide) ?_
  refine va_sld hx hb hX hbl hbA hS vi_2 dL_law_1152 ?_
  refine lz_top (v := (nI r)) (by rw [cl_2]; exact hx2) ?_
  refine lv_aload_n hx hb dL_law_1153 rfl (lv_at hl 5 rfl) ?_
  refine lv_iload hx hb dL_law_1154 (lv_at hl 1 rfl) ?_
  refine lv_iconst (v := 3) hx hb dL_law_1156 (by decide) ?_
  refine lz_iadd (v := 3) hx hb dL_law_1157 (by decide) ?_
  refine va_sld hx hb hX hbl hbA hS vi_3 dL_law_1158 ?_
  refine lz_top (v := 1) (by rw [cl_3]; exact hx3) ?_
  refine mu_Va (ci := 5) (q0 := 0) (As := [.int (nI t), .int (nI r), .int 1]) (rest := []) ⟨hx, hb, hml, hown, hts⟩ (c_X5_strength1 l D cA _ a 0 f0 (fun _ => 0) (fun _ => 0) (fun _ => 0) 0 t ht r hr0 f0_FR (va_P_l hP) (va_D_l hD)) (cwV 3 hts gL_law_X5_strength rfl rfl rfl (by decide +kernel) ⟨Nat.le_of_ble_eq_true rfl, Nat.le_of_ble_eq_true rfl⟩) hKN hP hD hS hA rfl rfl ((wMd_fst _ _ _).trans (wMd_fst _ _ _).symm) rfl hl.1 rfl (lv_room (Nat.le_of_ble_eq_true rfl)) dL_law_1159 ⟨Nat.le_of_ble_eq_true rfl, Nat.le_of_ble_eq_true rfl⟩ (fun H locs hP hD hS => ?_)
  refine lz_top (v := (-1)) rfl ?_
  refine lv_istore (lv' := [(6, .int (-1)), (5, .int 0), (4, .int 0), (3, .ref o9), (2, .ref (a 0)), (1, .ref (Ad 10 0)), (0, .ref b)]) hx hb dL_law_1162 hl (by decide) rfl (fun ls hl => ?_)
  refine lv_aload_n hx hb dL_law_1164 rfl (lv_at hl 4 rfl) ?_
  refine ro_V (ci := 5) (q0 := 0) (As := []) (rest := []) ⟨hx, hb, hml, hown, hts⟩ (c_X5_thrown l D cA _ a _ (va_P_l hP)) (cwV 0 hts gL_law_X5_thrown rfl rfl rfl (by decide +kernel) ⟨Nat.le_of_ble_eq_true rfl, Nat.le_of_ble_eq_true rfl⟩) hKN hP rfl rfl rfl hl.1 rfl (lv_room (Nat.le_of_ble_eq_true rfl)) dL_law_1165 ⟨Nat.le_of_ble_eq_true rfl, Nat.le_of_ble_eq_true rfl⟩ ?_
  refine lz_top (v := 0) rfl ?_
  refine lv_iload hx hb dL_law_1168 (lv_at hl 1 rfl) ?_
  refine lv_icmp_eq (tgt := 1175) hx hb dL_law_1170 (by decide) (fun _ => ?_) (fun h => absurd (by decide) h)
  refine lv_iload hx hb dL_law_1175 (lv_at hl 1 rfl) ?_
  refine lv_if_ne (tgt := 1192) hx hb dL_law_1177 (by decide) (fun h => absurd (by decide) h) (fun _ => ?_)
  refine lv_aload_n hx hb dL_law_1180 rfl (lv_at hl 3 rfl) ?_
  refine lv_iconst (v := 0) hx hb dL_law_1181 (by decide) ?_
  refine lz_lald (k := 0) (f := (vp_updL (fun _ => 0) 0 (i2lF (-1)))) hx hb hKN.1 hP 5 3 rfl rfl ⟨by decide, by decide⟩ dL_law_1182 ?_
  refine lz_topL (v := (i2lF (-1))) rfl ?_
  refine lv_iload hx hb dL_law_1183 (lv_at hl 0 rfl) ?_
  refine lv_i2l (v := (i2lF (-1))) hx hb dL_law_1185 rfl ?_
  refine W.lcmp hx hb dL_law_1186 ?_
  refine lz_top (v := 0) (lg_cmp_self _) ?_
  refine lv_if_eq (tgt := 1192) hx hb dL_law_1187 (by decide) (fun _ => ?_) (fun h => absurd (by decide) h)
  refine lv_goto (tgt := 1723) hx hb dL_law_1192 (by decide) ?_
  exact W.widen (k := 2000) (n := 9000) (by decide) (by decide) (K H locs ls hS (lv_sub hl [2, 6] rfl))
set_option maxHeartbeats 4000000 in
set_option maxRecDepth 100000 in
theorem lc_strength_x1 {p : Program} {l : Launch} {e : Env} {s : State} {m : MethodId} {below : List Frame} {meth : Method} {c : Code} {b : Nat} {xs : Nat → Int32} {H : Heap} {locs : List Loc} {ls : Array Slot} {Q : State → Prop} {D : va_G} {cA : Nat → ClassId} {Ad : Nat → Nat → Nat} {a : Nat → Nat} {o9 : Nat} {A0 : Nat → Prop} (C : LCtx p l s m c b xs D cA A0) (Wd : LWl D cA Ad a o9 s A0 H locs) (hl : lv_has ls 9 [(4, .int 0), (3, .ref o9), (2, .ref (a 0)), (1, .ref (Ad 10 0)), (0, .ref b)]) (K : LKn p l e s m b below meth c Q A0) (y z9 : Int32) (x : Int32) (hx0 : inF x 0 15 = 0) (hx1 : xs 1 = x) (hx2 : xs 2 = y) (hx3 : xs 3 = z9) : W p l e room_1 s m #[Value.ref b] below meth c H locs 1000 5000 Q (F0 m 1115 ls []) := by
  obtain ⟨hx, hb, hml, hown, hts, hKN, hKY, hXZ, hX, hbl, hl0, hA, hbA⟩ := C
  obtain ⟨hP, hD, hS⟩ := Wd
  refine lv_aload_n hx hb dL_law_1115 rfl (lv_at hl 3 rfl) ?_
  refine lv_aload_n hx hb dL_law_1116 rfl (lv_at hl 4 rfl) ?_
  refine lv_iload hx hb dL_law_1117 (lv_at hl 0 rfl) ?_
  refine lv_iconst (v := 1) hx hb dL_law_1119 (by decide) ?_
  refine lz_iadd (v := 1) hx hb dL_law_1120 (by decide) ?_
  refine va_sld hx hb hX hbl hbA hS vi_1 dL_law_1121 ?_
  refine lz_top (v := x) (by rw [cl_1]; exact hx1) ?_
  refine lv_aload_n hx hb dL_law_1122 rfl (lv_at hl 4 rfl) ?_
  refine lv_iload hx hb dL_law_1123 (lv_at hl 0 rfl) ?_
  refine lv_iconst (v := 2) hx hb dL_law_1125 (by decide) ?_
  refine lz_iadd (v := 2) hx hb dL_law_1126 (by decide) ?_
  refine va_sld hx hb hX hbl hbA hS vi_2 dL_law_1127 ?_
  refine lz_top (v := y) (by rw [cl_2]; exact hx2) ?_
  refine lv_aload_n hx hb dL_law_1128 rfl (lv_at hl 4 rfl) ?_
  refine lv_iload hx hb dL_law_1129 (lv_at hl 0 rfl) ?_
  refine lv_iconst (v := 3) hx hb dL_law_1131 (by decide) ?_
  refine lz_iadd (v := 3) hx hb dL_law_1132 (by decide) ?_
  refine va_sld hx hb hX hbl hbA hS vi_3 dL_law_1133 ?_
  refine lz_top (v := z9) (by rw [cl_3]; exact hx3) ?_
  refine lv_aload_n hx hb dL_law_1134 rfl (lv_at hl 1 rfl) ?_
  refine lh_S (As := [.ref (Ad 10 0), .int x, .int y, .int z9, .ref o9]) (rest := []) ⟨hx, hb, hml, hown, hts⟩ (h_strength_x1 l hl0 D cA _ Ad o9 y z9 x hx0 (va_P_l hP) (va_D_l hD)) (vx_cwSW 5 hts gL_law_L_strength rfl rfl rfl (by decide +kernel) ⟨Nat.le_of_ble_eq_true rfl, Nat.le_of_ble_eq_true rfl⟩) hKN hKY ((hXZ.kept (fun q h1 h2 => hS.2.1 q h1 h2)).narrow (lc_F hD hS hA)) mem_o9 hP hD hS hA rfl hl.1 rfl (lv_room (Nat.le_of_ble_eq_true rfl)) dL_law_1135 ⟨Nat.le_of_ble_eq_true rfl, Nat.le_of_ble_eq_true rfl⟩ (fun H locs hP hD hS => ?_)
  refine lv_istore (lv' := [(5, .int 1), (4, .int 0), (3, .ref o9), (2, .ref (a 0)), (1, .ref (Ad 10 0)), (0, .ref b)]) hx hb dL_law_1138 hl (by decide) rfl (fun ls hl => ?_)
  refine lv_aload_n hx hb dL_law_1140 rfl (lv_at hl 3 rfl) ?_
  refine lv_aload_n hx hb dL_law_1141 rfl (lv_at hl 5 rfl) ?_
  refine lv_iload hx hb dL_law_1142 (lv_at hl 1 rfl) ?_
  refine lv_iconst (v := 1) hx hb dL_law_1144 (by decide) ?_
  refine lz_iadd (v := 1) hx hb dL_law_1145 (by decide) ?_
  refine va_sld hx hb hX hbl hbA hS vi_1 dL_law_1146 ?_
  refine lz_top (v := x) (by rw [cl_1]; exact hx1) ?_
  refine lv_aload_n hx hb dL_law_1147 rfl (lv_at hl 5 rfl) ?_
  refine lv_iload hx hb dL_law_1148 (lv_at hl 1 rfl) ?_
  refine lv_iconst (v := 2) hx hb dL_law_1150 (by decide) ?_
  refine lz_iadd (v := 2) hx hb dL_law_1151 (by decide) ?_
  refine va_sld hx hb hX hbl hbA hS vi_2 dL_law_1152 ?_
  refine lz_top (v := y) (by rw [cl_2]; exact hx2) ?_
  refine lv_aload_n hx hb dL_law_1153 rfl (lv_at hl 5 rfl) ?_
  refine lv_iload hx hb dL_law_1154 (lv_at hl 1 rfl) ?_
  refine lv_iconst (v := 3) hx hb dL_law_1156 (by decide) ?_
  refine lz_iadd (v := 3) hx hb dL_law_1157 (by decide) ?_
  refine va_sld hx hb hX hbl hbA hS vi_3 dL_law_1158 ?_
  refine lz_top (v := z9) (by rw [cl_3]; exact hx3) ?_
  refine mu_Va (ci := 5) (q0 := 0) (As := [.int x, .int y, .int z9]) (rest := []) ⟨hx, hb, hml, hown, hts⟩ (n_strength1 l D cA _ a 0 f0 (fun _ => 0) (fun _ => 0) (fun _ => 0) 0 y z9 x hx0 (va_P_l hP) (va_D_l hD)) (cwV 3 hts gL_law_X5_strength rfl rfl rfl (by decide +kernel) ⟨Nat.le_of_ble_eq_true rfl, Nat.le_of_ble_eq_true rfl⟩) hKN hP hD hS hA rfl rfl ((wMd_fst _ _ _).trans (wMd_fst _ _ _).symm) rfl hl.1 rfl (lv_room (Nat.le_of_ble_eq_true rfl)) dL_law_1159 ⟨Nat.le_of_ble_eq_true rfl, Nat.le_of_ble_eq_true rfl⟩ (fun H locs hP hD hS => ?_)
  refine lz_top (v := 0) rfl ?_
  refine lv_istore (lv' := [(6, .int 0), (5, .int 1), (4, .int 0), (3, .ref o9), (2, .ref (a 0)), (1, .ref (Ad 10 0)), (0, .ref b)]) hx hb dL_law_1162 hl (by decide) rfl (fun ls hl => ?_)
  refine lv_aload_n hx hb dL_law_1164 rfl (lv_at hl 4 rfl) ?_
  refine ro_V (ci := 5) (q0 := 0) (As := []) (rest := []) ⟨hx, hb, hml, hown, hts⟩ (c_X5_thrown l D cA _ a _ (va_P_l hP)) (cwV 0 hts gL_law_X5_thrown rfl rfl rfl (by decide +kernel) ⟨Nat.le_of_ble_eq_true rfl, Nat.le_of_ble_eq_true rfl⟩) hKN hP rfl rfl rfl hl.1 rfl (lv_room (Nat.le_of_ble_eq_true rfl)) dL_law_1165 ⟨Nat.le_of_ble_eq_true rfl, Nat.le_of_ble_eq_true rfl⟩ ?_
  refine lz_top (v := 1) rfl ?_
  refine lv_iload hx hb dL_law_1168 (lv_at hl 1 rfl) ?_
  refine lv_icmp_eq (tgt := 1175) hx hb dL_law_1170 (by decide) (fun _ => ?_) (fun h => absurd (by decide) h)
  refine lv_iload hx hb dL_law_1175 (lv_at hl 1 rfl) ?_
  refine lv_if_ne (tgt := 1192) hx hb dL_law_1177 (by decide) (fun _ => ?_) (fun h => absurd h (by decide))
  refine lv_goto (tgt := 1723) hx hb dL_law_1192 (by decide) ?_
  exact W.widen (k := 2000) (n := 9000) (by decide) (by decide) (K H locs ls hS (lv_sub hl [2, 6] rfl))
set_option maxHeartbeats 4000000 in
set_option maxRecDepth 100000 in
theorem lc_strength_x2 {p : Program} {l : Launch} {e : Env} {s : State} {m : MethodId} {below : List Frame} {meth : Method} {c : Code} {b : Nat} {xs : Nat → Int32} {H : Heap} {locs : List Loc} {ls : Array Slot} {Q : State → Prop} {D : va_G} {cA : Nat → ClassId} {Ad : Nat → Nat → Nat} {a : Nat → Nat} {o9 : Nat} {A0 : Nat → Prop} (C : LCtx p l s m c b xs D cA A0) (Wd : LWl D cA Ad a o9 s A0 H locs) (hl : lv_has ls 9 [(4, .int 0), (3, .ref o9), (2, .ref (a 0)), (1, .ref (Ad 10 0)), (0, .ref b)]) (K : LKn p l e s m b below meth c Q A0) (t : Nat) (ht : t < 16) (z9 : Int32) (x : Int32) (hx0 : inF x 0 7 = 0) (hx1 : xs 1 = (nI t)) (hx2 : xs 2 = x) (hx3 : xs 3 = z9) : W p l e room_1 s m #[Value.ref b] below meth c H locs 1000 5000 Q (F0 m 1115 ls []) := by
  obtain ⟨hx, hb, hml, hown, hts, hKN, hKY, hXZ, hX, hbl, hl0, hA, hbA⟩ := C
  obtain ⟨hP, hD, hS⟩ := Wd
  refine lv_aload_n hx hb dL_law_1115 rfl (lv_at hl 3 rfl) ?_
  refine lv_aload_n hx hb dL_law_1116 rfl (lv_at hl 4 rfl) ?_
  refine lv_iload hx hb dL_law_1117 (lv_at hl 0 rfl) ?_
  refine lv_iconst (v := 1) hx hb dL_law_1119 (by decide) ?_
  refine lz_iadd (v := 1) hx hb dL_law_1120 (by decide) ?_
  refine va_sld hx hb hX hbl hbA hS vi_1 dL_law_1121 ?_
  refine lz_top (v := (nI t)) (by rw [cl_1]; exact hx1) ?_
  refine lv_aload_n hx hb dL_law_1122 rfl (lv_at hl 4 rfl) ?_
  refine lv_iload hx hb dL_law_1123 (lv_at hl 0 rfl) ?_
  refine lv_iconst (v := 2) hx hb dL_law_1125 (by decide) ?_
  refine lz_iadd (v := 2) hx hb dL_law_1126 (by decide) ?_
  refine va_sld hx hb hX hbl hbA hS vi_2 dL_law_1127 ?_
  refine lz_top (v := x) (by rw [cl_2]; exact hx2) ?_
  refine lv_aload_n hx hb dL_law_1128 rfl (lv_at hl 4 rfl) ?_
  refine lv_iload hx hb dL_law_1129 (lv_at hl 0 rfl) ?_
  refine lv_iconst (v := 3) hx hb dL_law_1131 (by decide) ?_
  refine lz_iadd (v := 3) hx hb dL_law_1132 (by decide) ?_
  refine va_sld hx hb hX hbl hbA hS vi_3 dL_law_1133 ?_
  refine lz_top (v := z9) (by rw [cl_3]; exact hx3) ?_
  refine lv_aload_n hx hb dL_law_1134 rfl (lv_at hl 1 rfl) ?_
  refine lh_S (As := [.ref (Ad 10 0), .int (nI t), .int x, .int z9, .ref o9]) (rest := []) ⟨hx, hb, hml, hown, hts⟩ (h_strength_x2 l hl0 D cA _ Ad o9 t ht z9 x hx0 (va_P_l hP) (va_D_l hD)) (vx_cwSW 5 hts gL_law_L_strength rfl rfl rfl (by decide +kernel) ⟨Nat.le_of_ble_eq_true rfl, Nat.le_of_ble_eq_true rfl⟩) hKN hKY ((hXZ.kept (fun q h1 h2 => hS.2.1 q h1 h2)).narrow (lc_F hD hS hA)) mem_o9 hP hD hS hA rfl hl.1 rfl (lv_room (Nat.le_of_ble_eq_true rfl)) dL_law_1135 ⟨Nat.le_of_ble_eq_true rfl, Nat.le_of_ble_eq_true rfl⟩ (fun H locs hP hD hS => ?_)
  refine lv_istore (lv' := [(5, .int 1), (4, .int 0), (3, .ref o9), (2, .ref (a 0)), (1, .ref (Ad 10 0)), (0, .ref b)]) hx hb dL_law_1138 hl (by decide) rfl (fun ls hl => ?_)
  refine lv_aload_n hx hb dL_law_1140 rfl (lv_at hl 3 rfl) ?_
  refine lv_aload_n hx hb dL_law_1141 rfl (lv_at hl 5 rfl) ?_
  refine lv_iload hx hb dL_law_1142 (lv_at hl 1 rfl) ?_
  refine lv_iconst (v := 1) hx hb dL_law_1144 (by decide) ?_
  refine lz_iadd (v := 1) hx hb dL_law_1145 (by decide) ?_
  refine va_sld hx hb hX hbl hbA hS vi_1 dL_law_1146 ?_
  refine lz_top (v := (nI t)) (by rw [cl_1]; exact hx1) ?_
  refine lv_aload_n hx hb dL_law_1147 rfl (lv_at hl 5 rfl) ?_
  refine lv_iload hx hb dL_law_1148 (lv_at hl 1 rfl) ?_
  refine lv_iconst (v := 2) hx hb dL_law_1150 (by decide) ?_
  refine lz_iadd (v := 2) hx hb dL_law_1151 (by decide) ?_
  refine va_sld hx hb hX hbl hbA hS vi_2 dL_law_1152 ?_
  refine lz_top (v := x) (by rw [cl_2]; exact hx2) ?_
  refine lv_aload_n hx hb dL_law_1153 rfl (lv_at hl 5 rfl) ?_
  refine lv_iload hx hb dL_law_1154 (lv_at hl 1 rfl) ?_
  refine lv_iconst (v := 3) hx hb dL_law_1156 (by decide) ?_
  refine lz_iadd (v := 3) hx hb dL_law_1157 (by decide) ?_
  refine va_sld hx hb hX hbl hbA hS vi_3 dL_law_1158 ?_
  refine lz_top (v := z9) (by rw [cl_3]; exact hx3) ?_
  refine mu_Va (ci := 5) (q0 := 0) (As := [.int (nI t), .int x, .int z9]) (rest := []) ⟨hx, hb, hml, hown, hts⟩ (n_strength2 l D cA _ a 0 f0 (fun _ => 0) (fun _ => 0) (fun _ => 0) 0 t ht z9 x hx0 (va_P_l hP) (va_D_l hD)) (cwV 3 hts gL_law_X5_strength rfl rfl rfl (by decide +kernel) ⟨Nat.le_of_ble_eq_true rfl, Nat.le_of_ble_eq_true rfl⟩) hKN hP hD hS hA rfl rfl ((wMd_fst _ _ _).trans (wMd_fst _ _ _).symm) rfl hl.1 rfl (lv_room (Nat.le_of_ble_eq_true rfl)) dL_law_1159 ⟨Nat.le_of_ble_eq_true rfl, Nat.le_of_ble_eq_true rfl⟩ (fun H locs hP hD hS => ?_)
  refine lz_top (v := 0) rfl ?_
  refine lv_istore (lv' := [(6, .int 0), (5, .int 1), (4, .int 0), (3, .ref o9), (2, .ref (a 0)), (1, .ref (Ad 10 0)), (0, .ref b)]) hx hb dL_law_1162 hl (by decide) rfl (fun ls hl => ?_)
  refine lv_aload_n hx hb dL_law_1164 rfl (lv_at hl 4 rfl) ?_
  refine ro_V (ci := 5) (q0 := 0) (As := []) (rest := []) ⟨hx, hb, hml, hown, hts⟩ (c_X5_thrown l D cA _ a _ (va_P_l hP)) (cwV 0 hts gL_law_X5_thrown rfl rfl rfl (by decide +kernel) ⟨Nat.le_of_ble_eq_true rfl, Nat.le_of_ble_eq_true rfl⟩) hKN hP rfl rfl rfl hl.1 rfl (lv_room (Nat.le_of_ble_eq_true rfl)) dL_law_1165 ⟨Nat.le_of_ble_eq_true rfl, Nat.le_of_ble_eq_true rfl⟩ ?_
  refine lz_top (v := 1) rfl ?_
  refine lv_iload hx hb dL_law_1168 (lv_at hl 1 rfl) ?_
  refine lv_icmp_eq (tgt := 1175) hx hb dL_law_1170 (by decide) (fun _ => ?_) (fun h => absurd (by decide) h)
  refine lv_iload hx hb dL_law_1175 (lv_at hl 1 rfl) ?_
  refine lv_if_ne (tgt := 1192) hx hb dL_law_1177 (by decide) (fun _ => ?_) (fun h => absurd h (by decide))
  refine lv_goto (tgt := 1723) hx hb dL_law_1192 (by decide) ?_
  exact W.widen (k := 2000) (n := 9000) (by decide) (by decide) (K H locs ls hS (lv_sub hl [2, 6] rfl))
set_option maxHeartbeats 4000000 in
set_option maxRecDepth 100000 in
theorem lc_strength_x3 {p : Program} {l : Launch} {e : Env} {s : State} {m : MethodId} {below : List Frame} {meth : Method} {c : Code} {b : Nat} {xs : Nat → Int32} {H : Heap} {locs : List Loc} {ls : Array Slot} {Q : State → Prop} {D : va_G} {cA : Nat → ClassId} {Ad : Nat → Nat → Nat} {a : Nat → Nat} {o9 : Nat} {A0 : Nat → Prop} (C : LCtx p l s m c b xs D cA A0) (Wd : LWl D cA Ad a o9 s A0 H locs) (hl : lv_has ls 9 [(4, .int 0), (3, .ref o9), (2, .ref (a 0)), (1, .ref (Ad 10 0)), (0, .ref b)]) (K : LKn p l e s m b below meth c Q A0) (t : Nat) (ht : t < 16) (r : Nat) (hr0 : r < 8) (x : Int32) (hx0 : inF x 0 1 = 0) (hx1 : xs 1 = (nI t)) (hx2 : xs 2 = (nI r)) (hx3 : xs 3 = x) : W p l e room_1 s m #[Value.ref b] below meth c H locs 1000 5000 Q (F0 m 1115 ls []) := by
  obtain ⟨hx, hb, hml, hown, hts, hKN, hKY, hXZ, hX, hbl, hl0, hA, hbA⟩ := C
  obtain ⟨hP, hD, hS⟩ := Wd
  refine lv_aload_n hx hb dL_law_1115 rfl (lv_at hl 3 rfl) ?_
  refine lv_aload_n hx hb dL_law_1116 rfl (lv_at hl 4 rfl) ?_
  refine lv_iload hx hb dL_law_1117 (lv_at hl 0 rfl) ?_
  refine lv_iconst (v := 1) hx hb dL_law_1119 (by decide) ?_
  refine lz_iadd (v := 1) hx hb dL_law_1120 (by decide) ?_
  refine va_sld hx hb hX hbl hbA hS vi_1 dL_law_1121 ?_
  refine lz_top (v := (nI t)) (by rw [cl_1]; exact hx1) ?_
  refine lv_aload_n hx hb dL_law_1122 rfl (lv_at hl 4 rfl) ?_
  refine lv_iload hx hb dL_law_1123 (lv_at hl 0 rfl) ?_
  refine lv_iconst (v := 2) hx hb dL_law_1125 (by decide) ?_
  refine lz_iadd (v := 2) hx hb dL_law_1126 (by decide) ?_
  refine va_sld hx hb hX hbl hbA hS vi_2 dL_law_1127 ?_
  refine lz_top (v := (nI r)) (by rw [cl_2]; exact hx2) ?_
  refine lv_aload_n hx hb dL_law_1128 rfl (lv_at hl 4 rfl) ?_
  refine lv_iload hx hb dL_law_1129 (lv_at hl 0 rfl) ?_
  refine lv_iconst (v := 3) hx hb dL_law_1131 (by decide) ?_
  refine lz_iadd (v := 3) hx hb dL_law_1132 (by decide) ?_
  refine va_sld hx hb hX hbl hbA hS vi_3 dL_law_1133 ?_
  refine lz_top (v := x) (by rw [cl_3]; exact hx3) ?_
  refine lv_aload_n hx hb dL_law_1134 rfl (lv_at hl 1 rfl) ?_
  refine lh_S (As := [.ref (Ad 10 0), .int (nI t), .int (nI r), .int x, .ref o9]) (rest := []) ⟨hx, hb, hml, hown, hts⟩ (h_strength_x3 l hl0 D cA _ Ad o9 t ht r hr0 x hx0 (va_P_l hP) (va_D_l hD)) (vx_cwSW 5 hts gL_law_L_strength rfl rfl rfl (by decide +kernel) ⟨Nat.le_of_ble_eq_true rfl, Nat.le_of_ble_eq_true rfl⟩) hKN hKY ((hXZ.kept (fun q h1 h2 => hS.2.1 q h1 h2)).narrow (lc_F hD hS hA)) mem_o9 hP hD hS hA rfl hl.1 rfl (lv_room (Nat.le_of_ble_eq_true rfl)) dL_law_1135 ⟨Nat.le_of_ble_eq_true rfl, Nat.le_of_ble_eq_true rfl⟩ (fun H locs hP hD hS => ?_)
  refine lv_istore (lv' := [(5, .int 2), (4, .int 0), (3, .ref o9), (2, .ref (a 0)), (1, .ref (Ad 10 0)), (0, .ref b)]) hx hb dL_law_1138 hl (by decide) rfl (fun ls hl => ?_)
  refine lv_aload_n hx hb dL_law_1140 rfl (lv_at hl 3 rfl) ?_
  refine lv_aload_n hx hb dL_law_1141 rfl (lv_at hl 5 rfl) ?_
  refine lv_iload hx hb dL_law_1142 (lv_at hl 1 rfl) ?_
  refine lv_iconst (v := 1) hx hb dL_law_1144 (by decide) ?_
  refine lz_iadd (v := 1) hx hb dL_law_1145 (by decide) ?_
  refine va_sld hx hb hX hbl hbA hS vi_1 dL_law_1146 ?_
  refine lz_top (v := (nI t)) (by rw [cl_1]; exact hx1) ?_
  refine lv_aload_n hx hb dL_law_1147 rfl (lv_at hl 5 rfl) ?_
  refine lv_iload hx hb dL_law_1148 (lv_at hl 1 rfl) ?_
  refine lv_iconst (v := 2) hx hb dL_law_1150 (by decide) ?_
  refine lz_iadd (v := 2) hx hb dL_law_1151 (by decide) ?_
  refine va_sld hx hb hX hbl hbA hS vi_2 dL_law_1152 ?_
  refine lz_top (v := (nI r)) (by rw [cl_2]; exact hx2) ?_
  refine lv_aload_n hx hb dL_law_1153 rfl (lv_at hl 5 rfl) ?_
  refine lv_iload hx hb dL_law_1154 (lv_at hl 1 rfl) ?_
  refine lv_iconst (v := 3) hx hb dL_law_1156 (by decide) ?_
  refine lz_iadd (v := 3) hx hb dL_law_1157 (by decide) ?_
  refine va_sld hx hb hX hbl hbA hS vi_3 dL_law_1158 ?_
  refine lz_top (v := x) (by rw [cl_3]; exact hx3) ?_
  refine mu_Va (ci := 5) (q0 := 0) (As := [.int (nI t), .int (nI r), .int x]) (rest := []) ⟨hx, hb, hml, hown, hts⟩ (n_strength3 l D cA _ a 0 f0 (fun _ => 0) (fun _ => 0) (fun _ => 0) 0 t ht r hr0 x hx0 (va_P_l hP) (va_D_l hD)) (cwV 3 hts gL_law_X5_strength rfl rfl rfl (by decide +kernel) ⟨Nat.le_of_ble_eq_true rfl, Nat.le_of_ble_eq_true rfl⟩) hKN hP hD hS hA rfl rfl ((wMd_fst _ _ _).trans (wMd_fst _ _ _).symm) rfl hl.1 rfl (lv_room (Nat.le_of_ble_eq_true rfl)) dL_law_1159 ⟨Nat.le_of_ble_eq_true rfl, Nat.le_of_ble_eq_true rfl⟩ (fun H locs hP hD hS => ?_)
  refine lz_top (v := 0) rfl ?_
  refine lv_istore (lv' := [(6, .int 0), (5, .int 2), (4, .int 0), (3, .ref o9), (2, .ref (a 0)), (1, .ref (Ad 10 0)), (0, .ref b)]) hx hb dL_law_1162 hl (by decide) rfl (fun ls hl => ?_)
  refine lv_aload_n hx hb dL_law_1164 rfl (lv_at hl 4 rfl) ?_
  refine ro_V (ci := 5) (q0 := 0) (As := []) (rest := []) ⟨hx, hb, hml, hown, hts⟩ (c_X5_thrown l D cA _ a _ (va_P_l hP)) (cwV 0 hts gL_law_X5_thrown rfl rfl rfl (by decide +kernel) ⟨Nat.le_of_ble_eq_true rfl, Nat.le_of_ble_eq_true rfl⟩) hKN hP rfl rfl rfl hl.1 rfl (lv_room (Nat.le_of_ble_eq_true rfl)) dL_law_1165 ⟨Nat.le_of_ble_eq_true rfl, Nat.le_of_ble_eq_true rfl⟩ ?_
  refine lz_top (v := 2) rfl ?_
  refine lv_iload hx hb dL_law_1168 (lv_at hl 1 rfl) ?_
  refine lv_icmp_eq (tgt := 1175) hx hb dL_law_1170 (by decide) (fun _ => ?_) (fun h => absurd (by decide) h)
  refine lv_iload hx hb dL_law_1175 (lv_at hl 1 rfl) ?_
  refine lv_if_ne (tgt := 1192) hx hb dL_law_1177 (by decide) (fun _ => ?_) (fun h => absurd h (by decide))
  refine lv_goto (tgt := 1723) hx hb dL_law_1192 (by decide) ?_
  exact W.widen (k := 2000) (n := 9000) (by decide) (by decide) (K H locs ls hS (lv_sub hl [2, 6] rfl))
set_option maxHeartbeats 4000000 in
set_option maxRecDepth 100000 in
theorem lc_machine_v {p : Program} {l : Launch} {e : Env} {s : State} {m : MethodId} {below : List Frame} {meth : Method} {c : Code} {b : Nat} {xs : Nat → Int32} {H : Heap} {locs : List Loc} {ls : Array Slot} {Q : State → Prop} {D : va_G} {cA : Nat → ClassId} {Ad : Nat → Nat → Nat} {a : Nat → Nat} {o9 : Nat} {A0 : Nat → Prop} (C : LCtx p l s m c b xs D cA A0) (Wd : LWl D cA Ad a o9 s A0 H locs) (hl : lv_has ls 9 [(4, .int 0), (3, .ref o9), (2, .ref (a 0)), (1, .ref (Ad 10 0)), (0, .ref b)]) (K : LKn p l e s m b below meth c Q A0) (w : Nat) (hw : w < 9) (hx1 : xs 1 = (nI w)) : W p l e room_1 s m #[Value.ref b] below meth c H locs 1000 5000 Q (F0 m 1195 ls []) := by
  obtain ⟨hx, hb, hml, hown, hts, hKN, hKY, hXZ, hX, hbl, hl0, hA, hbA⟩ := C
  obtain ⟨hP, hD, hS⟩ := Wd
  refine lv_aload_n hx hb dL_law_1195 rfl (lv_at hl 3 rfl) ?_
  refine lv_aload_n hx hb dL_law_1196 rfl (lv_at hl 4 rfl) ?_
  refine lv_iload hx hb dL_law_1197 (lv_at hl 0 rfl) ?_
  refine lv_iconst (v := 1) hx hb dL_law_1199 (by decide) ?_
  refine lz_iadd (v := 1) hx hb dL_law_1200 (by decide) ?_
  refine va_sld hx hb hX hbl hbA hS vi_1 dL_law_1201 ?_
  refine lz_top (v := (nI w)) (by rw [cl_1]; exact hx1) ?_
  refine lv_aload_n hx hb dL_law_1202 rfl (lv_at hl 1 rfl) ?_
  refine lh_S (As := [.ref (Ad 10 0), .int (nI w), .ref o9]) (rest := []) ⟨hx, hb, hml, hown, hts⟩ (h_machine_v l hl0 D cA _ Ad o9 w hw (va_P_l hP) (va_D_l hD)) (vx_cwSW 3 hts gL_law_L_machine rfl rfl rfl (by decide +kernel) ⟨Nat.le_of_ble_eq_true rfl, Nat.le_of_ble_eq_true rfl⟩) hKN hKY ((hXZ.kept (fun q h1 h2 => hS.2.1 q h1 h2)).narrow (lc_F hD hS hA)) mem_o9 hP hD hS hA rfl hl.1 rfl (lv_room (Nat.le_of_ble_eq_true rfl)) dL_law_1203 ⟨Nat.le_of_ble_eq_true rfl, Nat.le_of_ble_eq_true rfl⟩ (fun H locs hP hD hS => ?_)
  refine lv_istore (lv' := [(5, .int 0), (4, .int 0), (3, .ref o9), (2, .ref (a 0)), (1, .ref (Ad 10 0)), (0, .ref b)]) hx hb dL_law_1206 hl (by decide) rfl (fun ls hl => ?_)
  refine lv_aload_n hx hb dL_law_1208 rfl (lv_at hl 3 rfl) ?_
  refine lv_aload_n hx hb dL_law_1209 rfl (lv_at hl 5 rfl) ?_
  refine lv_iload hx hb dL_law_1210 (lv_at hl 1 rfl) ?_
  refine lv_iconst (v := 1) hx hb dL_law_1212 (by decide) ?_
  refine lz_iadd (v := 1) hx hb dL_law_1213 (by decide) ?_
  refine va_sld hx hb hX hbl hbA hS vi_1 dL_law_1214 ?_
  refine lz_top (v := (nI w)) (by rw [cl_1]; exact hx1) ?_
  refine mu_Va (ci := 5) (q0 := 0) (As := [.int (nI w)]) (rest := []) ⟨hx, hb, hml, hown, hts⟩ (c_X5_machine l D cA _ a 0 f0 (fun _ => 0) (fun _ => 0) (fun _ => 0) 0 w hw f0_FR (va_P_l hP) (va_D_l hD)) (cwV 1 hts gL_law_X5_machine rfl rfl rfl (by decide +kernel) ⟨Nat.le_of_ble_eq_true rfl, Nat.le_of_ble_eq_true rfl⟩) hKN hP hD hS hA rfl rfl ((wMd_fst _ _ _).trans (wMd_fst _ _ _).symm) rfl hl.1 rfl (lv_room (Nat.le_of_ble_eq_true rfl)) dL_law_1215 ⟨Nat.le_of_ble_eq_true rfl, Nat.le_of_ble_eq_true rfl⟩ (fun H locs hP hD hS => ?_)
  refine lz_top (v := (f0J (27 + w))) rfl ?_
  refine lv_istore (lv' := [(6, .int (f0J (27 + w))), (5, .int 0), (4, .int 0), (3, .ref o9), (2, .ref (a 0)), (1, .ref (Ad 10 0)), (0, .ref b)]) hx hb dL_law_1218 hl (by decide) rfl (fun ls hl => ?_)
  refine lv_aload_n hx hb dL_law_1220 rfl (lv_at hl 4 rfl) ?_
  refine ro_V (ci := 5) (q0 := 0) (As := []) (rest := []) ⟨hx, hb, hml, hown, hts⟩ (c_X5_thrown l D cA _ a _ (va_P_l hP)) (cwV 0 hts gL_law_X5_thrown rfl rfl rfl (by decide +kernel) ⟨Nat.le_of_ble_eq_true rfl, Nat.le_of_ble_eq_true rfl⟩) hKN hP rfl rfl rfl hl.1 rfl (lv_room (Nat.le_of_ble_eq_true rfl)) dL_law_1221 ⟨Nat.le_of_ble_eq_true rfl, Nat.le_of_ble_eq_true rfl⟩ ?_
  refine lz_top (v := 0) rfl ?_
  refine lv_iload hx hb dL_law_1224 (lv_at hl 1 rfl) ?_
  refine lv_icmp_eq (tgt := 1231) hx hb dL_law_1226 (by decide) (fun _ => ?_) (fun h => absurd (by decide) h)
  refine lv_iload hx hb dL_law_1231 (lv_at hl 1 rfl) ?_
  refine lv_if_ne (tgt := 1248) hx hb dL_law_1233 (by decide) (fun h => absurd (by decide) h) (fun _ => ?_)
  refine lv_aload_n hx hb dL_law_1236 rfl (lv_at hl 3 rfl) ?_
  refine lv_iconst (v := 0) hx hb dL_law_1237 (by decide) ?_
  refine lz_lald (k := 0) (f := (vp_updL (fun _ => 0) 0 (i2lF (f0J (27 + w))))) hx hb hKN.1 hP 5 3 rfl rfl ⟨by decide, by decide⟩ dL_law_1238 ?_
  refine lz_topL (v := (i2lF (f0J (27 + w)))) rfl ?_
  refine lv_iload hx hb dL_law_1239 (lv_at hl 0 rfl) ?_
  refine lv_i2l (v := (i2lF (f0J (27 + w)))) hx hb dL_law_1241 rfl ?_
  refine W.lcmp hx hb dL_law_1242 ?_
  refine lz_top (v := 0) (lg_cmp_self _) ?_
  refine lv_if_eq (tgt := 1248) hx hb dL_law_1243 (by decide) (fun _ => ?_) (fun h => absurd (by decide) h)
  refine lv_goto (tgt := 1723) hx hb dL_law_1248 (by decide) ?_
  exact W.widen (k := 2000) (n := 9000) (by decide) (by decide) (K H locs ls hS (lv_sub hl [2, 6] rfl))
set_option maxHeartbeats 4000000 in
set_option maxRecDepth 100000 in
theorem lc_machine_x1 {p : Program} {l : Launch} {e : Env} {s : State} {m : MethodId} {below : List Frame} {meth : Method} {c : Code} {b : Nat} {xs : Nat → Int32} {H : Heap} {locs : List Loc} {ls : Array Slot} {Q : State → Prop} {D : va_G} {cA : Nat → ClassId} {Ad : Nat → Nat → Nat} {a : Nat → Nat} {o9 : Nat} {A0 : Nat → Prop} (C : LCtx p l s m c b xs D cA A0) (Wd : LWl D cA Ad a o9 s A0 H locs) (hl : lv_has ls 9 [(4, .int 0), (3, .ref o9), (2, .ref (a 0)), (1, .ref (Ad 10 0)), (0, .ref b)]) (K : LKn p l e s m b below meth c Q A0) (x : Int32) (hx0 : inF x 0 8 = 0) (hx1 : xs 1 = x) : W p l e room_1 s m #[Value.ref b] below meth c H locs 1000 5000 Q (F0 m 1195 ls []) := by
  obtain ⟨hx, hb, hml, hown, hts, hKN, hKY, hXZ, hX, hbl, hl0, hA, hbA⟩ := C
  obtain ⟨hP, hD, hS⟩ := Wd
  refine lv_aload_n hx hb dL_law_1195 rfl (lv_at hl 3 rfl) ?_
  refine lv_aload_n hx hb dL_law_1196 rfl (lv_at hl 4 rfl) ?_
  refine lv_iload hx hb dL_law_1197 (lv_at hl 0 rfl) ?_
  refine lv_iconst (v := 1) hx hb dL_law_1199 (by decide) ?_
  refine lz_iadd (v := 1) hx hb dL_law_1200 (by decide) ?_
  refine va_sld hx hb hX hbl hbA hS vi_1 dL_law_1201 ?_
  refine lz_top (v := x) (by rw [cl_1]; exact hx1) ?_
  refine lv_aload_n hx hb dL_law_1202 rfl (lv_at hl 1 rfl) ?_
  refine lh_S (As := [.ref (Ad 10 0), .int x, .ref o9]) (rest := []) ⟨hx, hb, hml, hown, hts⟩ (h_machine_x1 l hl0 D cA _ Ad o9 x hx0 (va_P_l hP) (va_D_l hD)) (vx_cwSW 3 hts gL_law_L_machine rfl rfl rfl (by decide +kernel) ⟨Nat.le_of_ble_eq_true rfl, Nat.le_of_ble_eq_true rfl⟩) hKN hKY ((hXZ.kept (fun q h1 h2 => hS.2.1 q h1 h2)).narrow (lc_F hD hS hA)) mem_o9 hP hD hS hA rfl hl.1 rfl (lv_room (Nat.le_of_ble_eq_true rfl)) dL_law_1203 ⟨Nat.le_of_ble_eq_true rfl, Nat.le_of_ble_eq_true rfl⟩ (fun H locs hP hD hS => ?_)
  refine lv_istore (lv' := [(5, .int 1), (4, .int 0), (3, .ref o9), (2, .ref (a 0)), (1, .ref (Ad 10 0)), (0, .ref b)]) hx hb dL_law_1206 hl (by decide) rfl (fun ls hl => ?_)
  refine lv_aload_n hx hb dL_law_1208 rfl (lv_at hl 3 rfl) ?_
  refine lv_aload_n hx hb dL_law_1209 rfl (lv_at hl 5 rfl) ?_
  refine lv_iload hx hb dL_law_1210 (lv_at hl 1 rfl) ?_
  refine lv_iconst (v := 1) hx hb dL_law_1212 (by decide) ?_
  refine lz_iadd (v := 1) hx hb dL_law_1213 (by decide) ?_
  refine va_sld hx hb hX hbl hbA hS vi_1 dL_law_1214 ?_
  refine lz_top (v := x) (by rw [cl_1]; exact hx1) ?_
  refine mu_Va (ci := 5) (q0 := 0) (As := [.int x]) (rest := []) ⟨hx, hb, hml, hown, hts⟩ (n_machine l D cA _ a 0 f0 (fun _ => 0) (fun _ => 0) (fun _ => 0) 0 x hx0 (va_P_l hP) (va_D_l hD)) (cwV 1 hts gL_law_X5_machine rfl rfl rfl (by decide +kernel) ⟨Nat.le_of_ble_eq_true rfl, Nat.le_of_ble_eq_true rfl⟩) hKN hP hD hS hA rfl rfl ((wMd_fst _ _ _).trans (wMd_fst _ _ _).symm) rfl hl.1 rfl (lv_room (Nat.le_of_ble_eq_true rfl)) dL_law_1215 ⟨Nat.le_of_ble_eq_true rfl, Nat.le_of_ble_eq_true rfl⟩ (fun H locs hP hD hS => ?_)
  refine lz_top (v := 0) rfl ?_
  refine lv_istore (lv' := [(6, .int 0), (5, .int 1), (4, .int 0), (3, .ref o9), (2, .ref (a 0)), (1, .ref (Ad 10 0)), (0, .ref b)]) hx hb dL_law_1218 hl (by decide) rfl (fun ls hl => ?_)
  refine lv_aload_n hx hb dL_law_1220 rfl (lv_at hl 4 rfl) ?_
  refine ro_V (ci := 5) (q0 := 0) (As := []) (rest := []) ⟨hx, hb, hml, hown, hts⟩ (c_X5_thrown l D cA _ a _ (va_P_l hP)) (cwV 0 hts gL_law_X5_thrown rfl rfl rfl (by decide +kernel) ⟨Nat.le_of_ble_eq_true rfl, Nat.le_of_ble_eq_true rfl⟩) hKN hP rfl rfl rfl hl.1 rfl (lv_room (Nat.le_of_ble_eq_true rfl)) dL_law_1221 ⟨Nat.le_of_ble_eq_true rfl, Nat.le_of_ble_eq_true rfl⟩ ?_
  refine lz_top (v := 1) rfl ?_
  refine lv_iload hx hb dL_law_1224 (lv_at hl 1 rfl) ?_
  refine lv_icmp_eq (tgt := 1231) hx hb dL_law_1226 (by decide) (fun _ => ?_) (fun h => absurd (by decide) h)
  refine lv_iload hx hb dL_law_1231 (lv_at hl 1 rfl) ?_
  refine lv_if_ne (tgt := 1248) hx hb dL_law_1233 (by decide) (fun _ => ?_) (fun h => absurd h (by decide))
  refine lv_goto (tgt := 1723) hx hb dL_law_1248 (by decide) ?_
  exact W.widen (k := 2000) (n := 9000) (by decide) (by decide) (K H locs ls hS (lv_sub hl [2, 6] rfl))
set_option maxHeartbeats 4000000 in
set_option maxRecDepth 100000 in
theorem lc_told_v {p : Program} {l : Launch} {e : Env} {s : State} {m : MethodId} {below : List Frame} {meth : Method} {c : Code} {b : Nat} {xs : Nat → Int32} {H : Heap} {locs : List Loc} {ls : Array Slot} {Q : State → Prop} {D : va_G} {cA : Nat → ClassId} {Ad : Nat → Nat → Nat} {a : Nat → Nat} {o9 : Nat} {A0 : Nat → Prop} (C : LCtx p l s m c b xs D cA A0) (Wd : LWl D cA Ad a o9 s A0 H locs) (hl : lv_has ls 9 [(4, .int 0), (3, .ref o9), (2, .ref (a 0)), (1, .ref (Ad 10 0)), (0, .ref b)]) (K : LKn p l e s m b below meth c Q A0) (w : Nat) (hw : w < 8) (hx1 : xs 1 = (nI w)) : W p l e room_1 s m #[Value.ref b] below meth c H locs 1000 5000 Q (F0 m 1251 ls []) := by
  obtain ⟨hx, hb, hml, hown, hts, hKN, hKY, hXZ, hX, hbl, hl0, hA, hbA⟩ := C
  obtain ⟨hP, hD, hS⟩ := Wd
  refine lv_aload_n hx hb dL_law_1251 rfl (lv_at hl 3 rfl) ?_
  refine lv_aload_n hx hb dL_law_1252 rfl (lv_at hl 4 rfl) ?_
  refine lv_iload hx hb dL_law_1253 (lv_at hl 0 rfl) ?_
  refine lv_iconst (v := 1) hx hb dL_law_1255 (by decide) ?_
  refine lz_iadd (v := 1) hx hb dL_law_1256 (by decide) ?_
  refine va_sld hx hb hX hbl hbA hS vi_1 dL_law_1257 ?_
  refine lz_top (v := (nI w)) (by rw [cl_1]; exact hx1) ?_
  refine lv_aload_n hx hb dL_law_1258 rfl (lv_at hl 1 rfl) ?_
  refine lh_S (As := [.ref (Ad 10 0), .int (nI w), .ref o9]) (rest := []) ⟨hx, hb, hml, hown, hts⟩ (h_told_v l hl0 D cA _ Ad o9 w hw (va_P_l hP) (va_D_l hD)) (vx_cwSW 3 hts gL_law_L_told rfl rfl rfl (by decide +kernel) ⟨Nat.le_of_ble_eq_true rfl, Nat.le_of_ble_eq_true rfl⟩) hKN hKY ((hXZ.kept (fun q h1 h2 => hS.2.1 q h1 h2)).narrow (lc_F hD hS hA)) mem_o9 hP hD hS hA rfl hl.1 rfl (lv_room (Nat.le_of_ble_eq_true rfl)) dL_law_1259 ⟨Nat.le_of_ble_eq_true rfl, Nat.le_of_ble_eq_true rfl⟩ (fun H locs hP hD hS => ?_)
  refine lv_istore (lv' := [(5, .int 0), (4, .int 0), (3, .ref o9), (2, .ref (a 0)), (1, .ref (Ad 10 0)), (0, .ref b)]) hx hb dL_law_1262 hl (by decide) rfl (fun ls hl => ?_)
  refine lv_aload_n hx hb dL_law_1264 rfl (lv_at hl 3 rfl) ?_
  refine lv_aload_n hx hb dL_law_1265 rfl (lv_at hl 5 rfl) ?_
  refine lv_iload hx hb dL_law_1266 (lv_at hl 1 rfl) ?_
  refine lv_iconst (v := 1) hx hb dL_law_1268 (by decide) ?_
  refine lz_iadd (v := 1) hx hb dL_law_1269 (by decide) ?_
  refine va_sld hx hb hX hbl hbA hS vi_1 dL_law_1270 ?_
  refine lz_top (v := (nI w)) (by rw [cl_1]; exact hx1) ?_
  refine mu_Va (ci := 5) (q0 := 0) (As := [.int (nI w)]) (rest := []) ⟨hx, hb, hml, hown, hts⟩ (c_X5_told l D cA _ a 0 f0 (fun _ => 0) (fun _ => 0) (fun _ => 0) 0 w hw f0_FR (va_P_l hP) (va_D_l hD)) (cwV 1 hts gL_law_X5_told rfl rfl rfl (by decide +kernel) ⟨Nat.le_of_ble_eq_true rfl, Nat.le_of_ble_eq_true rfl⟩) hKN hP hD hS hA rfl rfl ((wMd_fst _ _ _).trans (wMd_fst _ _ _).symm) rfl hl.1 rfl (lv_room (Nat.le_of_ble_eq_true rfl)) dL_law_1271 ⟨Nat.le_of_ble_eq_true rfl, Nat.le_of_ble_eq_true rfl⟩ (fun H locs hP hD hS => ?_)
  refine lz_top (v := (-1)) rfl ?_
  refine lv_istore (lv' := [(6, .int (-1)), (5, .int 0), (4, .int 0), (3, .ref o9), (2, .ref (a 0)), (1, .ref (Ad 10 0)), (0, .ref b)]) hx hb dL_law_1274 hl (by decide) rfl (fun ls hl => ?_)
  refine lv_aload_n hx hb dL_law_1276 rfl (lv_at hl 4 rfl) ?_
  refine ro_V (ci := 5) (q0 := 0) (As := []) (rest := []) ⟨hx, hb, hml, hown, hts⟩ (c_X5_thrown l D cA _ a _ (va_P_l hP)) (cwV 0 hts gL_law_X5_thrown rfl rfl rfl (by decide +kernel) ⟨Nat.le_of_ble_eq_true rfl, Nat.le_of_ble_eq_true rfl⟩) hKN hP rfl rfl rfl hl.1 rfl (lv_room (Nat.le_of_ble_eq_true rfl)) dL_law_1277 ⟨Nat.le_of_ble_eq_true rfl, Nat.le_of_ble_eq_true rfl⟩ ?_
  refine lz_top (v := 0) rfl ?_
  refine lv_iload hx hb dL_law_1280 (lv_at hl 1 rfl) ?_
  refine lv_icmp_eq (tgt := 1287) hx hb dL_law_1282 (by decide) (fun _ => ?_) (fun h => absurd (by decide) h)
  refine lv_iload hx hb dL_law_1287 (lv_at hl 1 rfl) ?_
  refine lv_if_ne (tgt := 1304) hx hb dL_law_1289 (by decide) (fun h => absurd (by decide) h) (fun _ => ?_)
  refine lv_aload_n hx hb dL_law_1292 rfl (lv_at hl 3 rfl) ?_
  refine lv_iconst (v := 0) hx hb dL_law_1293 (by decide) ?_
  refine lz_lald (k := 0) (f := (vp_updL (fun _ => 0) 0 (i2lF (-1)))) hx hb hKN.1 hP 5 3 rfl rfl ⟨by decide, by decide⟩ dL_law_1294 ?_
  refine lz_topL (v := (i2lF (-1))) rfl ?_
  refine lv_iload hx hb dL_law_1295 (lv_at hl 0 rfl) ?_
  refine lv_i2l (v := (i2lF (-1))) hx hb dL_law_1297 rfl ?_
  refine W.lcmp hx hb dL_law_1298 ?_
  refine lz_top (v := 0) (lg_cmp_self _) ?_
  refine lv_if_eq (tgt := 1304) hx hb dL_law_1299 (by decide) (fun _ => ?_) (fun h => absurd (by decide) h)
  refine lv_goto (tgt := 1723) hx hb dL_law_1304 (by decide) ?_
  exact W.widen (k := 2000) (n := 9000) (by decide) (by decide) (K H locs ls hS (lv_sub hl [2, 6] rfl))
