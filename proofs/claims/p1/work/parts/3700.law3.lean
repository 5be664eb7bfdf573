-- the law's cases
set_option maxHeartbeats 4000000 in
set_option maxRecDepth 100000 in
theorem lc_cross_v {p : Program} {l : Launch} {e : Env} {s : State} {m : MethodId} {below : List Frame} {meth : Method} {c : Code} {b : Nat} {xs : Nat → Int32} {H : Heap} {locs : List Loc} {ls : Array Slot} {Q : State → Prop} {D : va_G} {cA : Nat → ClassId} {Ad : Nat → Nat → Nat} {a : Nat → Nat} {o9 : Nat} {A0 : Nat → Prop} (C : LCtx p l s m c b xs D cA A0) (Wd : LWl D cA Ad a o9 s A0 H locs) (hl : lv_has ls 9 [(4, .int 0), (3, .ref o9), (2, .ref (a 0)), (1, .ref (Ad 10 0)), (0, .ref b)]) (K : LKn p l e s m b below meth c Q A0) (t : Nat) (ht : t < 16) (r : Nat) (hr0 : r < 8) (hx1 : xs 1 = (nI t)) (hx2 : xs 2 = (nI r)) : W p l e room_1 s m #[Value.ref b] below meth c H locs 1000 5000 Q (F0 m 176 ls []) := by
  obtain ⟨hx, hb, hml, hown, hts, hKN, hKY, hXZ, hX, hbl, hl0, hA, hbA⟩ := C
  obtain ⟨hP, hD, hS⟩ := Wd
  refine lv_aload_n hx hb dL_law_176 rfl (lv_at hl 3 rfl) ?_
  refine lv_aload_n hx hb dL_law_177 rfl (lv_at hl 4 rfl) ?_
  refine lv_iload hx hb dL_law_178 (lv_at hl 0 rfl) ?_
  refine lv_iconst (v := 1) hx hb dL_law_180 (by decide) ?_
  refine lz_iadd (v := 1) hx hb dL_law_181 (by decide) ?_
  refine va_sld hx hb hX hbl hbA hS vi_1 dL_law_182 ?_
  refine lz_top (v := (nI t)) (by rw [cl_1]; exact hx1) ?_
  refine lv_aload_n hx hb dL_law_183 rfl (lv_at hl 4 rfl) ?_
  refine lv_iload hx hb dL_law_184 (lv_at hl 0 rfl) ?_
  refine lv_iconst (v := 2) hx hb dL_law_186 (by decide) ?_
  refine lz_iadd (v := 2) hx hb dL_law_187 (by decide) ?_
  refine va_sld hx hb hX hbl hbA hS vi_2 dL_law_188 ?_
  refine lz_top (v := (nI r)) (by rw [cl_2]; exact hx2) ?_
  refine lv_aload_n hx hb dL_law_189 rfl (lv_at hl 1 rfl) ?_
  refine lh_S (As := [.ref (Ad 10 0), .int (nI t), .int (nI r), .ref o9]) (rest := []) ⟨hx, hb, hml, hown, hts⟩ (h_cross_v l hl0 D cA _ Ad o9 t ht r hr0 (va_P_l hP) (va_D_l hD)) (vx_cwSW 4 hts gL_law_L_cross rfl rfl rfl (by decide +kernel) ⟨Nat.le_of_ble_eq_true rfl, Nat.le_of_ble_eq_true rfl⟩) hKN hKY ((hXZ.kept (fun q h1 h2 => hS.2.1 q h1 h2)).narrow (lc_F hD hS hA)) mem_o9 hP hD hS hA rfl hl.1 rfl (lv_room (Nat.le_of_ble_eq_true rfl)) dL_law_190 ⟨Nat.le_of_ble_eq_true rfl, Nat.le_of_ble_eq_true rfl⟩ (fun H locs hP hD hS => ?_)
  refine lv_istore (lv' := [(5, .int 0), (4, .int 0), (3, .ref o9), (2, .ref (a 0)), (1, .ref (Ad 10 0)), (0, .ref b)]) hx hb dL_law_193 hl (by decide) rfl (fun ls hl => ?_)
  refine lv_aload_n hx hb dL_law_195 rfl (lv_at hl 3 rfl) ?_
  refine lv_aload_n hx hb dL_law_196 rfl (lv_at hl 5 rfl) ?_
  refine lv_iload hx hb dL_law_197 (lv_at hl 1 rfl) ?_
  refine lv_iconst (v := 1) hx hb dL_law_199 (by decide) ?_
  refine lz_iadd (v := 1) hx hb dL_law_200 (by decide) ?_
  refine va_sld hx hb hX hbl hbA hS vi_1 dL_law_201 ?_
  refine lz_top (v := (nI t)) (by rw [cl_1]; exact hx1) ?_
  refine lv_aload_n hx hb dL_law_202 rfl (lv_at hl 5 rfl) ?_
  refine lv_iload hx hb dL_law_203 (lv_at hl 1 rfl) ?_
  refine lv_iconst (v := 2) hx hb dL_law_205 (by decide) ?_
  refine lz_iadd (v := 2) hx hb dL_law_206 (by decide) ?_
  refine va_sld hx hb hX hbl hbA hS vi_2 dL_law_207 ?_
  refine lz_top (v := (nI r)) (by rw [cl_2]; exact hx2) ?_
  refine mu_Va (ci := 5) (q0 := 0) (As := [.int (nI t), .int (nI r)]) (rest := []) ⟨hx, hb, hml, hown, hts⟩ (c_X5_cross l D cA _ a 0 f0 (fun _ => 0) (fun _ => 0) (fun _ => 0) 0 t r ht hr0 f0_FR (va_P_l hP) (va_D_l hD)) (cwV 2 hts gL_law_X5_cross rfl rfl rfl (by decide +kernel) ⟨Nat.le_of_ble_eq_true rfl, Nat.le_of_ble_eq_true rfl⟩) hKN hP hD hS hA rfl rfl ((wMd_fst _ _ _).trans (wMd_fst _ _ _).symm) rfl hl.1 rfl (lv_room (Nat.le_of_ble_eq_true rfl)) dL_law_208 ⟨Nat.le_of_ble_eq_true rfl, Nat.le_of_ble_eq_true rfl⟩ (fun H locs hP hD hS => ?_)
  refine lz_top (v := 1) (pm_cross t ht r hr0) ?_
  refine lv_istore (lv' := [(6, .int 1), (5, .int 0), (4, .int 0), (3, .ref o9), (2, .ref (a 0)), (1, .ref (Ad 10 0)), (0, .ref b)]) hx hb dL_law_211 hl (by decide) rfl (fun ls hl => ?_)
  refine lv_aload_n hx hb dL_law_213 rfl (lv_at hl 4 rfl) ?_
  refine ro_V (ci := 5) (q0 := 0) (As := []) (rest := []) ⟨hx, hb, hml, hown, hts⟩ (c_X5_thrown l D cA _ a _ (va_P_l hP)) (cwV 0 hts gL_law_X5_thrown rfl rfl rfl (by decide +kernel) ⟨Nat.le_of_ble_eq_true rfl, Nat.le_of_ble_eq_true rfl⟩) hKN hP rfl rfl rfl hl.1 rfl (lv_room (Nat.le_of_ble_eq_true rfl)) dL_law_214 ⟨Nat.le_of_ble_eq_true rfl, Nat.le_of_ble_eq_true rfl⟩ ?_
  refine lz_top (v := 0) rfl ?_
  refine lv_iload hx hb dL_law_217 (lv_at hl 1 rfl) ?_
  refine lv_icmp_eq (tgt := 224) hx hb dL_law_219 (by decide) (fun _ => ?_) (fun h => absurd (by decide) h)
  refine lv_iload hx hb dL_law_224 (lv_at hl 1 rfl) ?_
  refine lv_if_ne (tgt := 241) hx hb dL_law_226 (by decide) (fun h => absurd (by decide) h) (fun _ => ?_)
  refine lv_aload_n hx hb dL_law_229 rfl (lv_at hl 3 rfl) ?_
  refine lv_iconst (v := 0) hx hb dL_law_230 (by decide) ?_
  refine lz_lald (k := 0) (f := (vp_updL (fun _ => 0) 0 (i2lF 1))) hx hb hKN.1 hP 5 3 rfl rfl ⟨by decide, by decide⟩ dL_law_231 ?_
  refine lz_topL (v := (i2lF 1)) rfl ?_
  refine lv_iload hx hb dL_law_232 (lv_at hl 0 rfl) ?_
  refine lv_i2l (v := (i2lF 1)) hx hb dL_law_234 rfl ?_
  refine W.lcmp hx hb dL_law_235 ?_
  refine lz_top (v := 0) (lg_cmp_self _) ?_
  refine lv_if_eq (tgt := 241) hx hb dL_law_236 (by decide) (fun _ => ?_) (fun h => absurd (by decide) h)
  refine lv_goto (tgt := 1723) hx hb dL_law_241 (by decide) ?_
  exact W.widen (k := 2000) (n := 9000) (by decide) (by decide) (K H locs ls hS (lv_sub hl [2, 6] rfl))
set_option maxHeartbeats 4000000 in
set_option maxRecDepth 100000 in
theorem lc_cross_x1 {p : Program} {l : Launch} {e : Env} {s : State} {m : MethodId} {below : List Frame} {meth : Method} {c : Code} {b : Nat} {xs : Nat → Int32} {H : Heap} {locs : List Loc} {ls : Array Slot} {Q : State → Prop} {D : va_G} {cA : Nat → ClassId} {Ad : Nat → Nat → Nat} {a : Nat → Nat} {o9 : Nat} {A0 : Nat → Prop} (C : LCtx p l s m c b xs D cA A0) (Wd : LWl D cA Ad a o9 s A0 H locs) (hl : lv_has ls 9 [(4, .int 0), (3, .ref o9), (2, .ref (a 0)), (1, .ref (Ad 10 0)), (0, .ref b)]) (K : LKn p l e s m b below meth c Q A0) (y : Int32) (x : Int32) (hx0 : inF x 0 15 = 0) (hx1 : xs 1 = x) (hx2 : xs 2 = y) : W p l e room_1 s m #[Value.ref b] below meth c H locs 1000 5000 Q (F0 m 176 ls []) := by
  obtain ⟨hx, hb, hml, hown, hts, hKN, hKY, hXZ, hX, hbl, hl0, hA, hbA⟩ := C
  obtain ⟨hP, hD, hS⟩ := Wd
  refine lv_aload_n hx hb dL_law_176 rfl (lv_at hl 3 rfl) ?_
  refine lv_aload_n hx hb dL_law_177 rfl (lv_at hl 4 rfl) ?_
  refine lv_iload hx hb dL_law_178 (lv_at hl 0 rfl) ?_
  refine lv_iconst (v := 1) hx hb dL_law_180 (by decide) ?_
  refine lz_iadd (v := 1) hx hb dL_law_181 (by decide) ?_
  refine va_sld hx hb hX hbl hbA hS vi_1 dL_law_182 ?_
  refine lz_top (v := x) (by rw [cl_1]; exact hx1) ?_
  refine lv_aload_n hx hb dL_law_183 rfl (lv_at hl 4 rfl) ?_
  refine lv_iload hx hb dL_law_184 (lv_at hl 0 rfl) ?_
  refine lv_iconst (v := 2) hx hb dL_law_186 (by decide) ?_
  refine lz_iadd (v := 2) hx hb dL_law_187 (by decide) ?_
  refine va_sld hx hb hX hbl hbA hS vi_2 dL_law_188 ?_
  refine lz_top (v := y) (by rw [cl_2]; exact hx2) ?_
  refine lv_aload_n hx hb dL_law_189 rfl (lv_at hl 1 rfl) ?_
  refine lh_S (As := [.ref (Ad 10 0), .int x, .int y, .ref o9]) (rest := []) ⟨hx, hb, hml, hown, hts⟩ (h_cross_x1 l hl0 D cA _ Ad o9 y x hx0 (va_P_l hP) (va_D_l hD)) (vx_cwSW 4 hts gL_law_L_cross rfl rfl rfl (by decide +kernel) ⟨Nat.le_of_ble_eq_true rfl, Nat.le_of_ble_eq_true rfl⟩) hKN hKY ((hXZ.kept (fun q h1 h2 => hS.2.1 q h1 h2)).narrow (lc_F hD hS hA)) mem_o9 hP hD hS hA rfl hl.1 rfl (lv_room (Nat.le_of_ble_eq_true rfl)) dL_law_190 ⟨Nat.le_of_ble_eq_true rfl, Nat.le_of_ble_eq_true rfl⟩ (fun H locs hP hD hS => ?_)
  refine lv_istore (lv' := [(5, .int 1), (4, .int 0), (3, .ref o9), (2, .ref (a 0)), (1, .ref (Ad 10 0)), (0, .ref b)]) hx hb dL_law_193 hl (by decide) rfl (fun ls hl => ?_)
  refine lv_aload_n hx hb dL_law_195 rfl (lv_at hl 3 rfl) ?_
  refine lv_aload_n hx hb dL_law_196 rfl (lv_at hl 5 rfl) ?_
  refine lv_iload hx hb dL_law_197 (lv_at hl 1 rfl) ?_
  refine lv_iconst (v := 1) hx hb dL_law_199 (by decide) ?_
  refine lz_iadd (v := 1) hx hb dL_law_200 (by decide) ?_
  refine va_sld hx hb hX hbl hbA hS vi_1 dL_law_201 ?_
  refine lz_top (v := x) (by rw [cl_1]; exact hx1) ?_
  refine lv_aload_n hx hb dL_law_202 rfl (lv_at hl 5 rfl) ?_
  refine lv_iload hx hb dL_law_203 (lv_at hl 1 rfl) ?_
  refine lv_iconst (v := 2) hx hb dL_law_205 (by decide) ?_
  refine lz_iadd (v := 2) hx hb dL_law_206 (by decide) ?_
  refine va_sld hx hb hX hbl hbA hS vi_2 dL_law_207 ?_
  refine lz_top (v := y) (by rw [cl_2]; exact hx2) ?_
  refine mu_Va (ci := 5) (q0 := 0) (As := [.int x, .int y]) (rest := []) ⟨hx, hb, hml, hown, hts⟩ (n_cross1 l D cA _ a 0 f0 (fun _ => 0) (fun _ => 0) (fun _ => 0) 0 y x hx0 (va_P_l hP) (va_D_l hD)) (cwV 2 hts gL_law_X5_cross rfl rfl rfl (by decide +kernel) ⟨Nat.le_of_ble_eq_true rfl, Nat.le_of_ble_eq_true rfl⟩) hKN hP hD hS hA rfl rfl ((wMd_fst _ _ _).trans (wMd_fst _ _ _).symm) rfl hl.1 rfl (lv_room (Nat.le_of_ble_eq_true rfl)) dL_law_208 ⟨Nat.le_of_ble_eq_true rfl, Nat.le_of_ble_eq_true rfl⟩ (fun H locs hP hD hS => ?_)
  refine lz_top (v := 0) rfl ?_
  refine lv_istore (lv' := [(6, .int 0), (5, .int 1), (4, .int 0), (3, .ref o9), (2, .ref (a 0)), (1, .ref (Ad 10 0)), (0, .ref b)]) hx hb dL_law_211 hl (by decide) rfl (fun ls hl => ?_)
  refine lv_aload_n hx hb dL_law_213 rfl (lv_at hl 4 rfl) ?_
  refine ro_V (ci := 5) (q0 := 0) (As := []) (rest := []) ⟨hx, hb, hml, hown, hts⟩ (c_X5_thrown l D cA _ a _ (va_P_l hP)) (cwV 0 hts gL_law_X5_thrown rfl rfl rfl (by decide +kernel) ⟨Nat.le_of_ble_eq_true rfl, Nat.le_of_ble_eq_true rfl⟩) hKN hP rfl rfl rfl hl.1 rfl (lv_room (Nat.le_of_ble_eq_true rfl)) dL_law_214 ⟨Nat.le_of_ble_eq_true rfl, Nat.le_of_ble_eq_true rfl⟩ ?_
  refine lz_top (v := 1) rfl ?_
  refine lv_iload hx hb dL_law_217 (lv_at hl 1 rfl) ?_
  refine lv_icmp_eq (tgt := 224) hx hb dL_law_219 (by decide) (fun _ => ?_) (fun h => absurd (by decide) h)
  refine lv_iload hx hb dL_law_224 (lv_at hl 1 rfl) ?_
  refine lv_if_ne (tgt := 241) hx hb dL_law_226 (by decide) (fun _ => ?_) (fun h => absurd h (by decide))
  refine lv_goto (tgt := 1723) hx hb dL_law_241 (by decide) ?_
  exact W.widen (k := 2000) (n := 9000) (by decide) (by decide) (K H locs ls hS (lv_sub hl [2, 6] rfl))
set_option maxHeartbeats 4000000 in
set_option maxRecDepth 100000 in
theorem lc_cross_x2 {p : Program} {l : Launch} {e : Env} {s : State} {m : MethodId} {below : List Frame} {meth : Method} {c : Code} {b : Nat} {xs : Nat → Int32} {H : Heap} {locs : List Loc} {ls : Array Slot} {Q : State → Prop} {D : va_G} {cA : Nat → ClassId} {Ad : Nat → Nat → Nat} {a : Nat → Nat} {o9 : Nat} {A0 : Nat → Prop} (C : LCtx p l s m c b xs D cA A0) (Wd : LWl D cA Ad a o9 s A0 H locs) (hl : lv_has ls 9 [(4, .int 0), (3, .ref o9), (2, .ref (a 0)), (1, .ref (Ad 10 0)), (0, .ref b)]) (K : LKn p l e s m b below meth c Q A0) (t : Nat) (ht : t < 16) (x : Int32) (hx0 : inF x 0 7 = 0) (hx1 : xs 1 = (nI t)) (hx2 : xs 2 = x) : W p l e room_1 s m #[Value.ref b] below meth c H locs 1000 5000 Q (F0 m 176 ls []) := by
  obtain ⟨hx, hb, hml, hown, hts, hKN, hKY, hXZ, hX, hbl, hl0, hA, hbA⟩ := C
  obtain ⟨hP, hD, hS⟩ := Wd
  refine lv_aload_n hx hb dL_law_176 rfl (lv_at hl 3 rfl) ?_
  refine lv_aload_n hx hb dL_law_177 rfl (lv_at hl 4 rfl) ?_
  refine lv_iload hx hb dL_law_178 (lv_at hl 0 rfl) ?_
  refine lv_iconst (v := 1) hx hb dL_law_180 (by decide) ?_
  refine lz_iadd (v := 1) hx hb dL_law_181 (by decide) ?_
  refine va_sld hx hb hX hbl hbA hS vi_1 dL_law_182 ?_
  refine lz_top (v := (nI t)) (by rw [cl_1]; exact hx1) ?_
  refine lv_aload_n hx hb dL_law_183 rfl (lv_at hl 4 rfl) ?_
  refine lv_iload hx hb dL_law_184 (lv_at hl 0 rfl) ?_
  refine lv_iconst (v := 2) hx hb dL_law_186 (by decide) ?_
  refine lz_iadd (v := 2) hx hb dL_law_187 (by decide) ?_
  refine va_sld hx hb hX hbl hbA hS vi_2 dL_law_188 ?_
  refine lz_top (v := x) (by rw [cl_2]; exact hx2) ?_
  refine lv_aload_n hx hb dL_law_189 rfl (lv_at hl 1 rfl) ?_
  refine lh_S (As := [.ref (Ad 10 0), .int (nI t), .int x, .ref o9]) (rest := []) ⟨hx, hb, hml, hown, hts⟩ (h_cross_x2 l hl0 D cA _ Ad o9 t ht x hx0 (va_P_l hP) (va_D_l hD)) (vx_cwSW 4 hts gL_law_L_cross rfl rfl rfl (by decide +kernel) ⟨Nat.le_of_ble_eq_true rfl, Nat.le_of_ble_eq_true rfl⟩) hKN hKY ((hXZ.kept (fun q h1 h2 => hS.2.1 q h1 h2)).narrow (lc_F hD hS hA)) mem_o9 hP hD hS hA rfl hl.1 rfl (lv_room (Nat.le_of_ble_eq_true rfl)) dL_law_190 ⟨Nat.le_of_ble_eq_true rfl, Nat.le_of_ble_eq_true rfl⟩ (fun H locs hP hD hS => ?_)
  refine lv_istore (lv' := [(5, .int 1), (4, .int 0), (3, .ref o9), (2, .ref (a 0)), (1, .ref (Ad 10 0)), (0, .ref b)]) hx hb dL_law_193 hl (by decide) rfl (fun ls hl => ?_)
  refine lv_aload_n hx hb dL_law_195 rfl (lv_at hl 3 rfl) ?_
  refine lv_aload_n hx hb dL_law_196 rfl (lv_at hl 5 rfl) ?_
  refine lv_iload hx hb dL_law_197 (lv_at hl 1 rfl) ?_
  refine lv_iconst (v := 1) hx hb dL_law_199 (by decide) ?_
  refine lz_iadd (v := 1) hx hb dL_law_200 (by decide) ?_
  refine va_sld hx hb hX hbl hbA hS vi_1 dL_law_201 ?_
  refine lz_top (v := (nI t)) (by rw [cl_1]; exact hx1) ?_
  refine lv_aload_n hx hb dL_law_202 rfl (lv_at hl 5 rfl) ?_
  refine lv_iload hx hb dL_law_203 (lv_at hl 1 rfl) ?_
  refine lv_iconst (v := 2) hx hb dL_law_205 (by decide) ?_
  refine lz_iadd (v := 2) hx hb dL_law_206 (by decide) ?_
  refine va_sld hx hb hX hbl hbA hS vi_2 dL_law_207 ?_
  refine lz_top (v := x) (by rw [cl_2]; exact hx2) ?_
  refine mu_Va (ci := 5) (q0 := 0) (As := [.int (nI t), .int x]) (rest := []) ⟨hx, hb, hml, hown, hts⟩ (n_cross2 l D cA _ a 0 f0 (fun _ => 0) (fun _ => 0) (fun _ => 0) 0 t ht x hx0 (va_P_l hP) (va_D_l hD)) (cwV 2 hts gL_law_X5_cross rfl rfl rfl (by decide +kernel) ⟨Nat.le_of_ble_eq_true rfl, Nat.le_of_ble_eq_true rfl⟩) hKN hP hD hS hA rfl rfl ((wMd_fst _ _ _).trans (wMd_fst _ _ _).symm) rfl hl.1 rfl (lv_room (Nat.le_of_ble_eq_true rfl)) dL_law_208 ⟨Nat.le_of_ble_eq_true rfl, Nat.le_of_ble_eq_true rfl⟩ (fun H locs hP hD hS => ?_)
  refine lz_top (v := 0) rfl ?_
  refine lv_istore (lv' := [(6, .int 0), (5, .int 1), (4, .int 0), (3, .ref o9), (2, .ref (a 0)), (1, .ref (Ad 10 0)), (0, .ref b)]) hx hb dL_law_211 hl (by decide) rfl (fun ls hl => ?_)
  refine lv_aload_n hx hb dL_law_213 rfl (lv_at hl 4 rfl) ?_
  refine ro_V (ci := 5) (q0 := 0) (As := []) (rest := []) ⟨hx, hb, hml, hown, hts⟩ (c_X5_thrown l D cA _ a _ (va_P_l hP)) (cwV 0 hts gL_law_X5_thrown rfl rfl rfl (by decide +kernel) ⟨Nat.le_of_ble_eq_true rfl, Nat.le_of_ble_eq_true rfl⟩) hKN hP rfl rfl rfl hl.1 rfl (lv_room (Nat.le_of_ble_eq_true rfl)) dL_law_214 ⟨Nat.le_of_ble_eq_true rfl, Nat.le_of_ble_eq_true rfl⟩ ?_
  refine lz_top (v := 1) rfl ?_
  refine lv_iload hx hb dL_law_217 (lv_at hl 1 rfl) ?_
  refine lv_icmp_eq (tgt := 224) hx hb dL_law_219 (by decide) (fun _ => ?_) (fun h => absurd (by decide) h)
  refine lv_iload hx hb dL_law_224 (lv_at hl 1 rfl) ?_
  refine lv_if_ne (tgt := 241) hx hb dL_law_226 (by decide) (fun _ => ?_) (fun h => absurd h (by decide))
  refine lv_goto (tgt := 1723) hx hb dL_law_241 (by decide) ?_
  exact W.widen (k := 2000) (n := 9000) (by decide) (by decide) (K H locs ls hS (lv_sub hl [2, 6] rfl))
set_option maxHeartbeats 4000000 in
set_option maxRecDepth 100000 in
theorem lc_lay_v {p : Program} {l : Launch} {e : Env} {s : State} {m : MethodId} {below : List Frame} {meth : Method} {c : Code} {b : Nat} {xs : Nat → Int32} {H : Heap} {locs : List Loc} {ls : Array Slot} {Q : State → Prop} {D : va_G} {cA : Nat → ClassId} {Ad : Nat → Nat → Nat} {a : Nat → Nat} {o9 : Nat} {A0 : Nat → Prop} (C : LCtx p l s m c b xs D cA A0) (Wd : LWl D cA Ad a o9 s A0 H locs) (hl : lv_has ls 9 [(4, .int 0), (3, .ref o9), (2, .ref (a 0)), (1, .ref (Ad 10 0)), (0, .ref b)]) (K : LKn p l e s m b below meth c Q A0) (t : Nat) (ht : t < 16) (w : Nat) (hw : w < 256) (hx1 : xs 1 = (nI t)) (hx2 : xs 2 = (nI w)) : W p l e room_1 s m #[Value.ref b] below meth c H locs 1000 5000 Q (F0 m 244 ls []) := by
  obtain ⟨hx, hb, hml, hown, hts, hKN, hKY, hXZ, hX, hbl, hl0, hA, hbA⟩ := C
  obtain ⟨hP, hD, hS⟩ := Wd
  refine lv_aload_n hx hb dL_law_244 rfl (lv_at hl 3 rfl) ?_
  refine lv_aload_n hx hb dL_law_245 rfl (lv_at hl 4 rfl) ?_
  refine lv_iload hx hb dL_law_246 (lv_at hl 0 rfl) ?_
  refine lv_iconst (v := 1) hx hb dL_law_248 (by decide) ?_
  refine lz_iadd (v := 1) hx hb dL_law_249 (by decide) ?_
  refine va_sld hx hb hX hbl hbA hS vi_1 dL_law_250 ?_
  refine lz_top (v := (nI t)) (by rw [cl_1]; exact hx1) ?_
  refine lv_aload_n hx hb dL_law_251 rfl (lv_at hl 4 rfl) ?_
  refine lv_iload hx hb dL_law_252 (lv_at hl 0 rfl) ?_
  refine lv_iconst (v := 2) hx hb dL_law_254 (by decide) ?_
  refine lz_iadd (v := 2) hx hb dL_law_255 (by decide) ?_
  refine va_sld hx hb hX hbl hbA hS vi_2 dL_law_256 ?_
  refine lz_top (v := (nI w)) (by rw [cl_2]; exact hx2) ?_
  refine lv_aload_n hx hb dL_law_257 rfl (lv_at hl 1 rfl) ?_
  refine lh_S (As := [.ref (Ad 10 0), .int (nI t), .int (nI w), .ref o9]) (rest := []) ⟨hx, hb, hml, hown, hts⟩ (h_lay_v l hl0 D cA _ Ad o9 t ht w hw (va_P_l hP) (va_D_l hD)) (vx_cwSW 4 hts gL_law_L_lay rfl rfl rfl (by decide +kernel) ⟨Nat.le_of_ble_eq_true rfl, Nat.le_of_ble_eq_true rfl⟩) hKN hKY ((hXZ.kept (fun q h1 h2 => hS.2.1 q h1 h2)).narrow (lc_F hD hS hA)) mem_o9 hP hD hS hA rfl hl.1 rfl (lv_room (Nat.le_of_ble_eq_true rfl)) dL_law_258 ⟨Nat.le_of_ble_eq_true rfl, Nat.le_of_ble_eq_true rfl⟩ (fun H locs hP hD hS => ?_)
  refine lv_istore (lv' := [(5, .int 0), (4, .int 0), (3, .ref o9), (2, .ref (a 0)), (1, .ref (Ad 10 0)), (0, .ref b)]) hx hb dL_law_261 hl (by decide) rfl (fun ls hl => ?_)
  refine lv_aload_n hx hb dL_law_263 rfl (lv_at hl 3 rfl) ?_
  refine lv_aload_n hx hb dL_law_264 rfl (lv_at hl 5 rfl) ?_
  refine lv_iload hx hb dL_law_265 (lv_at hl 1 rfl) ?_
  refine lv_iconst (v := 1) hx hb dL_law_267 (by decide) ?_
  refine lz_iadd (v := 1) hx hb dL_law_268 (by decide) ?_
  refine va_sld hx hb hX hbl hbA hS vi_1 dL_law_269 ?_
  refine lz_top (v := (nI t)) (by rw [cl_1]; exact hx1) ?_
  refine lv_aload_n hx hb dL_law_270 rfl (lv_at hl 5 rfl) ?_
  refine lv_iload hx hb dL_law_271 (lv_at hl 1 rfl) ?_
  refine lv_iconst (v := 2) hx hb dL_law_273 (by decide) ?_
  refine lz_iadd (v := 2) hx hb dL_law_274 (by decide) ?_
  refine va_sld hx hb hX hbl hbA hS vi_2 dL_law_275 ?_
  refine lz_top (v := (nI w)) (by rw [cl_2]; exact hx2) ?_
  refine mu_Va (ci := 5) (q0 := 0) (As := [.int (nI t), .int (nI w)]) (rest := []) ⟨hx, hb, hml, hown, hts⟩ (c_X5_lay l D cA _ a 0 f0 (fun _ => 0) (fun _ => 0) (fun _ => 0) 0 t w ht hw f0_FR (va_P_l hP) (va_D_l hD)) (cwV 2 hts gL_law_X5_lay rfl rfl rfl (by decide +kernel) ⟨Nat.le_of_ble_eq_true rfl, Nat.le_of_ble_eq_true rfl⟩) hKN hP hD hS hA rfl rfl ((wMd_fst _ _ _).trans (wMd_fst _ _ _).symm) rfl hl.1 rfl (lv_room (Nat.le_of_ble_eq_true rfl)) dL_law_276 ⟨Nat.le_of_ble_eq_true rfl, Nat.le_of_ble_eq_true rfl⟩ (fun H locs hP hD hS => ?_)
  refine lz_top (v := (onesT (nI w ^^^ 0) 16)) rfl ?_
  refine lv_istore (lv' := [(6, .int (onesT (nI w ^^^ 0) 16)), (5, .int 0), (4, .int 0), (3, .ref o9), (2, .ref (a 0)), (1, .ref (Ad 10 0)), (0, .ref b)]) hx hb dL_law_279 hl (by decide) rfl (fun ls hl => ?_)
  refine lv_aload_n hx hb dL_law_281 rfl (lv_at hl 4 rfl) ?_
  refine ro_V (ci := 5) (q0 := 0) (As := []) (rest := []) ⟨hx, hb, hml, hown, hts⟩ (c_X5_thrown l D cA _ a _ (va_P_l hP)) (cwV 0 hts gL_law_X5_thrown rfl rfl rfl (by decide +kernel) ⟨Nat.le_of_ble_eq_true rfl, Nat.le_of_ble_eq_true rfl⟩) hKN hP rfl rfl rfl hl.1 rfl (lv_room (Nat.le_of_ble_eq_true rfl)) dL_law_282 ⟨Nat.le_of_ble_eq_true rfl, Nat.le_of_ble_eq_true rfl⟩ ?_
  refine lz_top (v := 0) rfl ?_
  refine lv_iload hx hb dL_law_285 (lv_at hl 1 rfl) ?_
  refine lv_icmp_eq (tgt := 292) hx hb dL_law_287 (by decide) (fun _ => ?_) (fun h => absurd (by decide) h)
  refine lv_iload hx hb dL_law_292 (lv_at hl 1 rfl) ?_
  refine lv_if_ne (tgt := 309) hx hb dL_law_294 (by decide) (fun h => absurd (by decide) h) (fun _ => ?_)
  refine lv_aload_n hx hb dL_law_297 rfl (lv_at hl 3 rfl) ?_
  refine lv_iconst (v := 0) hx hb dL_law_298 (by decide) ?_
  refine lz_lald (k := 0) (f := (vp_updL (fun _ => 0) 0 (i2lF (onesT (nI w ^^^ 0) 16)))) hx hb hKN.1 hP 5 3 rfl rfl ⟨by decide, by decide⟩ dL_law_299 ?_
  refine lz_topL (v := (i2lF (onesT (nI w ^^^ 0) 16))) rfl ?_
  refine lv_iload hx hb dL_law_300 (lv_at hl 0 rfl) ?_
  refine lv_i2l (v := (i2lF (onesT (nI w ^^^ 0) 16))) hx hb dL_law_302 rfl ?_
  refine W.lcmp hx hb dL_law_303 ?_
  refine lz_top (v := 0) (lg_cmp_self _) ?_
  refine lv_if_eq (tgt := 309) hx hb dL_law_304 (by decide) (fun _ => ?_) (fun h => absurd (by decide) h)
  refine lv_goto (tgt := 1723) hx hb dL_law_309 (by decide) ?_
  exact W.widen (k := 2000) (n := 9000) (by decide) (by decide) (K H locs ls hS (lv_sub hl [2, 6] rfl))
set_option maxHeartbeats 4000000 in
set_option maxRecDepth 100000 in
theorem lc_lay_x1 {p : Program} {l : Launch} {e : Env} {s : State} {m : MethodId} {below : List Frame} {meth : Method} {c : Code} {b : Nat} {xs : Nat → Int32} {H : Heap} {locs : List Loc} {ls : Array Slot} {Q : State → Prop} {D : va_G} {cA : Nat → ClassId} {Ad : Nat → Nat → Nat} {a : Nat → Nat} {o9 : Nat} {A0 : Nat → Prop} (C : LCtx p l s m c b xs D cA A0) (Wd : LWl D cA Ad a o9 s A0 H locs) (hl : lv_has ls 9 [(4, .int 0), (3, .ref o9), (2, .ref (a 0)), (1, .ref (Ad 10 0)), (0, .ref b)]) (K : LKn p l e s m b below meth c Q A0) (y : Int32) (x : Int32) (hx0 : inF x 0 15 = 0) (hx1 : xs 1 = x) (hx2 : xs 2 = y) : W p l e room_1 s m #[Value.ref b] below meth c H locs 1000 5000 Q (F0 m 244 ls []) := by
  obtain ⟨hx, hb, hml, hown, hts, hKN, hKY, hXZ, hX, hbl, hl0, hA, hbA⟩ := C
  obtain ⟨hP, hD, hS⟩ := Wd
  refine lv_aload_n hx hb dL_law_244 rfl (lv_at hl 3 rfl) ?_
  refine lv_aload_n hx hb dL_law_245 rfl (lv_at hl 4 rfl) ?_
  refine lv_iload hx hb dL_law_246 (lv_at hl 0 rfl) ?_
  refine lv_iconst (v := 1) hx hb dL_law_248 (by decide) ?_
  refine lz_iadd (v := 1) hx hb dL_law_249 (by decide) ?_
  refine va_sld hx hb hX hbl hbA hS vi_1 dL_law_250 ?_
  refine lz_top (v := x) (by rw [cl_1]; exact hx1) ?_
  refine lv_aload_n hx hb dL_law_251 rfl (lv_at hl 4 rfl) ?_
  refine lv_iload hx hb dL_law_252 (lv_at hl 0 rfl) ?_
  refine lv_iconst (v := 2) hx hb dL_law_254 (by decide) ?_
  refine lz_iadd (v := 2) hx hb dL_law_255 (by decide) ?_
  refine va_sld hx hb hX hbl hbA hS vi_2 dL_law_256 ?_
  refine lz_top (v := y) (by rw [cl_2]; exact hx2) ?_
  refine lv_aload_n hx hb dL_law_257 rfl (lv_at hl 1 rfl) ?_
  refine lh_S (As := [.ref (Ad 10 0), .int x, .int y, .ref o9]) (rest := []) ⟨hx, hb, hml, hown, hts⟩ (h_lay_x1 l hl0 D cA _ Ad o9 y x hx0 (va_P_l hP) (va_D_l hD)) (vx_cwSW 4 hts gL_law_L_lay rfl rfl rfl (by decide +kernel) ⟨Nat.le_of_ble_eq_true rfl, Nat.le_of_ble_eq_true rfl⟩) hKN hKY ((hXZ.kept (fun q h1 h2 => hS.2.1 q h1 h2)).narrow (lc_F hD hS hA)) mem_o9 hP hD hS hA rfl hl.1 rfl (lv_room (Nat.le_of_ble_eq_true rfl)) dL_law_258 ⟨Nat.le_of_ble_eq_true rfl, Nat.le_of_ble_eq_true rfl⟩ (fun H locs hP hD hS => ?_)
  refine lv_istore (lv' := [(5, .int 1), (4, .int 0), (3, .ref o9), (2, .ref (a 0)), (1, .ref (Ad 10 0)), (0, .ref b)]) hx hb dL_law_261 hl (by decide) rfl (fun ls hl => ?_)
  refine lv_aload_n hx hb dL_law_263 rfl (lv_at hl 3 rfl) ?_
  refine lv_aload_n hx hb dL_law_264 rfl (lv_at hl 5 rfl) ?_
  refine lv_iload hx hb dL_law_265 (lv_at hl 1 rfl) ?_
  refine lv_iconst (v := 1) hx hb dL_law_267 (by decide) ?_
  refine lz_iadd (v := 1) hx hb dL_law_268 (by decide) ?_
  refine va_sld hx hb hX hbl hbA hS vi_1 dL_law_269 ?_
  refine lz_top (v := x) (by rw [cl_1]; exact hx1) ?_
  refine lv_aload_n hx hb dL_law_270 rfl (lv_at hl 5 rfl) ?_
  refine lv_iload hx hb dL_law_271 (lv_at hl 1 rfl) ?_
  refine lv_iconst (v := 2) hx hb dL_law_273 (by decide) ?_
  refine lz_iadd (v := 2) hx hb dL_law_274 (by decide) ?_
  refine va_sld hx hb hX hbl hbA hS vi_2 dL_law_275 ?_
  refine lz_top (v := y) (by rw [cl_2]; exact hx2) ?_
  refine mu_Va (ci := 5) (q0 := 0) (As := [.int x, .int y]) (rest := []) ⟨hx, hb, hml, hown, hts⟩ (n_lay1 l D cA _ a 0 f0 (fun _ => 0) (fun _ => 0) (fun _ => 0) 0 y x hx0 (va_P_l hP) (va_D_l hD)) (cwV 2 hts gL_law_X5_lay rfl rfl rfl (by decide +kernel) ⟨Nat.le_of_ble_eq_true rfl, Nat.le_of_ble_eq_true rfl⟩) hKN hP hD hS hA rfl rfl ((wMd_fst _ _ _).trans (wMd_fst _ _ _).symm) rfl hl.1 rfl (lv_room (Nat.le_of_ble_eq_true rfl)) dL_law_276 ⟨Nat.le_of_ble_eq_true rfl, Nat.le_of_ble_eq_true rfl⟩ (fun H locs hP hD hS => ?_)
  refine lz_top (v := 0) rfl ?_
  refine lv_istore (lv' := [(6, .int 0), (5, .int 1), (4, .int 0), (3, .ref o9), (2, .ref (a 0)), (1, .ref (Ad 10 0)), (0, .ref b)]) hx hb dL_law_279 hl (by decide) rfl (fun ls hl => ?_)
  refine lv_aload_n hx hb dL_law_281 rfl (lv_at hl 4 rfl) ?_
  refine ro_V (ci := 5) (q0 := 0) (As := []) (rest := []) ⟨hx, hb, hml, hown, hts⟩ (c_X5_thrown l D cA _ a _ (va_P_l hP)) (cwV 0 hts gL_law_X5_thrown rfl rfl rfl (by decide +kernel) ⟨Nat.le_of_ble_eq_true rfl, Nat.le_of_ble_eq_true rfl⟩) hKN hP rfl rfl rfl hl.1 rfl (lv_room (Nat.le_of_ble_eq_true rfl)) dL_law_282 ⟨Nat.le_of_ble_eq_true rfl, Nat.le_of_ble_eq_true rfl⟩ ?_
  refine lz_top (v := 1) rfl ?_
  refine lv_iload hx hb dL_law_285 (lv_at hl 1 rfl) ?_
  refine lv_icmp_eq (tgt := 292) hx hb dL_law_287 (by decide) (fun _ => ?_) (fun h => absurd (by decide) h)
  refine lv_iload hx hb dL_law_292 (lv_at hl 1 rfl) ?_
  refine lv_if_ne (tgt := 309) hx hb dL_law_294 (by decide) (fun _ => ?_) (fun h => absurd h (by decide))
  refine lv_goto (tgt := 1723) hx hb dL_law_309 (by decide) ?_
  exact W.widen (k := 2000) (n := 9000) (by decide) (by decide) (K H locs ls hS (lv_sub hl [2, 6] rfl))
set_option maxHeartbeats 4000000 in
set_option maxRecDepth 100000 in
theorem lc_lay_x2 {p : Program} {l : Launch} {e : Env} {s : State} {m : MethodId} {below : List Frame} {meth : Method} {c : Code} {b : Nat} {xs : Nat → Int32} {H : Heap} {locs : List Loc} {ls : Array Slot} {Q : State → Prop} {D : va_G} {cA : Nat → ClassId} {Ad : Nat → Nat → Nat} {a : Nat → Nat} {o9 : Nat} {A0 : Nat → Prop} (C : LCtx p l s m c b xs D cA A0) (Wd : LWl D cA Ad a o9 s A0 H locs) (hl : lv_has ls 9 [(4, .int 0), (3, .ref o9), (2, .ref (a 0)), (1, .ref (Ad 10 0)), (0, .ref b)]) (K : LKn p l e s m b below meth c Q A0) (t : Nat) (ht : t < 16) (x : Int32) (hx0 : inF x 0 255 = 0) (hx1 : xs 1 = (nI t)) (hx2 : xs 2 = x) : W p l e room_1 s m #[Value.ref b] below meth c H locs 1000 5000 Q (F0 m 244 ls []) := by
  obtain ⟨hx, hb, hml, hown, hts, hKN, hKY, hXZ, hX, hbl, hl0, hA, hbA⟩ := C
  obtain ⟨hP, hD, hS⟩ := Wd
  refine lv_aload_n hx hb dL_law_244 rfl (lv_at hl 3 rfl) ?_
  refine lv_aload_n hx hb dL_law_245 rfl (lv_at hl 4 rfl) ?_
  refine lv_iload hx hb dL_law_246 (lv_at hl 0 rfl) ?_
  refine lv_iconst (v := 1) hx hb dL_law_248 (by decide) ?_
  refine lz_iadd (v := 1) hx hb dL_law_249 (by decide) ?_
  refine va_sld hx hb hX hbl hbA hS vi_1 dL_law_250 ?_
  refine lz_top (v := (nI t)) (by rw [cl_1]; exact hx1) ?_
  refine lv_aload_n hx hb dL_law_251 rfl (lv_at hl 4 rfl) ?_
  refine lv_iload hx hb dL_law_252 (lv_at hl 0 rfl) ?_
  refine lv_iconst (v := 2) hx hb dL_law_254 (by decide) ?_
  refine lz_iadd (v := 2) hx hb dL_law_255 (by decide) ?_
  refine va_sld hx hb hX hbl hbA hS vi_2 dL_law_256 ?_
  refine lz_top (v := x) (by rw [cl_2]; exact hx2) ?_
  refine lv_aload_n hx hb dL_law_257 rfl (lv_at hl 1 rfl) ?_
  refine lh_S (As := [.ref (Ad 10 0), .int (nI t), .int x, .ref o9]) (rest := []) ⟨hx, hb, hml, hown, hts⟩ (h_lay_x2 l hl0 D cA _ Ad o9 t ht x hx0 (va_P_l hP) (va_D_l hD)) (vx_cwSW 4 hts gL_law_L_lay rfl rfl rfl (by decide +kernel) ⟨Nat.le_of_ble_eq_true rfl, Nat.le_of_ble_eq_true rfl⟩) hKN hKY ((hXZ.kept (fun q h1 h2 => hS.2.1 q h1 h2)).narrow (lc_F hD hS hA)) mem_o9 hP hD hS hA rfl hl.1 rfl (lv_room (Nat.le_of_ble_eq_true rfl)) dL_law_258 ⟨Nat.le_of_ble_eq_true rfl, Nat.le_of_ble_eq_true rfl⟩ (fun H locs hP hD hS => ?_)
  refine lv_istore (lv' := [(5, .int 2), (4, .int 0), (3, .ref o9), (2, .ref (a 0)), (1, .ref (Ad 10 0)), (0, .ref b)]) hx hb dL_law_261 hl (by decide) rfl (fun ls hl => ?_)
  refine lv_aload_n hx hb dL_law_263 rfl (lv_at hl 3 rfl) ?_
  refine lv_aload_n hx hb dL_law_264 rfl (lv_at hl 5 rfl) ?_
  refine lv_iload hx hb dL_law_265 (lv_at hl 1 rfl) ?_
  refine lv_iconst (v := 1) hx hb dL_law_267 (by decide) ?_
  refine lz_iadd (v := 1) hx hb dL_law_268 (by decide) ?_
  refine va_sld hx hb hX hbl hbA hS vi_1 dL_law_269 ?_
  refine lz_top (v := (nI t)) (by rw [cl_1]; exact hx1) ?_
  refine lv_aload_n hx hb dL_law_270 rfl (lv_at hl 5 rfl) ?_
  refine lv_iload hx hb dL_law_271 (lv_at hl 1 rfl) ?_
  refine lv_iconst (v := 2) hx hb dL_law_273 (by decide) ?_
  refine lz_iadd (v := 2) hx hb dL_law_274 (by decide) ?_
  refine va_sld hx hb hX hbl hbA hS vi_2 dL_law_275 ?_
  refine lz_top (v := x) (by rw [cl_2]; exact hx2) ?_
  refine mu_Va (ci := 5) (q0 := 0) (As := [.int (nI t), .int x]) (rest := []) ⟨hx, hb, hml, hown, hts⟩ (n_lay2 l D cA _ a 0 f0 (fun _ => 0) (fun _ => 0) (fun _ => 0) 0 t ht x hx0 (va_P_l hP) (va_D_l hD)) (cwV 2 hts gL_law_X5_lay rfl rfl rfl (by decide +kernel) ⟨Nat.le_of_ble_eq_true rfl, Nat.le_of_ble_eq_true rfl⟩) hKN hP hD hS hA rfl rfl ((wMd_fst _ _ _).trans (wMd_fst _ _ _).symm) rfl hl.1 rfl (lv_room (Nat.le_of_ble_eq_true rfl)) dL_law_276 ⟨Nat.le_of_ble_eq_true rfl, Nat.le_of_ble_eq_true rfl⟩ (fun H locs hP hD hS => ?_)
  refine lz_top (v := 0) rfl ?_
  refine lv_istore (lv' := [(6, .int 0), (5, .int 2), (4, .int 0), (3, .ref o9), (2, .ref (a 0)), (1, .ref (Ad 10 0)), (0, .ref b)]) hx hb dL_law_279 hl (by decide) rfl (fun ls hl => ?_)
  refine lv_aload_n hx hb dL_law_281 rfl (lv_at hl 4 rfl) ?_
  refine ro_V (ci := 5) (q0 := 0) (As := []) (rest := []) ⟨hx, hb, hml, hown, hts⟩ (c_X5_thrown l D cA _ a _ (va_P_l hP)) (cwV 0 hts gL_law_X5_thrown rfl rfl rfl (by decide +kernel) ⟨Nat.le_of_ble_eq_true rfl, Nat.le_of_ble_eq_true rfl⟩) hKN hP rfl rfl rfl hl.1 rfl (lv_room (Nat.le_of_ble_eq_true rfl)) dL_law_282 ⟨Nat.le_of_ble_eq_true rfl, Nat.le_of_ble_eq_true rfl⟩ ?_
  refine lz_top (v := 2) rfl ?_
  refine lv_iload hx hb dL_law_285 (lv_at hl 1 rfl) ?_
  refine lv_icmp_eq (tgt := 292) hx hb dL_law_287 (by decide) (fun _ => ?_) (fun h => absurd (by decide) h)
  refine lv_iload hx hb dL_law_292 (lv_at hl 1 rfl) ?_
  refine lv_if_ne (tgt := 309) hx hb dL_law_294 (by decide) (fun _ => ?_) (fun h => absurd h (by decide))
  refine lv_goto (tgt := 1723) hx hb dL_law_309 (by decide) ?_
  exact W.widen (k := 2000) (n := 9000) (by decide) (by decide) (K H locs ls hS (lv_sub hl [2, 6] rfl))
set_option maxHeartbeats 4000000 in
set_option maxRecDepth 100000 in
theorem lc_guard_v {p : Program} {l : Launch} {e : Env} {s : State} {m : MethodId} {below : List Frame} {meth : Method} {c : Code} {b : Nat} {xs : Nat → Int32} {H : Heap} {locs : List Loc} {ls : Array Slot} {Q : State → Prop} {D : va_G} {cA : Nat → ClassId} {Ad : Nat → Nat → Nat} {a : Nat → Nat} {o9 : Nat} {A0 : Nat → Prop} (C : LCtx p l s m c b xs D cA A0) (Wd : LWl D cA Ad a o9 s A0 H locs) (hl : lv_has ls 9 [(4, .int 0), (3, .ref o9), (2, .ref (a 0)), (1, .ref (Ad 10 0)), (0, .ref b)]) (K : LKn p l e s m b below meth c Q A0) (t : Nat) (ht : t < 16) (hx1 : xs 1 = (nI t)) : W p l e room_1 s m #[Value.ref b] below meth c H locs 1000 5000 Q (F0 m 312 ls []) := by
  obtain ⟨hx, hb, hml, hown, hts, hKN, hKY, hXZ, hX, hbl, hl0, hA, hbA⟩ := C
  obtain ⟨hP, hD, hS⟩ := Wd
  refine lv_aload_n hx hb dL_law_312 rfl (lv_at hl 3 rfl) ?_
  refine lv_aload_n hx hb dL_law_313 rfl (lv_at hl 4 rfl) ?_
  refine lv_iload hx hb dL_law_314 (lv_at hl 0 rfl) ?_
  refine lv_iconst (v := 1) hx hb dL_law_316 (by decide) ?_
  refine lz_iadd (v := 1) hx hb dL_law_317 (by decide) ?_
  refine va_sld hx hb hX hbl hbA hS vi_1 dL_law_318 ?_
  refine lz_top (v := (nI t)) (by rw [cl_1]; exact hx1) ?_
  refine lv_aload_n hx hb dL_law_319 rfl (lv_at hl 1 rfl) ?_
  refine lh_S (As := [.ref (Ad 10 0), .int (nI t), .ref o9]) (rest := []) ⟨hx, hb, hml, hown, hts⟩ (h_guard_v l hl0 D cA _ Ad o9 t ht (va_P_l hP) (va_D_l hD)) (vx_cwSW 3 hts gL_law_L_guard rfl rfl rfl (by decide +kernel) ⟨Nat.le_of_ble_eq_true rfl, Nat.le_of_ble_eq_true rfl⟩) hKN hKY ((hXZ.kept (fun q h1 h2 => hS.2.1 q h1 h2)).narrow (lc_F hD hS hA)) mem_o9 hP hD hS hA rfl hl.1 rfl (lv_room (Nat.le_of_ble_eq_true rfl)) dL_law_320 ⟨Nat.le_of_ble_eq_true rfl, Nat.le_of_ble_eq_true rfl⟩ (fun H locs hP hD hS => ?_)
  refine lv_istore (lv' := [(5, .int 0), (4, .int 0), (3, .ref o9), (2, .ref (a 0)), (1, .ref (Ad 10 0)), (0, .ref b)]) hx hb dL_law_323 hl (by decide) rfl (fun ls hl => ?_)
  refine lv_aload_n hx hb dL_law_325 rfl (lv_at hl 3 rfl) ?_
  refine lv_aload_n hx hb dL_law_326 rfl (lv_at hl 5 rfl) ?_
  refine lv_iload hx hb dL_law_327 (lv_at hl 1 rfl) ?_
  refine lv_iconst (v := 1) hx hb dL_law_329 (by decide) ?_
  refine lz_iadd (v := 1) hx hb dL_law_330 (by decide) ?_
  refine va_sld hx hb hX hbl hbA hS vi_1 dL_law_331 ?_
  refine lz_top (v := (nI t)) (by rw [cl_1]; exact hx1) ?_
  refine mu_Va (ci := 5) (q0 := 0) (As := [.int (nI t)]) (rest := []) ⟨hx, hb, hml, hown, hts⟩ (c_X5_guard l D cA _ a 0 f0 (fun _ => 0) (fun _ => 0) (fun _ => 0) 0 t ht f0_FR (va_P_l hP) (va_D_l hD)) (cwV 1 hts gL_law_X5_guard rfl rfl rfl (by decide +kernel) ⟨Nat.le_of_ble_eq_true rfl, Nat.le_of_ble_eq_true rfl⟩) hKN hP hD hS hA rfl rfl ((wMd_fst _ _ _).trans (wMd_fst _ _ _).symm) rfl hl.1 rfl (lv_room (Nat.le_of_ble_eq_true rfl)) dL_law_332 ⟨Nat.le_of_ble_eq_true rfl, Nat.le_of_ble_eq_true rfl⟩ (fun H locs hP hD hS => ?_)
  refine lz_top (v := 1) (pm_guard t ht) ?_
  refine lv_istore (lv' := [(6, .int 1), (5, .int 0), (4, .int 0), (3, .ref o9), (2, .ref (a 0)), (1, .ref (Ad 10 0)), (0, .ref b)]) hx hb dL_law_335 hl (by decide) rfl (fun ls hl => ?_)
  refine lv_aload_n hx hb dL_law_337 rfl (lv_at hl 4 rfl) ?_
  refine ro_V (ci := 5) (q0 := 0) (As := []) (rest := []) ⟨hx, hb, hml, hown, hts⟩ (c_X5_thrown l D cA _ a _ (va_P_l hP)) (cwV 0 hts gL_law_X5_thrown rfl rfl rfl (by decide +kernel) ⟨Nat.le_of_ble_eq_true rfl, Nat.le_of_ble_eq_true rfl⟩) hKN hP rfl rfl rfl hl.1 rfl (lv_room (Nat.le_of_ble_eq_true rfl)) dL_law_338 ⟨Nat.le_of_ble_eq_true rfl, Nat.le_of_ble_eq_true rfl⟩ ?_
  refine lz_top (v := 0) rfl ?_
  refine lv_iload hx hb dL_law_341 (lv_at hl 1 rfl) ?_
  refine lv_icmp_eq (tgt := 348) hx hb dL_law_343 (by decide) (fun _ => ?_) (fun h => absurd (by decide) h)
  refine lv_iload hx hb dL_law_348 (lv_at hl 1 rfl) ?_
  refine lv_if_ne (tgt := 365) hx hb dL_law_350 (by decide) (fun h => absurd (by decide) h) (fun _ => ?_)
  refine lv_aload_n hx hb dL_law_353 rfl (lv_at hl 3 rfl) ?_
  refine lv_iconst (v := 0) hx hb dL_law_354 (by decide) ?_
  refine lz_lald (k := 0) (f := (vp_updL (fun _ => 0) 0 (i2lF 1))) hx hb hKN.1 hP 5 3 rfl rfl ⟨by decide, by decide⟩ dL_law_355 ?_
  refine lz_topL (v := (i2lF 1)) rfl ?_
  refine lv_iload hx hb dL_law_356 (lv_at hl 0 rfl) ?_
  refine lv_i2l (v := (i2lF 1)) hx hb dL_law_358 rfl ?_
  refine W.lcmp hx hb dL_law_359 ?_
  refine lz_top (v := 0) (lg_cmp_self _) ?_
  refine lv_if_eq (tgt := 365) hx hb dL_law_360 (by decide) (fun _ => ?_) (fun h => absurd (by decide) h)
  refine lv_goto (tgt := 1723) hx hb dL_law_365 (by decide) ?_
  exact W.widen (k := 2000) (n := 9000) (by decide) (by decide) (K H locs ls hS (lv_sub hl [2, 6] rfl))
set_option maxHeartbeats 4000000 in
set_option maxRecDepth 100000 in
theorem lc_guard_x1 {p : Program} {l : Launch} {e : Env} {s : State} {m : MethodId} {below : List Frame} {meth : Method} {c : Code} {b : Nat} {xs : Nat → Int32} {H : Heap} {locs : List Loc} {ls : Array Slot} {Q : State → Prop} {D : va_G} {cA : Nat → ClassId} {Ad : Nat → Nat → Nat} {a : Nat → Nat} {o9 : Nat} {A0 : Nat → Prop} (C : LCtx p l s m c b xs D cA A0) (Wd : LWl D cA Ad a o9 s A0 H locs) (hl : lv_has ls 9 [(4, .int 0), (3, .ref o9), (2, .ref (a 0)), (1, .ref (Ad 10 0)), (0, .ref b)]) (K : LKn p l e s m b below meth c Q A0) (x : Int32) (hx0 : inF x 0 15 = 0) (hx1 : xs 1 = x) : W p l e room_1 s m #[Value.ref b] below meth c H locs 1000 5000 Q (F0 m 312 ls []) := by
  obtain ⟨hx, hb, hml, hown, hts, hKN, hKY, hXZ, hX, hbl, hl0, hA, hbA⟩ := C
  obtain ⟨hP, hD, hS⟩ := Wd
  refine lv_aload_n hx hb dL_law_312 rfl (lv_at hl 3 rfl) ?_
  refine lv_aload_n hx hb dL_law_313 rfl (lv_at hl 4 rfl) ?_
  refine lv_iload hx hb dL_law_314 (lv_at hl 0 rfl) ?_
  refine lv_iconst (v := 1) hx hb dL_law_316 (by decide) ?_
  refine lz_iadd (v := 1) hx hb dL_law_317 (by decide) ?_
  refine va_sld hx hb hX hbl hbA hS vi_1 dL_law_318 ?_
  refine lz_top (v := x) (by rw [cl_1]; exact hx1) ?_
  refine lv_aload_n hx hb dL_law_319 rfl (lv_at hl 1 rfl) ?_
  refine lh_S (As := [.ref (Ad 10 0), .int x, .ref o9]) (rest := []) ⟨hx, hb, hml, hown, hts⟩ (h_guard_x1 l hl0 D cA _ Ad o9 x hx0 (va_P_l hP) (va_D_l hD)) (vx_cwSW 3 hts gL_law_L_guard rfl rfl rfl (by decide +kernel) ⟨Nat.le_of_ble_eq_true rfl, Nat.le_of_ble_eq_true rfl⟩) hKN hKY ((hXZ.kept (fun q h1 h2 => hS.2.1 q h1 h2)).narrow (lc_F hD hS hA)) mem_o9 hP hD hS hA rfl hl.1 rfl (lv_room (Nat.le_of_ble_eq_true rfl)) dL_law_320 ⟨Nat.le_of_ble_eq_true rfl, Nat.le_of_ble_eq_true rfl⟩ (fun H locs hP hD hS => ?_)
  refine lv_istore (lv' := [(5, .int 1), (4, .int 0), (3, .ref o9), (2, .ref (a 0)), (1, .ref (Ad 10 0)), (0, .ref b)]) hx hb dL_law_323 hl (by decide) rfl (fun ls hl => ?_)
  refine lv_aload_n hx hb dL_law_325 rfl (lv_at hl 3 rfl) ?_
  refine lv_aload_n hx hb dL_law_326 rfl (lv_at hl 5 rfl) ?_
  refine lv_iload hx hb dL_law_327 (lv_at hl 1 rfl) ?_
  refine lv_iconst (v := 1) hx hb dL_law_329 (by decide) ?_
  refine lz_iadd (v := 1) hx hb dL_law_330 (by decide) ?_
  refine va_sld hx hb hX hbl hbA hS vi_1 dL_law_331 ?_
  refine lz_top (v := x) (by rw [cl_1]; exact hx1) ?_
  refine mu_Va (ci := 5) (q0 := 0) (As := [.int x]) (rest := []) ⟨hx, hb, hml, hown, hts⟩ (n_guard l D cA _ a 0 f0 (fun _ => 0) (fun _ => 0) (fun _ => 0) 0 x hx0 (va_P_l hP) (va_D_l hD)) (cwV 1 hts gL_law_X5_guard rfl rfl rfl (by decide +kernel) ⟨Nat.le_of_ble_eq_true rfl, Nat.le_of_ble_eq_true rfl⟩) hKN hP hD hS hA rfl rfl ((wMd_fst _ _ _).trans (wMd_fst _ _ _).symm) rfl hl.1 rfl (lv_room (Nat.le_of_ble_eq_true rfl)) dL_law_332 ⟨Nat.le_of_ble_eq_true rfl, Nat.le_of_ble_eq_true rfl⟩ (fun H locs hP hD hS => ?_)
  refine lz_top (v := 0) rfl ?_
  refine lv_istore (lv' := [(6, .int 0), (5, .int 1), (4, .int 0), (3, .ref o9), (2, .ref (a 0)), (1, .ref (Ad 10 0)), (0, .ref b)]) hx hb dL_law_335 hl (by decide) rfl (fun ls hl => ?_)
  refine lv_aload_n hx hb dL_law_337 rfl (lv_at hl 4 rfl) ?_
  refine ro_V (ci := 5) (q0 := 0) (As := []) (rest := []) ⟨hx, hb, hml, hown, hts⟩ (c_X5_thrown l D cA _ a _ (va_P_l hP)) (cwV 0 hts gL_law_X5_thrown rfl rfl rfl (by decide +kernel) ⟨Nat.le_of_ble_eq_true rfl, Nat.le_of_ble_eq_true rfl⟩) hKN hP rfl rfl rfl hl.1 rfl (lv_room (Nat.le_of_ble_eq_true rfl)) dL_law_338 ⟨Nat.le_of_ble_eq_true rfl, Nat.le_of_ble_eq_true rfl⟩ ?_
  refine lz_top (v := 1) rfl ?_
  refine lv_iload hx hb dL_law_341 (lv_at hl 1 rfl) ?_
  refine lv_icmp_eq (tgt := 348) hx hb dL_law_343 (by decide) (fun _ => ?_) (fun h => absurd (by decide) h)
  refine lv_iload hx hb dL_law_348 (lv_at hl 1 rfl) ?_
  refine lv_if_ne (tgt := 365) hx hb dL_law_350 (by decide) (fun _ => ?_) (fun h => absurd h (by decide))
  refine lv_goto (tgt := 1723) hx hb dL_law_365 (by decide) ?_
  exact W.widen (k := 2000) (n := 9000) (by decide) (by decide) (K H locs ls hS (lv_sub hl [2, 6] rfl))
set_option maxHeartbeats 4000000 in
set_option maxRecDepth 100000 in
theorem lc_change_v {p : Program} {l : Launch} {e : Env} {s : State} {m : MethodId} {below : List Frame} {meth : Method} {c : Code} {b : Nat} {xs : Nat → Int32} {H : Heap} {locs : List Loc} {ls : Array Slot} {Q : State → Prop} {D : va_G} {cA : Nat → ClassId} {Ad : Nat → Nat → Nat} {a : Nat → Nat} {o9 : Nat} {A0 : Nat → Prop} (C : LCtx p l s m c b xs D cA A0) (Wd : LWl D cA Ad a o9 s A0 H locs) (hl : lv_has ls 9 [(4, .int 0), (3, .ref o9), (2, .ref (a 0)), (1, .ref (Ad 10 0)), (0, .ref b)]) (K : LKn p l e s m b below meth c Q A0) (r : Nat) (hr0 : r < 8) (hx1 : xs 1 = (nI r)) : W p l e room_1 s m #[Value.ref b] below meth c H locs 1000 5000 Q (F0 m 368 ls []) := by
  obtain ⟨hx, hb, hml, hown, hts, hKN, hKY, hXZ, hX, hbl, hl0, hA, hbA⟩ := C
  obtain ⟨hP, hD, hS⟩ := Wd
  refine lv_aload_n hx hb dL_law_368 rfl (lv_at hl 3 rfl) ?_
  refine lv_aload_n hx hb dL_law_369 rfl (lv_at hl 4 rfl) ?_
  refine lv_iload hx hb dL_law_370 (lv_at hl 0 rfl) ?_
  refine lv_iconst (v := 1) hx hb dL_law_372 (by decide) ?_
  refine lz_iadd (v := 1) hx hb dL_law_373 (by decide) ?_
  refine va_sld hx hb hX hbl hbA hS vi_1 dL_law_374 ?_
  refine lz_top (v := (nI r)) (by rw [cl_1]; exact hx1) ?_
  refine lv_aload_n hx hb dL_law_375 rfl (lv_at hl 1 rfl) ?_
  refine lh_S (As := [.ref (Ad 10 0), .int (nI r), .ref o9]) (rest := []) ⟨hx, hb, hml, hown, hts⟩ (h_change_v l hl0 D cA _ Ad o9 r hr0 (va_P_l hP) (va_D_l hD)) (vx_cwSW 3 hts gL_law_L_change rfl rfl rfl (by decide +kernel) ⟨Nat.le_of_ble_eq_true rfl, Nat.le_of_ble_eq_true rfl⟩) hKN hKY ((hXZ.kept (fun q h1 h2 => hS.2.1 q h1 h2)).narrow (lc_F hD hS hA)) mem_o9 hP hD hS hA rfl hl.1 rfl (lv_room (Nat.le_of_ble_eq_true rfl)) dL_law_376 ⟨Nat.le_of_ble_eq_true rfl, Nat.le_of_ble_eq_true rfl⟩ (fun H locs hP hD hS => ?_)
  refine lv_istore (lv' := [(5, .int 0), (4, .int 0), (3, .ref o9), (2, .ref (a 0)), (1, .ref (Ad 10 0)), (0, .ref b)]) hx hb dL_law_379 hl (by decide) rfl (fun ls hl => ?_)
  refine lv_aload_n hx hb dL_law_381 rfl (lv_at hl 3 rfl) ?_
  refine lv_aload_n hx hb dL_law_382 rfl (lv_at hl 5 rfl) ?_
  refine lv_iload hx hb dL_law_383 (lv_at hl 1 rfl) ?_
  refine lv_iconst (v := 1) hx hb dL_law_385 (by decide) ?_
  refine lz_iadd (v := 1) hx hb dL_law_386 (by decide) ?_
  refine va_sld hx hb hX hbl hbA hS vi_1 dL_law_387 ?_
  refine lz_top (v := (nI r)) (by rw [cl_1]; exact hx1) ?_
  refine mu_Va (ci := 5) (q0 := 0) (As := [.int (nI r)]) (rest := []) ⟨hx, hb, hml, hown, hts⟩ (c_X5_change l D cA _ a 0 f0 (fun _ => 0) (fun _ => 0) (fun _ => 0) 0 r hr0 f0_FR (va_P_l hP) (va_D_l hD)) (cwV 1 hts gL_law_X5_change rfl rfl rfl (by decide +kernel) ⟨Nat.le_of_ble_eq_true rfl, Nat.le_of_ble_eq_true rfl⟩) hKN hP hD hS hA rfl rfl ((wMd_fst _ _ _).trans (wMd_fst _ _ _).symm) rfl hl.1 rfl (lv_room (Nat.le_of_ble_eq_true rfl)) dL_law_388 ⟨Nat.le_of_ble_eq_true rfl, Nat.le_of_ble_eq_true rfl⟩ (fun H locs hP hD hS => ?_)
  refine lz_top (v := 0) rfl ?_
  refine lv_istore (lv' := [(6, .int 0), (5, .int 0), (4, .int 0), (3, .ref o9), (2, .ref (a 0)), (1, .ref (Ad 10 0)), (0, .ref b)]) hx hb dL_law_391 hl (by decide) rfl (fun ls hl => ?_)
  refine lv_aload_n hx hb dL_law_393 rfl (lv_at hl 4 rfl) ?_
  refine ro_V (ci := 5) (q0 := 0) (As := []) (rest := []) ⟨hx, hb, hml, hown, hts⟩ (c_X5_thrown l D cA _ a _ (va_P_l hP)) (cwV 0 hts gL_law_X5_thrown rfl rfl rfl (by decide +kernel) ⟨Nat.le_of_ble_eq_true rfl, Nat.le_of_ble_eq_true rfl⟩) hKN hP rfl rfl rfl hl.1 rfl (lv_room (Nat.le_of_ble_eq_true rfl)) dL_law_394 ⟨Nat.le_of_ble_eq_true rfl, Nat.le_of_ble_eq_true rfl⟩ ?_
  refine lz_top (v := 0) rfl ?_
  refine lv_iload hx hb dL_law_397 (lv_at hl 1 rfl) ?_
  refine lv_icmp_eq (tgt := 404) hx hb dL_law_399 (by decide) (fun _ => ?_) (fun h => absurd (by decide) h)
  refine lv_iload hx hb dL_law_404 (lv_at hl 1 rfl) ?_
  refine lv_if_ne (tgt := 421) hx hb dL_law_406 (by decide) (fun h => absurd (by decide) h) (fun _ => ?_)
  refine lv_aload_n hx hb dL_law_409 rfl (lv_at hl 3 rfl) ?_
  refine lv_iconst (v := 0) hx hb dL_law_410 (by decide) ?_
  refine lz_lald (k := 0) (f := (vp_updL (fun _ => 0) 0 (i2lF 0))) hx hb hKN.1 hP 5 3 rfl rfl ⟨by decide, by decide⟩ dL_law_411 ?_
  refine lz_topL (v := (i2lF 0)) rfl ?_
  refine lv_iload hx hb dL_law_412 (lv_at hl 0 rfl) ?_
  refine lv_i2l (v := (i2lF 0)) hx hb dL_law_414 rfl ?_
  refine W.lcmp hx hb dL_law_415 ?_
  refine lz_top (v := 0) (lg_cmp_self _) ?_
  refine lv_if_eq (tgt := 421) hx hb dL_law_416 (by decide) (fun _ => ?_) (fun h => absurd (by decide) h)
  refine lv_goto (tgt := 1723) hx hb dL_law_421 (by decide) ?_
  exact W.widen (k := 2000) (n := 9000) (by decide) (by decide) (K H locs ls hS (lv_sub hl [2, 6] rfl))
set_option maxHeartbeats 4000000 in
set_option maxRecDepth 100000 in
theorem lc_change_x1 {p : Program} {l : Launch} {e : Env} {s : State} {m : MethodId} {below : List Frame} {meth : Method} {c : Code} {b : Nat} {xs : Nat → Int32} {H : Heap} {locs : List Loc} {ls : Array Slot} {Q : State → Prop} {D : va_G} {cA : Nat → ClassId} {Ad : Nat → Nat → Nat} {a : Nat → Nat} {o9 : Nat} {A0 : Nat → Prop} (C : LCtx p l s m c b xs D cA A0) (Wd : LWl D cA Ad a o9 s A0 H locs) (hl : lv_has ls 9 [(4, .int 0), (3, .ref o9), (2, .ref (a 0)), (1, .ref (Ad 10 0)), (0, .ref b)]) (K : LKn p l e s m b below meth c Q A0) (x : Int32) (hx0 : inF x 0 7 = 0) (hx1 : xs 1 = x) : W p l e room_1 s m #[Value.ref b] below meth c H locs 1000 5000 Q (F0 m 368 ls []) := by
  obtain ⟨hx, hb, hml, hown, hts, hKN, hKY, hXZ, hX, hbl, hl0, hA, hbA⟩ := C
  obtain ⟨hP, hD, hS⟩ := Wd
  refine lv_aload_n hx hb dL_law_368 rfl (lv_at hl 3 rfl) ?_
  refine lv_aload_n hx hb dL_law_369 rfl (lv_at hl 4 rfl) ?_
  refine lv_iload hx hb dL_law_370 (lv_at hl 0 rfl) ?_
  refine lv_iconst (v := 1) hx hb dL_law_372 (by decide) ?_
  refine lz_iadd (v := 1) hx hb dL_law_373 (by decide) ?_
  refine va_sld hx hb hX hbl hbA hS vi_1 dL_law_374 ?_
  refine lz_top (v := x) (by rw [cl_1]; exact hx1) ?_
  refine lv_aload_n hx hb dL_law_375 rfl (lv_at hl 1 rfl) ?_
  refine lh_S (As := [.ref (Ad 10 0), .int x, .ref o9]) (rest := []) ⟨hx, hb, hml, hown, hts⟩ (h_change_x1 l hl0 D cA _ Ad o9 x hx0 (va_P_l hP) (va_D_l hD)) (vx_cwSW 3 hts gL_law_L_change rfl rfl rfl (by decide +kernel) ⟨Nat.le_of_ble_eq_true rfl, Nat.le_of_ble_eq_true rfl⟩) hKN hKY ((hXZ.kept (fun q h1 h2 => hS.2.1 q h1 h2)).narrow (lc_F hD hS hA)) mem_o9 hP hD hS hA rfl hl.1 rfl (lv_room (Nat.le_of_ble_eq_true rfl)) dL_law_376 ⟨Nat.le_of_ble_eq_true rfl, Nat.le_of_ble_eq_true rfl⟩ (fun H locs hP hD hS => ?_)
  refine lv_istore (lv' := [(5, .int 1), (4, .int 0), (3, .ref o9), (2, .ref (a 0)), (1, .ref (Ad 10 0)), (0, .ref b)]) hx hb dL_law_379 hl (by decide) rfl (fun ls hl => ?_)
  refine lv_aload_n hx hb dL_law_381 rfl (lv_at hl 3 rfl) ?_
  refine lv_aload_n hx hb dL_law_382 rfl (lv_at hl 5 rfl) ?_
  refine lv_iload hx hb dL_law_383 (lv_at hl 1 rfl) ?_
  refine lv_iconst (v := 1) hx hb dL_law_385 (by decide) ?_
  refine lz_iadd (v := 1) hx hb dL_law_386 (by decide) ?_
  refine va_sld hx hb hX hbl hbA hS vi_1 dL_law_387 ?_
  refine lz_top (v := x) (by rw [cl_1]; exact hx1) ?_
  refine mu_Va (ci := 5) (q0 := 0) (As := [.int x]) (rest := []) ⟨hx, hb, hml, hown, hts⟩ (n_change l D cA _ a 0 f0 (fun _ => 0) (fun _ => 0) (fun _ => 0) 0 x hx0 (va_P_l hP) (va_D_l hD)) (cwV 1 hts gL_law_X5_change rfl rfl rfl (by decide +kernel) ⟨Nat.le_of_ble_eq_true rfl, Nat.le_of_ble_eq_true rfl⟩) hKN hP hD hS hA rfl rfl ((wMd_fst _ _ _).trans (wMd_fst _ _ _).symm) rfl hl.1 rfl (lv_room (Nat.le_of_ble_eq_true rfl)) dL_law_388 ⟨Nat.le_of_ble_eq_true rfl, Nat.le_of_ble_eq_true rfl⟩ (fun H locs hP hD hS => ?_)
  refine lz_top (v := 0) rfl ?_
  refine lv_istore (lv' := [(6, .int 0), (5, .int 1), (4, .int 0), (3, .ref o9), (2, .ref (a 0)), (1, .ref (Ad 10 0)), (0, .ref b)]) hx hb dL_law_391 hl (by decide) rfl (fun ls hl => ?_)
  refine lv_aload_n hx hb dL_law_393 rfl (lv_at hl 4 rfl) ?_
  refine ro_V (ci := 5) (q0 := 0) (As := []) (rest := []) ⟨hx, hb, hml, hown, hts⟩ (c_X5_thrown l D cA _ a _ (va_P_l hP)) (cwV 0 hts gL_law_X5_thrown rfl rfl rfl (by decide +kernel) ⟨Nat.le_of_ble_eq_true rfl, Nat.le_of_ble_eq_true rfl⟩) hKN hP rfl rfl rfl hl.1 rfl (lv_room (Nat.le_of_ble_eq_true rfl)) dL_law_394 ⟨Nat.le_of_ble_eq_true rfl, Nat.le_of_ble_eq_true rfl⟩ ?_
  refine lz_top (v := 1) rfl ?_
  refine lv_iload hx hb dL_law_397 (lv_at hl 1 rfl) ?_
  refine lv_icmp_eq (tgt := 404) hx hb dL_law_399 (by decide) (fun _ => ?_) (fun h => absurd (by decide) h)
  refine lv_iload hx hb dL_law_404 (lv_at hl 1 rfl) ?_
  refine lv_if_ne (tgt := 421) hx hb dL_law_406 (by decide) (fun _ => ?_) (fun h => absurd h (by decide))
  refine lv_goto (tgt := 1723) hx hb dL_law_421 (by decide) ?_
  exact W.widen (k := 2000) (n := 9000) (by decide) (by decide) (K H locs ls hS (lv_sub hl [2, 6] rfl))
set_option maxHeartbeats 4000000 in
set_option maxRecDepth 100000 in
theorem lc_set_v0 {p : Program} {l : Launch} {e : Env} {s : State} {m : MethodId} {below : List Frame} {meth : Method} {c : Code} {b : Nat} {xs : Nat → Int32} {H : Heap} {locs : List Loc} {ls : Array Slot} {Q : State → Prop} {D : va_G} {cA : Nat → ClassId} {Ad : Nat → Nat → Nat} {a : Nat → Nat} {o9 : Nat} {A0 : Nat → Prop} (C : LCtx p l s m c b xs D cA A0) (Wd : LWl D cA Ad a o9 s A0 H locs) (hl : lv_has ls 9 [(4, .int 0), (3, .ref o9), (2, .ref (a 0)), (1, .ref (Ad 10 0)), (0, .ref b)]) (K : LKn p l e s m b below meth c Q A0) (v : Nat) (h1 : 1 ≤ v) (h8 : v ≤ 8) (hx1 : xs 1 = 0) (hx2 : xs 2 = (nI v)) : W p l e room_1 s m #[Value.ref b] below meth c H locs 1000 5000 Q (F0 m 424 ls []) := by
  obtain ⟨hx, hb, hml, hown, hts, hKN, hKY, hXZ, hX, hbl, hl0, hA, hbA⟩ := C
  obtain ⟨hP, hD, hS⟩ := Wd
  refine lv_aload_n hx hb dL_law_424 rfl (lv_at hl 3 rfl) ?_
  refine lv_aload_n hx hb dL_law_425 rfl (lv_at hl 4 rfl) ?_
  refine lv_iload hx hb dL_law_426 (lv_at hl 0 rfl) ?_
  refine lv_iconst (v := 1) hx hb dL_law_428 (by decide) ?_
  refine lz_iadd (v := 1) hx hb dL_law_429 (by decide) ?_
  refine va_sld hx hb hX hbl hbA hS vi_1 dL_law_430 ?_
  refine lz_top (v := 0) (by rw [cl_1]; exact hx1) ?_
  refine lv_aload_n hx hb dL_law_431 rfl (lv_at hl 4 rfl) ?_
  refine lv_iload hx hb dL_law_432 (lv_at hl 0 rfl) ?_
  refine lv_iconst (v := 2) hx hb dL_law_434 (by decide) ?_
  refine lz_iadd (v := 2) hx hb dL_law_435 (by decide) ?_
  refine va_sld hx hb hX hbl hbA hS vi_2 dL_law_436 ?_
  refine lz_top (v := (nI v)) (by rw [cl_2]; exact hx2) ?_
  refine lv_aload_n hx hb dL_law_437 rfl (lv_at hl 1 rfl) ?_
  refine lh_S (As := [.ref (Ad 10 0), .int 0, .int (nI v), .ref o9]) (rest := []) ⟨hx, hb, hml, hown, hts⟩ (h_set_v0 l hl0 D cA _ Ad o9 v h1 h8 (va_P_l hP) (va_D_l hD)) (vx_cwSW 4 hts gL_law_L_set rfl rfl rfl (by decide +kernel) ⟨Nat.le_of_ble_eq_true rfl, Nat.le_of_ble_eq_true rfl⟩) hKN hKY ((hXZ.kept (fun q h1 h2 => hS.2.1 q h1 h2)).narrow (lc_F hD hS hA)) mem_o9 hP hD hS hA rfl hl.1 rfl (lv_room (Nat.le_of_ble_eq_true rfl)) dL_law_438 ⟨Nat.le_of_ble_eq_true rfl, Nat.le_of_ble_eq_true rfl⟩ (fun H locs hP hD hS => ?_)
  refine lv_istore (lv' := [(5, .int 0), (4, .int 0), (3, .ref o9), (2, .ref (a 0)), (1, .ref (Ad 10 0)), (0, .ref b)]) hx hb dL_law_441 hl (by decide) rfl (fun ls hl => ?_)
  refine lv_aload_n hx hb dL_law_443 rfl (lv_at hl 3 rfl) ?_
  refine lv_aload_n hx hb dL_law_444 rfl (lv_at hl 5 rfl) ?_
  refine lv_iload hx hb dL_law_445 (lv_at hl 1 rfl) ?_
  refine lv_iconst (v := 1) hx hb dL_law_447 (by decide) ?_
  refine lz_iadd (v := 1) hx hb dL_law_448 (by decide) ?_
  refine va_sld hx hb hX hbl hbA hS vi_1 dL_law_449 ?_
  refine lz_top (v := 0) (by rw [cl_1]; exact hx1) ?_
  refine lv_aload_n hx hb dL_law_450 rfl (lv_at hl 5 rfl) ?_
  refine lv_iload hx hb dL_law_451 (lv_at hl 1 rfl) ?_
  refine lv_iconst (v := 2) hx hb dL_law_453 (by decide) ?_
  refine lz_iadd (v := 2) hx hb dL_law_454 (by decide) ?_
  refine va_sld hx hb hX hbl hbA hS vi_2 dL_law_455 ?_
  refine lz_top (v := (nI v)) (by rw [cl_2]; exact hx2) ?_
  refine mu_Va (ci := 5) (q0 := 0) (As := [.int 0, .int (nI v)]) (rest := []) ⟨hx, hb, hml, hown, hts⟩ (c_X5_set0 l D cA _ a 0 f0 (fun _ => 0) (fun _ => 0) (fun _ => 0) 0 v h1 h8 f0_FR (va_P_l hP) (va_D_l hD)) (cwV 2 hts gL_law_X5_set rfl rfl rfl (by decide +kernel) ⟨Nat.le_of_ble_eq_true rfl, Nat.le_of_ble_eq_true rfl⟩) hKN hP hD hS hA rfl rfl ((wMd_fst _ _ _).trans (wMd_fst _ _ _).symm) rfl hl.1 rfl (lv_room (Nat.le_of_ble_eq_true rfl)) dL_law_456 ⟨Nat.le_of_ble_eq_true rfl, Nat.le_of_ble_eq_true rfl⟩ (fun H locs hP hD hS => ?_)
  refine lz_top (v := 6) pm_set0 ?_
  refine lv_istore (lv' := [(6, .int 6), (5, .int 0), (4, .int 0), (3, .ref o9), (2, .ref (a 0)), (1, .ref (Ad 10 0)), (0, .ref b)]) hx hb dL_law_459 hl (by decide) rfl (fun ls hl => ?_)
  refine lv_aload_n hx hb dL_law_461 rfl (lv_at hl 4 rfl) ?_
  refine ro_V (ci := 5) (q0 := 0) (As := []) (rest := []) ⟨hx, hb, hml, hown, hts⟩ (c_X5_thrown l D cA _ a _ (va_P_l hP)) (cwV 0 hts gL_law_X5_thrown rfl rfl rfl (by decide +kernel) ⟨Nat.le_of_ble_eq_true rfl, Nat.le_of_ble_eq_true rfl⟩) hKN hP rfl rfl rfl hl.1 rfl (lv_room (Nat.le_of_ble_eq_true rfl)) dL_law_462 ⟨Nat.le_of_ble_eq_true rfl, Nat.le_of_ble_eq_true rfl⟩ ?_
  refine lz_top (v := 0) rfl ?_
  refine lv_iload hx hb dL_law_465 (lv_at hl 1 rfl) ?_
  refine lv_icmp_eq (tgt := 472) hx hb dL_law_467 (by decide) (fun _ => ?_) (fun h => absurd (by decide) h)
  refine lv_iload hx hb dL_law_472 (lv_at hl 1 rfl) ?_
  refine lv_if_ne (tgt := 489) hx hb dL_law_474 (by decide) (fun h => absurd (by decide) h) (fun _ => ?_)
  refine lv_aload_n hx hb dL_law_477 rfl (lv_at hl 3 rfl) ?_
  refine lv_iconst (v := 0) hx hb dL_law_478 (by decide) ?_
  refine lz_lald (k := 0) (f := (vp_updL (fun _ => 0) 0 (i2lF 6))) hx hb hKN.1 hP 5 3 rfl rfl ⟨by decide, by decide⟩ dL_law_479 ?_
  refine lz_topL (v := (i2lF 6)) rfl ?_
  refine lv_iload hx hb dL_law_480 (lv_at hl 0 rfl) ?_
  refine lv_i2l (v := (i2lF 6)) hx hb dL_law_482 rfl ?_
  refine W.lcmp hx hb dL_law_483 ?_
  refine lz_top (v := 0) (lg_cmp_self _) ?_
  refine lv_if_eq (tgt := 489) hx hb dL_law_484 (by decide) (fun _ => ?_) (fun h => absurd (by decide) h)
  refine lv_goto (tgt := 1723) hx hb dL_law_489 (by decide) ?_
  exact W.widen (k := 2000) (n := 9000) (by decide) (by decide) (K H locs ls hS (lv_sub hl [2, 6] rfl))
set_option maxHeartbeats 4000000 in
set_option maxRecDepth 100000 in
theorem lc_set_v1 {p : Program} {l : Launch} {e : Env} {s : State} {m : MethodId} {below : List Frame} {meth : Method} {c : Code} {b : Nat} {xs : Nat → Int32} {H : Heap} {locs : List Loc} {ls : Array Slot} {Q : State → Prop} {D : va_G} {cA : Nat → ClassId} {Ad : Nat → Nat → Nat} {a : Nat → Nat} {o9 : Nat} {A0 : Nat → Prop} (C : LCtx p l s m c b xs D cA A0) (Wd : LWl D cA Ad a o9 s A0 H locs) (hl : lv_has ls 9 [(4, .int 0), (3, .ref o9), (2, .ref (a 0)), (1, .ref (Ad 10 0)), (0, .ref b)]) (K : LKn p l e s m b below meth c Q A0) (v : Nat) (h8 : v ≤ 1) (hx1 : xs 1 = 1) (hx2 : xs 2 = (nI v)) : W p l e room_1 s m #[Value.ref b] below meth c H locs 1000 5000 Q (F0 m 424 ls []) := by
  obtain ⟨hx, hb, hml, hown, hts, hKN, hKY, hXZ, hX, hbl, hl0, hA, hbA⟩ := C
  obtain ⟨hP, hD, hS⟩ := Wd
  refine lv_aload_n hx hb dL_law_424 rfl (lv_at hl 3 rfl) ?_
  refine lv_aload_n hx hb dL_law_425 rfl (lv_at hl 4 rfl) ?_
  refine lv_iload hx hb dL_law_426 (lv_at hl 0 rfl) ?_
  refine lv_iconst (v := 1) hx hb dL_law_428 (by decide) ?_
  refine lz_iadd (v := 1) hx hb dL_law_429 (by decide) ?_
  refine va_sld hx hb hX hbl hbA hS vi_1 dL_law_430 ?_
  refine lz_top (v := 1) (by rw [cl_1]; exact hx1) ?_
  refine lv_aload_n hx hb dL_law_431 rfl (lv_at hl 4 rfl) ?_
  refine lv_iload hx hb dL_law_432 (lv_at hl 0 rfl) ?_
  refine lv_iconst (v := 2) hx hb dL_law_434 (by decide) ?_
  refine lz_iadd (v := 2) hx hb dL_law_435 (by decide) ?_
  refine va_sld hx hb hX hbl hbA hS vi_2 dL_law_436 ?_
  refine lz_top (v := (nI v)) (by rw [cl_2]; exact hx2) ?_
  refine lv_aload_n hx hb dL_law_437 rfl (lv_at hl 1 rfl) ?_
  refine lh_S (As := [.ref (Ad 10 0), .int 1, .int (nI v), .ref o9]) (rest := []) ⟨hx, hb, hml, hown, hts⟩ (h_set_v1 l hl0 D cA _ Ad o9 v h8 (va_P_l hP) (va_D_l hD)) (vx_cwSW 4 hts gL_law_L_set rfl rfl rfl (by decide +kernel) ⟨Nat.le_of_ble_eq_true rfl, Nat.le_of_ble_eq_true rfl⟩) hKN hKY ((hXZ.kept (fun q h1 h2 => hS.2.1 q h1 h2)).narrow (lc_F hD hS hA)) mem_o9 hP hD hS hA rfl hl.1 rfl (lv_room (Nat.le_of_ble_eq_true rfl)) dL_law_438 ⟨Nat.le_of_ble_eq_true rfl, Nat.le_of_ble_eq_true rfl⟩ (fun H locs hP hD hS => ?_)
  refine lv_istore (lv' := [(5, .int 0), (4, .int 0), (3, .ref o9), (2, .ref (a 0)), (1, .ref (Ad 10 0)), (0, .ref b)]) hx hb dL_law_441 hl (by decide) rfl (fun ls hl => ?_)
  refine lv_aload_n hx hb dL_law_443 rfl (lv_at hl 3 rfl) ?_
  refine lv_aload_n hx hb dL_law_444 rfl (lv_at hl 5 rfl) ?_
  refine lv_iload hx hb dL_law_445 (lv_at hl 1 rfl) ?_
  refine lv_iconst (v := 1) hx hb dL_law_447 (by decide) ?_
  refine lz_iadd (v := 1) hx hb dL_law_448 (by decide) ?_
  refine va_sld hx hb hX hbl hbA hS vi_1 dL_law_449 ?_
  refine lz_top (v := 1) (by rw [cl_1]; exact hx1) ?_
  refine lv_aload_n hx hb dL_law_450 rfl (lv_at hl 5 rfl) ?_
  refine lv_iload hx hb dL_law_451 (lv_at hl 1 rfl) ?_
  refine lv_iconst (v := 2) hx hb dL_law_453 (by decide) ?_
  refine lz_iadd (v := 2) hx hb dL_law_454 (by decide) ?_
  refine va_sld hx hb hX hbl hbA hS vi_2 dL_law_455 ?_
  refine lz_top (v := (nI v)) (by rw [cl_2]; exact hx2) ?_
  refine mu_Va (ci := 5) (q0 := 0) (As := [.int 1, .int (nI v)]) (rest := []) ⟨hx, hb, hml, hown, hts⟩ (c_X5_set1 l D cA _ a 0 f0 (fun _ => 0) (fun _ => 0) (fun _ => 0) 0 v h8 f0_FR (va_P_l hP) (va_D_l hD)) (cwV 2 hts gL_law_X5_set rfl rfl rfl (by decide +kernel) ⟨Nat.le_of_ble_eq_true rfl, Nat.le_of_ble_eq_true rfl⟩) hKN hP hD hS hA rfl rfl ((wMd_fst _ _ _).trans (wMd_fst _ _ _).symm) rfl hl.1 rfl (lv_room (Nat.le_of_ble_eq_true rfl)) dL_law_456 ⟨Nat.le_of_ble_eq_true rfl, Nat.le_of_ble_eq_true rfl⟩ (fun H locs hP hD hS => ?_)
  refine lz_top (v := 0) pm_set1 ?_
  refine lv_istore (lv' := [(6, .int 0), (5, .int 0), (4, .int 0), (3, .ref o9), (2, .ref (a 0)), (1, .ref (Ad 10 0)), (0, .ref b)]) hx hb dL_law_459 hl (by decide) rfl (fun ls hl => ?_)
  refine lv_aload_n hx hb dL_law_461 rfl (lv_at hl 4 rfl) ?_
  refine ro_V (ci := 5) (q0 := 0) (As := []) (rest := []) ⟨hx, hb, hml, hown, hts⟩ (c_X5_thrown l D cA _ a _ (va_P_l hP)) (cwV 0 hts gL_law_X5_thrown rfl rfl rfl (by decide +kernel) ⟨Nat.le_of_ble_eq_true rfl, Nat.le_of_ble_eq_true rfl⟩) hKN hP rfl rfl rfl hl.1 rfl (lv_room (Nat.le_of_ble_eq_true rfl)) dL_law_462 ⟨Nat.le_of_ble_eq_true rfl, Nat.le_of_ble_eq_true rfl⟩ ?_
  refine lz_top (v := 0) rfl ?_
  refine lv_iload hx hb dL_law_465 (lv_at hl 1 rfl) ?_
  refine lv_icmp_eq (tgt := 472) hx hb dL_law_467 (by decide) (fun _ => ?_) (fun h => absurd (by decide) h)
  refine lv_iload hx hb dL_law_472 (lv_at hl 1 rfl) ?_
  refine lv_if_ne (tgt := 489) hx hb dL_law_474 (by decide) (fun h => absurd (by decide) h) (fun _ => ?_)
  refine lv_aload_n hx hb dL_law_477 rfl (lv_at hl 3 rfl) ?_
  refine lv_iconst (v := 0) hx hb dL_law_478 (by decide) ?_
  refine lz_lald (k := 0) (f := (vp_updL (fun _ => 0) 0 (i2lF 0))) hx hb hKN.1 hP 5 3 rfl rfl ⟨by decide, by decide⟩ dL_law_479 ?_
  refine lz_topL (v := (i2lF 0)) rfl ?_
  refine lv_iload hx hb dL_law_480 (lv_at hl 0 rfl) ?_
  refine lv_i2l (v := (i2lF 0)) hx hb dL_law_482 rfl ?_
  refine W.lcmp hx hb dL_law_483 ?_
  refine lz_top (v := 0) (lg_cmp_self _) ?_
  refine lv_if_eq (tgt := 489) hx hb dL_law_484 (by decide) (fun _ => ?_) (fun h => absurd (by decide) h)
  refine lv_goto (tgt := 1723) hx hb dL_law_489 (by decide) ?_
  exact W.widen (k := 2000) (n := 9000) (by decide) (by decide) (K H locs ls hS (lv_sub hl [2, 6] rfl))
set_option maxHeartbeats 4000000 in
set_option maxRecDepth 100000 in
theorem lc_set_x1 {p : Program} {l : Launch} {e : Env} {s : State} {m : MethodId} {below : List Frame} {meth : Method} {c : Code} {b : Nat} {xs : Nat → Int32} {H : Heap} {locs : List Loc} {ls : Array Slot} {Q : State → Prop} {D : va_G} {cA : Nat → ClassId} {Ad : Nat → Nat → Nat} {a : Nat → Nat} {o9 : Nat} {A0 : Nat → Prop} (C : LCtx p l s m c b xs D cA A0) (Wd : LWl D cA Ad a o9 s A0 H locs) (hl : lv_has ls 9 [(4, .int 0), (3, .ref o9), (2, .ref (a 0)), (1, .ref (Ad 10 0)), (0, .ref b)]) (K : LKn p l e s m b below meth c Q A0) (y : Int32) (x : Int32) (hx0 : inF x 0 1 = 0) (hx1 : xs 1 = x) (hx2 : xs 2 = y) : W p l e room_1 s m #[Value.ref b] below meth c H locs 1000 5000 Q (F0 m 424 ls []) := by
  obtain ⟨hx, hb, hml, hown, hts, hKN, hKY, hXZ, hX, hbl, hl0, hA, hbA⟩ := C
  obtain ⟨hP, hD, hS⟩ := Wd
  refine lv_aload_n hx hb dL_law_424 rfl (lv_at hl 3 rfl) ?_
  refine lv_aload_n hx hb dL_law_425 rfl (lv_at hl 4 rfl) ?_
  refine lv_iload hx hb dL_law_426 (lv_at hl 0 rfl) ?_
  refine lv_iconst (v := 1) hx hb dL_law_428 (by decide) ?_
  refine lz_iadd (v := 1) hx hb dL_law_429 (by decide) ?_
  refine va_sld hx hb hX hbl hbA hS vi_1 dL_law_430 ?_
  refine lz_top (v := x) (by rw [cl_1]; exact hx1) ?_
  refine lv_aload_n hx hb dL_law_431 rfl (lv_at hl 4 rfl) ?_
  refine lv_iload hx hb dL_law_432 (lv_at hl 0 rfl) ?_
  refine lv_iconst (v := 2) hx hb dL_law_434 (by decide) ?_
  refine lz_iadd (v := 2) hx hb dL_law_435 (by decide) ?_
  refine va_sld hx hb hX hbl hbA hS vi_2 dL_law_436 ?_
  refine lz_top (v := y) (by rw [cl_2]; exact hx2) ?_
  refine lv_aload_n hx hb dL_law_437 rfl (lv_at hl 1 rfl) ?_
  refine lh_S (As := [.ref (Ad 10 0), .int x, .int y, .ref o9]) (rest := []) ⟨hx, hb, hml, hown, hts⟩ (h_set_x1 l hl0 D cA _ Ad o9 y x hx0 (va_P_l hP) (va_D_l hD)) (vx_cwSW 4 hts gL_law_L_set rfl rfl rfl (by decide +kernel) ⟨Nat.le_of_ble_eq_true rfl, Nat.le_of_ble_eq_true rfl⟩) hKN hKY ((hXZ.kept (fun q h1 h2 => hS.2.1 q h1 h2)).narrow (lc_F hD hS hA)) mem_o9 hP hD hS hA rfl hl.1 rfl (lv_room (Nat.le_of_ble_eq_true rfl)) dL_law_438 ⟨Nat.le_of_ble_eq_true rfl, Nat.le_of_ble_eq_true rfl⟩ (fun H locs hP hD hS => ?_)
  refine lv_istore (lv' := [(5, .int 1), (4, .int 0), (3, .ref o9), (2, .ref (a 0)), (1, .ref (Ad 10 0)), (0, .ref b)]) hx hb dL_law_441 hl (by decide) rfl (fun ls hl => ?_)
  refine lv_aload_n hx hb dL_law_443 rfl (lv_at hl 3 rfl) ?_
  refine lv_aload_n hx hb dL_law_444 rfl (lv_at hl 5 rfl) ?_
  refine lv_iload hx hb dL_law_445 (lv_at hl 1 rfl) ?_
  refine lv_iconst (v := 1) hx hb dL_law_447 (by decide) ?_
  refine lz_iadd (v := 1) hx hb dL_law_448 (by decide) ?_
  refine va_sld hx hb hX hbl hbA hS vi_1 dL_law_449 ?_
  refine lz_top (v := x) (by rw [cl_1]; exact hx1) ?_
  refine lv_aload_n hx hb dL_law_450 rfl (lv_at hl 5 rfl) ?_
  refine lv_iload hx hb dL_law_451 (lv_at hl 1 rfl) ?_
  refine lv_iconst (v := 2) hx hb dL_law_453 (by decide) ?_
  refine lz_iadd (v := 2) hx hb dL_law_454 (by decide) ?_
  refine va_sld hx hb hX hbl hbA hS vi_2 dL_law_455 ?_
  refine lz_top (v := y) (by rw [cl_2]; exact hx2) ?_
  refine mu_Va (ci := 5) (q0 := 0) (As := [.int x, .int y]) (rest := []) ⟨hx, hb, hml, hown, hts⟩ (n_set1 l D cA _ a 0 f0 (fun _ => 0) (fun _ => 0) (fun _ => 0) 0 y x hx0 (va_P_l hP) (va_D_l hD)) (cwV 2 hts gL_law_X5_set rfl rfl rfl (by decide +kernel) ⟨Nat.le_of_ble_eq_true rfl, Nat.le_of_ble_eq_true rfl⟩) hKN hP hD hS hA rfl rfl ((wMd_fst _ _ _).trans (wMd_fst _ _ _).symm) rfl hl.1 rfl (lv_room (Nat.le_of_ble_eq_true rfl)) dL_law_456 ⟨Nat.le_of_ble_eq_true rfl, Nat.le_of_ble_eq_true rfl⟩ (fun H locs hP hD hS => ?_)
  refine lz_top (v := 0) rfl ?_
  refine lv_istore (lv' := [(6, .int 0), (5, .int 1), (4, .int 0), (3, .ref o9), (2, .ref (a 0)), (1, .ref (Ad 10 0)), (0, .ref b)]) hx hb dL_law_459 hl (by decide) rfl (fun ls hl => ?_)
  refine lv_aload_n hx hb dL_law_461 rfl (lv_at hl 4 rfl) ?_
  refine ro_V (ci := 5) (q0 := 0) (As := []) (rest := []) ⟨hx, hb, hml, hown, hts⟩ (c_X5_thrown l D cA _ a _ (va_P_l hP)) (cwV 0 hts gL_law_X5_thrown rfl rfl rfl (by decide +kernel) ⟨Nat.le_of_ble_eq_true rfl, Nat.le_of_ble_eq_true rfl⟩) hKN hP rfl rfl rfl hl.1 rfl (lv_room (Nat.le_of_ble_eq_true rfl)) dL_law_462 ⟨Nat.le_of_ble_eq_true rfl, Nat.le_of_ble_eq_true rfl⟩ ?_
  refine lz_top (v := 1) rfl ?_
  refine lv_iload hx hb dL_law_465 (lv_at hl 1 rfl) ?_
  refine lv_icmp_eq (tgt := 472) hx hb dL_law_467 (by decide) (fun _ => ?_) (fun h => absurd (by decide) h)
  refine lv_iload hx hb dL_law_472 (lv_at hl 1 rfl) ?_
  refine lv_if_ne (tgt := 489) hx hb dL_law_474 (by decide) (fun _ => ?_) (fun h => absurd h (by decide))
  refine lv_goto (tgt := 1723) hx hb dL_law_489 (by decide) ?_
  exact W.widen (k := 2000) (n := 9000) (by decide) (by decide) (K H locs ls hS (lv_sub hl [2, 6] rfl))
set_option maxHeartbeats 4000000 in
set_option maxRecDepth 100000 in
theorem lc_set_x2 {p : Program} {l : Launch} {e : Env} {s : State} {m : MethodId} {below : List Frame} {meth : Method} {c : Code} {b : Nat} {xs : Nat → Int32} {H : Heap} {locs : List Loc} {ls : Array Slot} {Q : State → Prop} {D : va_G} {cA : Nat → ClassId} {Ad : Nat → Nat → Nat} {a : Nat → Nat} {o9 : Nat} {A0 : Nat → Prop} (C : LCtx p l s m c b xs D cA A0) (Wd : LWl D cA Ad a o9 s A0 H locs) (hl : lv_has ls 9 [(4, .int 0), (3, .ref o9), (2, .ref (a 0)), (1, .ref (Ad 10 0)), (0, .ref b)]) (K : LKn p l e s m b below meth c Q A0) (x : Int32) (hx0 : inF x 1 8 = 0) (hx1 : xs 1 = 0) (hx2 : xs 2 = x) : W p l e room_1 s m #[Value.ref b] below meth c H locs 1000 5000 Q (F0 m 424 ls []) := by
  obtain ⟨hx, hb, hml, hown, hts, hKN, hKY, hXZ, hX, hbl, hl0, hA, hbA⟩ := C
  obtain ⟨hP, hD, hS⟩ := Wd
  refine lv_aload_n hx hb dL_law_424 rfl (lv_at hl 3 rfl) ?_
  refine lv_aload_n hx hb dL_law_425 rfl (lv_at hl 4 rfl) ?_
  refine lv_iload hx hb dL_law_426 (lv_at hl 0 rfl) ?_
  refine lv_iconst (v := 1) hx hb dL_law_428 (by decide) ?_
  refine lz_iadd (v := 1) hx hb dL_law_429 (by decide) ?_
  refine va_sld hx hb hX hbl hbA hS vi_1 dL_law_430 ?_
  refine lz_top (v := 0) (by rw [cl_1]; exact hx1) ?_
  refine lv_aload_n hx hb dL_law_431 rfl (lv_at hl 4 rfl) ?_
  refine lv_iload hx hb dL_law_432 (lv_at hl 0 rfl) ?_
  refine lv_iconst (v := 2) hx hb dL_law_434 (by decide) ?_
  refine lz_iadd (v := 2) hx hb dL_law_435 (by decide) ?_
  refine va_sld hx hb hX hbl hbA hS vi_2 dL_law_436 ?_
  refine lz_top (v := x) (by rw [cl_2]; exact hx2) ?_
  refine lv_aload_n hx hb dL_law_437 rfl (lv_at hl 1 rfl) ?_
  refine lh_S (As := [.ref (Ad 10 0), .int 0, .int x, .ref o9]) (rest := []) ⟨hx, hb, hml, hown, hts⟩ (h_set_x2 l hl0 D cA _ Ad o9 x hx0 (va_P_l hP) (va_D_l hD)) (vx_cwSW 4 hts gL_law_L_set rfl rfl rfl (by decide +kernel) ⟨Nat.le_of_ble_eq_true rfl, Nat.le_of_ble_eq_true rfl⟩) hKN hKY ((hXZ.kept (fun q h1 h2 => hS.2.1 q h1 h2)).narrow (lc_F hD hS hA)) mem_o9 hP hD hS hA rfl hl.1 rfl (lv_room (Nat.le_of_ble_eq_true rfl)) dL_law_438 ⟨Nat.le_of_ble_eq_true rfl, Nat.le_of_ble_eq_true rfl⟩ (fun H locs hP hD hS => ?_)
  refine lv_istore (lv' := [(5, .int 2), (4, .int 0), (3, .ref o9), (2, .ref (a 0)), (1, .ref (Ad 10 0)), (0, .ref b)]) hx hb dL_law_441 hl (by decide) rfl (fun ls hl => ?_)
  refine lv_aload_n hx hb dL_law_443 rfl (lv_at hl 3 rfl) ?_
  refine lv_aload_n hx hb dL_law_444 rfl (lv_at hl 5 rfl) ?_
  refine lv_iload hx hb dL_law_445 (lv_at hl 1 rfl) ?_
  refine lv_iconst (v := 1) hx hb dL_law_447 (by decide) ?_
  refine lz_iadd (v := 1) hx hb dL_law_448 (by decide) ?_
  refine va_sld hx hb hX hbl hbA hS vi_1 dL_law_449 ?_
  refine lz_top (v := 0) (by rw [cl_1]; exact hx1) ?_
  refine lv_aload_n hx hb dL_law_450 rfl (lv_at hl 5 rfl) ?_
  refine lv_iload hx hb dL_law_451 (lv_at hl 1 rfl) ?_
  refine lv_iconst (v := 2) hx hb dL_law_453 (by decide) ?_
  refine lz_iadd (v := 2) hx hb dL_law_454 (by decide) ?_
  refine va_sld hx hb hX hbl hbA hS vi_2 dL_law_455 ?_
  refine lz_top (v := x) (by rw [cl_2]; exact hx2) ?_
  refine mu_Va (ci := 5) (q0 := 0) (As := [.int 0, .int x]) (rest := []) ⟨hx, hb, hml, hown, hts⟩ (n_set2 l D cA _ a 0 f0 (fun _ => 0) (fun _ => 0) (fun _ => 0) 0 x hx0 (va_P_l hP) (va_D_l hD)) (cwV 2 hts gL_law_X5_set rfl rfl rfl (by decide +kernel) ⟨Nat.le_of_ble_eq_true rfl, Nat.le_of_ble_eq_true rfl⟩) hKN hP hD hS hA rfl rfl ((wMd_fst _ _ _).trans (wMd_fst _ _ _).symm) rfl hl.1 rfl (lv_room (Nat.le_of_ble_eq_true rfl)) dL_law_456 ⟨Nat.le_of_ble_eq_true rfl, Nat.le_of_ble_eq_true rfl⟩ (fun H locs hP hD hS => ?_)
  refine lz_top (v := 0) rfl ?_
  refine lv_istore (lv' := [(6, .int 0), (5, .int 2), (4, .int 0), (3, .ref o9), (2, .ref (a 0)), (1, .ref (Ad 10 0)), (0, .ref b)]) hx hb dL_law_459 hl (by decide) rfl (fun ls hl => ?_)
  refine lv_aload_n hx hb dL_law_461 rfl (lv_at hl 4 rfl) ?_
  refine ro_V (ci := 5) (q0 := 0) (As := []) (rest := []) ⟨hx, hb, hml, hown, hts⟩ (c_X5_thrown l D cA _ a _ (va_P_l hP)) (cwV 0 hts gL_law_X5_thrown rfl rfl rfl (by decide +kernel) ⟨Nat.le_of_ble_eq_true rfl, Nat.le_of_ble_eq_true rfl⟩) hKN hP rfl rfl rfl hl.1 rfl (lv_room (Nat.le_of_ble_eq_true rfl)) dL_law_462 ⟨Nat.le_of_ble_eq_true rfl, Nat.le_of_ble_eq_true rfl⟩ ?_
  refine lz_top (v := 2) rfl ?_
  refine lv_iload hx hb dL_law_465 (lv_at hl 1 rfl) ?_
  refine lv_icmp_eq (tgt := 472) hx hb dL_law_467 (by decide) (fun _ => ?_) (fun h => absurd (by decide) h)
  refine lv_iload hx hb dL_law_472 (lv_at hl 1 rfl) ?_
  refine lv_if_ne (tgt := 489) hx hb dL_law_474 (by decide) (fun _ => ?_) (fun h => absurd h (by decide))
  refine lv_goto (tgt := 1723) hx hb dL_law_489 (by decide) ?_
  exact W.widen (k := 2000) (n := 9000) (by decide) (by decide) (K H locs ls hS (lv_sub hl [2, 6] rfl))
set_option maxHeartbeats 4000000 in
set_option maxRecDepth 100000 in
theorem lc_set_x3 {p : Program} {l : Launch} {e : Env} {s : State} {m : MethodId} {below : List Frame} {meth : Method} {c : Code} {b : Nat} {xs : Nat → Int32} {H : Heap} {locs : List Loc} {ls : Array Slot} {Q : State → Prop} {D : va_G} {cA : Nat → ClassId} {Ad : Nat → Nat → Nat} {a : Nat → Nat} {o9 : Nat} {A0 : Nat → Prop} (C : LCtx p l s m c b xs D cA A0) (Wd : LWl D cA Ad a o9 s A0 H locs) (hl : lv_has ls 9 [(4, .int 0), (3, .ref o9), (2, .ref (a 0)), (1, .ref (Ad 10 0)), (0, .ref b)]) (K : LKn p l e s m b below meth c Q A0) (x : Int32) (hx0 : inF x 0 1 = 0) (hx1 : xs 1 = 1) (hx2 : xs 2 = x) : W p l e room_1 s m #[Value.ref b] below meth c H locs 1000 5000 Q (F0 m 424 ls []) := by
  obtain ⟨hx, hb, hml, hown, hts, hKN, hKY, hXZ, hX, hbl, hl0, hA, hbA⟩ := C
  obtain ⟨hP, hD, hS⟩ := Wd
  refine lv_aload_n hx hb dL_law_424 rfl (lv_at hl 3 rfl) ?_
  refine lv_aload_n hx hb dL_law_425 rfl (lv_at hl 4 rfl) ?_
  refine lv_iload hx hb dL_law_426 (lv_at hl 0 rfl) ?_
  refine lv_iconst (v := 1) hx hb dL_law_428 (by decide) ?_
  refine lz_iadd (v := 1) hx hb dL_law_429 (by decide) ?_
  refine va_sld hx hb hX hbl hbA hS vi_1 dL_law_430 ?_
  refine lz_top (v := 1) (by rw [cl_1]; exact hx1) ?_
  refine lv_aload_n hx hb dL_law_431 rfl (lv_at hl 4 rfl) ?_
  refine lv_iload hx hb dL_law_432 (lv_at hl 0 rfl) ?_
  refine lv_iconst (v := 2) hx hb dL_law_434 (by decide) ?_
  refine lz_iadd (v := 2) hx hb dL_law_435 (by decide) ?_
  refine va_sld hx hb hX hbl hbA hS vi_2 dL_law_436 ?_
  refine lz_top (v := x) (by rw [cl_2]; exact hx2) ?_
  refine lv_aload_n hx hb dL_law_437 rfl (lv_at hl 1 rfl) ?_
  refine lh_S (As := [.ref (Ad 10 0), .int 1, .int x, .ref o9]) (rest := []) ⟨hx, hb, hml, hown, hts⟩ (h_set_x3 l hl0 D cA _ Ad o9 x hx0 (va_P_l hP) (va_D_l hD)) (vx_cwSW 4 hts gL_law_L_set rfl rfl rfl (by decide +kernel) ⟨Nat.le_of_ble_eq_true rfl, Nat.le_of_ble_eq_true rfl⟩) hKN hKY ((hXZ.kept (fun q h1 h2 => hS.2.1 q h1 h2)).narrow (lc_F hD hS hA)) mem_o9 hP hD hS hA rfl hl.1 rfl (lv_room (Nat.le_of_ble_eq_true rfl)) dL_law_438 ⟨Nat.le_of_ble_eq_true rfl, Nat.le_of_ble_eq_true rfl⟩ (fun H locs hP hD hS => ?_)
  refine lv_istore (lv' := [(5, .int 2), (4, .int 0), (3, .ref o9), (2, .ref (a 0)), (1, .ref (Ad 10 0)), (0, .ref b)]) hx hb dL_law_441 hl (by decide) rfl (fun ls hl => ?_)
  refine lv_aload_n hx hb dL_law_443 rfl (lv_at hl 3 rfl) ?_
  refine lv_aload_n hx hb dL_law_444 rfl (lv_at hl 5 rfl) ?_
  refine lv_iload hx hb dL_law_445 (lv_at hl 1 rfl) ?_
  refine lv_iconst (v := 1) hx hb dL_law_447 (by decide) ?_
  refine lz_iadd (v := 1) hx hb dL_law_448 (by decide) ?_
  refine va_sld hx hb hX hbl hbA hS vi_1 dL_law_449 ?_
  refine lz_top (v := 1) (by rw [cl_1]; exact hx1) ?_
  refine lv_aload_n hx hb dL_law_450 rfl (lv_at hl 5 rfl) ?_
  refine lv_iload hx hb dL_law_451 (lv_at hl 1 rfl) ?_
  refine lv_iconst (v := 2) hx hb dL_law_453 (by decide) ?_
  refine lz_iadd (v := 2) hx hb dL_law_454 (by decide) ?_
  refine va_sld hx hb hX hbl hbA hS vi_2 dL_law_455 ?_
  refine lz_top (v := x) (by rw [cl_2]; exact hx2) ?_
  refine mu_Va (ci := 5) (q0 := 0) (As := [.int 1, .int x]) (rest := []) ⟨hx, hb, hml, hown, hts⟩ (n_set3 l D cA _ a 0 f0 (fun _ => 0) (fun _ => 0) (fun _ => 0) 0 x hx0 (va_P_l hP) (va_D_l hD)) (cwV 2 hts gL_law_X5_set rfl rfl rfl (by decide +kernel) ⟨Nat.le_of_ble_eq_true rfl, Nat.le_of_ble_eq_true rfl⟩) hKN hP hD hS hA rfl rfl ((wMd_fst _ _ _).trans (wMd_fst _ _ _).symm) rfl hl.1 rfl (lv_room (Nat.le_of_ble_eq_true rfl)) dL_law_456 ⟨Nat.le_of_ble_eq_true rfl, Nat.le_of_ble_eq_true rfl⟩ (fun H locs hP hD hS => ?_)
  refine lz_top (v := 0) rfl ?_
  refine lv_istore (lv' := [(6, .int 0), (5, .int 2), (4, .int 0), (3, .ref o9), (2, .ref (a 0)), (1, .ref (Ad 10 0)), (0, .ref b)]) hx hb dL_law_459 hl (by decide) rfl (fun ls hl => ?_)
  refine lv_aload_n hx hb dL_law_461 rfl (lv_at hl 4 rfl) ?_
  refine ro_V (ci := 5) (q0 := 0) (As := []) (rest := []) ⟨hx, hb, hml, hown, hts⟩ (c_X5_thrown l D cA _ a _ (va_P_l hP)) (cwV 0 hts gL_law_X5_thrown rfl rfl rfl (by decide +kernel) ⟨Nat.le_of_ble_eq_true rfl, Nat.le_of_ble_eq_true rfl⟩) hKN hP rfl rfl rfl hl.1 rfl (lv_room (Nat.le_of_ble_eq_true rfl)) dL_law_462 ⟨Nat.le_of_ble_eq_true rfl, Nat.le_of_ble_eq_true rfl⟩ ?_
  refine lz_top (v := 2) rfl ?_
  refine lv_iload hx hb dL_law_465 (lv_at hl 1 rfl) ?_
  refine lv_icmp_eq (tgt := 472) hx hb dL_law_467 (by decide) (fun _ => ?_) (fun h => absurd (by decide) h)
  refine lv_iload hx hb dL_law_472 (lv_at hl 1 rfl) ?_
  refine lv_if_ne (tgt := 489) hx hb dL_law_474 (by decide) (fun _ => ?_) (fun h => absurd h (by decide))
  refine lv_goto (tgt := 1723) hx hb dL_law_489 (by decide) ?_
  exact W.widen (k := 2000) (n := 9000) (by decide) (by decide) (K H locs ls hS (lv_sub hl [2, 6] rfl))
set_option maxHeartbeats 4000000 in
set_option maxRecDepth 100000 in
theorem lc_read_v {p : Program} {l : Launch} {e : Env} {s : State} {m : MethodId} {below : List Frame} {meth : Method} {c : Code} {b : Nat} {xs : Nat → Int32} {H : Heap} {locs : List Loc} {ls : Array Slot} {Q : State → Prop} {D : va_G} {cA : Nat → ClassId} {Ad : Nat → Nat → Nat} {a : Nat → Nat} {o9 : Nat} {A0 : Nat → Prop} (C : LCtx p l s m c b xs D cA A0) (Wd : LWl D cA Ad a o9 s A0 H locs) (hl : lv_has ls 9 [(4, .int 0), (3, .ref o9), (2, .ref (a 0)), (1, .ref (Ad 10 0)), (0, .ref b)]) (K : LKn p l e s m b below meth c Q A0) (t : Nat) (ht : t < 16) (hx1 : xs 1 = (nI t)) : W p l e room_1 s m #[Value.ref b] below meth c H locs 1000 5000 Q (F0 m 492 ls []) := by
  obtain ⟨hx, hb, hml, hown, hts, hKN, hKY, hXZ, hX, hbl, hl0, hA, hbA⟩ := C
  obtain ⟨hP, hD, hS⟩ := Wd
  refine lv_aload_n hx hb dL_law_492 rfl (lv_at hl 3 rfl) ?_
  refine lv_aload_n hx hb dL_law_493 rfl (lv_at hl 4 rfl) ?_
  refine lv_iload hx hb dL_law_494 (lv_at hl 0 rfl) ?_
  refine lv_iconst (v := 1) hx hb dL_law_496 (by decide) ?_
  refine lz_iadd (v := 1) hx hb dL_law_497 (by decide) ?_
  refine va_sld hx hb hX hbl hbA hS vi_1 dL_law_498 ?_
  refine lz_top (v := (nI t)) (by rw [cl_1]; exact hx1) ?_
  refine lv_aload_n hx hb dL_law_499 rfl (lv_at hl 1 rfl) ?_
  refine lh_S (As := [.ref (Ad 10 0), .int (nI t), .ref o9]) (rest := []) ⟨hx, hb, hml, hown, hts⟩ (h_read_v l hl0 D cA _ Ad o9 t ht (va_P_l hP) (va_D_l hD)) (vx_cwSW 3 hts gL_law_L_read rfl rfl rfl (by decide +kernel) ⟨Nat.le_of_ble_eq_true rfl, Nat.le_of_ble_eq_true rfl⟩) hKN hKY ((hXZ.kept (fun q h1 h2 => hS.2.1 q h1 h2)).narrow (lc_F hD hS hA)) mem_o9 hP hD hS hA rfl hl.1 rfl (lv_room (Nat.le_of_ble_eq_true rfl)) dL_law_500 ⟨Nat.le_of_ble_eq_true rfl, Nat.le_of_ble_eq_true rfl⟩ (fun H locs hP hD hS => ?_)
  refine lv_istore (lv' := [(5, .int 0), (4, .int 0), (3, .ref o9), (2, .ref (a 0)), (1, .ref (Ad 10 0)), (0, .ref b)]) hx hb dL_law_503 hl (by decide) rfl (fun ls hl => ?_)
  refine lv_aload_n hx hb dL_law_505 rfl (lv_at hl 3 rfl) ?_
  refine lv_aload_n hx hb dL_law_506 rfl (lv_at hl 5 rfl) ?_
  refine lv_iload hx hb dL_law_507 (lv_at hl 1 rfl) ?_
  refine lv_iconst (v := 1) hx hb dL_law_509 (by decide) ?_
  refine lz_iadd (v := 1) hx hb dL_law_510 (by decide) ?_
  refine va_sld hx hb hX hbl hbA hS vi_1 dL_law_511 ?_
  refine lz_top (v := (nI t)) (by rw [cl_1]; exact hx1) ?_
  refine mu_Va (ci := 5) (q0 := 0) (As := [.int (nI t)]) (rest := []) ⟨hx, hb, hml, hown, hts⟩ (c_X5_read l D cA _ a 0 f0 (fun _ => 0) (fun _ => 0) (fun _ => 0) 0 t ht f0_FR (va_P_l hP) (va_D_l hD)) (cwV 1 hts gL_law_X5_read rfl rfl rfl (by decide +kernel) ⟨Nat.le_of_ble_eq_true rfl, Nat.le_of_ble_eq_true rfl⟩) hKN hP hD hS hA rfl rfl ((wMd_fst _ _ _).trans (wMd_fst _ _ _).symm) rfl hl.1 rfl (lv_room (Nat.le_of_ble_eq_true rfl)) dL_law_512 ⟨Nat.le_of_ble_eq_true rfl, Nat.le_of_ble_eq_true rfl⟩ (fun H locs hP hD hS => ?_)
  refine lz_top (v := 0) rfl ?_
  refine lv_istore (lv' := [(6, .int 0), (5, .int 0), (4, .int 0), (3, .ref o9), (2, .ref (a 0)), (1, .ref (Ad 10 0)), (0, .ref b)]) hx hb dL_law_515 hl (by decide) rfl (fun ls hl => ?_)
  refine lv_aload_n hx hb dL_law_517 rfl (lv_at hl 4 rfl) ?_
  refine ro_V (ci := 5) (q0 := 0) (As := []) (rest := []) ⟨hx, hb, hml, hown, hts⟩ (c_X5_thrown l D cA _ a _ (va_P_l hP)) (cwV 0 hts gL_law_X5_thrown rfl rfl rfl (by decide +kernel) ⟨Nat.le_of_ble_eq_true rfl, Nat.le_of_ble_eq_true rfl⟩) hKN hP rfl rfl rfl hl.1 rfl (lv_room (Nat.le_of_ble_eq_true rfl)) dL_law_518 ⟨Nat.le_of_ble_eq_true rfl, Nat.le_of_ble_eq_true rfl⟩ ?_
  refine lz_top (v := 0) rfl ?_
  refine lv_iload hx hb dL_law_521 (lv_at hl 1 rfl) ?_
  refine lv_icmp_eq (tgt := 528) hx hb dL_law_523 (by decide) (fun _ => ?_) (fun h => absurd (by decide) h)
  refine lv_iload hx hb dL_law_528 (lv_at hl 1 rfl) ?_
  refine lv_if_ne (tgt := 545) hx hb dL_law_530 (by decide) (fun h => absurd (by decide) h) (fun _ => ?_)
  refine lv_aload_n hx hb dL_law_533 rfl (lv_at hl 3 rfl) ?_
  refine lv_iconst (v := 0) hx hb dL_law_534 (by decide) ?_
  refine lz_lald (k := 0) (f := (vp_updL (fun _ => 0) 0 (i2lF 0))) hx hb hKN.1 hP 5 3 rfl rfl ⟨by decide, by decide⟩ dL_law_535 ?_
  refine lz_topL (v := (i2lF 0)) rfl ?_
  refine lv_iload hx hb dL_law_536 (lv_at hl 0 rfl) ?_
  refine lv_i2l (v := (i2lF 0)) hx hb dL_law_538 rfl ?_
  refine W.lcmp hx hb dL_law_539 ?_
  refine lz_top (v := 0) (lg_cmp_self _) ?_
  refine lv_if_eq (tgt := 545) hx hb dL_law_540 (by decide) (fun _ => ?_) (fun h => absurd (by decide) h)
  refine lv_goto (tgt := 1723) hx hb dL_law_545 (by decide) ?_
  exact W.widen (k := 2000) (n := 9000) (by decide) (by decide) (K H locs ls hS (lv_sub hl [2, 6] rfl))
