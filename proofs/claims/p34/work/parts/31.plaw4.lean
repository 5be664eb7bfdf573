-- the law's act
theorem act_0 {u s2 : SV} {x y : Int32} (h : upN x 16 < 3) : actP u s2 x y = (bitF (u.1 (upN y 16) ^^^ ((1 : Int32) <<< (nI (upN (y >>> (4 &&& 31)) 8) &&& 31))) (nI (upN (y >>> (4 &&& 31)) 8)), layS u (upN y 16) (u.1 (upN y 16) ^^^ ((1 : Int32) <<< (nI (upN (y >>> (4 &&& 31)) 8) &&& 31)))) := by unfold actP; rw [if_pos h]
theorem act_3 {u s2 : SV} {x y : Int32} (h : 3 ≤ upN x 16 ∧ upN x 16 < 6) : actP u s2 x y = (bcF (u.1 (upN y 16) ^^^ wordF u.2.2.2.1 (nI (upN (y >>> (4 &&& 31)) 256))), layS u (upN y 16) (wordF u.2.2.2.1 (nI (upN (y >>> (4 &&& 31)) 256)))) := by unfold actP; rw [if_neg (by omega), if_pos h.2]
theorem act_6 {u s2 : SV} {x y : Int32} (h : 6 ≤ upN x 16 ∧ upN x 16 < 8) : actP u s2 x y = (bitF (u.2.2.2.2.1 ^^^ ((1 : Int32) <<< (nI (upN y 16) &&& 31))) (nI (upN y 16)), setGd u (u.2.2.2.2.1 ^^^ ((1 : Int32) <<< (nI (upN y 16) &&& 31)))) := by unfold actP; rw [if_neg (by omega), if_neg (by omega), if_pos h.2]
theorem act_8 {u s2 : SV} {x y : Int32} (h : upN x 16 = 8) : actP u s2 x y = (u.2.2.2.1 0, (u.1, u.2.1, u.2.2.1, upd u.2.2.2.1 0 (nI (1 + upN y 8)), u.2.2.2.2)) := by unfold actP; rw [if_neg (by omega), if_neg (by omega), if_neg (by omega), if_pos h]
theorem act_9 {u s2 : SV} {x y : Int32} (h : upN x 16 = 9) : actP u s2 x y = (u.2.2.2.1 1, (u.1, u.2.1, u.2.2.1, upd u.2.2.2.1 1 (nI (y.toBitVec.toNat % 2 ^ 1)), u.2.2.2.2)) := by unfold actP; rw [if_neg (by omega), if_neg (by omega), if_neg (by omega), if_neg (by omega), if_pos h]
theorem act_10a {u s2 : SV} {x y : Int32} (h : upN x 16 = 10) (c : y &&& 3 = 0) : actP u s2 x y = (bcF (thrS u (nI (upN (y >>> (4 &&& 31)) 8))), renewS u (upN (y >>> (4 &&& 31)) 8)) := by unfold actP; rw [if_neg (by omega), if_neg (by omega), if_neg (by omega), if_neg (by omega), if_neg (by omega), if_pos h, if_pos c]
theorem act_10b {u s2 : SV} {x y : Int32} (h : upN x 16 = 10) (c : ¬ y &&& 3 = 0) : actP u s2 x y = (tellsS u (upN y 16), readS u (upN y 16)) := by unfold actP; rw [if_neg (by omega), if_neg (by omega), if_neg (by omega), if_neg (by omega), if_neg (by omega), if_pos h, if_neg c]
theorem act_11a {u s2 : SV} {x y : Int32} (h : upN x 16 = 11) (c : y &&& 7 = 0) : actP u s2 x y = (u.2.2.2.2.2.2.2.2.2.2.2.2.1, setMc u beginM) := by unfold actP; rw [if_neg (by omega), if_neg (by omega), if_neg (by omega), if_neg (by omega), if_neg (by omega), if_neg (by omega), if_pos h, if_pos c]
theorem act_11b {u s2 : SV} {x y : Int32} (h : upN x 16 = 11) (c : ¬ y &&& 7 = 0) : actP u s2 x y = (nI (runS (1 + upN y 9) u).1, (runS (1 + upN y 9) u).2) := by unfold actP; rw [if_neg (by omega), if_neg (by omega), if_neg (by omega), if_neg (by omega), if_neg (by omega), if_neg (by omega), if_pos h, if_neg c]
theorem act_12 {u s2 : SV} {x y : Int32} (h : upN x 16 = 12) : actP u s2 x y = (cbtT s2 16, s2) := by unfold actP; rw [if_neg (by omega), if_neg (by omega), if_neg (by omega), if_neg (by omega), if_neg (by omega), if_neg (by omega), if_neg (by omega), if_pos h]
theorem act_13 {u s2 : SV} {x y : Int32} (h : 13 ≤ upN x 16) : actP u s2 x y = (tellsS u (upN y 16), readS u (upN y 16)) := by unfold actP; rw [if_neg (by omega), if_neg (by omega), if_neg (by omega), if_neg (by omega), if_neg (by omega), if_neg (by omega), if_neg (by omega), if_neg (by omega)]
set_option maxHeartbeats 4000000 in
set_option maxRecDepth 100000 in
theorem c_L_act (l : Launch) (D : va_G) (cA : Nat → ClassId) (H : Heap) (Ad : Nat → Nat → Nat) (f : Nat → SV) (o z : Nat) (tx : TV) (rt : (Nat → Int32) × (Nat → Int32)) (ho : o < 6) (hz6 : z ≤ 6) (K : Nat) (hG : GD K (f 0)) (hG2 : GD K (f 2)) (hk : rt.1 0 = 1) (x y : Int32) (hP0 : va_P D vwCl (all cA Ad (f, ((nI o), (nI z)), tx, rt)) H) (hD0 : va_D (fun _ => True) (all cA Ad (f, ((nI o), (nI z)), tx, rt))) : MU l yL_act wsL_act ({ frames := 7, cells := 0, slots := 0, locals := 160 } : Room) D cA [.ref (Ad 10 0), .int x, .int y] H (all cA Ad (f, ((nI o), (nI z)), tx, rt)) (all cA Ad (upS (pushF f ((o + z) % 6)) 0 ((actP (f 0) (f 2) x y).2), (nI (if z < 6 then o else (o + 1) % 6), nI (if z < 6 then z + 1 else z)), tx, rt)) (some (.int ((actP (f 0) (f 2) x y).1))) := by
  refine Met.ofW (cc := cL_act) (maxL := 4) (ret := (some .int)) (by decide) rfl ?_
  intro p e s m args below meth c s₁ B hml hv
  obtain ⟨rfl, hH, hKN⟩ := hv
  have hK := hKN.1
  have hx := B.exec
  have hb := B.bytes
  have hr := B.returns
  have hts := atoms_spec (ws := wsL_act) B.pre
  have hown : s.vm.findClass RL = some m.cls := findClass_of_methodNamed B.named
  have hlocks := B.notSynchronized
  subst hH
  have hWD := hD0.self (sz := s.heap.size)
  generalize hAe : va_A (all cA Ad (f, ((nI o), (nI z)), tx, rt)) s.heap.size = A at hWD ⊢
  have hA : ∀ q : Nat, s.heap.size ≤ q → A q := fun q h => by rw [← hAe]; exact Or.inr h
  have hS : va_S A s.heap s.heap [] := va_S.rf
  have hWP : va_P D vwCl (all cA Ad (f, ((nI o), (nI z)), tx, rt)) s.heap := hP0
  have hl := lv_entry ([.ref (Ad 10 0), .int x, .int y] : List Value) (n := 4) (Nat.le_of_ble_eq_true rfl)
  rw [lg_entry_eq]
  generalize (lg_sl ([.ref (Ad 10 0), .int x, .int y] : List Value) ++ List.replicate (4 - (lg_sl ([.ref (Ad 10 0), .int x, .int y] : List Value)).length) Slot.unset).toArray = ls at hl ⊢
  have hl : lv_has ls 4 [(0, .ref (Ad 10 0)), (1, .int x), (2, .int y)] := hl
  have ht16 : upN y 16 < 16 := upN_lt y (by decide)
  have hr8 : upN (y >>> (4 &&& 31)) 8 < 8 := upN_lt _ (by decide)
  have hw256 : upN (y >>> (4 &&& 31)) 256 < 256 := upN_lt _ (by decide)
  have hy8 : upN y 8 < 8 := upN_lt y (by decide)
  have hy9 : upN y 9 < 9 := upN_lt y (by decide)
  have hx16 : upN x 16 < 16 := upN_lt x (by decide)
  have hy1 : y.toBitVec.toNat % 2 ^ 1 ≤ 1 := by omega
  refine lv_iload_n hx hb dL_act_0 rfl (lv_at hl 2 rfl) ?_
  refine lv_bipush (v := 16) hx hb dL_act_1 (by decide) ?_
  refine ro_S (As := [.int y, .int 16]) (rest := []) ⟨hx, hb, hml, hown, hts⟩ (c_L_up l D cA _ y 16 (by decide) (by decide)) (cwS2 2 hts gL_act_L_up rfl rfl rfl (by decide +kernel) ⟨Nat.le_of_ble_eq_true rfl, Nat.le_of_ble_eq_true rfl⟩) hKN rfl hl.1 rfl (lv_room (Nat.le_of_ble_eq_true rfl)) dL_act_3 ⟨Nat.zero_le _, Nat.zero_le _⟩ ?_
  refine lv_istore_n (lv' := [(3, .int (nI (upN y 16))), (0, .ref (Ad 10 0)), (1, .int x), (2, .int y)]) hx hb dL_act_6 rfl hl (by decide) rfl (fun ls hl => ?_)
  refine lv_iload_n hx hb dL_act_7 rfl (lv_at hl 2 rfl) ?_
  refine lv_bipush (v := 16) hx hb dL_act_8 (by decide) ?_
  refine ro_S (As := [.int x, .int 16]) (rest := []) ⟨hx, hb, hml, hown, hts⟩ (c_L_up l D cA _ x 16 (by decide) (by decide)) (cwS2 2 hts gL_act_L_up rfl rfl rfl (by decide +kernel) ⟨Nat.le_of_ble_eq_true rfl, Nat.le_of_ble_eq_true rfl⟩) hKN rfl hl.1 rfl (lv_room (Nat.le_of_ble_eq_true rfl)) dL_act_10 ⟨Nat.zero_le _, Nat.zero_le _⟩ ?_
  have hc_13 : (upN x 16) = 0 ∨ (upN x 16) = 1 ∨ (upN x 16) = 2 ∨ (upN x 16) = 3 ∨ (upN x 16) = 4 ∨ (upN x 16) = 5 ∨ (upN x 16) = 6 ∨ (upN x 16) = 7 ∨ (upN x 16) = 8 ∨ (upN x 16) = 9 ∨ (upN x 16) = 10 ∨ (upN x 16) = 11 ∨ (upN x 16) = 12 ∨ (upN x 16) = 13 ∨ (upN x 16) = 14 ∨ (upN x 16) = 15 := (by omega)
  rcases hc_13 with hc_13 | hc_13 | hc_13 | hc_13 | hc_13 | hc_13 | hc_13 | hc_13 | hc_13 | hc_13 | hc_13 | hc_13 | hc_13 | hc_13 | hc_13 | hc_13
  · refine lz_top (v := 0) (by rw [hc_13]; rfl) ?_
    refine lv_tableIn (tgt := 80) (off := 67) hx hb dL_act_13 (by decide) (by decide) rfl (by decide) ?_
    refine lv_aload_n hx hb dL_act_80 rfl (lv_at hl 1 rfl) ?_
    refine lv_iload_n hx hb dL_act_81 rfl (lv_at hl 0 rfl) ?_
    refine lv_iload_n hx hb dL_act_82 rfl (lv_at hl 3 rfl) ?_
    refine lv_iconst (v := 4) hx hb dL_act_83 (by decide) ?_
    refine lv_ishr hx hb dL_act_84 ?_
    refine lv_bipush (v := 8) hx hb dL_act_85 (by decide) ?_
    refine ro_S (As := [.int (y >>> (4 &&& 31)), .int 8]) (rest := [.int (nI (upN y 16)), .ref (Ad 10 0)]) ⟨hx, hb, hml, hown, hts⟩ (c_L_up l D cA _ (y >>> (4 &&& 31)) 8 (by decide) (by decide)) (cwS2 2 hts gL_act_L_up rfl rfl rfl (by decide +kernel) ⟨Nat.le_of_ble_eq_true rfl, Nat.le_of_ble_eq_true rfl⟩) hKN rfl hl.1 rfl (lv_room (Nat.le_of_ble_eq_true rfl)) dL_act_87 ⟨Nat.zero_le _, Nat.zero_le _⟩ ?_
    refine mu_Vw (ci := 4) (q0 := 0) (As := [.int (nI (upN y 16)), .int (nI (upN (y >>> (4 &&& 31)) 8))]) (rest := []) ⟨hx, hb, hml, hown, hts⟩ (c_X4_cross l D cA _ Ad f o z tx rt ho hz6 hG.ru (upN y 16) (by omega) (upN (y >>> (4 &&& 31)) 8) (by omega) hWP (hWD.weaken (fun _ _ _ _ => trivial))) (cwV 2 hts gL_act_X4_cross rfl rfl rfl (by decide +kernel) ⟨Nat.le_of_ble_eq_true rfl, Nat.le_of_ble_eq_true rfl⟩) hKN hWP hWD hS hA (lw_fP 10 (by decide) hWP : va_P D vwCl ((wLm cA Ad rt) ++ (rst cA Ad (f, ((nI o), (nI z)), tx, rt) 10)) s.heap) rfl rfl (all_fst _ _ _ _) rfl hl.1 rfl (lv_room (Nat.le_of_ble_eq_true rfl)) dL_act_90 ⟨Nat.zero_le _, Nat.zero_le _⟩ (fun H locs hWP hWD hS => ?_)
    have hWP : va_P D vwCl (all cA Ad ((upS (pushF f ((o + z) % 6)) 0 (layS (f 0) (upN y 16) ((f 0).1 (upN y 16) ^^^ ((1 : Int32) <<< (nI (upN (y >>> (4 &&& 31)) 8) &&& 31))))), ((nI (if z < 6 then o else (o + 1) % 6)), (nI (if z < 6 then z + 1 else z))), tx, rt)) H := hWP
    have hWD : va_D A (all cA Ad ((upS (pushF f ((o + z) % 6)) 0 (layS (f 0) (upN y 16) ((f 0).1 (upN y 16) ^^^ ((1 : Int32) <<< (nI (upN (y >>> (4 &&& 31)) 8) &&& 31))))), ((nI (if z < 6 then o else (o + 1) % 6)), (nI (if z < 6 then z + 1 else z))), tx, rt)) := hWD
    refine lz_top (v := (bitF ((f 0).1 (upN y 16) ^^^ ((1 : Int32) <<< (nI (upN (y >>> (4 &&& 31)) 8) &&& 31))) (nI (upN (y >>> (4 &&& 31)) 8)))) rfl ?_
    exact mu_iret hx hb hr hlocks dL_act_93 hAe hS (by rw [act_0 (by omega)]; exact hWP) (congrArg Prod.fst (act_0 (by omega))).symm
  · refine lz_top (v := 1) (by rw [hc_13]; rfl) ?_
    refine lv_tableIn (tgt := 80) (off := 67) hx hb dL_act_13 (by decide) (by decide) rfl (by decide) ?_
    refine lv_aload_n hx hb dL_act_80 rfl (lv_at hl 1 rfl) ?_
    refine lv_iload_n hx hb dL_act_81 rfl (lv_at hl 0 rfl) ?_
    refine lv_iload_n hx hb dL_act_82 rfl (lv_at hl 3 rfl) ?_
    refine lv_iconst (v := 4) hx hb dL_act_83 (by decide) ?_
    refine lv_ishr hx hb dL_act_84 ?_
    refine lv_bipush (v := 8) hx hb dL_act_85 (by decide) ?_
    refine ro_S (As := [.int (y >>> (4 &&& 31)), .int 8]) (rest := [.int (nI (upN y 16)), .ref (Ad 10 0)]) ⟨hx, hb, hml, hown, hts⟩ (c_L_up l D cA _ (y >>> (4 &&& 31)) 8 (by decide) (by decide)) (cwS2 2 hts gL_act_L_up rfl rfl rfl (by decide +kernel) ⟨Nat.le_of_ble_eq_true rfl, Nat.le_of_ble_eq_true rfl⟩) hKN rfl hl.1 rfl (lv_room (Nat.le_of_ble_eq_true rfl)) dL_act_87 ⟨Nat.zero_le _, Nat.zero_le _⟩ ?_
    refine mu_Vw (ci := 4) (q0 := 0) (As := [.int (nI (upN y 16)), .int (nI (upN (y >>> (4 &&& 31)) 8))]) (rest := []) ⟨hx, hb, hml, hown, hts⟩ (c_X4_cross l D cA _ Ad f o z tx rt ho hz6 hG.ru (upN y 16) (by omega) (upN (y >>> (4 &&& 31)) 8) (by omega) hWP (hWD.weaken (fun _ _ _ _ => trivial))) (cwV 2 hts gL_act_X4_cross rfl rfl rfl (by decide +kernel) ⟨Nat.le_of_ble_eq_true rfl, Nat.le_of_ble_eq_true rfl⟩) hKN hWP hWD hS hA (lw_fP 10 (by decide) hWP : va_P D vwCl ((wLm cA Ad rt) ++ (rst cA Ad (f, ((nI o), (nI z)), tx, rt) 10)) s.heap) rfl rfl (all_fst _ _ _ _) rfl hl.1 rfl (lv_room (Nat.le_of_ble_eq_true rfl)) dL_act_90 ⟨Nat.zero_le _, Nat.zero_le _⟩ (fun H locs hWP hWD hS => ?_)
    have hWP : va_P D vwCl (all cA Ad ((upS (pushF f ((o + z) % 6)) 0 (layS (f 0) (upN y 16) ((f 0).1 (upN y 16) ^^^ ((1 : Int32) <<< (nI (upN (y >>> (4 &&& 31)) 8) &&& 31))))), ((nI (if z < 6 then o else (o + 1) % 6)), (nI (if z < 6 then z + 1 else z))), tx, rt)) H := hWP
    have hWD : va_D A (all cA Ad ((upS (pushF f ((o + z) % 6)) 0 (layS (f 0) (upN y 16) ((f 0).1 (upN y 16) ^^^ ((1 : Int32) <<< (nI (upN (y >>> (4 &&& 31)) 8) &&& 31))))), ((nI (if z < 6 then o else (o + 1) % 6)), (nI (if z < 6 then z + 1 else z))), tx, rt)) := hWD
    refine lz_top (v := (bitF ((f 0).1 (upN y 16) ^^^ ((1 : Int32) <<< (nI (upN (y >>> (4 &&& 31)) 8) &&& 31))) (nI (upN (y >>> (4 &&& 31)) 8)))) rfl ?_
    exact mu_iret hx hb hr hlocks dL_act_93 hAe hS (by rw [act_0 (by omega)]; exact hWP) (congrArg Prod.fst (act_0 (by omega))).symm
  · refine lz_top (v := 2) (by rw [hc_13]; rfl) ?_
    refine lv_tableIn (tgt := 80) (off := 67) hx hb dL_act_13 (by decide) (by decide) rfl (by decide) ?_
    refine lv_aload_n hx hb dL_act_80 rfl (lv_at hl 1 rfl) ?_
    refine lv_iload_n hx hb dL_act_81 rfl (lv_at hl 0 rfl) ?_
    refine lv_iload_n hx hb dL_act_82 rfl (lv_at hl 3 rfl) ?_
    refine lv_iconst (v := 4) hx hb dL_act_83 (by decide) ?_
    refine lv_ishr hx hb dL_act_84 ?_
    refine lv_bipush (v := 8) hx hb dL_act_85 (by decide) ?_
    refine ro_S (As := [.int (y >>> (4 &&& 31)), .int 8]) (rest := [.int (nI (upN y 16)), .ref (Ad 10 0)]) ⟨hx, hb, hml, hown, hts⟩ (c_L_up l D cA _ (y >>> (4 &&& 31)) 8 (by decide) (by decide)) (cwS2 2 hts gL_act_L_up rfl rfl rfl (by decide +kernel) ⟨Nat.le_of_ble_eq_true rfl, Nat.le_of_ble_eq_true rfl⟩) hKN rfl hl.1 rfl (lv_room (Nat.le_of_ble_eq_true rfl)) dL_act_87 ⟨Nat.zero_le _, Nat.zero_le _⟩ ?_
    refine mu_Vw (ci := 4) (q0 := 0) (As := [.int (nI (upN y 16)), .int (nI (upN (y >>> (4 &&& 31)) 8))]) (rest := []) ⟨hx, hb, hml, hown, hts⟩ (c_X4_cross l D cA _ Ad f o z tx rt ho hz6 hG.ru (upN y 16) (by omega) (upN (y >>> (4 &&& 31)) 8) (by omega) hWP (hWD.weaken (fun _ _ _ _ => trivial))) (cwV 2 hts gL_act_X4_cross rfl rfl rfl (by decide +kernel) ⟨Nat.le_of_ble_eq_true rfl, Nat.le_of_ble_eq_true rfl⟩) hKN hWP hWD hS hA (lw_fP 10 (by decide) hWP : va_P D vwCl ((wLm cA Ad rt) ++ (rst cA Ad (f, ((nI o), (nI z)), tx, rt) 10)) s.heap) rfl rfl (all_fst _ _ _ _) rfl hl.1 rfl (lv_room (Nat.le_of_ble_eq_true rfl)) dL_act_90 ⟨Nat.zero_le _, Nat.zero_le _⟩ (fun H locs hWP hWD hS => ?_)
    have hWP : va_P D vwCl (all cA Ad ((upS (pushF f ((o + z) % 6)) 0 (layS (f 0) (upN y 16) ((f 0).1 (upN y 16) ^^^ ((1 : Int32) <<< (nI (upN (y >>> (4 &&& 31)) 8) &&& 31))))), ((nI (if z < 6 then o else (o + 1) % 6)), (nI (if z < 6 then z + 1 else z))), tx, rt)) H := hWP
    have hWD : va_D A (all cA Ad ((upS (pushF f ((o + z) % 6)) 0 (layS (f 0) (upN y 16) ((f 0).1 (upN y 16) ^^^ ((1 : Int32) <<< (nI (upN (y >>> (4 &&& 31)) 8) &&& 31))))), ((nI (if z < 6 then o else (o + 1) % 6)), (nI (if z < 6 then z + 1 else z))), tx, rt)) := hWD
    refine lz_top (v := (bitF ((f 0).1 (upN y 16) ^^^ ((1 : Int32) <<< (nI (upN (y >>> (4 &&& 31)) 8) &&& 31))) (nI (upN (y >>> (4 &&& 31)) 8)))) rfl ?_
    exact mu_iret hx hb hr hlocks dL_act_93 hAe hS (by rw [act_0 (by omega)]; exact hWP) (congrArg Prod.fst (act_0 (by omega))).symm
  · refine lz_top (v := 3) (by rw [hc_13]; rfl) ?_
    refine lv_tableIn (tgt := 94) (off := 81) hx hb dL_act_13 (by decide) (by decide) rfl (by decide) ?_
    refine lv_aload_n hx hb dL_act_94 rfl (lv_at hl 1 rfl) ?_
    refine lv_iload_n hx hb dL_act_95 rfl (lv_at hl 0 rfl) ?_
    refine lv_iload_n hx hb dL_act_96 rfl (lv_at hl 3 rfl) ?_
    refine lv_iconst (v := 4) hx hb dL_act_97 (by decide) ?_
    refine lv_ishr hx hb dL_act_98 ?_
    refine lv_sipush (v := 256) hx hb dL_act_99 (by decide) ?_
    refine ro_S (As := [.int (y >>> (4 &&& 31)), .int 256]) (rest := [.int (nI (upN y 16)), .ref (Ad 10 0)]) ⟨hx, hb, hml, hown, hts⟩ (c_L_up l D cA _ (y >>> (4 &&& 31)) 256 (by decide) (by decide)) (cwS2 2 hts gL_act_L_up rfl rfl rfl (by decide +kernel) ⟨Nat.le_of_ble_eq_true rfl, Nat.le_of_ble_eq_true rfl⟩) hKN rfl hl.1 rfl (lv_room (Nat.le_of_ble_eq_true rfl)) dL_act_102 ⟨Nat.zero_le _, Nat.zero_le _⟩ ?_
    refine mu_Vw (ci := 4) (q0 := 0) (As := [.int (nI (upN y 16)), .int (nI (upN (y >>> (4 &&& 31)) 256))]) (rest := []) ⟨hx, hb, hml, hown, hts⟩ (c_X4_lay l D cA _ Ad f o z tx rt ho hz6 hG.ru (upN y 16) (by omega) (upN (y >>> (4 &&& 31)) 256) (by omega) hWP (hWD.weaken (fun _ _ _ _ => trivial))) (cwV 2 hts gL_act_X4_lay rfl rfl rfl (by decide +kernel) ⟨Nat.le_of_ble_eq_true rfl, Nat.le_of_ble_eq_true rfl⟩) hKN hWP hWD hS hA (lw_fP 10 (by decide) hWP : va_P D vwCl ((wLm cA Ad rt) ++ (rst cA Ad (f, ((nI o), (nI z)), tx, rt) 10)) s.heap) rfl rfl (all_fst _ _ _ _) rfl hl.1 rfl (lv_room (Nat.le_of_ble_eq_true rfl)) dL_act_105 ⟨Nat.zero_le _, Nat.zero_le _⟩ (fun H locs hWP hWD hS => ?_)
    have hWP : va_P D vwCl (all cA Ad ((upS (pushF f ((o + z) % 6)) 0 (layS (f 0) (upN y 16) (wordF (f 0).2.2.2.1 (nI (upN (y >>> (4 &&& 31)) 256))))), ((nI (if z < 6 then o else (o + 1) % 6)), (nI (if z < 6 then z + 1 else z))), tx, rt)) H := hWP
    have hWD : va_D A (all cA Ad ((upS (pushF f ((o + z) % 6)) 0 (layS (f 0) (upN y 16) (wordF (f 0).2.2.2.1 (nI (upN (y >>> (4 &&& 31)) 256))))), ((nI (if z < 6 then o else (o + 1) % 6)), (nI (if z < 6 then z + 1 else z))), tx, rt)) := hWD
    refine lz_top (v := (bcF ((f 0).1 (upN y 16) ^^^ wordF (f 0).2.2.2.1 (nI (upN (y >>> (4 &&& 31)) 256))))) rfl ?_
    exact mu_iret hx hb hr hlocks dL_act_108 hAe hS (by rw [act_3 (by omega)]; exact hWP) (congrArg Prod.fst (act_3 (by omega))).symm
  · refine lz_top (v := 4) (by rw [hc_13]; rfl) ?_
    refine lv_tableIn (tgt := 94) (off := 81) hx hb dL_act_13 (by decide) (by decide) rfl (by decide) ?_
    refine lv_aload_n hx hb dL_act_94 rfl (lv_at hl 1 rfl) ?_
    refine lv_iload_n hx hb dL_act_95 rfl (lv_at hl 0 rfl) ?_
    refine lv_iload_n hx hb dL_act_96 rfl (lv_at hl 3 rfl) ?_
    refine lv_iconst (v := 4) hx hb dL_act_97 (by decide) ?_
    refine lv_ishr hx hb dL_act_98 ?_
    refine lv_sipush (v := 256) hx hb dL_act_99 (by decide) ?_
    refine ro_S (As := [.int (y >>> (4 &&& 31)), .int 256]) (rest := [.int (nI (upN y 16)), .ref (Ad 10 0)]) ⟨hx, hb, hml, hown, hts⟩ (c_L_up l D cA _ (y >>> (4 &&& 31)) 256 (by decide) (by decide)) (cwS2 2 hts gL_act_L_up rfl rfl rfl (by decide +kernel) ⟨Nat.le_of_ble_eq_true rfl, Nat.le_of_ble_eq_true rfl⟩) hKN rfl hl.1 rfl (lv_room (Nat.le_of_ble_eq_true rfl)) dL_act_102 ⟨Nat.zero_le _, Nat.zero_le _⟩ ?_
    refine mu_Vw (ci := 4) (q0 := 0) (As := [.int (nI (upN y 16)), .int (nI (upN (y >>> (4 &&& 31)) 256))]) (rest := []) ⟨hx, hb, hml, hown, hts⟩ (c_X4_lay l D cA _ Ad f o z tx rt ho hz6 hG.ru (upN y 16) (by omega) (upN (y >>> (4 &&& 31)) 256) (by omega) hWP (hWD.weaken (fun _ _ _ _ => trivial))) (cwV 2 hts gL_act_X4_lay rfl rfl rfl (by decide +kernel) ⟨Nat.le_of_ble_eq_true rfl, Nat.le_of_ble_eq_true rfl⟩) hKN hWP hWD hS hA (lw_fP 10 (by decide) hWP : va_P D vwCl ((wLm cA Ad rt) ++ (rst cA Ad (f, ((nI o), (nI z)), tx, rt) 10)) s.heap) rfl rfl (all_fst _ _ _ _) rfl hl.1 rfl (lv_room (Nat.le_of_ble_eq_true rfl)) dL_act_105 ⟨Nat.zero_le _, Nat.zero_le _⟩ (fun H locs hWP hWD hS => ?_)
    have hWP : va_P D vwCl (all cA Ad ((upS (pushF f ((o + z) % 6)) 0 (layS (f 0) (upN y 16) (wordF (f 0).2.2.2.1 (nI (upN (y >>> (4 &&& 31)) 256))))), ((nI (if z < 6 then o else (o + 1) % 6)), (nI (if z < 6 then z + 1 else z))), tx, rt)) H := hWP
    have hWD : va_D A (all cA Ad ((upS (pushF f ((o + z) % 6)) 0 (layS (f 0) (upN y 16) (wordF (f 0).2.2.2.1 (nI (upN (y >>> (4 &&& 31)) 256))))), ((nI (if z < 6 then o else (o + 1) % 6)), (nI (if z < 6 then z + 1 else z))), tx, rt)) := hWD
    refine lz_top (v := (bcF ((f 0).1 (upN y 16) ^^^ wordF (f 0).2.2.2.1 (nI (upN (y >>> (4 &&& 31)) 256))))) rfl ?_
    exact mu_iret hx hb hr hlocks dL_act_108 hAe hS (by rw [act_3 (by omega)]; exact hWP) (congrArg Prod.fst (act_3 (by omega))).symm
  · refine lz_top (v := 5) (by rw [hc_13]; rfl) ?_
    refine lv_tableIn (tgt := 94) (off := 81) hx hb dL_act_13 (by decide) (by decide) rfl (by decide) ?_
    refine lv_aload_n hx hb dL_act_94 rfl (lv_at hl 1 rfl) ?_
    refine lv_iload_n hx hb dL_act_95 rfl (lv_at hl 0 rfl) ?_
    refine lv_iload_n hx hb dL_act_96 rfl (lv_at hl 3 rfl) ?_
    refine lv_iconst (v := 4) hx hb dL_act_97 (by decide) ?_
    refine lv_ishr hx hb dL_act_98 ?_
    refine lv_sipush (v := 256) hx hb dL_act_99 (by decide) ?_
    refine ro_S (As := [.int (y >>> (4 &&& 31)), .int 256]) (rest := [.int (nI (upN y 16)), .ref (Ad 10 0)]) ⟨hx, hb, hml, hown, hts⟩ (c_L_up l D cA _ (y >>> (4 &&& 31)) 256 (by decide) (by decide)) (cwS2 2 hts gL_act_L_up rfl rfl rfl (by decide +kernel) ⟨Nat.le_of_ble_eq_true rfl, Nat.le_of_ble_eq_true rfl⟩) hKN rfl hl.1 rfl (lv_room (Nat.le_of_ble_eq_true rfl)) dL_act_102 ⟨Nat.zero_le _, Nat.zero_le _⟩ ?_
    refine mu_Vw (ci := 4) (q0 := 0) (As := [.int (nI (upN y 16)), .int (nI (upN (y >>> (4 &&& 31)) 256))]) (rest := []) ⟨hx, hb, hml, hown, hts⟩ (c_X4_lay l D cA _ Ad f o z tx rt ho hz6 hG.ru (upN y 16) (by omega) (upN (y >>> (4 &&& 31)) 256) (by omega) hWP (hWD.weaken (fun _ _ _ _ => trivial))) (cwV 2 hts gL_act_X4_lay rfl rfl rfl (by decide +kernel) ⟨Nat.le_of_ble_eq_true rfl, Nat.le_of_ble_eq_true rfl⟩) hKN hWP hWD hS hA (lw_fP 10 (by decide) hWP : va_P D vwCl ((wLm cA Ad rt) ++ (rst cA Ad (f, ((nI o), (nI z)), tx, rt) 10)) s.heap) rfl rfl (all_fst _ _ _ _) rfl hl.1 rfl (lv_room (Nat.le_of_ble_eq_true rfl)) dL_act_105 ⟨Nat.zero_le _, Nat.zero_le _⟩ (fun H locs hWP hWD hS => ?_)
    have hWP : va_P D vwCl (all cA Ad ((upS (pushF f ((o + z) % 6)) 0 (layS (f 0) (upN y 16) (wordF (f 0).2.2.2.1 (nI (upN (y >>> (4 &&& 31)) 256))))), ((nI (if z < 6 then o else (o + 1) % 6)), (nI (if z < 6 then z + 1 else z))), tx, rt)) H := hWP
    have hWD : va_D A (all cA Ad ((upS (pushF f ((o + z) % 6)) 0 (layS (f 0) (upN y 16) (wordF (f 0).2.2.2.1 (nI (upN (y >>> (4 &&& 31)) 256))))), ((nI (if z < 6 then o else (o + 1) % 6)), (nI (if z < 6 then z + 1 else z))), tx, rt)) := hWD
    refine lz_top (v := (bcF ((f 0).1 (upN y 16) ^^^ wordF (f 0).2.2.2.1 (nI (upN (y >>> (4 &&& 31)) 256))))) rfl ?_
    exact mu_iret hx hb hr hlocks dL_act_108 hAe hS (by rw [act_3 (by omega)]; exact hWP) (congrArg Prod.fst (act_3 (by omega))).symm
  · refine lz_top (v := 6) (by rw [hc_13]; rfl) ?_
    refine lv_tableIn (tgt := 109) (off := 96) hx hb dL_act_13 (by decide) (by decide) rfl (by decide) ?_
    refine lv_aload_n hx hb dL_act_109 rfl (lv_at hl 1 rfl) ?_
    refine lv_iload_n hx hb dL_act_110 rfl (lv_at hl 0 rfl) ?_
    refine mu_Vw (ci := 4) (q0 := 0) (As := [.int (nI (upN y 16))]) (rest := []) ⟨hx, hb, hml, hown, hts⟩ (c_X4_guard l D cA _ Ad f o z tx rt ho hz6 hG.ru (upN y 16) (by omega) hWP (hWD.weaken (fun _ _ _ _ => trivial))) (cwV 1 hts gL_act_X4_guard rfl rfl rfl (by decide +kernel) ⟨Nat.le_of_ble_eq_true rfl, Nat.le_of_ble_eq_true rfl⟩) hKN hWP hWD hS hA (lw_fP 10 (by decide) hWP : va_P D vwCl ((wLm cA Ad rt) ++ (rst cA Ad (f, ((nI o), (nI z)), tx, rt) 10)) s.heap) rfl rfl (all_fst _ _ _ _) rfl hl.1 rfl (lv_room (Nat.le_of_ble_eq_true rfl)) dL_act_111 ⟨Nat.zero_le _, Nat.zero_le _⟩ (fun H locs hWP hWD hS => ?_)
    have hWP : va_P D vwCl (all cA Ad ((upS (pushF f ((o + z) % 6)) 0 (setGd (f 0) ((f 0).2.2.2.2.1 ^^^ ((1 : Int32) <<< (nI (upN y 16) &&& 31))))), ((nI (if z < 6 then o else (o + 1) % 6)), (nI (if z < 6 then z + 1 else z))), tx, rt)) H := hWP
    have hWD : va_D A (all cA Ad ((upS (pushF f ((o + z) % 6)) 0 (setGd (f 0) ((f 0).2.2.2.2.1 ^^^ ((1 : Int32) <<< (nI (upN y 16) &&& 31))))), ((nI (if z < 6 then o else (o + 1) % 6)), (nI (if z < 6 then z + 1 else z))), tx, rt)) := hWD
    refine lz_top (v := (bitF ((f 0).2.2.2.2.1 ^^^ ((1 : Int32) <<< (nI (upN y 16) &&& 31))) (nI (upN y 16)))) rfl ?_
    exact mu_iret hx hb hr hlocks dL_act_114 hAe hS (by rw [act_6 (by omega)]; exact hWP) (congrArg Prod.fst (act_6 (by omega))).symm
  · refine lz_top (v := 7) (by rw [hc_13]; rfl) ?_
    refine lv_tableIn (tgt := 109) (off := 96) hx hb dL_act_13 (by decide) (by decide) rfl (by decide) ?_
    refine lv_aload_n hx hb dL_act_109 rfl (lv_at hl 1 rfl) ?_
    refine lv_iload_n hx hb dL_act_110 rfl (lv_at hl 0 rfl) ?_
    refine mu_Vw (ci := 4) (q0 := 0) (As := [.int (nI (upN y 16))]) (rest := []) ⟨hx, hb, hml, hown, hts⟩ (c_X4_guard l D cA _ Ad f o z tx rt ho hz6 hG.ru (upN y 16) (by omega) hWP (hWD.weaken (fun _ _ _ _ => trivial))) (cwV 1 hts gL_act_X4_guard rfl rfl rfl (by decide +kernel) ⟨Nat.le_of_ble_eq_true rfl, Nat.le_of_ble_eq_true rfl⟩) hKN hWP hWD hS hA (lw_fP 10 (by decide) hWP : va_P D vwCl ((wLm cA Ad rt) ++ (rst cA Ad (f, ((nI o), (nI z)), tx, rt) 10)) s.heap) rfl rfl (all_fst _ _ _ _) rfl hl.1 rfl (lv_room (Nat.le_of_ble_eq_true rfl)) dL_act_111 ⟨Nat.zero_le _, Nat.zero_le _⟩ (fun H locs hWP hWD hS => ?_)
    have hWP : va_P D vwCl (all cA Ad ((upS (pushF f ((o + z) % 6)) 0 (setGd (f 0) ((f 0).2.2.2.2.1 ^^^ ((1 : Int32) <<< (nI (upN y 16) &&& 31))))), ((nI (if z < 6 then o else (o + 1) % 6)), (nI (if z < 6 then z + 1 else z))), tx, rt)) H := hWP
    have hWD : va_D A (all cA Ad ((upS (pushF f ((o + z) % 6)) 0 (setGd (f 0) ((f 0).2.2.2.2.1 ^^^ ((1 : Int32) <<< (nI (upN y 16) &&& 31))))), ((nI (if z < 6 then o else (o + 1) % 6)), (nI (if z < 6 then z + 1 else z))), tx, rt)) := hWD
    refine lz_top (v := (bitF ((f 0).2.2.2.2.1 ^^^ ((1 : Int32) <<< (nI (upN y 16) &&& 31))) (nI (upN y 16)))) rfl ?_
    exact mu_iret hx hb hr hlocks dL_act_114 hAe hS (by rw [act_6 (by omega)]; exact hWP) (congrArg Prod.fst (act_6 (by omega))).symm
  · refine lz_top (v := 8) (by rw [hc_13]; rfl) ?_
    refine lv_tableIn (tgt := 115) (off := 102) hx hb dL_act_13 (by decide) (by decide) rfl (by decide) ?_
    refine lv_aload_n hx hb dL_act_115 rfl (lv_at hl 1 rfl) ?_
    refine lv_iconst (v := 0) hx hb dL_act_116 (by decide) ?_
    refine lv_iconst (v := 1) hx hb dL_act_117 (by decide) ?_
    refine lv_iload_n hx hb dL_act_118 rfl (lv_at hl 3 rfl) ?_
    refine lv_bipush (v := 8) hx hb dL_act_119 (by decide) ?_
    refine ro_S (As := [.int y, .int 8]) (rest := [.int 1, .int 0, .ref (Ad 10 0)]) ⟨hx, hb, hml, hown, hts⟩ (c_L_up l D cA _ y 8 (by decide) (by decide)) (cwS2 2 hts gL_act_L_up rfl rfl rfl (by decide +kernel) ⟨Nat.le_of_ble_eq_true rfl, Nat.le_of_ble_eq_true rfl⟩) hKN rfl hl.1 rfl (lv_room (Nat.le_of_ble_eq_true rfl)) dL_act_121 ⟨Nat.zero_le _, Nat.zero_le _⟩ ?_
    refine lz_iadd (v := (nI (1 + (upN y 8)))) hx hb dL_act_124 (nI_add _ _) ?_
    refine mu_Vw (ci := 4) (q0 := 0) (As := [.int 0, .int (nI (1 + (upN y 8)))]) (rest := []) ⟨hx, hb, hml, hown, hts⟩ (c_X4_set0 l D cA _ Ad f o z tx rt ho hz6 hG.ru (1 + (upN y 8)) (by omega) (by omega) hWP (hWD.weaken (fun _ _ _ _ => trivial))) (cwV 2 hts gL_act_X4_set rfl rfl rfl (by decide +kernel) ⟨Nat.le_of_ble_eq_true rfl, Nat.le_of_ble_eq_true rfl⟩) hKN hWP hWD hS hA (lw_fP 10 (by decide) hWP : va_P D vwCl ((wLm cA Ad rt) ++ (rst cA Ad (f, ((nI o), (nI z)), tx, rt) 10)) s.heap) rfl rfl (all_fst _ _ _ _) rfl hl.1 rfl (lv_room (Nat.le_of_ble_eq_true rfl)) dL_act_125 ⟨Nat.zero_le _, Nat.zero_le _⟩ (fun H locs hWP hWD hS => ?_)
    have hWP : va_P D vwCl (all cA Ad ((upS (pushF f ((o + z) % 6)) 0 ((f 0).1, (f 0).2.1, (f 0).2.2.1, upd (f 0).2.2.2.1 0 (nI (1 + (upN y 8))), (f 0).2.2.2.2)), ((nI (if z < 6 then o else (o + 1) % 6)), (nI (if z < 6 then z + 1 else z))), tx, rt)) H := hWP
    have hWD : va_D A (all cA Ad ((upS (pushF f ((o + z) % 6)) 0 ((f 0).1, (f 0).2.1, (f 0).2.2.1, upd (f 0).2.2.2.1 0 (nI (1 + (upN y 8))), (f 0).2.2.2.2)), ((nI (if z < 6 then o else (o + 1) % 6)), (nI (if z < 6 then z + 1 else z))), tx, rt)) := hWD
    refine lz_top (v := ((f 0).2.2.2.1 0)) rfl ?_
    exact mu_iret hx hb hr hlocks dL_act_128 hAe hS (by rw [act_8 hc_13]; exact hWP) (congrArg Prod.fst (act_8 hc_13)).symm
  · refine lz_top (v := 9) (by rw [hc_13]; rfl) ?_
    refine lv_tableIn (tgt := 129) (off := 116) hx hb dL_act_13 (by decide) (by decide) rfl (by decide) ?_
    refine lv_aload_n hx hb dL_act_129 rfl (lv_at hl 1 rfl) ?_
    refine lv_iconst (v := 1) hx hb dL_act_130 (by decide) ?_
    refine lv_iload_n hx hb dL_act_131 rfl (lv_at hl 3 rfl) ?_
    refine lv_iconst (v := 1) hx hb dL_act_132 (by decide) ?_
    refine lv_iand hx hb dL_act_133 ?_
    refine lz_top (v := nI (y.toBitVec.toNat % 2 ^ 1)) (pk_and y 1 (by decide)) ?_
    refine mu_Vw (ci := 4) (q0 := 0) (As := [.int 1, .int (nI (y.toBitVec.toNat % 2 ^ 1))]) (rest := []) ⟨hx, hb, hml, hown, hts⟩ (c_X4_set1 l D cA _ Ad f o z tx rt ho hz6 hG.ru (y.toBitVec.toNat % 2 ^ 1) (by omega) hWP (hWD.weaken (fun _ _ _ _ => trivial))) (cwV 2 hts gL_act_X4_set rfl rfl rfl (by decide +kernel) ⟨Nat.le_of_ble_eq_true rfl, Nat.le_of_ble_eq_true rfl⟩) hKN hWP hWD hS hA (lw_fP 10 (by decide) hWP : va_P D vwCl ((wLm cA Ad rt) ++ (rst cA Ad (f, ((nI o), (nI z)), tx, rt) 10)) s.heap) rfl rfl (all_fst _ _ _ _) rfl hl.1 rfl (lv_room (Nat.le_of_ble_eq_true rfl)) dL_act_134 ⟨Nat.zero_le _, Nat.zero_le _⟩ (fun H locs hWP hWD hS => ?_)
    have hWP : va_P D vwCl (all cA Ad ((upS (pushF f ((o + z) % 6)) 0 ((f 0).1, (f 0).2.1, (f 0).2.2.1, upd (f 0).2.2.2.1 1 (nI (y.toBitVec.toNat % 2 ^ 1)), (f 0).2.2.2.2)), ((nI (if z < 6 then o else (o + 1) % 6)), (nI (if z < 6 then z + 1 else z))), tx, rt)) H := hWP
    have hWD : va_D A (all cA Ad ((upS (pushF f ((o + z) % 6)) 0 ((f 0).1, (f 0).2.1, (f 0).2.2.1, upd (f 0).2.2.2.1 1 (nI (y.toBitVec.toNat % 2 ^ 1)), (f 0).2.2.2.2)), ((nI (if z < 6 then o else (o + 1) % 6)), (nI (if z < 6 then z + 1 else z))), tx, rt)) := hWD
    refine lz_top (v := ((f 0).2.2.2.1 1)) rfl ?_
    exact mu_iret hx hb hr hlocks dL_act_137 hAe hS (by rw [act_9 hc_13]; exact hWP) (congrArg Prod.fst (act_9 hc_13)).symm
  · refine lz_top (v := 10) (by rw [hc_13]; rfl) ?_
    refine lv_tableIn (tgt := 138) (off := 125) hx hb dL_act_13 (by decide) (by decide) rfl (by decide) ?_
    refine lv_iload_n hx hb dL_act_138 rfl (lv_at hl 3 rfl) ?_
    refine lv_iconst (v := 3) hx hb dL_act_139 (by decide) ?_
    refine lv_iand hx hb dL_act_140 ?_
    refine lv_if_ne (tgt := 159) hx hb dL_act_141 (by decide) (fun c_141 => ?_) (fun c_141 => ?_)
    · refine lv_aload_n hx hb dL_act_159 rfl (lv_at hl 1 rfl) ?_
      refine lv_iload_n hx hb dL_act_160 rfl (lv_at hl 0 rfl) ?_
      refine mu_Vw (ci := 4) (q0 := 0) (As := [.int (nI (upN y 16))]) (rest := []) ⟨hx, hb, hml, hown, hts⟩ (c_X4_read l D cA _ Ad f o z tx rt ho hz6 hG.ru (upN y 16) (by omega) hWP (hWD.weaken (fun _ _ _ _ => trivial))) (cwV 1 hts gL_act_X4_read rfl rfl rfl (by decide +kernel) ⟨Nat.le_of_ble_eq_true rfl, Nat.le_of_ble_eq_true rfl⟩) hKN hWP hWD hS hA (lw_fP 10 (by decide) hWP : va_P D vwCl ((wLm cA Ad rt) ++ (rst cA Ad (f, ((nI o), (nI z)), tx, rt) 10)) s.heap) rfl rfl (all_fst _ _ _ _) rfl hl.1 rfl (lv_room (Nat.le_of_ble_eq_true rfl)) dL_act_161 ⟨Nat.zero_le _, Nat.zero_le _⟩ (fun H locs hWP hWD hS => ?_)
      have hWP : va_P D vwCl (all cA Ad ((upS (pushF f ((o + z) % 6)) 0 (readS (f 0) (upN y 16))), ((nI (if z < 6 then o else (o + 1) % 6)), (nI (if z < 6 then z + 1 else z))), tx, rt)) H := hWP
      have hWD : va_D A (all cA Ad ((upS (pushF f ((o + z) % 6)) 0 (readS (f 0) (upN y 16))), ((nI (if z < 6 then o else (o + 1) % 6)), (nI (if z < 6 then z + 1 else z))), tx, rt)) := hWD
      refine lz_top (v := (tellsS (f 0) (upN y 16))) rfl ?_
      exact mu_iret hx hb hr hlocks dL_act_164 hAe hS (by rw [act_10b hc_13 c_141]; exact hWP) (congrArg Prod.fst (act_10b hc_13 c_141)).symm
    · refine lv_aload_n hx hb dL_act_144 rfl (lv_at hl 1 rfl) ?_
      refine lv_iload_n hx hb dL_act_145 rfl (lv_at hl 3 rfl) ?_
      refine lv_iconst (v := 4) hx hb dL_act_146 (by decide) ?_
      refine lv_ishr hx hb dL_act_147 ?_
      refine lv_bipush (v := 8) hx hb dL_act_148 (by decide) ?_
      refine ro_S (As := [.int (y >>> (4 &&& 31)), .int 8]) (rest := [.ref (Ad 10 0)]) ⟨hx, hb, hml, hown, hts⟩ (c_L_up l D cA _ (y >>> (4 &&& 31)) 8 (by decide) (by decide)) (cwS2 2 hts gL_act_L_up rfl rfl rfl (by decide +kernel) ⟨Nat.le_of_ble_eq_true rfl, Nat.le_of_ble_eq_true rfl⟩) hKN rfl hl.1 rfl (lv_room (Nat.le_of_ble_eq_true rfl)) dL_act_150 ⟨Nat.zero_le _, Nat.zero_le _⟩ ?_
      refine mu_Vw (ci := 4) (q0 := 0) (As := [.int (nI (upN (y >>> (4 &&& 31)) 8))]) (rest := []) ⟨hx, hb, hml, hown, hts⟩ (c_X4_change l D cA _ Ad f o z tx rt ho hz6 hG.ru (upN (y >>> (4 &&& 31)) 8) (by omega) hWP (hWD.weaken (fun _ _ _ _ => trivial))) (cwV 1 hts gL_act_X4_change rfl rfl rfl (by decide +kernel) ⟨Nat.le_of_ble_eq_true rfl, Nat.le_of_ble_eq_true rfl⟩) hKN hWP hWD hS hA (lw_fP 10 (by decide) hWP : va_P D vwCl ((wLm cA Ad rt) ++ (rst cA Ad (f, ((nI o), (nI z)), tx, rt) 10)) s.heap) rfl rfl (all_fst _ _ _ _) rfl hl.1 rfl (lv_room (Nat.le_of_ble_eq_true rfl)) dL_act_153 ⟨Nat.zero_le _, Nat.zero_le _⟩ (fun H locs hWP hWD hS => ?_)
      have hWP : va_P D vwCl (all cA Ad ((upS (pushF f ((o + z) % 6)) 0 (renewS (f 0) (upN (y >>> (4 &&& 31)) 8))), ((nI (if z < 6 then o else (o + 1) % 6)), (nI (if z < 6 then z + 1 else z))), tx, rt)) H := hWP
      have hWD : va_D A (all cA Ad ((upS (pushF f ((o + z) % 6)) 0 (renewS (f 0) (upN (y >>> (4 &&& 31)) 8))), ((nI (if z < 6 then o else (o + 1) % 6)), (nI (if z < 6 then z + 1 else z))), tx, rt)) := hWD
      refine lz_top (v := (bcF (thrS (f 0) (nI (upN (y >>> (4 &&& 31)) 8))))) rfl ?_
      refine lv_goto (tgt := 164) hx hb dL_act_156 (by decide) ?_
      exact mu_iret hx hb hr hlocks dL_act_164 hAe hS (by rw [act_10a hc_13 c_141]; exact hWP) (congrArg Prod.fst (act_10a hc_13 c_141)).symm
  · refine lz_top (v := 11) (by rw [hc_13]; rfl) ?_
    refine lv_tableIn (tgt := 165) (off := 152) hx hb dL_act_13 (by decide) (by decide) rfl (by decide) ?_
    refine lv_iload_n hx hb dL_act_165 rfl (lv_at hl 3 rfl) ?_
    refine lv_bipush (v := 7) hx hb dL_act_166 (by decide) ?_
    refine lv_iand hx hb dL_act_168 ?_
    refine lv_if_ne (tgt := 179) hx hb dL_act_169 (by decide) (fun c_169 => ?_) (fun c_169 => ?_)
    · refine lv_aload_n hx hb dL_act_179 rfl (lv_at hl 1 rfl) ?_
      refine lv_iconst (v := 1) hx hb dL_act_180 (by decide) ?_
      refine lv_iload_n hx hb dL_act_181 rfl (lv_at hl 3 rfl) ?_
      refine lv_bipush (v := 9) hx hb dL_act_182 (by decide) ?_
      refine ro_S (As := [.int y, .int 9]) (rest := [.int 1, .ref (Ad 10 0)]) ⟨hx, hb, hml, hown, hts⟩ (c_L_up l D cA _ y 9 (by decide) (by decide)) (cwS2 2 hts gL_act_L_up rfl rfl rfl (by decide +kernel) ⟨Nat.le_of_ble_eq_true rfl, Nat.le_of_ble_eq_true rfl⟩) hKN rfl hl.1 rfl (lv_room (Nat.le_of_ble_eq_true rfl)) dL_act_184 ⟨Nat.zero_le _, Nat.zero_le _⟩ ?_
      refine lz_iadd (v := (nI (1 + (upN y 9)))) hx hb dL_act_187 (nI_add _ _) ?_
      refine mu_Vw (ci := 4) (q0 := 0) (As := [.int (nI (1 + (upN y 9)))]) (rest := []) ⟨hx, hb, hml, hown, hts⟩ (c_X4_go l D cA _ Ad f o z tx rt ho hz6 hG.ru hG.pl (1 + (upN y 9)) (by omega) (by omega) hWP (hWD.weaken (fun _ _ _ _ => trivial))) (cwV 1 hts gL_act_X4_go rfl rfl rfl (by decide +kernel) ⟨Nat.le_of_ble_eq_true rfl, Nat.le_of_ble_eq_true rfl⟩) hKN hWP hWD hS hA (lw_fP 10 (by decide) hWP : va_P D vwCl ((wLm cA Ad rt) ++ (rst cA Ad (f, ((nI o), (nI z)), tx, rt) 10)) s.heap) rfl rfl (all_fst _ _ _ _) rfl hl.1 rfl (lv_room (Nat.le_of_ble_eq_true rfl)) dL_act_188 ⟨Nat.zero_le _, Nat.zero_le _⟩ (fun H locs hWP hWD hS => ?_)
      have hWP : va_P D vwCl (all cA Ad ((upS (pushF f ((o + z) % 6)) 0 ((runS (1 + (upN y 9)) (f 0)).2)), ((nI (if z < 6 then o else (o + 1) % 6)), (nI (if z < 6 then z + 1 else z))), tx, rt)) H := hWP
      have hWD : va_D A (all cA Ad ((upS (pushF f ((o + z) % 6)) 0 ((runS (1 + (upN y 9)) (f 0)).2)), ((nI (if z < 6 then o else (o + 1) % 6)), (nI (if z < 6 then z + 1 else z))), tx, rt)) := hWD
      refine lz_top (v := (nI (runS (1 + (upN y 9)) (f 0)).1)) rfl ?_
      exact mu_iret hx hb hr hlocks dL_act_191 hAe hS (by rw [act_11b hc_13 c_169]; exact hWP) (congrArg Prod.fst (act_11b hc_13 c_169)).symm
    · refine lv_aload_n hx hb dL_act_172 rfl (lv_at hl 1 rfl) ?_
      refine mu_Vw (ci := 4) (q0 := 0) (As := []) (rest := []) ⟨hx, hb, hml, hown, hts⟩ (c_X4_start l D cA _ Ad f o z tx rt ho hz6 hG.ru  hWP (hWD.weaken (fun _ _ _ _ => trivial))) (cwV 0 hts gL_act_X4_start rfl rfl rfl (by decide +kernel) ⟨Nat.le_of_ble_eq_true rfl, Nat.le_of_ble_eq_true rfl⟩) hKN hWP hWD hS hA (lw_fP 10 (by decide) hWP : va_P D vwCl ((wLm cA Ad rt) ++ (rst cA Ad (f, ((nI o), (nI z)), tx, rt) 10)) s.heap) rfl rfl (all_fst _ _ _ _) rfl hl.1 rfl (lv_room (Nat.le_of_ble_eq_true rfl)) dL_act_173 ⟨Nat.zero_le _, Nat.zero_le _⟩ (fun H locs hWP hWD hS => ?_)
      have hWP : va_P D vwCl (all cA Ad ((upS (pushF f ((o + z) % 6)) 0 (setMc (f 0) beginM)), ((nI (if z < 6 then o else (o + 1) % 6)), (nI (if z < 6 then z + 1 else z))), tx, rt)) H := hWP
      have hWD : va_D A (all cA Ad ((upS (pushF f ((o + z) % 6)) 0 (setMc (f 0) beginM)), ((nI (if z < 6 then o else (o + 1) % 6)), (nI (if z < 6 then z + 1 else z))), tx, rt)) := hWD
      refine lz_top (v := (f 0).2.2.2.2.2.2.2.2.2.2.2.2.1) rfl ?_
      refine lv_goto (tgt := 191) hx hb dL_act_176 (by decide) ?_
      exact mu_iret hx hb hr hlocks dL_act_191 hAe hS (by rw [act_11a hc_13 c_169]; exact hWP) (congrArg Prod.fst (act_11a hc_13 c_169)).symm
  · refine lz_top (v := 12) (by rw [hc_13]; rfl) ?_
    refine lv_tableIn (tgt := 192) (off := 179) hx hb dL_act_13 (by decide) (by decide) rfl (by decide) ?_
    refine lv_aload_n hx hb dL_act_192 rfl (lv_at hl 1 rfl) ?_
    refine lv_iconst (v := 0) hx hb dL_act_193 (by decide) ?_
    refine mu_Vw (ci := 4) (q0 := 0) (As := [.int 0]) (rest := []) ⟨hx, hb, hml, hown, hts⟩ (c_X4_goBack0 l D cA _ Ad f o z tx rt ho hz6 hG.ru hG2.ru hk hWP (hWD.weaken (fun _ _ _ _ => trivial))) (cwV 1 hts gL_act_X4_goBack rfl rfl rfl (by decide +kernel) ⟨Nat.le_of_ble_eq_true rfl, Nat.le_of_ble_eq_true rfl⟩) hKN hWP hWD hS hA (lw_fP 10 (by decide) hWP : va_P D vwCl ((wLm cA Ad rt) ++ (rst cA Ad (f, ((nI o), (nI z)), tx, rt) 10)) s.heap) rfl rfl (all_fst _ _ _ _) rfl hl.1 rfl (lv_room (Nat.le_of_ble_eq_true rfl)) dL_act_194 ⟨Nat.zero_le _, Nat.zero_le _⟩ (fun H locs hWP hWD hS => ?_)
    have hWP : va_P D vwCl (all cA Ad ((upS (pushF f ((o + z) % 6)) 0 (f 2)), ((nI (if z < 6 then o else (o + 1) % 6)), (nI (if z < 6 then z + 1 else z))), tx, rt)) H := hWP
    have hWD : va_D A (all cA Ad ((upS (pushF f ((o + z) % 6)) 0 (f 2)), ((nI (if z < 6 then o else (o + 1) % 6)), (nI (if z < 6 then z + 1 else z))), tx, rt)) := hWD
    refine lz_top (v := (cbtT (f 2) 16)) rfl ?_
    exact mu_iret hx hb hr hlocks dL_act_197 hAe hS (by rw [act_12 hc_13]; exact hWP) (congrArg Prod.fst (act_12 hc_13)).symm
  · refine lz_top (v := 13) (by rw [hc_13]; rfl) ?_
    refine lv_tableOut (tgt := 198) hx hb dL_act_13 (by decide) (by decide) ?_
    refine lv_aload_n hx hb dL_act_198 rfl (lv_at hl 1 rfl) ?_
    refine lv_iload_n hx hb dL_act_199 rfl (lv_at hl 0 rfl) ?_
    refine mu_Vw (ci := 4) (q0 := 0) (As := [.int (nI (upN y 16))]) (rest := []) ⟨hx, hb, hml, hown, hts⟩ (c_X4_read l D cA _ Ad f o z tx rt ho hz6 hG.ru (upN y 16) (by omega) hWP (hWD.weaken (fun _ _ _ _ => trivial))) (cwV 1 hts gL_act_X4_read rfl rfl rfl (by decide +kernel) ⟨Nat.le_of_ble_eq_true rfl, Nat.le_of_ble_eq_true rfl⟩) hKN hWP hWD hS hA (lw_fP 10 (by decide) hWP : va_P D vwCl ((wLm cA Ad rt) ++ (rst cA Ad (f, ((nI o), (nI z)), tx, rt) 10)) s.heap) rfl rfl (all_fst _ _ _ _) rfl hl.1 rfl (lv_room (Nat.le_of_ble_eq_true rfl)) dL_act_200 ⟨Nat.zero_le _, Nat.zero_le _⟩ (fun H locs hWP hWD hS => ?_)
    have hWP : va_P D vwCl (all cA Ad ((upS (pushF f ((o + z) % 6)) 0 (readS (f 0) (upN y 16))), ((nI (if z < 6 then o else (o + 1) % 6)), (nI (if z < 6 then z + 1 else z))), tx, rt)) H := hWP
    have hWD : va_D A (all cA Ad ((upS (pushF f ((o + z) % 6)) 0 (readS (f 0) (upN y 16))), ((nI (if z < 6 then o else (o + 1) % 6)), (nI (if z < 6 then z + 1 else z))), tx, rt)) := hWD
    refine lz_top (v := (tellsS (f 0) (upN y 16))) rfl ?_
    exact mu_iret hx hb hr hlocks dL_act_203 hAe hS (by rw [act_13 (by omega)]; exact hWP) (congrArg Prod.fst (act_13 (by omega))).symm
  · refine lz_top (v := 14) (by rw [hc_13]; rfl) ?_
    refine lv_tableOut (tgt := 198) hx hb dL_act_13 (by decide) (by decide) ?_
    refine lv_aload_n hx hb dL_act_198 rfl (lv_at hl 1 rfl) ?_
    refine lv_iload_n hx hb dL_act_199 rfl (lv_at hl 0 rfl) ?_
    refine mu_Vw (ci := 4) (q0 := 0) (As := [.int (nI (upN y 16))]) (rest := []) ⟨hx, hb, hml, hown, hts⟩ (c_X4_read l D cA _ Ad f o z tx rt ho hz6 hG.ru (upN y 16) (by omega) hWP (hWD.weaken (fun _ _ _ _ => trivial))) (cwV 1 hts gL_act_X4_read rfl rfl rfl (by decide +kernel) ⟨Nat.le_of_ble_eq_true rfl, Nat.le_of_ble_eq_true rfl⟩) hKN hWP hWD hS hA (lw_fP 10 (by decide) hWP : va_P D vwCl ((wLm cA Ad rt) ++ (rst cA Ad (f, ((nI o), (nI z)), tx, rt) 10)) s.heap) rfl rfl (all_fst _ _ _ _) rfl hl.1 rfl (lv_room (Nat.le_of_ble_eq_true rfl)) dL_act_200 ⟨Nat.zero_le _, Nat.zero_le _⟩ (fun H locs hWP hWD hS => ?_)
    have hWP : va_P D vwCl (all cA Ad ((upS (pushF f ((o + z) % 6)) 0 (readS (f 0) (upN y 16))), ((nI (if z < 6 then o else (o + 1) % 6)), (nI (if z < 6 then z + 1 else z))), tx, rt)) H := hWP
    have hWD : va_D A (all cA Ad ((upS (pushF f ((o + z) % 6)) 0 (readS (f 0) (upN y 16))), ((nI (if z < 6 then o else (o + 1) % 6)), (nI (if z < 6 then z + 1 else z))), tx, rt)) := hWD
    refine lz_top (v := (tellsS (f 0) (upN y 16))) rfl ?_
    exact mu_iret hx hb hr hlocks dL_act_203 hAe hS (by rw [act_13 (by omega)]; exact hWP) (congrArg Prod.fst (act_13 (by omega))).symm
  · refine lz_top (v := 15) (by rw [hc_13]; rfl) ?_
    refine lv_tableOut (tgt := 198) hx hb dL_act_13 (by decide) (by decide) ?_
    refine lv_aload_n hx hb dL_act_198 rfl (lv_at hl 1 rfl) ?_
    refine lv_iload_n hx hb dL_act_199 rfl (lv_at hl 0 rfl) ?_
    refine mu_Vw (ci := 4) (q0 := 0) (As := [.int (nI (upN y 16))]) (rest := []) ⟨hx, hb, hml, hown, hts⟩ (c_X4_read l D cA _ Ad f o z tx rt ho hz6 hG.ru (upN y 16) (by omega) hWP (hWD.weaken (fun _ _ _ _ => trivial))) (cwV 1 hts gL_act_X4_read rfl rfl rfl (by decide +kernel) ⟨Nat.le_of_ble_eq_true rfl, Nat.le_of_ble_eq_true rfl⟩) hKN hWP hWD hS hA (lw_fP 10 (by decide) hWP : va_P D vwCl ((wLm cA Ad rt) ++ (rst cA Ad (f, ((nI o), (nI z)), tx, rt) 10)) s.heap) rfl rfl (all_fst _ _ _ _) rfl hl.1 rfl (lv_room (Nat.le_of_ble_eq_true rfl)) dL_act_200 ⟨Nat.zero_le _, Nat.zero_le _⟩ (fun H locs hWP hWD hS => ?_)
    have hWP : va_P D vwCl (all cA Ad ((upS (pushF f ((o + z) % 6)) 0 (readS (f 0) (upN y 16))), ((nI (if z < 6 then o else (o + 1) % 6)), (nI (if z < 6 then z + 1 else z))), tx, rt)) H := hWP
    have hWD : va_D A (all cA Ad ((upS (pushF f ((o + z) % 6)) 0 (readS (f 0) (upN y 16))), ((nI (if z < 6 then o else (o + 1) % 6)), (nI (if z < 6 then z + 1 else z))), tx, rt)) := hWD
    refine lz_top (v := (tellsS (f 0) (upN y 16))) rfl ?_
    exact mu_iret hx hb hr hlocks dL_act_203 hAe hS (by rw [act_13 (by omega)]; exact hWP) (congrArg Prod.fst (act_13 (by omega))).symm
