-- the law's isStrong
theorem full_neg {h : Int32} (c : h < 0) : 0 = fullF h := by unfold fullF; rw [if_pos c]
theorem full_big {h : Int32} (c : ¬ h < 0) (d : ¬ h ≤ 2) : 0 = fullF h := by unfold fullF; rw [if_neg c, if_pos (by rw [Int32.lt_iff_toInt_lt]; rw [Int32.le_iff_toInt_le] at d; omega)]
theorem full_in {h : Int32} (c : ¬ h < 0) (d : h ≤ 2) : 8 - 3 * h = fullF h := by unfold fullF; rw [if_neg c, if_neg (by rw [Int32.lt_iff_toInt_lt]; rw [Int32.le_iff_toInt_le] at d; omega)]
theorem bit_01 (x : Int32) {r : Nat} (hr : r < 32) : bitF x (nI r) = 0 ∨ bitF x (nI r) = 1 := by
  rw [bF x hr]
  split
  · exact Or.inr rfl
  · exact Or.inl rfl
theorem bit_n1 {x : Int32} {r : Nat} (hr : r < 32) (c : ¬ bitF x (nI r) = 1) : 0 = bitF x (nI r) := by
  rcases bit_01 x hr with h | h
  · exact h.symm
  · exact absurd h c
theorem bit_p1 {x : Int32} {r : Nat} (hr : r < 32) (c : ¬ bitF x (nI r) = 0) : 1 = bitF x (nI r) := by
  rcases bit_01 x hr with h | h
  · exact absurd h c
  · exact h.symm
theorem hop_n0 {rg : Nat → Int32} {gd : Int32} {t r : Nat} (hr : r < 8) (c : ¬ hopsF rg gd t (nI r) = 0) : 0 = bitF (rg t) (nI r) := by
  refine bit_n1 (by omega) fun z => c ((hops0 rg gd t hr).mpr ((bF1 _ (by omega)).mp z))
theorem hop_0 {rg : Nat → Int32} {gd : Int32} {t r : Nat} (hr : r < 8) (c : hopsF rg gd t (nI r) = 0) : 1 = bitF (rg t) (nI r) := ((bF1 _ (by omega)).mpr ((hops0 rg gd t hr).mp c)).symm
theorem left_str {u : SV} {t r : Nat} (hwe : ∀ r, r < 8 → ∃ w, w ≤ 99 ∧ weS u r = nI w) (hr : r < 8) : strF u.2.2.1 r (hopsF u.1 u.2.2.2.2.1 t (nI r)) = if fullF (hopsF u.1 u.2.2.2.2.1 t (nI r)) - u.2.2.1 r / 10 < 0 then 0 else fullF (hopsF u.1 u.2.2.2.2.1 t (nI r)) - u.2.2.1 r / 10 := by
  obtain ⟨w, h9, e⟩ := hwe r hr
  exact full_str e h9 (hops_range u.1 u.2.2.2.2.1 t hr)
theorem not_neg {x : Int32} (c : 0 ≤ x) : ¬ x < 0 := by rw [Int32.lt_iff_toInt_lt]; rw [Int32.le_iff_toInt_le] at c; omega
theorem is_neg {x : Int32} (c : ¬ 0 ≤ x) : x < 0 := by rw [Int32.lt_iff_toInt_lt]; rw [Int32.le_iff_toInt_le] at c; omega
theorem six_le {se : Nat → Int32} {s : Nat} (hs8 : s ≤ 8) (hse : se 0 = nI s) (c : ¬ se 0 < 6) : 6 ≤ s := by
  rcases Nat.lt_or_ge s 6 with h | h
  · exact absurd (by rw [hse]; exact nI_lt (b := 6) h (by decide)) c
  · exact h
theorem cnt_zero (p : Nat → Bool) : ∀ n, cntB p n = 0 → ∀ i, i < n → p i = false
  | 0, _, i, h => by omega
  | n + 1, h0, i, hi => by
    rw [cntB] at h0
    rcases Nat.lt_succ_iff_lt_or_eq.mp hi with q | q
    · exact cnt_zero p n (by omega) i q
    · subst q
      cases e : p i with
      | false => rfl
      | true => rw [e] at h0; simp at h0
theorem bc_zero {x : Int32} (h : M16 x) : bcF x = 0 ↔ x = 0 := by
  constructor
  · intro e
    rw [bc_bt h] at e
    have hl := cntB_le (bt x) 16
    have e2 : cntB (bt x) 16 = 0 := (nI_eq (b := 0) (by omega) (by decide)).mp e
    apply b_ext
    intro i _
    rw [b_0]
    rcases Nat.lt_or_ge i 16 with q | q
    · exact cnt_zero _ 16 e2 i q
    · exact h i q
  · intro e; rw [e]; decide +kernel
theorem xor_self0 {x y : Int32} : x ^^^ y = 0 ↔ x = y := by
  constructor
  · intro h
    apply b_ext
    intro i _
    have e : bt (x ^^^ y) i = false := by rw [h, b_0]
    rw [b_xor] at e
    revert e
    cases bt x i <;> cases bt y i <;> decide
  · intro h
    subst h
    apply b_ext
    intro i _
    rw [b_xor, b_0]
    cases bt x i <;> rfl
/-- the word differs nowhere from what is meant just where the same rings answer -/
theorem z4_ne {se : Nat → Int32} {x y : Int32} (hx : M8 x) (hy : M8 y) (c : ¬ bcF (wordF se x ^^^ wordF se y) = 0) : 0 = if x = y then (1 : Int32) else 0 := by
  rw [if_neg fun z => c ?_]
  rw [word_xor, (bc_zero (M8_xor hx hy).m16), xor_self0]
  exact z
theorem z4_eq {se : Nat → Int32} {x y : Int32} (hx : M8 x) (hy : M8 y) (c : bcF (wordF se x ^^^ wordF se y) = 0) : 1 = if x = y then (1 : Int32) else 0 := by
  rw [word_xor, (bc_zero (M8_xor hx hy).m16), xor_self0] at c
  rw [if_pos c]
theorem an_eq {x y : Int32} (h : x = y) : y &&& (x ^^^ (-1)) = 0 := by
  subst h
  apply b_ext
  intro i hi
  rw [b_and, b_not _ hi, b_0]
  cases bt x i <;> rfl
theorem z56_1 {x y : Int32} (c : ¬ y &&& (x ^^^ (-1)) = 0) : 0 = if x = y then (1 : Int32) else 0 := by rw [if_neg fun z => c (an_eq z)]
theorem z56_2 {x y : Int32} (c : ¬ x &&& (y ^^^ (-1)) = 0) : 0 = if x = y then (1 : Int32) else 0 := by rw [if_neg fun z => c (an_eq z.symm)]
theorem z56_3 {x y : Int32} (c : y &&& (x ^^^ (-1)) = 0) (d : x &&& (y ^^^ (-1)) = 0) : 1 = if x = y then (1 : Int32) else 0 := by
  rw [if_pos]
  apply b_ext
  intro i hi
  have e1 : bt (y &&& (x ^^^ (-1))) i = false := by rw [c, b_0]
  have e2 : bt (x &&& (y ^^^ (-1))) i = false := by rw [d, b_0]
  rw [b_and, b_not _ hi] at e1 e2
  revert e1 e2
  cases bt x i <;> cases bt y i <;> decide
set_option maxHeartbeats 4000000 in
set_option maxRecDepth 100000 in
theorem c_L_isStrong (l : Launch) (D : va_G) (cA : Nat → ClassId) (H : Heap) (Ad : Nat → Nat → Nat) (f : Nat → SV) (o z : Nat) (tx : TV) (rt : (Nat → Int32) × (Nat → Int32)) (t : Nat) (ht : t < 16) (K : Nat) (hG : GD K (f 0)) (hP0 : va_P D vwCl (all cA Ad (f, ((nI o), (nI z)), tx, rt)) H) : RO l yL_isStrong wsL_isStrong ({ frames := 5, cells := 0, slots := 0, locals := 118 } : Room) D cA [.ref (Ad 10 0), .int (nI t)] H (some (.int 1)) := by
  refine Met.ofW (cc := cL_isStrong) (maxL := 11) (ret := (some .boolean)) (by decide) rfl ?_
  intro p e s m args below meth c s₁ B hml hv
  obtain ⟨rfl, hH, hKN⟩ := hv
  have hK := hKN.1
  have hx := B.exec
  have hb := B.bytes
  have hr := B.returns
  have hts := atoms_spec (ws := wsL_isStrong) B.pre
  have hown : s.vm.findClass RL = some m.cls := findClass_of_methodNamed B.named
  have hlocks := B.notSynchronized
  subst hH
  have hH : s.heap = s.heap := rfl
  have hWP := hP0
  have hl := lv_entry ([.ref (Ad 10 0), .int (nI t)] : List Value) (n := 11) (Nat.le_of_ble_eq_true rfl)
  rw [lg_entry_eq]
  generalize (lg_sl ([.ref (Ad 10 0), .int (nI t)] : List Value) ++ List.replicate (11 - (lg_sl ([.ref (Ad 10 0), .int (nI t)] : List Value)).length) Slot.unset).toArray = ls at hl ⊢
  have hl : lv_has ls 11 [(0, .ref (Ad 10 0)), (1, .int (nI t))] := hl
  obtain ⟨s9, hs0, hs8, hse⟩ := hG.2.2.1
  have hwe := hG.we
  have hR := hG.R t ht
  have hse1 := hG.2.2.2.1
  have hA8 : M8 (ansS (f 0) t) := ans_M8 hs0 hs8 hse hwe
  have hacc : accT (f 0) t 8 = ansS (f 0) t := acc_ans hs0 hs8 hse hwe
  refine lv_aload_n hx hb dL_isStrong_0 rfl (lv_at hl 0 rfl) ?_
  refine lv_iload_n hx hb dL_isStrong_1 rfl (lv_at hl 1 rfl) ?_
  refine lv_iconst (v := 0) hx hb dL_isStrong_2 (by decide) ?_
  refine ro_V (ci := 4) (q0 := 0) (As := [.int (nI t), .int 0]) (rest := []) ⟨hx, hb, hml, hown, hts⟩ (c_X4_threadOf l D cA _ Ad f o z tx rt t (by omega) 0 (by decide) hWP) (cwV 2 hts gL_isStrong_X4_threadOf rfl rfl rfl (by decide +kernel) ⟨Nat.le_of_ble_eq_true rfl, Nat.le_of_ble_eq_true rfl⟩) hKN (lw_fP 10 (by decide) hWP : va_P D vwCl ((wLm cA Ad rt) ++ (rst cA Ad (f, ((nI o), (nI z)), tx, rt) 10)) s.heap) rfl rfl rfl hl.1 rfl (lv_room (Nat.le_of_ble_eq_true rfl)) dL_isStrong_3 ⟨Nat.zero_le _, Nat.zero_le _⟩ ?_
  refine lz_top (v := ((f 0).1 t)) rfl ?_
  refine lv_istore_n (lv' := [(2, .int ((f 0).1 t)), (0, .ref (Ad 10 0)), (1, .int (nI t))]) hx hb dL_isStrong_6 rfl hl (by decide) rfl (fun ls hl => ?_)
  refine lv_iconst (v := 0) hx hb dL_isStrong_7 (by decide) ?_
  refine lv_istore_n (lv' := [(3, .int 0), (2, .int ((f 0).1 t)), (0, .ref (Ad 10 0)), (1, .int (nI t))]) hx hb dL_isStrong_8 rfl hl (by decide) rfl (fun ls hl => ?_)
  refine lv_iconst (v := 1) hx hb dL_isStrong_9 (by decide) ?_
  refine lv_istore (lv' := [(4, .int 1), (3, .int 0), (2, .int ((f 0).1 t)), (0, .ref (Ad 10 0)), (1, .int (nI t))]) hx hb dL_isStrong_10 hl (by decide) rfl (fun ls hl => ?_)
  refine lv_iconst (v := 0) hx hb dL_isStrong_12 (by decide) ?_
  refine lv_istore (lv' := [(5, .int 0), (4, .int 1), (3, .int 0), (2, .int ((f 0).1 t)), (0, .ref (Ad 10 0)), (1, .int (nI t))]) hx hb dL_isStrong_13 hl (by decide) rfl (fun ls hl => ?_)
  have loop15 : ∀ (n15 k15 : Nat), k15 + n15 = 8 → ∀ (ls : Array Slot), lv_has ls 11 [(5, .int (nI k15)), (4, .int 1), (3, .int (accT (f 0) t k15)), (2, .int ((f 0).1 t)), (0, .ref (Ad 10 0)), (1, .int (nI t))] → W p l e ({ frames := 5, cells := 0, slots := 0, locals := 118 } : Room) s m ([.ref (Ad 10 0), .int (nI t)] : List Value).toArray below meth c s.heap [] 0 0 (MQ below (roQ s.heap (some (.int 1))) ([.ref (Ad 10 0), .int (nI t)] : List Value).toArray s 0 0 noA) (F0 m 15 ls []) := by
    intro n15
    induction n15 with
    | zero =>
      intro k15 hk15 ls hl
      obtain rfl : 8 = k15 := by omega
      refine lv_iload hx hb dL_isStrong_15 (lv_at hl 0 rfl) ?_
      refine lv_bipush (v := 8) hx hb dL_isStrong_17 (by decide) ?_
      refine lv_icmp_ge (tgt := 192) hx hb dL_isStrong_19 (by decide) (fun _ => ?_) (fun h => absurd (by decide) h)
      rw [hacc] at hl
      refine lv_aload_n hx hb dL_isStrong_192 rfl (lv_at hl 4 rfl) ?_
      refine lv_iconst (v := 1) hx hb dL_isStrong_193 (by decide) ?_
      refine ro_V (ci := 4) (q0 := 0) (As := [.int 1]) (rest := []) ⟨hx, hb, hml, hown, hts⟩ (c_X4_setting l D cA _ Ad f o z tx rt 1 (by decide) hWP) (cwV 1 hts gL_isStrong_X4_setting rfl rfl rfl (by decide +kernel) ⟨Nat.le_of_ble_eq_true rfl, Nat.le_of_ble_eq_true rfl⟩) hKN (lw_fP 10 (by decide) hWP : va_P D vwCl ((wLm cA Ad rt) ++ (rst cA Ad (f, ((nI o), (nI z)), tx, rt) 10)) s.heap) rfl rfl rfl hl.1 rfl (lv_room (Nat.le_of_ble_eq_true rfl)) dL_isStrong_194 ⟨Nat.zero_le _, Nat.zero_le _⟩ ?_
      refine lz_top (v := ((f 0).2.2.2.1 1)) rfl ?_
      refine lv_iconst (v := 1) hx hb dL_isStrong_197 (by decide) ?_
      have hj_198 : W p l e ({ frames := 5, cells := 0, slots := 0, locals := 118 } : Room) s m ([.ref (Ad 10 0), .int (nI t)] : List Value).toArray below meth c s.heap [] 0 0 (MQ below (roQ s.heap (some (.int 1))) ([.ref (Ad 10 0), .int (nI t)] : List Value).toArray s 0 0 noA) (F0 m 208 ls [.int (if (f 0).2.2.2.1 1 = 1 then (255 : Int32) else 0)]) → W p l e ({ frames := 5, cells := 0, slots := 0, locals := 118 } : Room) s m ([.ref (Ad 10 0), .int (nI t)] : List Value).toArray below meth c s.heap [] 0 0 (MQ below (roQ s.heap (some (.int 1))) ([.ref (Ad 10 0), .int (nI t)] : List Value).toArray s 0 0 noA) (F0 m 198 ls [.int 1, .int ((f 0).2.2.2.1 1)]) := by
        intro hJ
        refine lv_icmp_ne (tgt := 207) hx hb dL_isStrong_198 (by decide) (fun c_198 => ?_) (fun c_198 => ?_)
        · refine lv_iconst (v := 0) hx hb dL_isStrong_207 (by decide) ?_
          refine lz_top (v := (if (f 0).2.2.2.1 1 = 1 then (255 : Int32) else 0)) (if_neg c_198).symm ?_
          exact hJ
        · refine lv_sipush (v := 255) hx hb dL_isStrong_201 (by decide) ?_
          refine lv_goto (tgt := 208) hx hb dL_isStrong_204 (by decide) ?_
          refine lz_top (v := (if (f 0).2.2.2.1 1 = 1 then (255 : Int32) else 0)) (if_pos c_198).symm ?_
          exact hJ
      refine hj_198 ?_
      refine lv_istore (lv' := [(5, .int (if (f 0).2.2.2.1 1 = 1 then (255 : Int32) else 0)), (4, .int 1), (3, .int (ansS (f 0) t)), (2, .int ((f 0).1 t)), (0, .ref (Ad 10 0)), (1, .int (nI t))]) hx hb dL_isStrong_208 hl (by decide) rfl (fun ls hl => ?_)
      refine lv_iload hx hb dL_isStrong_210 (lv_at hl 1 rfl) ?_
      refine lv_if_eq (tgt := 293) hx hb dL_isStrong_212 (by decide) (fun h => absurd h (by decide)) (fun _ => ?_)
      refine lv_aload_n hx hb dL_isStrong_215 rfl (lv_at hl 4 rfl) ?_
      refine lv_iload_n hx hb dL_isStrong_216 rfl (lv_at hl 5 rfl) ?_
      refine lv_iconst (v := 2) hx hb dL_isStrong_217 (by decide) ?_
      refine ro_V (ci := 4) (q0 := 0) (As := [.int (nI t), .int 2]) (rest := []) ⟨hx, hb, hml, hown, hts⟩ (c_X4_threadOf l D cA _ Ad f o z tx rt t (by omega) 2 (by decide) hWP) (cwV 2 hts gL_isStrong_X4_threadOf rfl rfl rfl (by decide +kernel) ⟨Nat.le_of_ble_eq_true rfl, Nat.le_of_ble_eq_true rfl⟩) hKN (lw_fP 10 (by decide) hWP : va_P D vwCl ((wLm cA Ad rt) ++ (rst cA Ad (f, ((nI o), (nI z)), tx, rt) 10)) s.heap) rfl rfl rfl hl.1 rfl (lv_room (Nat.le_of_ble_eq_true rfl)) dL_isStrong_218 ⟨Nat.zero_le _, Nat.zero_le _⟩ ?_
      refine lz_top (v := (meansS (f 0) t)) rfl ?_
      refine lv_iload_n hx hb dL_isStrong_221 rfl (lv_at hl 3 rfl) ?_
      refine lv_iload hx hb dL_isStrong_222 (lv_at hl 0 rfl) ?_
      refine lv_ixor hx hb dL_isStrong_224 ?_
      refine lv_icmp_ne (tgt := 293) hx hb dL_isStrong_225 (by decide) (fun h => absurd (word_turn (f 0).2.2.2.1 hse1 _) h) (fun _ => ?_)
      refine lv_aload_n hx hb dL_isStrong_228 rfl (lv_at hl 4 rfl) ?_
      refine lv_iload_n hx hb dL_isStrong_229 rfl (lv_at hl 5 rfl) ?_
      refine lv_iconst (v := 3) hx hb dL_isStrong_230 (by decide) ?_
      refine ro_V (ci := 4) (q0 := 0) (As := [.int (nI t), .int 3]) (rest := []) ⟨hx, hb, hml, hown, hts⟩ (c_X4_threadOf l D cA _ Ad f o z tx rt t (by omega) 3 (by decide) hWP) (cwV 2 hts gL_isStrong_X4_threadOf rfl rfl rfl (by decide +kernel) ⟨Nat.le_of_ble_eq_true rfl, Nat.le_of_ble_eq_true rfl⟩) hKN (lw_fP 10 (by decide) hWP : va_P D vwCl ((wLm cA Ad rt) ++ (rst cA Ad (f, ((nI o), (nI z)), tx, rt) 10)) s.heap) rfl rfl rfl hl.1 rfl (lv_room (Nat.le_of_ble_eq_true rfl)) dL_isStrong_231 ⟨Nat.zero_le _, Nat.zero_le _⟩ ?_
      refine lz_top (v := (tellsS (f 0) t)) rfl ?_
      refine lv_iload_n hx hb dL_isStrong_234 rfl (lv_at hl 2 rfl) ?_
      refine lv_iload hx hb dL_isStrong_235 (lv_at hl 0 rfl) ?_
      refine lv_ixor hx hb dL_isStrong_237 ?_
      refine lv_icmp_ne (tgt := 293) hx hb dL_isStrong_238 (by decide) (fun h => absurd (word_turn (f 0).2.2.2.1 hse1 _) h) (fun _ => ?_)
      refine lv_aload_n hx hb dL_isStrong_241 rfl (lv_at hl 4 rfl) ?_
      refine lv_iload_n hx hb dL_isStrong_242 rfl (lv_at hl 5 rfl) ?_
      refine lv_iconst (v := 4) hx hb dL_isStrong_243 (by decide) ?_
      refine ro_V (ci := 4) (q0 := 0) (As := [.int (nI t), .int 4]) (rest := []) ⟨hx, hb, hml, hown, hts⟩ (c_X4_threadOf l D cA _ Ad f o z tx rt t (by omega) 4 (by decide) hWP) (cwV 2 hts gL_isStrong_X4_threadOf rfl rfl rfl (by decide +kernel) ⟨Nat.le_of_ble_eq_true rfl, Nat.le_of_ble_eq_true rfl⟩) hKN (lw_fP 10 (by decide) hWP : va_P D vwCl ((wLm cA Ad rt) ++ (rst cA Ad (f, ((nI o), (nI z)), tx, rt) 10)) s.heap) rfl rfl rfl hl.1 rfl (lv_room (Nat.le_of_ble_eq_true rfl)) dL_isStrong_244 ⟨Nat.zero_le _, Nat.zero_le _⟩ ?_
      refine lz_top (v := (bcF (meansS (f 0) t ^^^ tellsS (f 0) t))) rfl ?_
      refine lv_iload_n hx hb dL_isStrong_247 rfl (lv_at hl 3 rfl) ?_
      refine lv_iload_n hx hb dL_isStrong_248 rfl (lv_at hl 2 rfl) ?_
      refine lv_ixor hx hb dL_isStrong_249 ?_
      refine ro_S (As := [.int (((f 0).1 t) ^^^ (ansS (f 0) t))]) (rest := [.int (bcF (meansS (f 0) t ^^^ tellsS (f 0) t))]) ⟨hx, hb, hml, hown, hts⟩ (c_L_bits l D cA _ (((f 0).1 t) ^^^ (ansS (f 0) t)) (M8_xor hR hA8).m16) (cwS2 1 hts gL_isStrong_L_bits rfl rfl rfl (by decide +kernel) ⟨Nat.le_of_ble_eq_true rfl, Nat.le_of_ble_eq_true rfl⟩) hKN rfl hl.1 rfl (lv_room (Nat.le_of_ble_eq_true rfl)) dL_isStrong_250 ⟨Nat.zero_le _, Nat.zero_le _⟩ ?_
      refine lv_icmp_ne (tgt := 293) hx hb dL_isStrong_253 (by decide) (fun h => absurd (congrArg bcF (word_xor _ _ _)) h) (fun _ => ?_)
      refine lv_aload_n hx hb dL_isStrong_256 rfl (lv_at hl 4 rfl) ?_
      refine lv_iload_n hx hb dL_isStrong_257 rfl (lv_at hl 5 rfl) ?_
      refine lv_iconst (v := 5) hx hb dL_isStrong_258 (by decide) ?_
      refine ro_V (ci := 4) (q0 := 0) (As := [.int (nI t), .int 5]) (rest := []) ⟨hx, hb, hml, hown, hts⟩ (c_X4_threadOf l D cA _ Ad f o z tx rt t (by omega) 5 (by decide) hWP) (cwV 2 hts gL_isStrong_X4_threadOf rfl rfl rfl (by decide +kernel) ⟨Nat.le_of_ble_eq_true rfl, Nat.le_of_ble_eq_true rfl⟩) hKN (lw_fP 10 (by decide) hWP : va_P D vwCl ((wLm cA Ad rt) ++ (rst cA Ad (f, ((nI o), (nI z)), tx, rt) 10)) s.heap) rfl rfl rfl hl.1 rfl (lv_room (Nat.le_of_ble_eq_true rfl)) dL_isStrong_259 ⟨Nat.zero_le _, Nat.zero_le _⟩ ?_
      refine lz_top (v := (ansS (f 0) t &&& ((f 0).1 t ^^^ (-1)))) rfl ?_
      refine lv_iload_n hx hb dL_isStrong_262 rfl (lv_at hl 2 rfl) ?_
      refine lv_sipush (v := 255) hx hb dL_isStrong_263 (by decide) ?_
      refine lv_iload_n hx hb dL_isStrong_266 rfl (lv_at hl 3 rfl) ?_
      refine lv_isub hx hb dL_isStrong_267 ?_
      refine lv_iand hx hb dL_isStrong_268 ?_
      refine lv_icmp_ne (tgt := 293) hx hb dL_isStrong_269 (by decide) (fun h => absurd (and_sub hA8 hR) h) (fun _ => ?_)
      refine lv_aload_n hx hb dL_isStrong_272 rfl (lv_at hl 4 rfl) ?_
      refine lv_iload_n hx hb dL_isStrong_273 rfl (lv_at hl 5 rfl) ?_
      refine lv_bipush (v := 6) hx hb dL_isStrong_274 (by decide) ?_
      refine ro_V (ci := 4) (q0 := 0) (As := [.int (nI t), .int 6]) (rest := []) ⟨hx, hb, hml, hown, hts⟩ (c_X4_threadOf l D cA _ Ad f o z tx rt t (by omega) 6 (by decide) hWP) (cwV 2 hts gL_isStrong_X4_threadOf rfl rfl rfl (by decide +kernel) ⟨Nat.le_of_ble_eq_true rfl, Nat.le_of_ble_eq_true rfl⟩) hKN (lw_fP 10 (by decide) hWP : va_P D vwCl ((wLm cA Ad rt) ++ (rst cA Ad (f, ((nI o), (nI z)), tx, rt) 10)) s.heap) rfl rfl rfl hl.1 rfl (lv_room (Nat.le_of_ble_eq_true rfl)) dL_isStrong_276 ⟨Nat.zero_le _, Nat.zero_le _⟩ ?_
      refine lz_top (v := ((f 0).1 t &&& (ansS (f 0) t ^^^ (-1)))) rfl ?_
      refine lv_iload_n hx hb dL_isStrong_279 rfl (lv_at hl 3 rfl) ?_
      refine lv_sipush (v := 255) hx hb dL_isStrong_280 (by decide) ?_
      refine lv_iload_n hx hb dL_isStrong_283 rfl (lv_at hl 2 rfl) ?_
      refine lv_isub hx hb dL_isStrong_284 ?_
      refine lv_iand hx hb dL_isStrong_285 ?_
      refine lv_icmp_ne (tgt := 293) hx hb dL_isStrong_286 (by decide) (fun h => absurd (and_sub hR hA8) h) (fun _ => ?_)
      refine lv_iconst (v := 1) hx hb dL_isStrong_289 (by decide) ?_
      refine lv_goto (tgt := 294) hx hb dL_isStrong_290 (by decide) ?_
      refine lv_istore (lv' := [(4, .int 1), (5, .int (if (f 0).2.2.2.1 1 = 1 then (255 : Int32) else 0)), (3, .int (ansS (f 0) t)), (2, .int ((f 0).1 t)), (0, .ref (Ad 10 0)), (1, .int (nI t))]) hx hb dL_isStrong_294 hl (by decide) rfl (fun ls hl => ?_)
      refine lv_iload hx hb dL_isStrong_296 (lv_at hl 0 rfl) ?_
      refine lv_if_eq (tgt := 365) hx hb dL_isStrong_298 (by decide) (fun h => absurd h (by decide)) (fun _ => ?_)
      refine lv_aload_n hx hb dL_isStrong_301 rfl (lv_at hl 4 rfl) ?_
      refine lv_iconst (v := 0) hx hb dL_isStrong_302 (by decide) ?_
      refine ro_V (ci := 4) (q0 := 0) (As := [.int 0]) (rest := []) ⟨hx, hb, hml, hown, hts⟩ (c_X4_setting l D cA _ Ad f o z tx rt 0 (by decide) hWP) (cwV 1 hts gL_isStrong_X4_setting rfl rfl rfl (by decide +kernel) ⟨Nat.le_of_ble_eq_true rfl, Nat.le_of_ble_eq_true rfl⟩) hKN (lw_fP 10 (by decide) hWP : va_P D vwCl ((wLm cA Ad rt) ++ (rst cA Ad (f, ((nI o), (nI z)), tx, rt) 10)) s.heap) rfl rfl rfl hl.1 rfl (lv_room (Nat.le_of_ble_eq_true rfl)) dL_isStrong_303 ⟨Nat.zero_le _, Nat.zero_le _⟩ ?_
      refine lz_top (v := ((f 0).2.2.2.1 0)) rfl ?_
      refine lv_bipush (v := 6) hx hb dL_isStrong_306 (by decide) ?_
      have hj_308 : W p l e ({ frames := 5, cells := 0, slots := 0, locals := 118 } : Room) s m ([.ref (Ad 10 0), .int (nI t)] : List Value).toArray below meth c s.heap [] 0 0 (MQ below (roQ s.heap (some (.int 1))) ([.ref (Ad 10 0), .int (nI t)] : List Value).toArray s 0 0 noA) (F0 m 320 ls []) → W p l e ({ frames := 5, cells := 0, slots := 0, locals := 118 } : Room) s m ([.ref (Ad 10 0), .int (nI t)] : List Value).toArray below meth c s.heap [] 0 0 (MQ below (roQ s.heap (some (.int 1))) ([.ref (Ad 10 0), .int (nI t)] : List Value).toArray s 0 0 noA) (F0 m 308 ls [.int 6, .int ((f 0).2.2.2.1 0)]) := by
        intro hJ
        refine lv_icmp_lt (tgt := 320) hx hb dL_isStrong_308 (by decide) (fun c_308 => ?_) (fun c_308 => ?_)
        · exact hJ
        · refine lv_aload_n hx hb dL_isStrong_311 rfl (lv_at hl 4 rfl) ?_
          refine lv_iload_n hx hb dL_isStrong_312 rfl (lv_at hl 5 rfl) ?_
          refine lv_iconst (v := 5) hx hb dL_isStrong_313 (by decide) ?_
          refine ro_V (ci := 4) (q0 := 0) (As := [.int (nI t), .int 5]) (rest := []) ⟨hx, hb, hml, hown, hts⟩ (c_X4_threadOf l D cA _ Ad f o z tx rt t (by omega) 5 (by decide) hWP) (cwV 2 hts gL_isStrong_X4_threadOf rfl rfl rfl (by decide +kernel) ⟨Nat.le_of_ble_eq_true rfl, Nat.le_of_ble_eq_true rfl⟩) hKN (lw_fP 10 (by decide) hWP : va_P D vwCl ((wLm cA Ad rt) ++ (rst cA Ad (f, ((nI o), (nI z)), tx, rt) 10)) s.heap) rfl rfl rfl hl.1 rfl (lv_room (Nat.le_of_ble_eq_true rfl)) dL_isStrong_314 ⟨Nat.zero_le _, Nat.zero_le _⟩ ?_
          refine lz_top (v := (ansS (f 0) t &&& ((f 0).1 t ^^^ (-1)))) rfl ?_
          refine lv_if_ne (tgt := 365) hx hb dL_isStrong_317 (by decide) (fun h => absurd (none_more (six_le hs8 hse c_308) hs8 hse hwe) h) (fun _ => ?_)
          exact hJ
      refine hj_308 ?_
      refine lv_aload_n hx hb dL_isStrong_320 rfl (lv_at hl 4 rfl) ?_
      refine lv_iload_n hx hb dL_isStrong_321 rfl (lv_at hl 5 rfl) ?_
      refine lv_iconst (v := 4) hx hb dL_isStrong_322 (by decide) ?_
      refine ro_V (ci := 4) (q0 := 0) (As := [.int (nI t), .int 4]) (rest := []) ⟨hx, hb, hml, hown, hts⟩ (c_X4_threadOf l D cA _ Ad f o z tx rt t (by omega) 4 (by decide) hWP) (cwV 2 hts gL_isStrong_X4_threadOf rfl rfl rfl (by decide +kernel) ⟨Nat.le_of_ble_eq_true rfl, Nat.le_of_ble_eq_true rfl⟩) hKN (lw_fP 10 (by decide) hWP : va_P D vwCl ((wLm cA Ad rt) ++ (rst cA Ad (f, ((nI o), (nI z)), tx, rt) 10)) s.heap) rfl rfl rfl hl.1 rfl (lv_room (Nat.le_of_ble_eq_true rfl)) dL_isStrong_323 ⟨Nat.zero_le _, Nat.zero_le _⟩ ?_
      refine lz_top (v := (bcF (meansS (f 0) t ^^^ tellsS (f 0) t))) rfl ?_
      have hj_326 : W p l e ({ frames := 5, cells := 0, slots := 0, locals := 118 } : Room) s m ([.ref (Ad 10 0), .int (nI t)] : List Value).toArray below meth c s.heap [] 0 0 (MQ below (roQ s.heap (some (.int 1))) ([.ref (Ad 10 0), .int (nI t)] : List Value).toArray s 0 0 noA) (F0 m 334 ls [.int (if (f 0).1 t = ansS (f 0) t then (1 : Int32) else 0)]) → W p l e ({ frames := 5, cells := 0, slots := 0, locals := 118 } : Room) s m ([.ref (Ad 10 0), .int (nI t)] : List Value).toArray below meth c s.heap [] 0 0 (MQ below (roQ s.heap (some (.int 1))) ([.ref (Ad 10 0), .int (nI t)] : List Value).toArray s 0 0 noA) (F0 m 326 ls [.int (bcF (meansS (f 0) t ^^^ tellsS (f 0) t))]) := by
        intro hJ
        refine lv_if_ne (tgt := 333) hx hb dL_isStrong_326 (by decide) (fun c_326 => ?_) (fun c_326 => ?_)
        · refine lv_iconst (v := 0) hx hb dL_isStrong_333 (by decide) ?_
          refine lz_top (v := (if (f 0).1 t = ansS (f 0) t then (1 : Int32) else 0)) (z4_ne hR hA8 c_326) ?_
          exact hJ
        · refine lv_iconst (v := 1) hx hb dL_isStrong_329 (by decide) ?_
          refine lv_goto (tgt := 334) hx hb dL_isStrong_330 (by decide) ?_
          refine lz_top (v := (if (f 0).1 t = ansS (f 0) t then (1 : Int32) else 0)) (z4_eq hR hA8 c_326) ?_
          exact hJ
      refine hj_326 ?_
      refine lv_aload_n hx hb dL_isStrong_334 rfl (lv_at hl 4 rfl) ?_
      refine lv_iload_n hx hb dL_isStrong_335 rfl (lv_at hl 5 rfl) ?_
      refine lv_iconst (v := 5) hx hb dL_isStrong_336 (by decide) ?_
      refine ro_V (ci := 4) (q0 := 0) (As := [.int (nI t), .int 5]) (rest := [.int (if (f 0).1 t = ansS (f 0) t then (1 : Int32) else 0)]) ⟨hx, hb, hml, hown, hts⟩ (c_X4_threadOf l D cA _ Ad f o z tx rt t (by omega) 5 (by decide) hWP) (cwV 2 hts gL_isStrong_X4_threadOf rfl rfl rfl (by decide +kernel) ⟨Nat.le_of_ble_eq_true rfl, Nat.le_of_ble_eq_true rfl⟩) hKN (lw_fP 10 (by decide) hWP : va_P D vwCl ((wLm cA Ad rt) ++ (rst cA Ad (f, ((nI o), (nI z)), tx, rt) 10)) s.heap) rfl rfl rfl hl.1 rfl (lv_room (Nat.le_of_ble_eq_true rfl)) dL_isStrong_337 ⟨Nat.zero_le _, Nat.zero_le _⟩ ?_
      refine lz_top (v := (ansS (f 0) t &&& ((f 0).1 t ^^^ (-1)))) rfl ?_
      have hj_340 : W p l e ({ frames := 5, cells := 0, slots := 0, locals := 118 } : Room) s m ([.ref (Ad 10 0), .int (nI t)] : List Value).toArray below meth c s.heap [] 0 0 (MQ below (roQ s.heap (some (.int 1))) ([.ref (Ad 10 0), .int (nI t)] : List Value).toArray s 0 0 noA) (F0 m 358 ls [.int (if (f 0).1 t = ansS (f 0) t then (1 : Int32) else 0), .int (if (f 0).1 t = ansS (f 0) t then (1 : Int32) else 0)]) → W p l e ({ frames := 5, cells := 0, slots := 0, locals := 118 } : Room) s m ([.ref (Ad 10 0), .int (nI t)] : List Value).toArray below meth c s.heap [] 0 0 (MQ below (roQ s.heap (some (.int 1))) ([.ref (Ad 10 0), .int (nI t)] : List Value).toArray s 0 0 noA) (F0 m 340 ls [.int (ansS (f 0) t &&& ((f 0).1 t ^^^ (-1))), .int (if (f 0).1 t = ansS (f 0) t then (1 : Int32) else 0)]) := by
        intro hJ
        refine lv_if_ne (tgt := 357) hx hb dL_isStrong_340 (by decide) (fun c_340 => ?_) (fun c_340 => ?_)
        · refine lv_iconst (v := 0) hx hb dL_isStrong_357 (by decide) ?_
          refine lz_top (v := (if (f 0).1 t = ansS (f 0) t then (1 : Int32) else 0)) (z56_1 c_340) ?_
          exact hJ
        · refine lv_aload_n hx hb dL_isStrong_343 rfl (lv_at hl 4 rfl) ?_
          refine lv_iload_n hx hb dL_isStrong_344 rfl (lv_at hl 5 rfl) ?_
          refine lv_bipush (v := 6) hx hb dL_isStrong_345 (by decide) ?_
          refine ro_V (ci := 4) (q0 := 0) (As := [.int (nI t), .int 6]) (rest := [.int (if (f 0).1 t = ansS (f 0) t then (1 : Int32) else 0)]) ⟨hx, hb, hml, hown, hts⟩ (c_X4_threadOf l D cA _ Ad f o z tx rt t (by omega) 6 (by decide) hWP) (cwV 2 hts gL_isStrong_X4_threadOf rfl rfl rfl (by decide +kernel) ⟨Nat.le_of_ble_eq_true rfl, Nat.le_of_ble_eq_true rfl⟩) hKN (lw_fP 10 (by decide) hWP : va_P D vwCl ((wLm cA Ad rt) ++ (rst cA Ad (f, ((nI o), (nI z)), tx, rt) 10)) s.heap) rfl rfl rfl hl.1 rfl (lv_room (Nat.le_of_ble_eq_true rfl)) dL_isStrong_347 ⟨Nat.zero_le _, Nat.zero_le _⟩ ?_
          refine lz_top (v := ((f 0).1 t &&& (ansS (f 0) t ^^^ (-1)))) rfl ?_
          refine lv_if_ne (tgt := 357) hx hb dL_isStrong_350 (by decide) (fun c_350 => ?_) (fun c_350 => ?_)
          · refine lv_iconst (v := 0) hx hb dL_isStrong_357 (by decide) ?_
            refine lz_top (v := (if (f 0).1 t = ansS (f 0) t then (1 : Int32) else 0)) (z56_2 c_350) ?_
            exact hJ
          · refine lv_iconst (v := 1) hx hb dL_isStrong_353 (by decide) ?_
            refine lv_goto (tgt := 358) hx hb dL_isStrong_354 (by decide) ?_
            refine lz_top (v := (if (f 0).1 t = ansS (f 0) t then (1 : Int32) else 0)) (z56_3 c_340 c_350) ?_
            exact hJ
      refine hj_340 ?_
      refine lv_icmp_ne (tgt := 365) hx hb dL_isStrong_358 (by decide) (fun h => absurd rfl h) (fun _ => ?_)
      refine lv_iconst (v := 1) hx hb dL_isStrong_361 (by decide) ?_
      refine lv_goto (tgt := 366) hx hb dL_isStrong_362 (by decide) ?_
      exact ro_zret hx hb hr hlocks hH dL_isStrong_366 rfl rfl
    | succ n15 ih15 =>
      intro k15 hk15 ls hl
      have hlt15 : k15 < 8 := by omega
      refine lv_iload hx hb dL_isStrong_15 (lv_at hl 0 rfl) ?_
      refine lv_bipush (v := 8) hx hb dL_isStrong_17 (by decide) ?_
      refine lv_icmp_ge (tgt := 192) hx hb dL_isStrong_19 (by decide) (fun h => absurd h (nI_ge hlt15 (by first | decide | omega))) (fun _ => ?_)
      refine lv_aload_n hx hb dL_isStrong_22 rfl (lv_at hl 4 rfl) ?_
      refine lv_iload_n hx hb dL_isStrong_23 rfl (lv_at hl 5 rfl) ?_
      refine lv_iload hx hb dL_isStrong_24 (lv_at hl 0 rfl) ?_
      refine lv_iconst (v := 1) hx hb dL_isStrong_26 (by decide) ?_
      refine ro_V (ci := 4) (q0 := 0) (As := [.int (nI t), .int (nI k15), .int 1]) (rest := []) ⟨hx, hb, hml, hown, hts⟩ (c_X4_strength l D cA _ Ad f o z tx rt t (by omega) k15 (by omega) 1 (by decide) hWP) (cwV 3 hts gL_isStrong_X4_strength rfl rfl rfl (by decide +kernel) ⟨Nat.le_of_ble_eq_true rfl, Nat.le_of_ble_eq_true rfl⟩) hKN (lw_fP 10 (by decide) hWP : va_P D vwCl ((wLm cA Ad rt) ++ (rst cA Ad (f, ((nI o), (nI z)), tx, rt) 10)) s.heap) rfl rfl rfl hl.1 rfl (lv_room (Nat.le_of_ble_eq_true rfl)) dL_isStrong_27 ⟨Nat.zero_le _, Nat.zero_le _⟩ ?_
      refine lz_top (v := (hopsF (f 0).1 (f 0).2.2.2.2.1 t (nI k15))) rfl ?_
      refine lv_istore (lv' := [(6, .int (hopsF (f 0).1 (f 0).2.2.2.2.1 t (nI k15))), (5, .int (nI k15)), (4, .int 1), (3, .int (accT (f 0) t k15)), (2, .int ((f 0).1 t)), (0, .ref (Ad 10 0)), (1, .int (nI t))]) hx hb dL_isStrong_30 hl (by decide) rfl (fun ls hl => ?_)
      refine lv_iload hx hb dL_isStrong_32 (lv_at hl 0 rfl) ?_
      have hj_34 : W p l e ({ frames := 5, cells := 0, slots := 0, locals := 118 } : Room) s m ([.ref (Ad 10 0), .int (nI t)] : List Value).toArray below meth c s.heap [] 0 0 (MQ below (roQ s.heap (some (.int 1))) ([.ref (Ad 10 0), .int (nI t)] : List Value).toArray s 0 0 noA) (F0 m 54 ls [.int (fullF (hopsF (f 0).1 (f 0).2.2.2.2.1 t (nI k15)))]) → W p l e ({ frames := 5, cells := 0, slots := 0, locals := 118 } : Room) s m ([.ref (Ad 10 0), .int (nI t)] : List Value).toArray below meth c s.heap [] 0 0 (MQ below (roQ s.heap (some (.int 1))) ([.ref (Ad 10 0), .int (nI t)] : List Value).toArray s 0 0 noA) (F0 m 34 ls [.int (hopsF (f 0).1 (f 0).2.2.2.2.1 t (nI k15))]) := by
        intro hJ
        refine lv_if_lt (tgt := 43) hx hb dL_isStrong_34 (by decide) (fun c_34 => ?_) (fun c_34 => ?_)
        · refine lv_iconst (v := 0) hx hb dL_isStrong_43 (by decide) ?_
          refine lv_goto (tgt := 54) hx hb dL_isStrong_44 (by decide) ?_
          refine lz_top (v := (fullF (hopsF (f 0).1 (f 0).2.2.2.2.1 t (nI k15)))) (full_neg c_34) ?_
          exact hJ
        · refine lv_iload hx hb dL_isStrong_37 (lv_at hl 0 rfl) ?_
          refine lv_iconst (v := 2) hx hb dL_isStrong_39 (by decide) ?_
          refine lv_icmp_le (tgt := 47) hx hb dL_isStrong_40 (by decide) (fun c_40 => ?_) (fun c_40 => ?_)
          · refine lv_bipush (v := 8) hx hb dL_isStrong_47 (by decide) ?_
            refine lv_iconst (v := 3) hx hb dL_isStrong_49 (by decide) ?_
            refine lv_iload hx hb dL_isStrong_50 (lv_at hl 0 rfl) ?_
            refine lv_imul hx hb dL_isStrong_52 ?_
            refine lv_isub hx hb dL_isStrong_53 ?_
            refine lz_top (v := (fullF (hopsF (f 0).1 (f 0).2.2.2.2.1 t (nI k15)))) (full_in c_34 c_40) ?_
            exact hJ
          · refine lv_iconst (v := 0) hx hb dL_isStrong_43 (by decide) ?_
            refine lv_goto (tgt := 54) hx hb dL_isStrong_44 (by decide) ?_
            refine lz_top (v := (fullF (hopsF (f 0).1 (f 0).2.2.2.2.1 t (nI k15)))) (full_big c_34 c_40) ?_
            exact hJ
      refine hj_34 ?_
      refine lv_istore (lv' := [(7, .int (fullF (hopsF (f 0).1 (f 0).2.2.2.2.1 t (nI k15)))), (6, .int (hopsF (f 0).1 (f 0).2.2.2.2.1 t (nI k15))), (5, .int (nI k15)), (4, .int 1), (3, .int (accT (f 0) t k15)), (2, .int ((f 0).1 t)), (0, .ref (Ad 10 0)), (1, .int (nI t))]) hx hb dL_isStrong_54 hl (by decide) rfl (fun ls hl => ?_)
      refine lv_iload hx hb dL_isStrong_56 (lv_at hl 0 rfl) ?_
      refine lv_aload_n hx hb dL_isStrong_58 rfl (lv_at hl 6 rfl) ?_
      refine lv_iload hx hb dL_isStrong_59 (lv_at hl 2 rfl) ?_
      refine lv_iconst (v := 0) hx hb dL_isStrong_61 (by decide) ?_
      refine ro_V (ci := 4) (q0 := 0) (As := [.int (nI k15), .int 0]) (rest := [.int (fullF (hopsF (f 0).1 (f 0).2.2.2.2.1 t (nI k15)))]) ⟨hx, hb, hml, hown, hts⟩ (c_X4_ringOf l D cA _ Ad f o z tx rt k15 (by omega) 0 (by decide) hWP) (cwV 2 hts gL_isStrong_X4_ringOf rfl rfl rfl (by decide +kernel) ⟨Nat.le_of_ble_eq_true rfl, Nat.le_of_ble_eq_true rfl⟩) hKN (lw_fP 10 (by decide) hWP : va_P D vwCl ((wLm cA Ad rt) ++ (rst cA Ad (f, ((nI o), (nI z)), tx, rt) 10)) s.heap) rfl rfl rfl hl.1 rfl (lv_room (Nat.le_of_ble_eq_true rfl)) dL_isStrong_62 ⟨Nat.zero_le _, Nat.zero_le _⟩ ?_
      refine lz_top (v := ((f 0).2.2.1 k15)) rfl ?_
      refine lv_bipush (v := 10) hx hb dL_isStrong_65 (by decide) ?_
      refine lv_idiv hx hb dL_isStrong_67 (by decide) ?_
      refine lv_isub hx hb dL_isStrong_68 ?_
      refine lv_istore (lv' := [(8, .int ((fullF (hopsF (f 0).1 (f 0).2.2.2.2.1 t (nI k15))) - (((f 0).2.2.1 k15) / 10))), (7, .int (fullF (hopsF (f 0).1 (f 0).2.2.2.2.1 t (nI k15)))), (6, .int (hopsF (f 0).1 (f 0).2.2.2.2.1 t (nI k15))), (5, .int (nI k15)), (4, .int 1), (3, .int (accT (f 0) t k15)), (2, .int ((f 0).1 t)), (0, .ref (Ad 10 0)), (1, .int (nI t))]) hx hb dL_isStrong_69 hl (by decide) rfl (fun ls hl => ?_)
      refine lv_aload_n hx hb dL_isStrong_71 rfl (lv_at hl 7 rfl) ?_
      refine lv_iload_n hx hb dL_isStrong_72 rfl (lv_at hl 8 rfl) ?_
      refine lv_iload hx hb dL_isStrong_73 (lv_at hl 3 rfl) ?_
      refine lv_iconst (v := 0) hx hb dL_isStrong_75 (by decide) ?_
      refine ro_V (ci := 4) (q0 := 0) (As := [.int (nI t), .int (nI k15), .int 0]) (rest := []) ⟨hx, hb, hml, hown, hts⟩ (c_X4_strength l D cA _ Ad f o z tx rt t (by omega) k15 (by omega) 0 (by decide) hWP) (cwV 3 hts gL_isStrong_X4_strength rfl rfl rfl (by decide +kernel) ⟨Nat.le_of_ble_eq_true rfl, Nat.le_of_ble_eq_true rfl⟩) hKN (lw_fP 10 (by decide) hWP : va_P D vwCl ((wLm cA Ad rt) ++ (rst cA Ad (f, ((nI o), (nI z)), tx, rt) 10)) s.heap) rfl rfl rfl hl.1 rfl (lv_room (Nat.le_of_ble_eq_true rfl)) dL_isStrong_76 ⟨Nat.zero_le _, Nat.zero_le _⟩ ?_
      refine lz_top (v := (strF (f 0).2.2.1 k15 (hopsF (f 0).1 (f 0).2.2.2.2.1 t (nI k15)))) rfl ?_
      refine lv_istore (lv' := [(9, .int (strF (f 0).2.2.1 k15 (hopsF (f 0).1 (f 0).2.2.2.2.1 t (nI k15)))), (8, .int ((fullF (hopsF (f 0).1 (f 0).2.2.2.2.1 t (nI k15))) - (((f 0).2.2.1 k15) / 10))), (7, .int (fullF (hopsF (f 0).1 (f 0).2.2.2.2.1 t (nI k15)))), (6, .int (hopsF (f 0).1 (f 0).2.2.2.2.1 t (nI k15))), (5, .int (nI k15)), (4, .int 1), (3, .int (accT (f 0) t k15)), (2, .int ((f 0).1 t)), (0, .ref (Ad 10 0)), (1, .int (nI t))]) hx hb dL_isStrong_79 hl (by decide) rfl (fun ls hl => ?_)
      refine lv_iload_n hx hb dL_isStrong_81 rfl (lv_at hl 7 rfl) ?_
      refine lv_iload hx hb dL_isStrong_82 (lv_at hl 4 rfl) ?_
      refine lv_ishr hx hb dL_isStrong_84 ?_
      refine lv_iconst (v := 1) hx hb dL_isStrong_85 (by decide) ?_
      refine lv_iand hx hb dL_isStrong_86 ?_
      refine lv_iconst (v := 1) hx hb dL_isStrong_87 (by decide) ?_
      have hj_88 : W p l e ({ frames := 5, cells := 0, slots := 0, locals := 118 } : Room) s m ([.ref (Ad 10 0), .int (nI t)] : List Value).toArray below meth c s.heap [] 0 0 (MQ below (roQ s.heap (some (.int 1))) ([.ref (Ad 10 0), .int (nI t)] : List Value).toArray s 0 0 noA) (F0 m 96 ls [.int (bitF ((f 0).1 t) (nI k15))]) → W p l e ({ frames := 5, cells := 0, slots := 0, locals := 118 } : Room) s m ([.ref (Ad 10 0), .int (nI t)] : List Value).toArray below meth c s.heap [] 0 0 (MQ below (roQ s.heap (some (.int 1))) ([.ref (Ad 10 0), .int (nI t)] : List Value).toArray s 0 0 noA) (F0 m 88 ls [.int 1, .int ((((f 0).1 t) >>> ((nI k15) &&& 31)) &&& 1)]) := by
        intro hJ
        refine lv_icmp_ne (tgt := 95) hx hb dL_isStrong_88 (by decide) (fun c_88 => ?_) (fun c_88 => ?_)
        · refine lv_iconst (v := 0) hx hb dL_isStrong_95 (by decide) ?_
          refine lz_top (v := (bitF ((f 0).1 t) (nI k15))) (bit_n1 (by omega) c_88) ?_
          exact hJ
        · refine lv_iconst (v := 1) hx hb dL_isStrong_91 (by decide) ?_
          refine lv_goto (tgt := 96) hx hb dL_isStrong_92 (by decide) ?_
          refine lz_top (v := (bitF ((f 0).1 t) (nI k15))) (Eq.symm c_88) ?_
          exact hJ
      refine hj_88 ?_
      refine lv_istore (lv' := [(10, .int (bitF ((f 0).1 t) (nI k15))), (9, .int (strF (f 0).2.2.1 k15 (hopsF (f 0).1 (f 0).2.2.2.2.1 t (nI k15)))), (8, .int ((fullF (hopsF (f 0).1 (f 0).2.2.2.2.1 t (nI k15))) - (((f 0).2.2.1 k15) / 10))), (7, .int (fullF (hopsF (f 0).1 (f 0).2.2.2.2.1 t (nI k15)))), (6, .int (hopsF (f 0).1 (f 0).2.2.2.2.1 t (nI k15))), (5, .int (nI k15)), (4, .int 1), (3, .int (accT (f 0) t k15)), (2, .int ((f 0).1 t)), (0, .ref (Ad 10 0)), (1, .int (nI t))]) hx hb dL_isStrong_96 hl (by decide) rfl (fun ls hl => ?_)
      refine lv_iload hx hb dL_isStrong_98 (lv_at hl 6 rfl) ?_
      refine lv_if_eq (tgt := 162) hx hb dL_isStrong_100 (by decide) (fun h => absurd h (by decide)) (fun _ => ?_)
      refine lv_iload hx hb dL_isStrong_103 (lv_at hl 4 rfl) ?_
      have hj_105 : W p l e ({ frames := 5, cells := 0, slots := 0, locals := 118 } : Room) s m ([.ref (Ad 10 0), .int (nI t)] : List Value).toArray below meth c s.heap [] 0 0 (MQ below (roQ s.heap (some (.int 1))) ([.ref (Ad 10 0), .int (nI t)] : List Value).toArray s 0 0 noA) (F0 m 113 ls [.int (bitF ((f 0).1 t) (nI k15))]) → W p l e ({ frames := 5, cells := 0, slots := 0, locals := 118 } : Room) s m ([.ref (Ad 10 0), .int (nI t)] : List Value).toArray below meth c s.heap [] 0 0 (MQ below (roQ s.heap (some (.int 1))) ([.ref (Ad 10 0), .int (nI t)] : List Value).toArray s 0 0 noA) (F0 m 105 ls [.int (hopsF (f 0).1 (f 0).2.2.2.2.1 t (nI k15))]) := by
        intro hJ
        refine lv_if_ne (tgt := 112) hx hb dL_isStrong_105 (by decide) (fun c_105 => ?_) (fun c_105 => ?_)
        · refine lv_iconst (v := 0) hx hb dL_isStrong_112 (by decide) ?_
          refine lz_top (v := (bitF ((f 0).1 t) (nI k15))) (hop_n0 hlt15 c_105) ?_
          exact hJ
        · refine lv_iconst (v := 1) hx hb dL_isStrong_108 (by decide) ?_
          refine lv_goto (tgt := 113) hx hb dL_isStrong_109 (by decide) ?_
          refine lz_top (v := (bitF ((f 0).1 t) (nI k15))) (hop_0 hlt15 c_105) ?_
          exact hJ
      refine hj_105 ?_
      refine lv_iload hx hb dL_isStrong_113 (lv_at hl 0 rfl) ?_
      refine lv_icmp_ne (tgt := 162) hx hb dL_isStrong_115 (by decide) (fun h => absurd rfl h) (fun _ => ?_)
      refine lv_iload hx hb dL_isStrong_118 (lv_at hl 1 rfl) ?_
      refine lv_iload hx hb dL_isStrong_120 (lv_at hl 2 rfl) ?_
      have hj_122 : W p l e ({ frames := 5, cells := 0, slots := 0, locals := 118 } : Room) s m ([.ref (Ad 10 0), .int (nI t)] : List Value).toArray below meth c s.heap [] 0 0 (MQ below (roQ s.heap (some (.int 1))) ([.ref (Ad 10 0), .int (nI t)] : List Value).toArray s 0 0 noA) (F0 m 131 ls [.int (strF (f 0).2.2.1 k15 (hopsF (f 0).1 (f 0).2.2.2.2.1 t (nI k15))), .int (strF (f 0).2.2.1 k15 (hopsF (f 0).1 (f 0).2.2.2.2.1 t (nI k15)))]) → W p l e ({ frames := 5, cells := 0, slots := 0, locals := 118 } : Room) s m ([.ref (Ad 10 0), .int (nI t)] : List Value).toArray below meth c s.heap [] 0 0 (MQ below (roQ s.heap (some (.int 1))) ([.ref (Ad 10 0), .int (nI t)] : List Value).toArray s 0 0 noA) (F0 m 122 ls [.int ((fullF (hopsF (f 0).1 (f 0).2.2.2.2.1 t (nI k15))) - (((f 0).2.2.1 k15) / 10)), .int (strF (f 0).2.2.1 k15 (hopsF (f 0).1 (f 0).2.2.2.2.1 t (nI k15)))]) := by
        intro hJ
        refine lv_if_ge (tgt := 129) hx hb dL_isStrong_122 (by decide) (fun c_122 => ?_) (fun c_122 => ?_)
        · refine lv_iload hx hb dL_isStrong_129 (lv_at hl 2 rfl) ?_
          refine lz_top (v := (strF (f 0).2.2.1 k15 (hopsF (f 0).1 (f 0).2.2.2.2.1 t (nI k15)))) ((left_str hwe hlt15).trans (if_neg (not_neg c_122))).symm ?_
          exact hJ
        · refine lv_iconst (v := 0) hx hb dL_isStrong_125 (by decide) ?_
          refine lv_goto (tgt := 131) hx hb dL_isStrong_126 (by decide) ?_
          refine lz_top (v := (strF (f 0).2.2.1 k15 (hopsF (f 0).1 (f 0).2.2.2.2.1 t (nI k15)))) ((left_str hwe hlt15).trans (if_pos (is_neg c_122))).symm ?_
          exact hJ
      refine hj_122 ?_
      refine lv_icmp_ne (tgt := 162) hx hb dL_isStrong_131 (by decide) (fun h => absurd rfl h) (fun _ => ?_)
      refine lv_aload_n hx hb dL_isStrong_134 rfl (lv_at hl 9 rfl) ?_
      refine lv_iload hx hb dL_isStrong_135 (lv_at hl 5 rfl) ?_
      refine lv_iconst (v := 1) hx hb dL_isStrong_137 (by decide) ?_
      refine ro_V (ci := 4) (q0 := 0) (As := [.int (nI k15), .int 1]) (rest := []) ⟨hx, hb, hml, hown, hts⟩ (c_X4_ringOf l D cA _ Ad f o z tx rt k15 (by omega) 1 (by decide) hWP) (cwV 2 hts gL_isStrong_X4_ringOf rfl rfl rfl (by decide +kernel) ⟨Nat.le_of_ble_eq_true rfl, Nat.le_of_ble_eq_true rfl⟩) hKN (lw_fP 10 (by decide) hWP : va_P D vwCl ((wLm cA Ad rt) ++ (rst cA Ad (f, ((nI o), (nI z)), tx, rt) 10)) s.heap) rfl rfl rfl hl.1 rfl (lv_room (Nat.le_of_ble_eq_true rfl)) dL_isStrong_138 ⟨Nat.zero_le _, Nat.zero_le _⟩ ?_
      refine lz_top (v := (thrS (f 0) (nI k15))) rfl ?_
      refine lv_iload_n hx hb dL_isStrong_141 rfl (lv_at hl 10 rfl) ?_
      refine lv_ishr hx hb dL_isStrong_142 ?_
      refine lv_iconst (v := 1) hx hb dL_isStrong_143 (by decide) ?_
      refine lv_iand hx hb dL_isStrong_144 ?_
      refine lz_top (v := (bitF ((f 0).1 t) (nI k15))) (thr_bF (f 0) hlt15 ht) ?_
      refine lv_iload hx hb dL_isStrong_145 (lv_at hl 0 rfl) ?_
      have hj_147 : W p l e ({ frames := 5, cells := 0, slots := 0, locals := 118 } : Room) s m ([.ref (Ad 10 0), .int (nI t)] : List Value).toArray below meth c s.heap [] 0 0 (MQ below (roQ s.heap (some (.int 1))) ([.ref (Ad 10 0), .int (nI t)] : List Value).toArray s 0 0 noA) (F0 m 155 ls [.int (bitF ((f 0).1 t) (nI k15)), .int (bitF ((f 0).1 t) (nI k15))]) → W p l e ({ frames := 5, cells := 0, slots := 0, locals := 118 } : Room) s m ([.ref (Ad 10 0), .int (nI t)] : List Value).toArray below meth c s.heap [] 0 0 (MQ below (roQ s.heap (some (.int 1))) ([.ref (Ad 10 0), .int (nI t)] : List Value).toArray s 0 0 noA) (F0 m 147 ls [.int (bitF ((f 0).1 t) (nI k15)), .int (bitF ((f 0).1 t) (nI k15))]) := by
        intro hJ
        refine lv_if_eq (tgt := 154) hx hb dL_isStrong_147 (by decide) (fun c_147 => ?_) (fun c_147 => ?_)
        · refine lv_iconst (v := 0) hx hb dL_isStrong_154 (by decide) ?_
          refine lz_top (v := (bitF ((f 0).1 t) (nI k15))) (Eq.symm c_147) ?_
          exact hJ
        · refine lv_iconst (v := 1) hx hb dL_isStrong_150 (by decide) ?_
          refine lv_goto (tgt := 155) hx hb dL_isStrong_151 (by decide) ?_
          refine lz_top (v := (bitF ((f 0).1 t) (nI k15))) (bit_p1 (by omega) c_147) ?_
          exact hJ
      refine hj_147 ?_
      refine lv_icmp_ne (tgt := 162) hx hb dL_isStrong_155 (by decide) (fun h => absurd rfl h) (fun _ => ?_)
      refine lv_iconst (v := 1) hx hb dL_isStrong_158 (by decide) ?_
      refine lv_goto (tgt := 163) hx hb dL_isStrong_159 (by decide) ?_
      refine lv_istore (lv' := [(4, .int 1), (10, .int (bitF ((f 0).1 t) (nI k15))), (9, .int (strF (f 0).2.2.1 k15 (hopsF (f 0).1 (f 0).2.2.2.2.1 t (nI k15)))), (8, .int ((fullF (hopsF (f 0).1 (f 0).2.2.2.2.1 t (nI k15))) - (((f 0).2.2.1 k15) / 10))), (7, .int (fullF (hopsF (f 0).1 (f 0).2.2.2.2.1 t (nI k15)))), (6, .int (hopsF (f 0).1 (f 0).2.2.2.2.1 t (nI k15))), (5, .int (nI k15)), (3, .int (accT (f 0) t k15)), (2, .int ((f 0).1 t)), (0, .ref (Ad 10 0)), (1, .int (nI t))]) hx hb dL_isStrong_163 hl (by decide) rfl (fun ls hl => ?_)
      refine lv_iload_n hx hb dL_isStrong_165 rfl (lv_at hl 7 rfl) ?_
      refine lv_iload hx hb dL_isStrong_166 (lv_at hl 2 rfl) ?_
      refine lv_aload_n hx hb dL_isStrong_168 rfl (lv_at hl 9 rfl) ?_
      refine lv_iconst (v := 0) hx hb dL_isStrong_169 (by decide) ?_
      refine ro_V (ci := 4) (q0 := 0) (As := [.int 0]) (rest := [.int (strF (f 0).2.2.1 k15 (hopsF (f 0).1 (f 0).2.2.2.2.1 t (nI k15))), .int (accT (f 0) t k15)]) ⟨hx, hb, hml, hown, hts⟩ (c_X4_setting l D cA _ Ad f o z tx rt 0 (by decide) hWP) (cwV 1 hts gL_isStrong_X4_setting rfl rfl rfl (by decide +kernel) ⟨Nat.le_of_ble_eq_true rfl, Nat.le_of_ble_eq_true rfl⟩) hKN (lw_fP 10 (by decide) hWP : va_P D vwCl ((wLm cA Ad rt) ++ (rst cA Ad (f, ((nI o), (nI z)), tx, rt) 10)) s.heap) rfl rfl rfl hl.1 rfl (lv_room (Nat.le_of_ble_eq_true rfl)) dL_isStrong_170 ⟨Nat.zero_le _, Nat.zero_le _⟩ ?_
      refine lz_top (v := ((f 0).2.2.2.1 0)) rfl ?_
      have hj_173 : W p l e ({ frames := 5, cells := 0, slots := 0, locals := 118 } : Room) s m ([.ref (Ad 10 0), .int (nI t)] : List Value).toArray below meth c s.heap [] 0 0 (MQ below (roQ s.heap (some (.int 1))) ([.ref (Ad 10 0), .int (nI t)] : List Value).toArray s 0 0 noA) (F0 m 184 ls [.int (if (strF (f 0).2.2.1 k15 (hopsF (f 0).1 (f 0).2.2.2.2.1 t (nI k15))) < ((f 0).2.2.2.1 0) then 0 else ((1 : Int32) <<< (nI k15 &&& 31))), .int (accT (f 0) t k15)]) → W p l e ({ frames := 5, cells := 0, slots := 0, locals := 118 } : Room) s m ([.ref (Ad 10 0), .int (nI t)] : List Value).toArray below meth c s.heap [] 0 0 (MQ below (roQ s.heap (some (.int 1))) ([.ref (Ad 10 0), .int (nI t)] : List Value).toArray s 0 0 noA) (F0 m 173 ls [.int ((f 0).2.2.2.1 0), .int (strF (f 0).2.2.1 k15 (hopsF (f 0).1 (f 0).2.2.2.2.1 t (nI k15))), .int (accT (f 0) t k15)]) := by
        intro hJ
        refine lv_icmp_lt (tgt := 183) hx hb dL_isStrong_173 (by decide) (fun c_173 => ?_) (fun c_173 => ?_)
        · refine lv_iconst (v := 0) hx hb dL_isStrong_183 (by decide) ?_
          refine lz_top (v := (if (strF (f 0).2.2.1 k15 (hopsF (f 0).1 (f 0).2.2.2.2.1 t (nI k15))) < ((f 0).2.2.2.1 0) then 0 else ((1 : Int32) <<< (nI k15 &&& 31)))) (if_pos c_173).symm ?_
          exact hJ
        · refine lv_iconst (v := 1) hx hb dL_isStrong_176 (by decide) ?_
          refine lv_iload hx hb dL_isStrong_177 (lv_at hl 6 rfl) ?_
          refine lv_ishl hx hb dL_isStrong_179 ?_
          refine lv_goto (tgt := 184) hx hb dL_isStrong_180 (by decide) ?_
          refine lz_top (v := (if (strF (f 0).2.2.1 k15 (hopsF (f 0).1 (f 0).2.2.2.2.1 t (nI k15))) < ((f 0).2.2.2.1 0) then 0 else ((1 : Int32) <<< (nI k15 &&& 31)))) (if_neg c_173).symm ?_
          exact hJ
      refine hj_173 ?_
      refine lv_ior hx hb dL_isStrong_184 ?_
      refine lv_istore_n (lv' := [(3, .int ((accT (f 0) t k15) ||| (if (strF (f 0).2.2.1 k15 (hopsF (f 0).1 (f 0).2.2.2.2.1 t (nI k15))) < ((f 0).2.2.2.1 0) then 0 else ((1 : Int32) <<< (nI k15 &&& 31))))), (4, .int 1), (10, .int (bitF ((f 0).1 t) (nI k15))), (9, .int (strF (f 0).2.2.1 k15 (hopsF (f 0).1 (f 0).2.2.2.2.1 t (nI k15)))), (8, .int ((fullF (hopsF (f 0).1 (f 0).2.2.2.2.1 t (nI k15))) - (((f 0).2.2.1 k15) / 10))), (7, .int (fullF (hopsF (f 0).1 (f 0).2.2.2.2.1 t (nI k15)))), (6, .int (hopsF (f 0).1 (f 0).2.2.2.2.1 t (nI k15))), (5, .int (nI k15)), (2, .int ((f 0).1 t)), (0, .ref (Ad 10 0)), (1, .int (nI t))]) hx hb dL_isStrong_185 rfl hl (by decide) rfl (fun ls hl => ?_)
      refine lv_iinc (v := (nI (k15 + 1))) (lv' := [(5, .int (nI (k15 + 1))), (3, .int ((accT (f 0) t k15) ||| (if (strF (f 0).2.2.1 k15 (hopsF (f 0).1 (f 0).2.2.2.2.1 t (nI k15))) < ((f 0).2.2.2.1 0) then 0 else ((1 : Int32) <<< (nI k15 &&& 31))))), (4, .int 1), (10, .int (bitF ((f 0).1 t) (nI k15))), (9, .int (strF (f 0).2.2.1 k15 (hopsF (f 0).1 (f 0).2.2.2.2.1 t (nI k15)))), (8, .int ((fullF (hopsF (f 0).1 (f 0).2.2.2.2.1 t (nI k15))) - (((f 0).2.2.1 k15) / 10))), (7, .int (fullF (hopsF (f 0).1 (f 0).2.2.2.2.1 t (nI k15)))), (6, .int (hopsF (f 0).1 (f 0).2.2.2.2.1 t (nI k15))), (2, .int ((f 0).1 t)), (0, .ref (Ad 10 0)), (1, .int (nI t))]) hx hb dL_isStrong_186 hl (k := 7) rfl (nI_1 _) (by decide) rfl (fun ls hl => ?_)
      refine lv_goto (tgt := 15) hx hb dL_isStrong_189 (by decide) ?_
      have e_1 : (accT (f 0) t (k15 + 1)) = ((accT (f 0) t k15) ||| (if (strF (f 0).2.2.1 k15 (hopsF (f 0).1 (f 0).2.2.2.2.1 t (nI k15))) < ((f 0).2.2.2.1 0) then 0 else ((1 : Int32) <<< (nI k15 &&& 31)))) := rfl
      exact ih15 (k15 + 1) (by omega) ls (by rw [e_1]; exact (lv_sub hl [0, 2, 1, 8, 9, 10] rfl))
  exact loop15 8 0 (by omega) ls (lv_sub hl [0, 1, 2, 3, 4, 5] rfl)
