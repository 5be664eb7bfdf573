-- the law's holds
def newT (u : SV) : Nat → Int32
  | 0 => 1
  | k + 1 => if newT u k = 0 then 0 else if u.2.2.1 k < 30 then 1 else 0
theorem new_of {u : SV} : ∀ k, ¬ newT u k = 0 → ∀ r, r < k → u.2.2.1 r < 30
  | 0, _, r, h => by omega
  | k + 1, h0, r, hr => by
    rw [newT] at h0
    by_cases c : newT u k = 0
    · rw [if_pos c] at h0; exact absurd rfl h0
    · rw [if_neg c] at h0
      rcases Nat.lt_succ_iff_lt_or_eq.mp hr with q | q
      · exact new_of k c r q
      · subst q
        by_cases d : u.2.2.1 r < 30
        · exact d
        · rw [if_neg d] at h0; exact absurd rfl h0
theorem new_0a {u : SV} {k : Nat} (c : newT u k = 0) : 0 = newT u (k + 1) := by rw [newT, if_pos c]
theorem new_0b {u : SV} {k : Nat} (c : ¬ newT u k = 0) (d : 30 ≤ u.2.2.1 k) : 0 = newT u (k + 1) := by rw [newT, if_neg c, if_neg (by rw [Int32.lt_iff_toInt_lt]; rw [Int32.le_iff_toInt_le] at d; omega)]
theorem new_1 {u : SV} {k : Nat} (c : ¬ newT u k = 0) (d : ¬ 30 ≤ u.2.2.1 k) : 1 = newT u (k + 1) := by rw [newT, if_neg c, if_pos (by rw [Int32.lt_iff_toInt_lt]; rw [Int32.le_iff_toInt_le] at d; omega)]
theorem hold_right {K : Nat} {u : SV} (hG : GD K u) (c : u.2.2.2.1 0 = 6) (d : ¬ newT u 8 = 0) : rightT u 16 = 16 := by
  refine right_all 16 fun t ht => new_right hG.R c (fun r hr => ?_) ht
  obtain ⟨w, hw, e⟩ := hG.we r hr
  have h := new_of 8 d r hr
  refine ⟨w, ?_, e⟩
  have e : u.2.2.1 r = nI w := e
  rw [e] at h
  exact (nI_ltI (b := 30) (by omega) (by decide)).mp h
theorem right_s (u : SV) (k : Nat) : rightT u (k + 1) = rightT u k + (if ansS u k = u.1 k then (1 : Int32) else 0) := by
  rw [rightT]
  split
  · rfl
  · exact (Int32.add_zero _).symm
theorem rt_ne {se : Nat → Int32} {x y : Int32} (c : ¬ wordF se x = wordF se y) : 0 = if x = y then (1 : Int32) else 0 := by rw [if_neg fun z => c ((word_inj se).mpr z)]
theorem rt_eq {se : Nat → Int32} {x y : Int32} (c : wordF se x = wordF se y) : 1 = if x = y then (1 : Int32) else 0 := by rw [if_pos ((word_inj se).mp c)]
theorem min_ge {x y : Int32} (c : x ≤ y) : x = minF x y := by unfold minF; rw [if_neg (by rw [Int32.lt_iff_toInt_lt]; rw [Int32.le_iff_toInt_le] at c; omega)]
theorem min_lt {x y : Int32} (c : ¬ x ≤ y) : y = minF x y := by unfold minF; rw [if_pos (by rw [Int32.lt_iff_toInt_lt]; rw [Int32.le_iff_toInt_le] at c; omega)]
theorem share_cmp (u : SV) : Op.cmpValue (FP.dcmp (FP.dmul (shareF (rightT u 16)) 4625196817309499392) (FP.i2d (rightT u 16))) .l = 0 := by
  obtain ⟨n, hn, e⟩ := right_range u 16
  rw [e]
  exact share_dec n (by omega)
theorem share_mul (u : SV) : vf_n64 (FP.dmul (shareF (rightT u 16)) 4625196817309499392) := by
  obtain ⟨n, hn, e⟩ := right_range u 16
  rw [e]
  exact share_nn n (by omega)
theorem age_lt {x y : Int32} (c : x < y) : 0 = if y ≤ x then (1 : Int32) else 0 := by rw [if_neg (by rw [Int32.le_iff_toInt_le]; rw [Int32.lt_iff_toInt_lt] at c; omega)]
theorem age_ge {x y : Int32} (c : ¬ x < y) : 1 = if y ≤ x then (1 : Int32) else 0 := by rw [if_pos (by rw [Int32.le_iff_toInt_le]; rw [Int32.lt_iff_toInt_lt] at c; omega)]
theorem means_M8 {K : Nat} {u : SV} (hG : GD K u) {t : Nat} (ht : t < 16) : M8 (meansS u t) := word_M8 _ (hG.R t ht)
theorem mL_holds_k79 : Cond.constantDouble RL 79 (4625196817309499392) ∈ wsL_holds := by decide +kernel
set_option maxHeartbeats 4000000 in
set_option maxRecDepth 100000 in
theorem c_L_holds (l : Launch) (D : va_G) (cA : Nat → ClassId) (H : Heap) (Ad : Nat → Nat → Nat) (f : Nat → SV) (o z : Nat) (tx : TV) (rt : (Nat → Int32) × (Nat → Int32)) (K : Nat) (hKB : K < 2 ^ 31) (hG : GD K (f 0)) (hP0 : va_P D vwCl (all cA Ad (f, ((nI o), (nI z)), tx, rt)) H) (hD0 : va_D (fun _ => True) (all cA Ad (f, ((nI o), (nI z)), tx, rt))) : MU l yL_holds wsL_holds ({ frames := 6, cells := 0, slots := 0, locals := 138 } : Room) D cA [.ref (Ad 10 0)] H (all cA Ad (f, ((nI o), (nI z)), tx, rt)) (all cA Ad (f, ((nI o), (nI z)), tx, (rt.1, wtT (f 0) rt.2 16))) (some (.int 1)) := by
  refine Met.ofW (cc := cL_holds) (maxL := 10) (ret := (some .boolean)) (by decide) rfl ?_
  intro p e s m args below meth c s₁ B hml hv
  obtain ⟨rfl, hH, hKN⟩ := hv
  have hK := hKN.1
  have hx := B.exec
  have hb := B.bytes
  have hr := B.returns
  have hts := atoms_spec (ws := wsL_holds) B.pre
  have hown : s.vm.findClass RL = some m.cls := findClass_of_methodNamed B.named
  have hlocks := B.notSynchronized
  subst hH
  have hWD := hD0.self (sz := s.heap.size)
  generalize hAe : va_A (all cA Ad (f, ((nI o), (nI z)), tx, rt)) s.heap.size = A at hWD ⊢
  have hA : ∀ q : Nat, s.heap.size ≤ q → A q := fun q h => by rw [← hAe]; exact Or.inr h
  have hS : va_S A s.heap s.heap [] := va_S.rf
  have hWP : va_P D vwCl (all cA Ad (f, ((nI o), (nI z)), tx, rt)) s.heap := hP0
  have hl := lv_entry ([.ref (Ad 10 0)] : List Value) (n := 10) (Nat.le_of_ble_eq_true rfl)
  rw [lg_entry_eq]
  generalize (lg_sl ([.ref (Ad 10 0)] : List Value) ++ List.replicate (10 - (lg_sl ([.ref (Ad 10 0)] : List Value)).length) Slot.unset).toArray = ls at hl ⊢
  have hl : lv_has ls 10 [(0, .ref (Ad 10 0))] := hl
  have hR := hG.R
  refine lv_iconst (v := 0) hx hb dL_holds_0 (by decide) ?_
  refine lv_istore_n (lv' := [(1, .int 0), (0, .ref (Ad 10 0))]) hx hb dL_holds_1 rfl hl (by decide) rfl (fun ls hl => ?_)
  refine lv_iconst (v := 0) hx hb dL_holds_2 (by decide) ?_
  refine lv_istore_n (lv' := [(2, .int 0), (1, .int 0), (0, .ref (Ad 10 0))]) hx hb dL_holds_3 rfl hl (by decide) rfl (fun ls hl => ?_)
  refine lv_iconst (v := 0) hx hb dL_holds_4 (by decide) ?_
  refine lv_istore_n (lv' := [(3, .int 0), (2, .int 0), (1, .int 0), (0, .ref (Ad 10 0))]) hx hb dL_holds_5 rfl hl (by decide) rfl (fun ls hl => ?_)
  refine lv_iconst (v := 0) hx hb dL_holds_6 (by decide) ?_
  refine lv_istore (lv' := [(4, .int 0), (3, .int 0), (2, .int 0), (1, .int 0), (0, .ref (Ad 10 0))]) hx hb dL_holds_7 hl (by decide) rfl (fun ls hl => ?_)
  refine lv_bipush (v := 8) hx hb dL_holds_9 (by decide) ?_
  refine lv_istore (lv' := [(5, .int 8), (4, .int 0), (3, .int 0), (2, .int 0), (1, .int 0), (0, .ref (Ad 10 0))]) hx hb dL_holds_11 hl (by decide) rfl (fun ls hl => ?_)
  refine lv_iconst (v := 1) hx hb dL_holds_13 (by decide) ?_
  refine lv_istore (lv' := [(6, .int 1), (5, .int 8), (4, .int 0), (3, .int 0), (2, .int 0), (1, .int 0), (0, .ref (Ad 10 0))]) hx hb dL_holds_14 hl (by decide) rfl (fun ls hl => ?_)
  refine lv_iconst (v := 0) hx hb dL_holds_16 (by decide) ?_
  refine lv_istore (lv' := [(7, .int 0), (6, .int 1), (5, .int 8), (4, .int 0), (3, .int 0), (2, .int 0), (1, .int 0), (0, .ref (Ad 10 0))]) hx hb dL_holds_17 hl (by decide) rfl (fun ls hl => ?_)
  have loop19 : ∀ (n19 k19 : Nat), k19 + n19 = 16 → ∀ (H : Heap) (locs : List Loc), va_P D vwCl (all cA Ad (f, ((nI o), (nI z)), tx, rt)) H → va_D A (all cA Ad (f, ((nI o), (nI z)), tx, rt)) → va_S A s.heap H locs → ∀ (ls : Array Slot), lv_has ls 10 [(7, .int (nI k19)), (6, .int 1), (5, .int (fubT (f 0).1 k19)), (4, .int (altT (f 0) k19)), (3, .int (sumI (f 0).2.1 k19)), (2, .int (rightT (f 0) k19)), (1, .int (cbtT (f 0) k19)), (0, .ref (Ad 10 0))] → W p l e ({ frames := 6, cells := 0, slots := 0, locals := 138 } : Room) s m ([.ref (Ad 10 0)] : List Value).toArray below meth c H locs 0 0 (MQ below (muQ D s.heap (all cA Ad (f, ((nI o), (nI z)), tx, rt)) (all cA Ad (f, ((nI o), (nI z)), tx, (rt.1, wtT (f 0) rt.2 16))) (some (.int 1))) ([.ref (Ad 10 0)] : List Value).toArray s 0 0 A) (F0 m 19 ls []) := by
    intro n19
    induction n19 with
    | zero =>
      intro k19 hk19 H locs hWP hWD hS ls hl
      obtain rfl : 16 = k19 := by omega
      refine lv_iload hx hb dL_holds_19 (lv_at hl 0 rfl) ?_
      refine lv_bipush (v := 16) hx hb dL_holds_21 (by decide) ?_
      refine lv_icmp_ge (tgt := 160) hx hb dL_holds_23 (by decide) (fun _ => ?_) (fun h => absurd (by decide) h)
      refine lv_iconst (v := 0) hx hb dL_holds_160 (by decide) ?_
      refine lv_istore (lv' := [(7, .int 0), (6, .int 1), (5, .int (fubT (f 0).1 16)), (4, .int (altT (f 0) 16)), (3, .int (sumI (f 0).2.1 16)), (2, .int (rightT (f 0) 16)), (1, .int (cbtT (f 0) 16)), (0, .ref (Ad 10 0))]) hx hb dL_holds_161 hl (by decide) rfl (fun ls hl => ?_)
      refine lv_iconst (v := 0) hx hb dL_holds_163 (by decide) ?_
      refine lv_istore (lv' := [(8, .int 0), (7, .int 0), (6, .int 1), (5, .int (fubT (f 0).1 16)), (4, .int (altT (f 0) 16)), (3, .int (sumI (f 0).2.1 16)), (2, .int (rightT (f 0) 16)), (1, .int (cbtT (f 0) 16)), (0, .ref (Ad 10 0))]) hx hb dL_holds_164 hl (by decide) rfl (fun ls hl => ?_)
      have loop166 : ∀ (n166 k166 : Nat), k166 + n166 = 8 → ∀ (H : Heap) (locs : List Loc), va_P D vwCl (all cA Ad (f, ((nI o), (nI z)), tx, rt)) H → va_D A (all cA Ad (f, ((nI o), (nI z)), tx, rt)) → va_S A s.heap H locs → ∀ (ls : Array Slot), lv_has ls 10 [(8, .int (nI k166)), (7, .int (cbrT (f 0) k166)), (6, .int (newT (f 0) k166)), (5, .int (fubT (f 0).1 16)), (4, .int (altT (f 0) 16)), (3, .int (sumI (f 0).2.1 16)), (2, .int (rightT (f 0) 16)), (1, .int (cbtT (f 0) 16)), (0, .ref (Ad 10 0))] → W p l e ({ frames := 6, cells := 0, slots := 0, locals := 138 } : Room) s m ([.ref (Ad 10 0)] : List Value).toArray below meth c H locs 0 0 (MQ below (muQ D s.heap (all cA Ad (f, ((nI o), (nI z)), tx, rt)) (all cA Ad (f, ((nI o), (nI z)), tx, (rt.1, wtT (f 0) rt.2 16))) (some (.int 1))) ([.ref (Ad 10 0)] : List Value).toArray s 0 0 A) (F0 m 166 ls []) := by
        intro n166
        induction n166 with
        | zero =>
          intro k166 hk166 H locs hWP hWD hS ls hl
          obtain rfl : 8 = k166 := by omega
          refine lv_iload hx hb dL_holds_166 (lv_at hl 0 rfl) ?_
          refine lv_bipush (v := 8) hx hb dL_holds_168 (by decide) ?_
          refine lv_icmp_ge (tgt := 215) hx hb dL_holds_170 (by decide) (fun _ => ?_) (fun h => absurd (by decide) h)
          refine lv_aload_n hx hb dL_holds_215 rfl (lv_at hl 8 rfl) ?_
          refine lv_iconst (v := 0) hx hb dL_holds_216 (by decide) ?_
          refine mu_Vw (ci := 4) (q0 := 0) (As := [.int 0]) (rest := []) ⟨hx, hb, hml, hown, hts⟩ (c_X4_count l D cA _ Ad f o z tx rt 0 (by decide) hWP (hWD.weaken (fun _ _ _ _ => trivial))) (cwV 1 hts gL_holds_X4_count rfl rfl rfl (by decide +kernel) ⟨Nat.le_of_ble_eq_true rfl, Nat.le_of_ble_eq_true rfl⟩) hKN hWP hWD hS hA (lw_fP 10 (by decide) hWP : va_P D vwCl ((wLm cA Ad rt) ++ (rst cA Ad (f, ((nI o), (nI z)), tx, rt) 10)) H) rfl rfl (all_fst _ _ _ _) rfl hl.1 rfl (lv_room (Nat.le_of_ble_eq_true rfl)) dL_holds_217 ⟨Nat.zero_le _, Nat.zero_le _⟩ (fun H locs hWP hWD hS => ?_)
          have hWP : va_P D vwCl (all cA Ad (f, ((nI o), (nI z)), tx, rt)) H := hWP
          have hWD : va_D A (all cA Ad (f, ((nI o), (nI z)), tx, rt)) := hWD
          refine lz_top (v := (cbtT (f 0) 16)) rfl ?_
          refine lv_iload_n hx hb dL_holds_220 rfl (lv_at hl 7 rfl) ?_
          refine lv_icmp_ne (tgt := 297) hx hb dL_holds_221 (by decide) (fun h => absurd rfl h) (fun _ => ?_)
          refine lv_aload_n hx hb dL_holds_224 rfl (lv_at hl 8 rfl) ?_
          refine lv_iconst (v := 1) hx hb dL_holds_225 (by decide) ?_
          refine mu_Vw (ci := 4) (q0 := 0) (As := [.int 1]) (rest := []) ⟨hx, hb, hml, hown, hts⟩ (c_X4_count l D cA _ Ad f o z tx rt 1 (by decide) hWP (hWD.weaken (fun _ _ _ _ => trivial))) (cwV 1 hts gL_holds_X4_count rfl rfl rfl (by decide +kernel) ⟨Nat.le_of_ble_eq_true rfl, Nat.le_of_ble_eq_true rfl⟩) hKN hWP hWD hS hA (lw_fP 10 (by decide) hWP : va_P D vwCl ((wLm cA Ad rt) ++ (rst cA Ad (f, ((nI o), (nI z)), tx, rt) 10)) H) rfl rfl (all_fst _ _ _ _) rfl hl.1 rfl (lv_room (Nat.le_of_ble_eq_true rfl)) dL_holds_226 ⟨Nat.zero_le _, Nat.zero_le _⟩ (fun H locs hWP hWD hS => ?_)
          have hWP : va_P D vwCl (all cA Ad (f, ((nI o), (nI z)), tx, rt)) H := hWP
          have hWD : va_D A (all cA Ad (f, ((nI o), (nI z)), tx, rt)) := hWD
          refine lz_top (v := (cbrT (f 0) 8)) rfl ?_
          refine lv_iload_n hx hb dL_holds_229 rfl (lv_at hl 7 rfl) ?_
          refine lv_icmp_ne (tgt := 297) hx hb dL_holds_230 (by decide) (fun h => absurd (crossings hR).symm h) (fun _ => ?_)
          refine lv_iload hx hb dL_holds_233 (lv_at hl 1 rfl) ?_
          refine lv_iload_n hx hb dL_holds_235 rfl (lv_at hl 7 rfl) ?_
          refine lv_icmp_ne (tgt := 297) hx hb dL_holds_236 (by decide) (fun h => absurd (crossings hR).symm h) (fun _ => ?_)
          refine lv_aload_n hx hb dL_holds_239 rfl (lv_at hl 8 rfl) ?_
          refine lv_iconst (v := 3) hx hb dL_holds_240 (by decide) ?_
          refine mu_Vw (ci := 4) (q0 := 0) (As := [.int 3]) (rest := []) ⟨hx, hb, hml, hown, hts⟩ (c_X4_count l D cA _ Ad f o z tx rt 3 (by decide) hWP (hWD.weaken (fun _ _ _ _ => trivial))) (cwV 1 hts gL_holds_X4_count rfl rfl rfl (by decide +kernel) ⟨Nat.le_of_ble_eq_true rfl, Nat.le_of_ble_eq_true rfl⟩) hKN hWP hWD hS hA (lw_fP 10 (by decide) hWP : va_P D vwCl ((wLm cA Ad rt) ++ (rst cA Ad (f, ((nI o), (nI z)), tx, rt) 10)) H) rfl rfl (all_fst _ _ _ _) rfl hl.1 rfl (lv_room (Nat.le_of_ble_eq_true rfl)) dL_holds_241 ⟨Nat.zero_le _, Nat.zero_le _⟩ (fun H locs hWP hWD hS => ?_)
          have hWP : va_P D vwCl (all cA Ad (f, ((nI o), (nI z)), tx, rt)) H := hWP
          have hWD : va_D A (all cA Ad (f, ((nI o), (nI z)), tx, rt)) := hWD
          refine lz_top (v := (f 0).2.2.2.2.2.2.1) rfl ?_
          refine lv_iload_n hx hb dL_holds_244 rfl (lv_at hl 5 rfl) ?_
          refine lv_icmp_ne (tgt := 297) hx hb dL_holds_245 (by decide) (fun h => absurd hG.2.2.2.2.2.1 h) (fun _ => ?_)
          refine lv_aload_n hx hb dL_holds_248 rfl (lv_at hl 8 rfl) ?_
          refine lv_iconst (v := 3) hx hb dL_holds_249 (by decide) ?_
          refine mu_Vw (ci := 4) (q0 := 0) (As := [.int 3]) (rest := []) ⟨hx, hb, hml, hown, hts⟩ (c_X4_count l D cA _ Ad f o z tx rt 3 (by decide) hWP (hWD.weaken (fun _ _ _ _ => trivial))) (cwV 1 hts gL_holds_X4_count rfl rfl rfl (by decide +kernel) ⟨Nat.le_of_ble_eq_true rfl, Nat.le_of_ble_eq_true rfl⟩) hKN hWP hWD hS hA (lw_fP 10 (by decide) hWP : va_P D vwCl ((wLm cA Ad rt) ++ (rst cA Ad (f, ((nI o), (nI z)), tx, rt) 10)) H) rfl rfl (all_fst _ _ _ _) rfl hl.1 rfl (lv_room (Nat.le_of_ble_eq_true rfl)) dL_holds_250 ⟨Nat.zero_le _, Nat.zero_le _⟩ (fun H locs hWP hWD hS => ?_)
          have hWP : va_P D vwCl (all cA Ad (f, ((nI o), (nI z)), tx, rt)) H := hWP
          have hWD : va_D A (all cA Ad (f, ((nI o), (nI z)), tx, rt)) := hWD
          refine lz_top (v := (f 0).2.2.2.2.2.2.1) rfl ?_
          refine lv_aload_n hx hb dL_holds_253 rfl (lv_at hl 8 rfl) ?_
          refine lv_bipush (v := 7) hx hb dL_holds_254 (by decide) ?_
          refine ro_V (ci := 4) (q0 := 0) (As := [.int 7]) (rest := [.int ((f 0).2.2.2.2.2.2.1)]) ⟨hx, hb, hml, hown, hts⟩ (c_X4_machine l D cA _ Ad f o z tx rt 7 (by decide) hWP) (cwV 1 hts gL_holds_X4_machine rfl rfl rfl (by decide +kernel) ⟨Nat.le_of_ble_eq_true rfl, Nat.le_of_ble_eq_true rfl⟩) hKN (lw_fP 10 (by decide) hWP : va_P D vwCl ((wLm cA Ad rt) ++ (rst cA Ad (f, ((nI o), (nI z)), tx, rt) 10)) H) rfl rfl rfl hl.1 rfl (lv_room (Nat.le_of_ble_eq_true rfl)) dL_holds_256 ⟨Nat.zero_le _, Nat.zero_le _⟩ ?_
          refine lz_top (v := (f 0).2.2.2.2.2.2.2.2.2.2.2.2.1) rfl ?_
          refine lv_icmp_lt (tgt := 297) hx hb dL_holds_259 (by decide) (fun h => absurd h (reads_steps hG hKB)) (fun _ => ?_)
          refine lv_aload_n hx hb dL_holds_262 rfl (lv_at hl 8 rfl) ?_
          refine lv_iconst (v := 4) hx hb dL_holds_263 (by decide) ?_
          refine mu_Vw (ci := 4) (q0 := 0) (As := [.int 4]) (rest := []) ⟨hx, hb, hml, hown, hts⟩ (c_X4_count l D cA _ Ad f o z tx rt 4 (by decide) hWP (hWD.weaken (fun _ _ _ _ => trivial))) (cwV 1 hts gL_holds_X4_count rfl rfl rfl (by decide +kernel) ⟨Nat.le_of_ble_eq_true rfl, Nat.le_of_ble_eq_true rfl⟩) hKN hWP hWD hS hA (lw_fP 10 (by decide) hWP : va_P D vwCl ((wLm cA Ad rt) ++ (rst cA Ad (f, ((nI o), (nI z)), tx, rt) 10)) H) rfl rfl (all_fst _ _ _ _) rfl hl.1 rfl (lv_room (Nat.le_of_ble_eq_true rfl)) dL_holds_264 ⟨Nat.zero_le _, Nat.zero_le _⟩ (fun H locs hWP hWD hS => ?_)
          have hWP : va_P D vwCl (all cA Ad (f, ((nI o), (nI z)), tx, rt)) H := hWP
          have hWD : va_D A (all cA Ad (f, ((nI o), (nI z)), tx, rt)) := hWD
          refine lz_top (v := (rightT (f 0) 16)) rfl ?_
          refine lv_iload_n hx hb dL_holds_267 rfl (lv_at hl 6 rfl) ?_
          refine lv_icmp_ne (tgt := 297) hx hb dL_holds_268 (by decide) (fun h => absurd rfl h) (fun _ => ?_)
          refine lv_aload_n hx hb dL_holds_271 rfl (lv_at hl 8 rfl) ?_
          refine lv_bipush (v := 7) hx hb dL_holds_272 (by decide) ?_
          refine mu_Vw (ci := 4) (q0 := 0) (As := [.int 7]) (rest := []) ⟨hx, hb, hml, hown, hts⟩ (c_X4_count l D cA _ Ad f o z tx rt 7 (by decide) hWP (hWD.weaken (fun _ _ _ _ => trivial))) (cwV 1 hts gL_holds_X4_count rfl rfl rfl (by decide +kernel) ⟨Nat.le_of_ble_eq_true rfl, Nat.le_of_ble_eq_true rfl⟩) hKN hWP hWD hS hA (lw_fP 10 (by decide) hWP : va_P D vwCl ((wLm cA Ad rt) ++ (rst cA Ad (f, ((nI o), (nI z)), tx, rt) 10)) H) rfl rfl (all_fst _ _ _ _) rfl hl.1 rfl (lv_room (Nat.le_of_ble_eq_true rfl)) dL_holds_274 ⟨Nat.zero_le _, Nat.zero_le _⟩ (fun H locs hWP hWD hS => ?_)
          have hWP : va_P D vwCl (all cA Ad (f, ((nI o), (nI z)), tx, (rt.1, (wtT (f 0) rt.2 16)))) H := hWP
          have hWD : va_D A (all cA Ad (f, ((nI o), (nI z)), tx, (rt.1, (wtT (f 0) rt.2 16)))) := hWD
          refine lz_top (v := (ptT (f 0) rt.2 16)) rfl ?_
          refine lz_top (v := (altT (f 0) 16)) (pt_alt (f 0) _ 16) ?_
          refine lv_iload hx hb dL_holds_277 (lv_at hl 4 rfl) ?_
          refine lv_icmp_ne (tgt := 297) hx hb dL_holds_279 (by decide) (fun h => absurd rfl h) (fun _ => ?_)
          refine lv_aload_n hx hb dL_holds_282 rfl (lv_at hl 8 rfl) ?_
          refine lv_bipush (v := 8) hx hb dL_holds_283 (by decide) ?_
          refine mu_Vw (ci := 4) (q0 := 0) (As := [.int 8]) (rest := []) ⟨hx, hb, hml, hown, hts⟩ (c_X4_count l D cA _ Ad f o z tx (rt.1, (wtT (f 0) rt.2 16)) 8 (by decide) hWP (hWD.weaken (fun _ _ _ _ => trivial))) (cwV 1 hts gL_holds_X4_count rfl rfl rfl (by decide +kernel) ⟨Nat.le_of_ble_eq_true rfl, Nat.le_of_ble_eq_true rfl⟩) hKN hWP hWD hS hA (lw_fP 10 (by decide) hWP : va_P D vwCl ((wLm cA Ad (rt.1, (wtT (f 0) rt.2 16))) ++ (rst cA Ad (f, ((nI o), (nI z)), tx, (rt.1, (wtT (f 0) rt.2 16))) 10)) H) rfl rfl (all_fst _ _ _ _) rfl hl.1 rfl (lv_room (Nat.le_of_ble_eq_true rfl)) dL_holds_285 ⟨Nat.zero_le _, Nat.zero_le _⟩ (fun H locs hWP hWD hS => ?_)
          have hWP : va_P D vwCl (all cA Ad (f, ((nI o), (nI z)), tx, (rt.1, (wtT (f 0) rt.2 16)))) H := hWP
          have hWD : va_D A (all cA Ad (f, ((nI o), (nI z)), tx, (rt.1, (wtT (f 0) rt.2 16)))) := hWD
          refine lz_top (v := (fubT (f 0).1 16)) rfl ?_
          refine lv_iload hx hb dL_holds_288 (lv_at hl 3 rfl) ?_
          refine lv_icmp_ne (tgt := 297) hx hb dL_holds_290 (by decide) (fun h => absurd rfl h) (fun _ => ?_)
          refine lv_iconst (v := 1) hx hb dL_holds_293 (by decide) ?_
          refine lv_goto (tgt := 298) hx hb dL_holds_294 (by decide) ?_
          refine lv_istore (lv' := [(8, .int 1), (7, .int (cbrT (f 0) 8)), (6, .int (newT (f 0) 8)), (5, .int (fubT (f 0).1 16)), (4, .int (altT (f 0) 16)), (3, .int (sumI (f 0).2.1 16)), (2, .int (rightT (f 0) 16)), (1, .int (cbtT (f 0) 16)), (0, .ref (Ad 10 0))]) hx hb dL_holds_298 hl (by decide) rfl (fun ls hl => ?_)
          refine lv_iload hx hb dL_holds_300 (lv_at hl 0 rfl) ?_
          refine lv_if_eq (tgt := 344) hx hb dL_holds_302 (by decide) (fun h => absurd h (by decide)) (fun _ => ?_)
          refine lv_aload_n hx hb dL_holds_305 rfl (lv_at hl 8 rfl) ?_
          refine lv_iconst (v := 0) hx hb dL_holds_306 (by decide) ?_
          refine ro_V (ci := 4) (q0 := 0) (As := [.int 0]) (rest := []) ⟨hx, hb, hml, hown, hts⟩ (c_X4_setting l D cA _ Ad f o z tx (rt.1, (wtT (f 0) rt.2 16)) 0 (by decide) hWP) (cwV 1 hts gL_holds_X4_setting rfl rfl rfl (by decide +kernel) ⟨Nat.le_of_ble_eq_true rfl, Nat.le_of_ble_eq_true rfl⟩) hKN (lw_fP 10 (by decide) hWP : va_P D vwCl ((wLm cA Ad (rt.1, (wtT (f 0) rt.2 16))) ++ (rst cA Ad (f, ((nI o), (nI z)), tx, (rt.1, (wtT (f 0) rt.2 16))) 10)) H) rfl rfl rfl hl.1 rfl (lv_room (Nat.le_of_ble_eq_true rfl)) dL_holds_307 ⟨Nat.zero_le _, Nat.zero_le _⟩ ?_
          refine lz_top (v := ((f 0).2.2.2.1 0)) rfl ?_
          refine lv_bipush (v := 6) hx hb dL_holds_310 (by decide) ?_
          have hj_312 : W p l e ({ frames := 6, cells := 0, slots := 0, locals := 138 } : Room) s m ([.ref (Ad 10 0)] : List Value).toArray below meth c H locs 0 0 (MQ below (muQ D s.heap (all cA Ad (f, ((nI o), (nI z)), tx, rt)) (all cA Ad (f, ((nI o), (nI z)), tx, (rt.1, wtT (f 0) rt.2 16))) (some (.int 1))) ([.ref (Ad 10 0)] : List Value).toArray s 0 0 A) (F0 m 326 ls []) → W p l e ({ frames := 6, cells := 0, slots := 0, locals := 138 } : Room) s m ([.ref (Ad 10 0)] : List Value).toArray below meth c H locs 0 0 (MQ below (muQ D s.heap (all cA Ad (f, ((nI o), (nI z)), tx, rt)) (all cA Ad (f, ((nI o), (nI z)), tx, (rt.1, wtT (f 0) rt.2 16))) (some (.int 1))) ([.ref (Ad 10 0)] : List Value).toArray s 0 0 A) (F0 m 312 ls [.int 6, .int ((f 0).2.2.2.1 0)]) := by
            intro hJ
            refine lv_icmp_ne (tgt := 326) hx hb dL_holds_312 (by decide) (fun c_312 => ?_) (fun c_312 => ?_)
            · exact hJ
            · refine lv_iload hx hb dL_holds_315 (lv_at hl 2 rfl) ?_
              refine lv_if_eq (tgt := 326) hx hb dL_holds_317 (by decide) (fun c_317 => ?_) (fun c_317 => ?_)
              · exact hJ
              · refine lv_iload_n hx hb dL_holds_320 rfl (lv_at hl 6 rfl) ?_
                refine lv_bipush (v := 16) hx hb dL_holds_321 (by decide) ?_
                refine lv_icmp_ne (tgt := 344) hx hb dL_holds_323 (by decide) (fun h => absurd (hold_right hG c_312 c_317) h) (fun _ => ?_)
                exact hJ
          refine hj_312 ?_
          refine lv_aload_n hx hb dL_holds_326 rfl (lv_at hl 8 rfl) ?_
          refine ro_V (ci := 4) (q0 := 0) (As := []) (rest := []) ⟨hx, hb, hml, hown, hts⟩ (c_X4_rightShare l D cA _ Ad f o z tx (rt.1, (wtT (f 0) rt.2 16))  hWP) (cwV 0 hts gL_holds_X4_rightShare rfl rfl rfl (by decide +kernel) ⟨Nat.le_of_ble_eq_true rfl, Nat.le_of_ble_eq_true rfl⟩) hKN (lw_fP 10 (by decide) hWP : va_P D vwCl ((wLm cA Ad (rt.1, (wtT (f 0) rt.2 16))) ++ (rst cA Ad (f, ((nI o), (nI z)), tx, (rt.1, (wtT (f 0) rt.2 16))) 10)) H) rfl rfl rfl hl.1 rfl (lv_room (Nat.le_of_ble_eq_true rfl)) dL_holds_327 ⟨Nat.zero_le _, Nat.zero_le _⟩ ?_
          refine lv_ldc2d (v := 4625196817309499392) hx hb hown (hts _ mL_holds_k79) dL_holds_330 ?_
          refine lv_dmul hx hb dL_holds_333 (share_mul (f 0)) ?_
          refine lv_iload_n hx hb dL_holds_334 rfl (lv_at hl 6 rfl) ?_
          refine lv_i2d hx hb dL_holds_335 ?_
          refine lv_dcmp hx hb dL_holds_336 ?_
          refine lz_top (v := 0) (share_cmp (f 0)) ?_
          refine lv_if_ne (tgt := 344) hx hb dL_holds_337 (by decide) (fun h => absurd (by decide) h) (fun _ => ?_)
          refine lv_iconst (v := 1) hx hb dL_holds_340 (by decide) ?_
          refine lv_goto (tgt := 345) hx hb dL_holds_341 (by decide) ?_
          refine lv_istore (lv' := [(8, .int 1), (7, .int (cbrT (f 0) 8)), (6, .int (newT (f 0) 8)), (5, .int (fubT (f 0).1 16)), (4, .int (altT (f 0) 16)), (3, .int (sumI (f 0).2.1 16)), (2, .int (rightT (f 0) 16)), (1, .int (cbtT (f 0) 16)), (0, .ref (Ad 10 0))]) hx hb dL_holds_345 hl (by decide) rfl (fun ls hl => ?_)
          refine lv_iconst (v := 0) hx hb dL_holds_347 (by decide) ?_
          refine lv_istore (lv' := [(9, .int 0), (8, .int 1), (7, .int (cbrT (f 0) 8)), (6, .int (newT (f 0) 8)), (5, .int (fubT (f 0).1 16)), (4, .int (altT (f 0) 16)), (3, .int (sumI (f 0).2.1 16)), (2, .int (rightT (f 0) 16)), (1, .int (cbtT (f 0) 16)), (0, .ref (Ad 10 0))]) hx hb dL_holds_348 hl (by decide) rfl (fun ls hl => ?_)
          have loop350 : ∀ (n350 k350 : Nat), k350 + n350 = 8 → ∀ (H : Heap) (locs : List Loc), va_P D vwCl (all cA Ad (f, ((nI o), (nI z)), tx, (rt.1, (wtT (f 0) rt.2 16)))) H → va_D A (all cA Ad (f, ((nI o), (nI z)), tx, (rt.1, (wtT (f 0) rt.2 16)))) → va_S A s.heap H locs → ∀ (ls : Array Slot), lv_has ls 10 [(9, .int (nI k350)), (8, .int 1), (7, .int (cbrT (f 0) 8)), (6, .int (newT (f 0) 8)), (5, .int (fubT (f 0).1 16)), (4, .int (altT (f 0) 16)), (3, .int (sumI (f 0).2.1 16)), (2, .int (rightT (f 0) 16)), (1, .int (cbtT (f 0) 16)), (0, .ref (Ad 10 0))] → W p l e ({ frames := 6, cells := 0, slots := 0, locals := 138 } : Room) s m ([.ref (Ad 10 0)] : List Value).toArray below meth c H locs 0 0 (MQ below (muQ D s.heap (all cA Ad (f, ((nI o), (nI z)), tx, rt)) (all cA Ad (f, ((nI o), (nI z)), tx, (rt.1, wtT (f 0) rt.2 16))) (some (.int 1))) ([.ref (Ad 10 0)] : List Value).toArray s 0 0 A) (F0 m 350 ls []) := by
            intro n350
            induction n350 with
            | zero =>
              intro k350 hk350 H locs hWP hWD hS ls hl
              obtain rfl : 8 = k350 := by omega
              refine lv_iload hx hb dL_holds_350 (lv_at hl 0 rfl) ?_
              refine lv_bipush (v := 8) hx hb dL_holds_352 (by decide) ?_
              refine lv_icmp_ge (tgt := 409) hx hb dL_holds_354 (by decide) (fun _ => ?_) (fun h => absurd (by decide) h)
              refine lv_iload hx hb dL_holds_409 (lv_at hl 1 rfl) ?_
              exact mu_zret hx hb hr hlocks dL_holds_411 hAe hS hWP rfl rfl
            | succ n350 ih350 =>
              intro k350 hk350 H locs hWP hWD hS ls hl
              have hlt350 : k350 < 8 := by omega
              refine lv_iload hx hb dL_holds_350 (lv_at hl 0 rfl) ?_
              refine lv_bipush (v := 8) hx hb dL_holds_352 (by decide) ?_
              refine lv_icmp_ge (tgt := 409) hx hb dL_holds_354 (by decide) (fun h => absurd h (nI_ge hlt350 (by first | decide | omega))) (fun _ => ?_)
              refine lv_iload hx hb dL_holds_357 (lv_at hl 1 rfl) ?_
              refine lv_if_eq (tgt := 400) hx hb dL_holds_359 (by decide) (fun h => absurd h (by decide)) (fun _ => ?_)
              refine lv_aload_n hx hb dL_holds_362 rfl (lv_at hl 9 rfl) ?_
              refine lv_iload hx hb dL_holds_363 (lv_at hl 0 rfl) ?_
              refine ro_V (ci := 4) (q0 := 0) (As := [.int (nI k350)]) (rest := []) ⟨hx, hb, hml, hown, hts⟩ (c_X4_told l D cA _ Ad f o z tx (rt.1, (wtT (f 0) rt.2 16)) k350 (by omega) hWP) (cwV 1 hts gL_holds_X4_told rfl rfl rfl (by decide +kernel) ⟨Nat.le_of_ble_eq_true rfl, Nat.le_of_ble_eq_true rfl⟩) hKN (lw_fP 10 (by decide) hWP : va_P D vwCl ((wLm cA Ad (rt.1, (wtT (f 0) rt.2 16))) ++ (rst cA Ad (f, ((nI o), (nI z)), tx, (rt.1, (wtT (f 0) rt.2 16))) 10)) H) rfl rfl rfl hl.1 rfl (lv_room (Nat.le_of_ble_eq_true rfl)) dL_holds_365 ⟨Nat.zero_le _, Nat.zero_le _⟩ ?_
              refine lz_top (v := ((f 0).2.2.2.2.2.2.2.2.1 k350)) rfl ?_
              refine lv_iconst (v := (-1)) hx hb dL_holds_368 (by decide) ?_
              have hj_369 : W p l e ({ frames := 6, cells := 0, slots := 0, locals := 138 } : Room) s m ([.ref (Ad 10 0)] : List Value).toArray below meth c H locs 0 0 (MQ below (muQ D s.heap (all cA Ad (f, ((nI o), (nI z)), tx, rt)) (all cA Ad (f, ((nI o), (nI z)), tx, (rt.1, wtT (f 0) rt.2 16))) (some (.int 1))) ([.ref (Ad 10 0)] : List Value).toArray s 0 0 A) (F0 m 377 ls [.int (if (f 0).2.2.2.2.2.2.2.2.2.2.2.2.2 ≤ nI k350 then (1 : Int32) else 0)]) → W p l e ({ frames := 6, cells := 0, slots := 0, locals := 138 } : Room) s m ([.ref (Ad 10 0)] : List Value).toArray below meth c H locs 0 0 (MQ below (muQ D s.heap (all cA Ad (f, ((nI o), (nI z)), tx, rt)) (all cA Ad (f, ((nI o), (nI z)), tx, (rt.1, wtT (f 0) rt.2 16))) (some (.int 1))) ([.ref (Ad 10 0)] : List Value).toArray s 0 0 A) (F0 m 369 ls [.int (-1), .int ((f 0).2.2.2.2.2.2.2.2.1 k350)]) := by
                intro hJ
                refine lv_icmp_ne (tgt := 376) hx hb dL_holds_369 (by decide) (fun c_369 => ?_) (fun c_369 => ?_)
                · refine lv_iconst (v := 0) hx hb dL_holds_376 (by decide) ?_
                  refine lz_top (v := (if (f 0).2.2.2.2.2.2.2.2.2.2.2.2.2 ≤ nI k350 then (1 : Int32) else 0)) (if_neg fun z => c_369 ((told_age hG hKB hlt350).mpr z)).symm ?_
                  exact hJ
                · refine lv_iconst (v := 1) hx hb dL_holds_372 (by decide) ?_
                  refine lv_goto (tgt := 377) hx hb dL_holds_373 (by decide) ?_
                  refine lz_top (v := (if (f 0).2.2.2.2.2.2.2.2.2.2.2.2.2 ≤ nI k350 then (1 : Int32) else 0)) (if_pos ((told_age hG hKB hlt350).mp c_369)).symm ?_
                  exact hJ
              refine hj_369 ?_
              refine lv_iload hx hb dL_holds_377 (lv_at hl 0 rfl) ?_
              refine lv_aload_n hx hb dL_holds_379 rfl (lv_at hl 9 rfl) ?_
              refine lv_bipush (v := 8) hx hb dL_holds_380 (by decide) ?_
              refine ro_V (ci := 4) (q0 := 0) (As := [.int 8]) (rest := [.int (nI k350), .int (if (f 0).2.2.2.2.2.2.2.2.2.2.2.2.2 ≤ nI k350 then (1 : Int32) else 0)]) ⟨hx, hb, hml, hown, hts⟩ (c_X4_machine l D cA _ Ad f o z tx (rt.1, (wtT (f 0) rt.2 16)) 8 (by decide) hWP) (cwV 1 hts gL_holds_X4_machine rfl rfl rfl (by decide +kernel) ⟨Nat.le_of_ble_eq_true rfl, Nat.le_of_ble_eq_true rfl⟩) hKN (lw_fP 10 (by decide) hWP : va_P D vwCl ((wLm cA Ad (rt.1, (wtT (f 0) rt.2 16))) ++ (rst cA Ad (f, ((nI o), (nI z)), tx, (rt.1, (wtT (f 0) rt.2 16))) 10)) H) rfl rfl rfl hl.1 rfl (lv_room (Nat.le_of_ble_eq_true rfl)) dL_holds_382 ⟨Nat.zero_le _, Nat.zero_le _⟩ ?_
              refine lz_top (v := (f 0).2.2.2.2.2.2.2.2.2.2.2.2.2) rfl ?_
              have hj_385 : W p l e ({ frames := 6, cells := 0, slots := 0, locals := 138 } : Room) s m ([.ref (Ad 10 0)] : List Value).toArray below meth c H locs 0 0 (MQ below (muQ D s.heap (all cA Ad (f, ((nI o), (nI z)), tx, rt)) (all cA Ad (f, ((nI o), (nI z)), tx, (rt.1, wtT (f 0) rt.2 16))) (some (.int 1))) ([.ref (Ad 10 0)] : List Value).toArray s 0 0 A) (F0 m 393 ls [.int (if (f 0).2.2.2.2.2.2.2.2.2.2.2.2.2 ≤ nI k350 then (1 : Int32) else 0), .int (if (f 0).2.2.2.2.2.2.2.2.2.2.2.2.2 ≤ nI k350 then (1 : Int32) else 0)]) → W p l e ({ frames := 6, cells := 0, slots := 0, locals := 138 } : Room) s m ([.ref (Ad 10 0)] : List Value).toArray below meth c H locs 0 0 (MQ below (muQ D s.heap (all cA Ad (f, ((nI o), (nI z)), tx, rt)) (all cA Ad (f, ((nI o), (nI z)), tx, (rt.1, wtT (f 0) rt.2 16))) (some (.int 1))) ([.ref (Ad 10 0)] : List Value).toArray s 0 0 A) (F0 m 385 ls [.int ((f 0).2.2.2.2.2.2.2.2.2.2.2.2.2), .int (nI k350), .int (if (f 0).2.2.2.2.2.2.2.2.2.2.2.2.2 ≤ nI k350 then (1 : Int32) else 0)]) := by
                intro hJ
                refine lv_icmp_lt (tgt := 392) hx hb dL_holds_385 (by decide) (fun c_385 => ?_) (fun c_385 => ?_)
                · refine lv_iconst (v := 0) hx hb dL_holds_392 (by decide) ?_
                  refine lz_top (v := (if (f 0).2.2.2.2.2.2.2.2.2.2.2.2.2 ≤ nI k350 then (1 : Int32) else 0)) (age_lt c_385) ?_
                  exact hJ
                · refine lv_iconst (v := 1) hx hb dL_holds_388 (by decide) ?_
                  refine lv_goto (tgt := 393) hx hb dL_holds_389 (by decide) ?_
                  refine lz_top (v := (if (f 0).2.2.2.2.2.2.2.2.2.2.2.2.2 ≤ nI k350 then (1 : Int32) else 0)) (age_ge c_385) ?_
                  exact hJ
              refine hj_385 ?_
              refine lv_icmp_ne (tgt := 400) hx hb dL_holds_393 (by decide) (fun h => absurd rfl h) (fun _ => ?_)
              refine lv_iconst (v := 1) hx hb dL_holds_396 (by decide) ?_
              refine lv_goto (tgt := 401) hx hb dL_holds_397 (by decide) ?_
              refine lv_istore (lv' := [(8, .int 1), (9, .int (nI k350)), (7, .int (cbrT (f 0) 8)), (6, .int (newT (f 0) 8)), (5, .int (fubT (f 0).1 16)), (4, .int (altT (f 0) 16)), (3, .int (sumI (f 0).2.1 16)), (2, .int (rightT (f 0) 16)), (1, .int (cbtT (f 0) 16)), (0, .ref (Ad 10 0))]) hx hb dL_holds_401 hl (by decide) rfl (fun ls hl => ?_)
              refine lv_iinc (v := (nI (k350 + 1))) (lv' := [(9, .int (nI (k350 + 1))), (8, .int 1), (7, .int (cbrT (f 0) 8)), (6, .int (newT (f 0) 8)), (5, .int (fubT (f 0).1 16)), (4, .int (altT (f 0) 16)), (3, .int (sumI (f 0).2.1 16)), (2, .int (rightT (f 0) 16)), (1, .int (cbtT (f 0) 16)), (0, .ref (Ad 10 0))]) hx hb dL_holds_403 hl (k := 1) rfl (nI_1 _) (by decide) rfl (fun ls hl => ?_)
              refine lv_goto (tgt := 350) hx hb dL_holds_406 (by decide) ?_
              exact ih350 (k350 + 1) (by omega) _ _ hWP hWD hS ls (lv_sub hl [0, 1, 2, 3, 4, 5, 6, 7, 8, 9] rfl)
          exact loop350 8 0 (by omega) _ _ hWP hWD hS ls (lv_sub hl [0, 1, 2, 3, 4, 5, 6, 7, 8, 9] rfl)
        | succ n166 ih166 =>
          intro k166 hk166 H locs hWP hWD hS ls hl
          have hlt166 : k166 < 8 := by omega
          refine lv_iload hx hb dL_holds_166 (lv_at hl 0 rfl) ?_
          refine lv_bipush (v := 8) hx hb dL_holds_168 (by decide) ?_
          refine lv_icmp_ge (tgt := 215) hx hb dL_holds_170 (by decide) (fun h => absurd h (nI_ge hlt166 (by first | decide | omega))) (fun _ => ?_)
          refine lv_iload hx hb dL_holds_173 (lv_at hl 1 rfl) ?_
          refine lv_aload_n hx hb dL_holds_175 rfl (lv_at hl 8 rfl) ?_
          refine lv_iload hx hb dL_holds_176 (lv_at hl 0 rfl) ?_
          refine lv_iconst (v := 2) hx hb dL_holds_178 (by decide) ?_
          refine ro_V (ci := 4) (q0 := 0) (As := [.int (nI k166), .int 2]) (rest := [.int (cbrT (f 0) k166)]) ⟨hx, hb, hml, hown, hts⟩ (c_X4_ringOf l D cA _ Ad f o z tx rt k166 (by omega) 2 (by decide) hWP) (cwV 2 hts gL_holds_X4_ringOf rfl rfl rfl (by decide +kernel) ⟨Nat.le_of_ble_eq_true rfl, Nat.le_of_ble_eq_true rfl⟩) hKN (lw_fP 10 (by decide) hWP : va_P D vwCl ((wLm cA Ad rt) ++ (rst cA Ad (f, ((nI o), (nI z)), tx, rt) 10)) H) rfl rfl rfl hl.1 rfl (lv_room (Nat.le_of_ble_eq_true rfl)) dL_holds_179 ⟨Nat.zero_le _, Nat.zero_le _⟩ ?_
          refine lz_top (v := (bcF (thrS (f 0) (nI k166)))) rfl ?_
          refine lv_iadd hx hb dL_holds_182 ?_
          refine lv_istore (lv' := [(7, .int ((cbrT (f 0) k166) + (bcF (thrS (f 0) (nI k166))))), (8, .int (nI k166)), (6, .int (newT (f 0) k166)), (5, .int (fubT (f 0).1 16)), (4, .int (altT (f 0) 16)), (3, .int (sumI (f 0).2.1 16)), (2, .int (rightT (f 0) 16)), (1, .int (cbtT (f 0) 16)), (0, .ref (Ad 10 0))]) hx hb dL_holds_183 hl (by decide) rfl (fun ls hl => ?_)
          refine lv_iload hx hb dL_holds_185 (lv_at hl 2 rfl) ?_
          have hj_187 : W p l e ({ frames := 6, cells := 0, slots := 0, locals := 138 } : Room) s m ([.ref (Ad 10 0)] : List Value).toArray below meth c H locs 0 0 (MQ below (muQ D s.heap (all cA Ad (f, ((nI o), (nI z)), tx, rt)) (all cA Ad (f, ((nI o), (nI z)), tx, (rt.1, wtT (f 0) rt.2 16))) (some (.int 1))) ([.ref (Ad 10 0)] : List Value).toArray s 0 0 A) (F0 m 207 ls [.int (newT (f 0) (k166 + 1))]) → W p l e ({ frames := 6, cells := 0, slots := 0, locals := 138 } : Room) s m ([.ref (Ad 10 0)] : List Value).toArray below meth c H locs 0 0 (MQ below (muQ D s.heap (all cA Ad (f, ((nI o), (nI z)), tx, rt)) (all cA Ad (f, ((nI o), (nI z)), tx, (rt.1, wtT (f 0) rt.2 16))) (some (.int 1))) ([.ref (Ad 10 0)] : List Value).toArray s 0 0 A) (F0 m 187 ls [.int (newT (f 0) k166)]) := by
            intro hJ
            refine lv_if_eq (tgt := 206) hx hb dL_holds_187 (by decide) (fun c_187 => ?_) (fun c_187 => ?_)
            · refine lv_iconst (v := 0) hx hb dL_holds_206 (by decide) ?_
              refine lz_top (v := (newT (f 0) (k166 + 1))) (new_0a c_187) ?_
              exact hJ
            · refine lv_aload_n hx hb dL_holds_190 rfl (lv_at hl 8 rfl) ?_
              refine lv_iload hx hb dL_holds_191 (lv_at hl 1 rfl) ?_
              refine lv_iconst (v := 0) hx hb dL_holds_193 (by decide) ?_
              refine ro_V (ci := 4) (q0 := 0) (As := [.int (nI k166), .int 0]) (rest := []) ⟨hx, hb, hml, hown, hts⟩ (c_X4_ringOf l D cA _ Ad f o z tx rt k166 (by omega) 0 (by decide) hWP) (cwV 2 hts gL_holds_X4_ringOf rfl rfl rfl (by decide +kernel) ⟨Nat.le_of_ble_eq_true rfl, Nat.le_of_ble_eq_true rfl⟩) hKN (lw_fP 10 (by decide) hWP : va_P D vwCl ((wLm cA Ad rt) ++ (rst cA Ad (f, ((nI o), (nI z)), tx, rt) 10)) H) rfl rfl rfl hl.1 rfl (lv_room (Nat.le_of_ble_eq_true rfl)) dL_holds_194 ⟨Nat.zero_le _, Nat.zero_le _⟩ ?_
              refine lz_top (v := ((f 0).2.2.1 k166)) rfl ?_
              refine lv_bipush (v := 30) hx hb dL_holds_197 (by decide) ?_
              refine lv_icmp_ge (tgt := 206) hx hb dL_holds_199 (by decide) (fun c_199 => ?_) (fun c_199 => ?_)
              · refine lv_iconst (v := 0) hx hb dL_holds_206 (by decide) ?_
                refine lz_top (v := (newT (f 0) (k166 + 1))) (new_0b c_187 c_199) ?_
                exact hJ
              · refine lv_iconst (v := 1) hx hb dL_holds_202 (by decide) ?_
                refine lv_goto (tgt := 207) hx hb dL_holds_203 (by decide) ?_
                refine lz_top (v := (newT (f 0) (k166 + 1))) (new_1 c_187 c_199) ?_
                exact hJ
          refine hj_187 ?_
          refine lv_istore (lv' := [(6, .int (newT (f 0) (k166 + 1))), (7, .int ((cbrT (f 0) k166) + (bcF (thrS (f 0) (nI k166))))), (8, .int (nI k166)), (5, .int (fubT (f 0).1 16)), (4, .int (altT (f 0) 16)), (3, .int (sumI (f 0).2.1 16)), (2, .int (rightT (f 0) 16)), (1, .int (cbtT (f 0) 16)), (0, .ref (Ad 10 0))]) hx hb dL_holds_207 hl (by decide) rfl (fun ls hl => ?_)
          refine lv_iinc (v := (nI (k166 + 1))) (lv' := [(8, .int (nI (k166 + 1))), (6, .int (newT (f 0) (k166 + 1))), (7, .int ((cbrT (f 0) k166) + (bcF (thrS (f 0) (nI k166))))), (5, .int (fubT (f 0).1 16)), (4, .int (altT (f 0) 16)), (3, .int (sumI (f 0).2.1 16)), (2, .int (rightT (f 0) 16)), (1, .int (cbtT (f 0) 16)), (0, .ref (Ad 10 0))]) hx hb dL_holds_209 hl (k := 2) rfl (nI_1 _) (by decide) rfl (fun ls hl => ?_)
          refine lv_goto (tgt := 166) hx hb dL_holds_212 (by decide) ?_
          have e_1 : (cbrT (f 0) (k166 + 1)) = ((cbrT (f 0) k166) + (bcF (thrS (f 0) (nI k166)))) := rfl
          exact ih166 (k166 + 1) (by omega) _ _ hWP hWD hS ls (by rw [e_1]; exact (lv_sub hl [0, 2, 1, 3, 4, 5, 6, 7, 8] rfl))
      exact loop166 8 0 (by omega) _ _ hWP hWD hS ls (lv_sub hl [0, 1, 2, 3, 4, 5, 6, 7, 8] rfl)
    | succ n19 ih19 =>
      intro k19 hk19 H locs hWP hWD hS ls hl
      have hlt19 : k19 < 16 := by omega
      refine lv_iload hx hb dL_holds_19 (lv_at hl 0 rfl) ?_
      refine lv_bipush (v := 16) hx hb dL_holds_21 (by decide) ?_
      refine lv_icmp_ge (tgt := 160) hx hb dL_holds_23 (by decide) (fun h => absurd h (nI_ge hlt19 (by first | decide | omega))) (fun _ => ?_)
      refine lv_iload_n hx hb dL_holds_26 rfl (lv_at hl 6 rfl) ?_
      refine lv_aload_n hx hb dL_holds_27 rfl (lv_at hl 7 rfl) ?_
      refine lv_iload hx hb dL_holds_28 (lv_at hl 0 rfl) ?_
      refine lv_iconst (v := 0) hx hb dL_holds_30 (by decide) ?_
      refine ro_V (ci := 4) (q0 := 0) (As := [.int (nI k19), .int 0]) (rest := [.int (cbtT (f 0) k19)]) ⟨hx, hb, hml, hown, hts⟩ (c_X4_threadOf l D cA _ Ad f o z tx rt k19 (by omega) 0 (by decide) hWP) (cwV 2 hts gL_holds_X4_threadOf rfl rfl rfl (by decide +kernel) ⟨Nat.le_of_ble_eq_true rfl, Nat.le_of_ble_eq_true rfl⟩) hKN (lw_fP 10 (by decide) hWP : va_P D vwCl ((wLm cA Ad rt) ++ (rst cA Ad (f, ((nI o), (nI z)), tx, rt) 10)) H) rfl rfl rfl hl.1 rfl (lv_room (Nat.le_of_ble_eq_true rfl)) dL_holds_31 ⟨Nat.zero_le _, Nat.zero_le _⟩ ?_
      refine lz_top (v := ((f 0).1 k19)) rfl ?_
      refine ro_S (As := [.int ((f 0).1 k19)]) (rest := [.int (cbtT (f 0) k19)]) ⟨hx, hb, hml, hown, hts⟩ (c_L_bits l D cA _ ((f 0).1 k19) (hR k19 hlt19).m16) (cwS2 1 hts gL_holds_L_bits rfl rfl rfl (by decide +kernel) ⟨Nat.le_of_ble_eq_true rfl, Nat.le_of_ble_eq_true rfl⟩) hKN rfl hl.1 rfl (lv_room (Nat.le_of_ble_eq_true rfl)) dL_holds_34 ⟨Nat.zero_le _, Nat.zero_le _⟩ ?_
      refine lv_iadd hx hb dL_holds_37 ?_
      refine lv_istore_n (lv' := [(1, .int ((cbtT (f 0) k19) + (bcF ((f 0).1 k19)))), (7, .int (nI k19)), (6, .int 1), (5, .int (fubT (f 0).1 k19)), (4, .int (altT (f 0) k19)), (3, .int (sumI (f 0).2.1 k19)), (2, .int (rightT (f 0) k19)), (0, .ref (Ad 10 0))]) hx hb dL_holds_38 rfl hl (by decide) rfl (fun ls hl => ?_)
      refine lv_iload_n hx hb dL_holds_39 rfl (lv_at hl 6 rfl) ?_
      refine lv_aload_n hx hb dL_holds_40 rfl (lv_at hl 7 rfl) ?_
      refine lv_iload hx hb dL_holds_41 (lv_at hl 1 rfl) ?_
      refine lv_iconst (v := 3) hx hb dL_holds_43 (by decide) ?_
      refine ro_V (ci := 4) (q0 := 0) (As := [.int (nI k19), .int 3]) (rest := [.int (rightT (f 0) k19)]) ⟨hx, hb, hml, hown, hts⟩ (c_X4_threadOf l D cA _ Ad f o z tx rt k19 (by omega) 3 (by decide) hWP) (cwV 2 hts gL_holds_X4_threadOf rfl rfl rfl (by decide +kernel) ⟨Nat.le_of_ble_eq_true rfl, Nat.le_of_ble_eq_true rfl⟩) hKN (lw_fP 10 (by decide) hWP : va_P D vwCl ((wLm cA Ad rt) ++ (rst cA Ad (f, ((nI o), (nI z)), tx, rt) 10)) H) rfl rfl rfl hl.1 rfl (lv_room (Nat.le_of_ble_eq_true rfl)) dL_holds_44 ⟨Nat.zero_le _, Nat.zero_le _⟩ ?_
      refine lz_top (v := (tellsS (f 0) k19)) rfl ?_
      refine lv_aload_n hx hb dL_holds_47 rfl (lv_at hl 7 rfl) ?_
      refine lv_iload hx hb dL_holds_48 (lv_at hl 1 rfl) ?_
      refine lv_iconst (v := 2) hx hb dL_holds_50 (by decide) ?_
      refine ro_V (ci := 4) (q0 := 0) (As := [.int (nI k19), .int 2]) (rest := [.int (tellsS (f 0) k19), .int (rightT (f 0) k19)]) ⟨hx, hb, hml, hown, hts⟩ (c_X4_threadOf l D cA _ Ad f o z tx rt k19 (by omega) 2 (by decide) hWP) (cwV 2 hts gL_holds_X4_threadOf rfl rfl rfl (by decide +kernel) ⟨Nat.le_of_ble_eq_true rfl, Nat.le_of_ble_eq_true rfl⟩) hKN (lw_fP 10 (by decide) hWP : va_P D vwCl ((wLm cA Ad rt) ++ (rst cA Ad (f, ((nI o), (nI z)), tx, rt) 10)) H) rfl rfl rfl hl.1 rfl (lv_room (Nat.le_of_ble_eq_true rfl)) dL_holds_51 ⟨Nat.zero_le _, Nat.zero_le _⟩ ?_
      refine lz_top (v := (meansS (f 0) k19)) rfl ?_
      have hj_54 : W p l e ({ frames := 6, cells := 0, slots := 0, locals := 138 } : Room) s m ([.ref (Ad 10 0)] : List Value).toArray below meth c H locs 0 0 (MQ below (muQ D s.heap (all cA Ad (f, ((nI o), (nI z)), tx, rt)) (all cA Ad (f, ((nI o), (nI z)), tx, (rt.1, wtT (f 0) rt.2 16))) (some (.int 1))) ([.ref (Ad 10 0)] : List Value).toArray s 0 0 A) (F0 m 62 ls [.int (if ansS (f 0) k19 = (f 0).1 k19 then (1 : Int32) else 0), .int (rightT (f 0) k19)]) → W p l e ({ frames := 6, cells := 0, slots := 0, locals := 138 } : Room) s m ([.ref (Ad 10 0)] : List Value).toArray below meth c H locs 0 0 (MQ below (muQ D s.heap (all cA Ad (f, ((nI o), (nI z)), tx, rt)) (all cA Ad (f, ((nI o), (nI z)), tx, (rt.1, wtT (f 0) rt.2 16))) (some (.int 1))) ([.ref (Ad 10 0)] : List Value).toArray s 0 0 A) (F0 m 54 ls [.int (meansS (f 0) k19), .int (tellsS (f 0) k19), .int (rightT (f 0) k19)]) := by
        intro hJ
        refine lv_icmp_ne (tgt := 61) hx hb dL_holds_54 (by decide) (fun c_54 => ?_) (fun c_54 => ?_)
        · refine lv_iconst (v := 0) hx hb dL_holds_61 (by decide) ?_
          refine lz_top (v := (if ansS (f 0) k19 = (f 0).1 k19 then (1 : Int32) else 0)) (rt_ne c_54) ?_
          exact hJ
        · refine lv_iconst (v := 1) hx hb dL_holds_57 (by decide) ?_
          refine lv_goto (tgt := 62) hx hb dL_holds_58 (by decide) ?_
          refine lz_top (v := (if ansS (f 0) k19 = (f 0).1 k19 then (1 : Int32) else 0)) (rt_eq c_54) ?_
          exact hJ
      refine hj_54 ?_
      refine lv_iadd hx hb dL_holds_62 ?_
      refine lv_istore_n (lv' := [(2, .int ((rightT (f 0) k19) + (if ansS (f 0) k19 = (f 0).1 k19 then (1 : Int32) else 0))), (1, .int ((cbtT (f 0) k19) + (bcF ((f 0).1 k19)))), (7, .int (nI k19)), (6, .int 1), (5, .int (fubT (f 0).1 k19)), (4, .int (altT (f 0) k19)), (3, .int (sumI (f 0).2.1 k19)), (0, .ref (Ad 10 0))]) hx hb dL_holds_63 rfl hl (by decide) rfl (fun ls hl => ?_)
      refine lv_iload_n hx hb dL_holds_64 rfl (lv_at hl 6 rfl) ?_
      refine lv_aload_n hx hb dL_holds_65 rfl (lv_at hl 7 rfl) ?_
      refine lv_iload hx hb dL_holds_66 (lv_at hl 2 rfl) ?_
      refine lv_bipush (v := 7) hx hb dL_holds_68 (by decide) ?_
      refine ro_V (ci := 4) (q0 := 0) (As := [.int (nI k19), .int 7]) (rest := [.int (sumI (f 0).2.1 k19)]) ⟨hx, hb, hml, hown, hts⟩ (c_X4_threadOf l D cA _ Ad f o z tx rt k19 (by omega) 7 (by decide) hWP) (cwV 2 hts gL_holds_X4_threadOf rfl rfl rfl (by decide +kernel) ⟨Nat.le_of_ble_eq_true rfl, Nat.le_of_ble_eq_true rfl⟩) hKN (lw_fP 10 (by decide) hWP : va_P D vwCl ((wLm cA Ad rt) ++ (rst cA Ad (f, ((nI o), (nI z)), tx, rt) 10)) H) rfl rfl rfl hl.1 rfl (lv_room (Nat.le_of_ble_eq_true rfl)) dL_holds_70 ⟨Nat.zero_le _, Nat.zero_le _⟩ ?_
      refine lz_top (v := ((f 0).2.1 k19)) rfl ?_
      refine lv_iadd hx hb dL_holds_73 ?_
      refine lv_istore_n (lv' := [(3, .int ((sumI (f 0).2.1 k19) + ((f 0).2.1 k19))), (2, .int ((rightT (f 0) k19) + (if ansS (f 0) k19 = (f 0).1 k19 then (1 : Int32) else 0))), (1, .int ((cbtT (f 0) k19) + (bcF ((f 0).1 k19)))), (7, .int (nI k19)), (6, .int 1), (5, .int (fubT (f 0).1 k19)), (4, .int (altT (f 0) k19)), (0, .ref (Ad 10 0))]) hx hb dL_holds_74 rfl hl (by decide) rfl (fun ls hl => ?_)
      refine lv_iconst (v := 0) hx hb dL_holds_75 (by decide) ?_
      refine lv_istore (lv' := [(8, .int 0), (3, .int ((sumI (f 0).2.1 k19) + ((f 0).2.1 k19))), (2, .int ((rightT (f 0) k19) + (if ansS (f 0) k19 = (f 0).1 k19 then (1 : Int32) else 0))), (1, .int ((cbtT (f 0) k19) + (bcF ((f 0).1 k19)))), (7, .int (nI k19)), (6, .int 1), (5, .int (fubT (f 0).1 k19)), (4, .int (altT (f 0) k19)), (0, .ref (Ad 10 0))]) hx hb dL_holds_76 hl (by decide) rfl (fun ls hl => ?_)
      have loop78 : ∀ (n78 k78 : Nat), k78 + n78 = k19 → ∀ (H : Heap) (locs : List Loc), va_P D vwCl (all cA Ad (f, ((nI o), (nI z)), tx, rt)) H → va_D A (all cA Ad (f, ((nI o), (nI z)), tx, rt)) → va_S A s.heap H locs → ∀ (ls : Array Slot), lv_has ls 10 [(8, .int (nI k78)), (3, .int ((sumI (f 0).2.1 k19) + ((f 0).2.1 k19))), (2, .int ((rightT (f 0) k19) + (if ansS (f 0) k19 = (f 0).1 k19 then (1 : Int32) else 0))), (1, .int ((cbtT (f 0) k19) + (bcF ((f 0).1 k19)))), (7, .int (nI k19)), (6, .int 1), (5, .int (fubI (f 0).1 k19 (fubT (f 0).1 k19) k78)), (4, .int (altI (f 0) k19 (altT (f 0) k19) k78)), (0, .ref (Ad 10 0))] → W p l e ({ frames := 6, cells := 0, slots := 0, locals := 138 } : Room) s m ([.ref (Ad 10 0)] : List Value).toArray below meth c H locs 0 0 (MQ below (muQ D s.heap (all cA Ad (f, ((nI o), (nI z)), tx, rt)) (all cA Ad (f, ((nI o), (nI z)), tx, (rt.1, wtT (f 0) rt.2 16))) (some (.int 1))) ([.ref (Ad 10 0)] : List Value).toArray s 0 0 A) (F0 m 78 ls []) := by
        intro n78
        induction n78 with
        | zero =>
          intro k78 hk78 H locs hWP hWD hS ls hl
          obtain rfl : k19 = k78 := by omega
          refine lv_iload hx hb dL_holds_78 (lv_at hl 0 rfl) ?_
          refine lv_iload hx hb dL_holds_80 (lv_at hl 4 rfl) ?_
          refine lv_icmp_ge (tgt := 154) hx hb dL_holds_82 (by decide) (fun _ => ?_) (fun h => absurd (nI_le (Nat.le_refl _) (by first | decide | omega)) h)
          refine lv_iinc (v := (nI (k19 + 1))) (lv' := [(7, .int (nI (k19 + 1))), (8, .int (nI k19)), (3, .int ((sumI (f 0).2.1 k19) + ((f 0).2.1 k19))), (2, .int ((rightT (f 0) k19) + (if ansS (f 0) k19 = (f 0).1 k19 then (1 : Int32) else 0))), (1, .int ((cbtT (f 0) k19) + (bcF ((f 0).1 k19)))), (6, .int 1), (5, .int (fubI (f 0).1 k19 (fubT (f 0).1 k19) k19)), (4, .int (altI (f 0) k19 (altT (f 0) k19) k19)), (0, .ref (Ad 10 0))]) hx hb dL_holds_154 hl (k := 4) rfl (nI_1 _) (by decide) rfl (fun ls hl => ?_)
          refine lv_goto (tgt := 19) hx hb dL_holds_157 (by decide) ?_
          have e_2 : (cbtT (f 0) (k19 + 1)) = ((cbtT (f 0) k19) + (bcF ((f 0).1 k19))) := rfl
          have e_3 : (rightT (f 0) (k19 + 1)) = ((rightT (f 0) k19) + (if ansS (f 0) k19 = (f 0).1 k19 then (1 : Int32) else 0)) := (right_s (f 0) k19)
          have e_4 : (sumI (f 0).2.1 (k19 + 1)) = ((sumI (f 0).2.1 k19) + ((f 0).2.1 k19)) := rfl
          have e_5 : (altT (f 0) (k19 + 1)) = (altI (f 0) k19 (altT (f 0) k19) k19) := rfl
          have e_6 : (fubT (f 0).1 (k19 + 1)) = (fubI (f 0).1 k19 (fubT (f 0).1 k19) k19) := rfl
          exact ih19 (k19 + 1) (by omega) _ _ hWP hWD hS ls (by rw [e_2, e_3, e_4, e_5, e_6]; exact (lv_sub hl [0, 5, 6, 7, 2, 3, 4, 8] rfl))
        | succ n78 ih78 =>
          intro k78 hk78 H locs hWP hWD hS ls hl
          have hlt78 : k78 < k19 := by omega
          refine lv_iload hx hb dL_holds_78 (lv_at hl 0 rfl) ?_
          refine lv_iload hx hb dL_holds_80 (lv_at hl 4 rfl) ?_
          refine lv_icmp_ge (tgt := 154) hx hb dL_holds_82 (by decide) (fun h => absurd h (nI_ge hlt78 (by first | decide | omega))) (fun _ => ?_)
          refine lv_aload_n hx hb dL_holds_85 rfl (lv_at hl 8 rfl) ?_
          refine lv_iload hx hb dL_holds_86 (lv_at hl 4 rfl) ?_
          refine lv_iconst (v := 2) hx hb dL_holds_88 (by decide) ?_
          refine ro_V (ci := 4) (q0 := 0) (As := [.int (nI k19), .int 2]) (rest := []) ⟨hx, hb, hml, hown, hts⟩ (c_X4_threadOf l D cA _ Ad f o z tx rt k19 (by omega) 2 (by decide) hWP) (cwV 2 hts gL_holds_X4_threadOf rfl rfl rfl (by decide +kernel) ⟨Nat.le_of_ble_eq_true rfl, Nat.le_of_ble_eq_true rfl⟩) hKN (lw_fP 10 (by decide) hWP : va_P D vwCl ((wLm cA Ad rt) ++ (rst cA Ad (f, ((nI o), (nI z)), tx, rt) 10)) H) rfl rfl rfl hl.1 rfl (lv_room (Nat.le_of_ble_eq_true rfl)) dL_holds_89 ⟨Nat.zero_le _, Nat.zero_le _⟩ ?_
          refine lz_top (v := (meansS (f 0) k19)) rfl ?_
          refine lv_aload_n hx hb dL_holds_92 rfl (lv_at hl 8 rfl) ?_
          refine lv_iload hx hb dL_holds_93 (lv_at hl 0 rfl) ?_
          refine lv_iconst (v := 2) hx hb dL_holds_95 (by decide) ?_
          refine ro_V (ci := 4) (q0 := 0) (As := [.int (nI k78), .int 2]) (rest := [.int (meansS (f 0) k19)]) ⟨hx, hb, hml, hown, hts⟩ (c_X4_threadOf l D cA _ Ad f o z tx rt k78 (by omega) 2 (by decide) hWP) (cwV 2 hts gL_holds_X4_threadOf rfl rfl rfl (by decide +kernel) ⟨Nat.le_of_ble_eq_true rfl, Nat.le_of_ble_eq_true rfl⟩) hKN (lw_fP 10 (by decide) hWP : va_P D vwCl ((wLm cA Ad rt) ++ (rst cA Ad (f, ((nI o), (nI z)), tx, rt) 10)) H) rfl rfl rfl hl.1 rfl (lv_room (Nat.le_of_ble_eq_true rfl)) dL_holds_96 ⟨Nat.zero_le _, Nat.zero_le _⟩ ?_
          refine lz_top (v := (meansS (f 0) k78)) rfl ?_
          refine lv_ixor hx hb dL_holds_99 ?_
          refine ro_S (As := [.int ((meansS (f 0) k19) ^^^ (meansS (f 0) k78))]) (rest := []) ⟨hx, hb, hml, hown, hts⟩ (c_L_bits l D cA _ ((meansS (f 0) k19) ^^^ (meansS (f 0) k78)) (M8_xor (means_M8 hG hlt19) (means_M8 hG (by omega))).m16) (cwS2 1 hts gL_holds_L_bits rfl rfl rfl (by decide +kernel) ⟨Nat.le_of_ble_eq_true rfl, Nat.le_of_ble_eq_true rfl⟩) hKN rfl hl.1 rfl (lv_room (Nat.le_of_ble_eq_true rfl)) dL_holds_100 ⟨Nat.zero_le _, Nat.zero_le _⟩ ?_
          refine lz_top (v := (bcF ((f 0).1 k19 ^^^ (f 0).1 k78))) (congrArg bcF (word_xor _ _ _)) ?_
          refine lv_istore (lv' := [(9, .int (bcF ((f 0).1 k19 ^^^ (f 0).1 k78))), (8, .int (nI k78)), (3, .int ((sumI (f 0).2.1 k19) + ((f 0).2.1 k19))), (2, .int ((rightT (f 0) k19) + (if ansS (f 0) k19 = (f 0).1 k19 then (1 : Int32) else 0))), (1, .int ((cbtT (f 0) k19) + (bcF ((f 0).1 k19)))), (7, .int (nI k19)), (6, .int 1), (5, .int (fubI (f 0).1 k19 (fubT (f 0).1 k19) k78)), (4, .int (altI (f 0) k19 (altT (f 0) k19) k78)), (0, .ref (Ad 10 0))]) hx hb dL_holds_103 hl (by decide) rfl (fun ls hl => ?_)
          refine lv_iload hx hb dL_holds_105 (lv_at hl 0 rfl) ?_
          refine lv_iload hx hb dL_holds_107 (lv_at hl 7 rfl) ?_
          have hj_109 : W p l e ({ frames := 6, cells := 0, slots := 0, locals := 138 } : Room) s m ([.ref (Ad 10 0)] : List Value).toArray below meth c H locs 0 0 (MQ below (muQ D s.heap (all cA Ad (f, ((nI o), (nI z)), tx, rt)) (all cA Ad (f, ((nI o), (nI z)), tx, (rt.1, wtT (f 0) rt.2 16))) (some (.int 1))) ([.ref (Ad 10 0)] : List Value).toArray s 0 0 A) (F0 m 119 ls [.int (minF (fubI (f 0).1 k19 (fubT (f 0).1 k19) k78) (bcF ((f 0).1 k19 ^^^ (f 0).1 k78)))]) → W p l e ({ frames := 6, cells := 0, slots := 0, locals := 138 } : Room) s m ([.ref (Ad 10 0)] : List Value).toArray below meth c H locs 0 0 (MQ below (muQ D s.heap (all cA Ad (f, ((nI o), (nI z)), tx, rt)) (all cA Ad (f, ((nI o), (nI z)), tx, (rt.1, wtT (f 0) rt.2 16))) (some (.int 1))) ([.ref (Ad 10 0)] : List Value).toArray s 0 0 A) (F0 m 109 ls [.int (fubI (f 0).1 k19 (fubT (f 0).1 k19) k78), .int (bcF ((f 0).1 k19 ^^^ (f 0).1 k78))]) := by
            intro hJ
            refine lv_icmp_ge (tgt := 117) hx hb dL_holds_109 (by decide) (fun c_109 => ?_) (fun c_109 => ?_)
            · refine lv_iload hx hb dL_holds_117 (lv_at hl 7 rfl) ?_
              refine lz_top (v := (minF (fubI (f 0).1 k19 (fubT (f 0).1 k19) k78) (bcF ((f 0).1 k19 ^^^ (f 0).1 k78)))) (min_ge c_109) ?_
              exact hJ
            · refine lv_iload hx hb dL_holds_112 (lv_at hl 0 rfl) ?_
              refine lv_goto (tgt := 119) hx hb dL_holds_114 (by decide) ?_
              refine lz_top (v := (minF (fubI (f 0).1 k19 (fubT (f 0).1 k19) k78) (bcF ((f 0).1 k19 ^^^ (f 0).1 k78)))) (min_lt c_109) ?_
              exact hJ
          refine hj_109 ?_
          refine lv_istore (lv' := [(5, .int (minF (fubI (f 0).1 k19 (fubT (f 0).1 k19) k78) (bcF ((f 0).1 k19 ^^^ (f 0).1 k78)))), (9, .int (bcF ((f 0).1 k19 ^^^ (f 0).1 k78))), (8, .int (nI k78)), (3, .int ((sumI (f 0).2.1 k19) + ((f 0).2.1 k19))), (2, .int ((rightT (f 0) k19) + (if ansS (f 0) k19 = (f 0).1 k19 then (1 : Int32) else 0))), (1, .int ((cbtT (f 0) k19) + (bcF ((f 0).1 k19)))), (7, .int (nI k19)), (6, .int 1), (4, .int (altI (f 0) k19 (altT (f 0) k19) k78)), (0, .ref (Ad 10 0))]) hx hb dL_holds_119 hl (by decide) rfl (fun ls hl => ?_)
          refine lv_iload hx hb dL_holds_121 (lv_at hl 8 rfl) ?_
          refine lv_aload_n hx hb dL_holds_123 rfl (lv_at hl 9 rfl) ?_
          refine lv_iload hx hb dL_holds_124 (lv_at hl 6 rfl) ?_
          refine lv_iconst (v := 3) hx hb dL_holds_126 (by decide) ?_
          refine ro_V (ci := 4) (q0 := 0) (As := [.int (nI k19), .int 3]) (rest := [.int (altI (f 0) k19 (altT (f 0) k19) k78)]) ⟨hx, hb, hml, hown, hts⟩ (c_X4_threadOf l D cA _ Ad f o z tx rt k19 (by omega) 3 (by decide) hWP) (cwV 2 hts gL_holds_X4_threadOf rfl rfl rfl (by decide +kernel) ⟨Nat.le_of_ble_eq_true rfl, Nat.le_of_ble_eq_true rfl⟩) hKN (lw_fP 10 (by decide) hWP : va_P D vwCl ((wLm cA Ad rt) ++ (rst cA Ad (f, ((nI o), (nI z)), tx, rt) 10)) H) rfl rfl rfl hl.1 rfl (lv_room (Nat.le_of_ble_eq_true rfl)) dL_holds_127 ⟨Nat.zero_le _, Nat.zero_le _⟩ ?_
          refine lz_top (v := (tellsS (f 0) k19)) rfl ?_
          refine lv_aload_n hx hb dL_holds_130 rfl (lv_at hl 9 rfl) ?_
          refine lv_iload hx hb dL_holds_131 (lv_at hl 2 rfl) ?_
          refine lv_iconst (v := 3) hx hb dL_holds_133 (by decide) ?_
          refine ro_V (ci := 4) (q0 := 0) (As := [.int (nI k78), .int 3]) (rest := [.int (tellsS (f 0) k19), .int (altI (f 0) k19 (altT (f 0) k19) k78)]) ⟨hx, hb, hml, hown, hts⟩ (c_X4_threadOf l D cA _ Ad f o z tx rt k78 (by omega) 3 (by decide) hWP) (cwV 2 hts gL_holds_X4_threadOf rfl rfl rfl (by decide +kernel) ⟨Nat.le_of_ble_eq_true rfl, Nat.le_of_ble_eq_true rfl⟩) hKN (lw_fP 10 (by decide) hWP : va_P D vwCl ((wLm cA Ad rt) ++ (rst cA Ad (f, ((nI o), (nI z)), tx, rt) 10)) H) rfl rfl rfl hl.1 rfl (lv_room (Nat.le_of_ble_eq_true rfl)) dL_holds_134 ⟨Nat.zero_le _, Nat.zero_le _⟩ ?_
          refine lz_top (v := (tellsS (f 0) k78)) rfl ?_
          have hj_137 : W p l e ({ frames := 6, cells := 0, slots := 0, locals := 138 } : Room) s m ([.ref (Ad 10 0)] : List Value).toArray below meth c H locs 0 0 (MQ below (muQ D s.heap (all cA Ad (f, ((nI o), (nI z)), tx, rt)) (all cA Ad (f, ((nI o), (nI z)), tx, (rt.1, wtT (f 0) rt.2 16))) (some (.int 1))) ([.ref (Ad 10 0)] : List Value).toArray s 0 0 A) (F0 m 145 ls [.int (if tellsS (f 0) k19 = tellsS (f 0) k78 then (1 : Int32) else 0), .int (altI (f 0) k19 (altT (f 0) k19) k78)]) → W p l e ({ frames := 6, cells := 0, slots := 0, locals := 138 } : Room) s m ([.ref (Ad 10 0)] : List Value).toArray below meth c H locs 0 0 (MQ below (muQ D s.heap (all cA Ad (f, ((nI o), (nI z)), tx, rt)) (all cA Ad (f, ((nI o), (nI z)), tx, (rt.1, wtT (f 0) rt.2 16))) (some (.int 1))) ([.ref (Ad 10 0)] : List Value).toArray s 0 0 A) (F0 m 137 ls [.int (tellsS (f 0) k78), .int (tellsS (f 0) k19), .int (altI (f 0) k19 (altT (f 0) k19) k78)]) := by
            intro hJ
            refine lv_icmp_ne (tgt := 144) hx hb dL_holds_137 (by decide) (fun c_137 => ?_) (fun c_137 => ?_)
            · refine lv_iconst (v := 0) hx hb dL_holds_144 (by decide) ?_
              refine lz_top (v := (if tellsS (f 0) k19 = tellsS (f 0) k78 then (1 : Int32) else 0)) (if_neg c_137).symm ?_
              exact hJ
            · refine lv_iconst (v := 1) hx hb dL_holds_140 (by decide) ?_
              refine lv_goto (tgt := 145) hx hb dL_holds_141 (by decide) ?_
              refine lz_top (v := (if tellsS (f 0) k19 = tellsS (f 0) k78 then (1 : Int32) else 0)) (if_pos c_137).symm ?_
              exact hJ
          refine hj_137 ?_
          refine lv_iadd hx hb dL_holds_145 ?_
          refine lv_istore (lv' := [(4, .int ((altI (f 0) k19 (altT (f 0) k19) k78) + (if tellsS (f 0) k19 = tellsS (f 0) k78 then (1 : Int32) else 0))), (5, .int (minF (fubI (f 0).1 k19 (fubT (f 0).1 k19) k78) (bcF ((f 0).1 k19 ^^^ (f 0).1 k78)))), (9, .int (bcF ((f 0).1 k19 ^^^ (f 0).1 k78))), (8, .int (nI k78)), (3, .int ((sumI (f 0).2.1 k19) + ((f 0).2.1 k19))), (2, .int ((rightT (f 0) k19) + (if ansS (f 0) k19 = (f 0).1 k19 then (1 : Int32) else 0))), (1, .int ((cbtT (f 0) k19) + (bcF ((f 0).1 k19)))), (7, .int (nI k19)), (6, .int 1), (0, .ref (Ad 10 0))]) hx hb dL_holds_146 hl (by decide) rfl (fun ls hl => ?_)
          refine lv_iinc (v := (nI (k78 + 1))) (lv' := [(8, .int (nI (k78 + 1))), (4, .int ((altI (f 0) k19 (altT (f 0) k19) k78) + (if tellsS (f 0) k19 = tellsS (f 0) k78 then (1 : Int32) else 0))), (5, .int (minF (fubI (f 0).1 k19 (fubT (f 0).1 k19) k78) (bcF ((f 0).1 k19 ^^^ (f 0).1 k78)))), (9, .int (bcF ((f 0).1 k19 ^^^ (f 0).1 k78))), (3, .int ((sumI (f 0).2.1 k19) + ((f 0).2.1 k19))), (2, .int ((rightT (f 0) k19) + (if ansS (f 0) k19 = (f 0).1 k19 then (1 : Int32) else 0))), (1, .int ((cbtT (f 0) k19) + (bcF ((f 0).1 k19)))), (7, .int (nI k19)), (6, .int 1), (0, .ref (Ad 10 0))]) hx hb dL_holds_148 hl (k := 3) rfl (nI_1 _) (by decide) rfl (fun ls hl => ?_)
          refine lv_goto (tgt := 78) hx hb dL_holds_151 (by decide) ?_
          have e_7 : (altI (f 0) k19 (altT (f 0) k19) (k78 + 1)) = ((altI (f 0) k19 (altT (f 0) k19) k78) + (if tellsS (f 0) k19 = tellsS (f 0) k78 then (1 : Int32) else 0)) := rfl
          have e_8 : (fubI (f 0).1 k19 (fubT (f 0).1 k19) (k78 + 1)) = (minF (fubI (f 0).1 k19 (fubT (f 0).1 k19) k78) (bcF ((f 0).1 k19 ^^^ (f 0).1 k78))) := rfl
          exact ih78 (k78 + 1) (by omega) _ _ hWP hWD hS ls (by rw [e_7, e_8]; exact (lv_sub hl [0, 4, 5, 6, 7, 8, 2, 1, 9] rfl))
      exact loop78 k19 0 (by omega) _ _ hWP hWD hS ls (lv_sub hl [0, 1, 2, 3, 4, 5, 6, 7, 8] rfl)
  exact loop19 16 0 (by omega) _ _ hWP hWD hS ls (lv_sub hl [0, 1, 2, 3, 4, 5, 6, 7] rfl)
