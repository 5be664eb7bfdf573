-- pure facts: strengths, hops and what answers
abbrev seS (u : SV) : Nat → Int32 := u.2.2.2.1
abbrev weS (u : SV) : Nat → Int32 := u.2.2.1
abbrev gdS (u : SV) : Int32 := u.2.2.2.2.1
theorem one_succ (rg : Nat → Int32) (gd rd x : Int32) (k : Nat) : oneT rg gd rd x (k + 1) = if (rg k &&& oneT rg gd rd x 0) = 0 then oneT rg gd rd x k else if nI k = rd then oneT rg gd rd x k else if bitF gd (nI k) = 0 then oneT rg gd rd x k ||| rg k else oneT rg gd rd x k := rfl
theorem one_mono (rg : Nat → Int32) (gd rd x : Int32) {i : Nat} (h : bt x i = true) : ∀ n, bt (oneT rg gd rd x n) i = true
  | 0 => h
  | k + 1 => by
    have ih := one_mono rg gd rd x h k
    rw [one_succ]
    split
    · exact ih
    · split
      · exact ih
      · split
        · rw [b_or, ih]; rfl
        · exact ih
theorem one_M8 {rg : Nat → Int32} {gd rd x : Int32} (hx : M8 x) : ∀ n, (∀ k, k < n → M8 (rg k)) → M8 (oneT rg gd rd x n)
  | 0, _ => hx
  | k + 1, h => by
    have ih := one_M8 (gd := gd) (rd := rd) hx k (fun j hj => h j (by omega))
    rw [one_succ]
    split
    · exact ih
    · split
      · exact ih
      · split
        · exact M8_or ih (h k (by omega))
        · exact ih
theorem one_gd (rg : Nat → Int32) (g1 g2 x : Int32) (t : Nat) : ∀ n, n ≤ 16 → (∀ k, k < n → k ≠ t → bitF g1 (nI k) = bitF g2 (nI k)) → oneT rg g1 (nI t) x n = oneT rg g2 (nI t) x n
  | 0, _, _ => rfl
  | k + 1, hn, h => by
    have ih := one_gd rg g1 g2 x t k (by omega) (fun j hj => h j (by omega))
    rw [one_succ, one_succ, ih]
    by_cases hk : k = t
    · subst hk
      rw [if_pos rfl, if_pos rfl]
      rfl
    · rw [h k (by omega) hk]
      rfl
theorem reach_mono (rg : Nat → Int32) (gd : Int32) (t k : Nat) {i : Nat} (h : bt (reachF rg gd t k) i = true) : bt (reachF rg gd t (k + 1)) i = true := one_mono rg gd (nI t) _ h 16
theorem hopsG_spec (rg : Nat → Int32) (gd : Int32) (t : Nat) (ring : Int32) : ∀ n k, (∃ m, k ≤ m ∧ m < k + n ∧ hopsG rg gd t ring n k = nI m ∧ bitF (reachF rg gd t m) ring = 1 ∧ ∀ j, k ≤ j → j < m → bitF (reachF rg gd t j) ring ≠ 1) ∨ (hopsG rg gd t ring n k = -1 ∧ ∀ j, k ≤ j → j < k + n → bitF (reachF rg gd t j) ring ≠ 1)
  | 0, k => Or.inr ⟨rfl, fun j h1 h2 => by omega⟩
  | n + 1, k => by
    have e : hopsG rg gd t ring (n + 1) k = if bitF (reachF rg gd t k) ring = 1 then nI k else hopsG rg gd t ring n (k + 1) := rfl
    by_cases h : bitF (reachF rg gd t k) ring = 1
    · exact Or.inl ⟨k, Nat.le_refl k, by omega, by rw [e, if_pos h], h, fun j h1 h2 => by omega⟩
    · rw [e, if_neg h]
      rcases hopsG_spec rg gd t ring n (k + 1) with ⟨m, a1, a2, a3, a4, a5⟩ | ⟨a1, a2⟩
      · refine Or.inl ⟨m, by omega, by omega, a3, a4, fun j h1 h2 => ?_⟩
        by_cases hj : j = k
        · subst hj; exact h
        · exact a5 j (by omega) h2
      · refine Or.inr ⟨a1, fun j h1 h2 => ?_⟩
        by_cases hj : j = k
        · subst hj; exact h
        · exact a2 j (by omega) (by omega)
/-- the hops, by the levels: which level has the ring first -/
theorem hops_spec (rg : Nat → Int32) (gd : Int32) (t : Nat) {r : Nat} (hr : r < 8) : (∃ m, m < 8 ∧ hopsF rg gd t (nI r) = nI m ∧ bt (reachF rg gd t m) r = true ∧ ∀ j, j < m → bt (reachF rg gd t j) r = false) ∨ (hopsF rg gd t (nI r) = -1 ∧ ∀ j, j < 8 → bt (reachF rg gd t j) r = false) := by
  have hn : ∀ x : Int32, bitF x (nI r) ≠ 1 → bt x r = false := fun x h => by
    cases hb : bt x r with
    | false => rfl
    | true => exact absurd ((bF1 x (by omega)).mpr hb) h
  rcases hopsG_spec rg gd t (nI r) 8 0 with ⟨m, a1, a2, a3, a4, a5⟩ | ⟨a1, a2⟩
  · exact Or.inl ⟨m, by omega, a3, (bF1 _ (by omega)).mp a4, fun j hj => hn _ (a5 j (Nat.zero_le j) hj)⟩
  · exact Or.inr ⟨a1, fun j hj => hn _ (a2 j (Nat.zero_le j) (by omega))⟩
theorem str_one (we : Nat → Int32) (r : Nat) (h : Int32) : strF we r h = strF (fun _ => we r) 0 h := rfl
theorem str_far_dec : ∀ m, m < 8 → 3 ≤ m → ∀ w, w < 100 → strF (fun _ => nI w) 0 (nI m) = 0 := by decide +kernel
theorem str_far {we : Nat → Int32} {r w m : Nat} (hw : we r = nI w) (h9 : w ≤ 99) (h3 : 3 ≤ m) (h8 : m < 8) : strF we r (nI m) = 0 := by
  rw [str_one, hw]
  exact str_far_dec m h8 h3 w (by omega)
theorem str_none (we : Nat → Int32) (r : Nat) : strF we r (-1) = 0 := rfl
theorem ansI_bt (we se : Nat → Int32) (come hops a0 : Int32) {i : Nat} (hi : i < 32) : ∀ n, n ≤ 8 → bt (ansI we se come hops a0 n) i = (bt a0 i || (decide (i < n) && bt come i && decide (¬ strF we i hops < se 0)))
  | 0, _ => by rw [decide_eq_false (by omega : ¬ i < 0), Bool.false_and, Bool.false_and, Bool.or_false]; rfl
  | r + 1, hn => by
    have ih := ansI_bt we se come hops a0 hi r (by omega)
    have e : ansI we se come hops a0 (r + 1) = if bitF come (nI r) = 1 then (if strF we r hops < se 0 then ansI we se come hops a0 r else ansI we se come hops a0 r ||| ((1 : Int32) <<< (nI r &&& 31))) else ansI we se come hops a0 r := rfl
    rw [e]
    by_cases hir : i = r
    · subst hir
      rw [decide_eq_false (by omega : ¬ i < i), Bool.false_and, Bool.false_and, Bool.or_false] at ih
      rw [decide_eq_true (by omega : i < i + 1), Bool.true_and]
      by_cases hc : bitF come (nI i) = 1
      · rw [if_pos hc, (bF1 come hi).mp hc, Bool.true_and]
        by_cases hs : strF we i hops < se 0
        · rw [if_pos hs, ih, decide_eq_false (by simpa using hs), Bool.or_false]
        · rw [if_neg hs, b_or, ih, b_1shl (by omega) hi, decide_eq_true rfl, decide_eq_true hs]
      · have hf : bt come i = false := by
          cases hb : bt come i with
          | false => rfl
          | true => exact absurd ((bF1 come hi).mpr hb) hc
        rw [if_neg hc, ih, hf, Bool.false_and, Bool.or_false]
    · have hd : decide (i < r + 1) = decide (i < r) := by
        by_cases h : i < r
        · rw [decide_eq_true h, decide_eq_true (by omega)]
        · rw [decide_eq_false h, decide_eq_false (by omega)]
      rw [hd, ← ih]
      split
      · split
        · rfl
        · rw [b_or, b_1shl (by omega) hi, decide_eq_false hir, Bool.or_false]
      · rfl
/-- which rings answer: those whose strength is at least setting 0 -/
theorem ans_bt {u : SV} {t s : Nat} (hs0 : 1 ≤ s) (hs8 : s ≤ 8) (hse : seS u 0 = nI s) (hwe : ∀ r, r < 8 → ∃ w, w ≤ 99 ∧ weS u r = nI w) {i : Nat} (hi : i < 32) :
    bt (ansS u t) i = (decide (i < 8) && decide (¬ strF (weS u) i (hopsF u.1 (gdS u) t (nI i)) < seS u 0)) := by
  unfold ansS ansF
  rw [ansI_bt _ _ _ _ _ hi 8 (by decide), ansI_bt _ _ _ _ _ hi 8 (by decide), ansI_bt _ _ _ _ _ hi 8 (by decide), b_0, Bool.false_or]
  by_cases h8 : i < 8
  · rw [decide_eq_true h8]
    simp only [Bool.true_and]
    rw [b_and, b_and, b_and, b_not _ hi, b_not _ hi, b_not _ hi, b_0]
    have e0 : u.1 t = reachF u.1 (gdS u) t 0 := rfl
    have e1 : oneT u.1 (gdS u) (nI t) (u.1 t) 16 = reachF u.1 (gdS u) t 1 := rfl
    have e2 : oneT u.1 (gdS u) (nI t) (oneT u.1 (gdS u) (nI t) (u.1 t) 16) 16 = reachF u.1 (gdS u) t 2 := rfl
    rw [e2, e1, e0]
    have m01 := reach_mono u.1 (gdS u) t 0 (i := i)
    have m12 := reach_mono u.1 (gdS u) t 1 (i := i)
    have hz : (0 : Int32) < seS u 0 := by rw [hse]; exact nI_lt (a := 0) (by omega) (by omega)
    rcases hops_spec u.1 (gdS u) t h8 with ⟨m, hm, hh, hb, hlt⟩ | ⟨hh, hlt⟩
    · rw [hh]
      rcases (show m = 0 ∨ m = 1 ∨ m = 2 ∨ 3 ≤ m by omega) with rfl | rfl | rfl | h3
      · have h1 := m01 hb
        rw [hb, h1]
        simp [nI_0]
      · have h0 := hlt 0 (by omega)
        have h2 := m12 hb
        rw [h0, hb, h2]
        simp
        rfl
      · have h0 := hlt 0 (by omega)
        have h1 := hlt 1 (by omega)
        rw [h0, h1, hb]
        simp
        rfl
      · rw [hlt 0 (by omega), hlt 1 (by omega), hlt 2 (by omega)]
        obtain ⟨w, hw, he⟩ := hwe i h8
        rw [str_far he hw h3 hm]
        simp [hz]
    · rw [hh, hlt 0 (by omega), hlt 1 (by omega), hlt 2 (by omega), str_none]
      simp [hz]
  · rw [decide_eq_false h8]
    simp
theorem ans_M8 {u : SV} {t s : Nat} (hs0 : 1 ≤ s) (hs8 : s ≤ 8) (hse : seS u 0 = nI s) (hwe : ∀ r, r < 8 → ∃ w, w ≤ 99 ∧ weS u r = nI w) : M8 (ansS u t) := fun i hi => by
  rcases Nat.lt_or_ge i 32 with h | h
  · rw [ans_bt hs0 hs8 hse hwe h, decide_eq_false (by omega), Bool.false_and]
  · exact b_big h
/-- a guard on a thread doesn't change what it tells -/
theorem ans_gd (u : SV) (t : Nat) (g : Int32) (h : ∀ k, k < 16 → k ≠ t → bitF g (nI k) = bitF (gdS u) (nI k)) : ansS (setGd u g) t = ansS u t := by
  have e : ∀ x, oneT u.1 g (nI t) x 16 = oneT u.1 (gdS u) (nI t) x 16 := fun x => one_gd u.1 g (gdS u) x t 16 (Nat.le_refl _) h
  show ansF u.1 (weS u) (seS u) g t = ansF u.1 (weS u) (seS u) (gdS u) t
  unfold ansF
  rw [e, e]
theorem hops0 (rg : Nat → Int32) (gd : Int32) (t : Nat) {r : Nat} (hr : r < 8) : hopsF rg gd t (nI r) = 0 ↔ bt (rg t) r = true := by
  rcases hops_spec rg gd t hr with ⟨m, hm, hh, hb, hlt⟩ | ⟨hh, hlt⟩
  · rw [hh]
    constructor
    · intro h
      have : m = 0 := (nI_eq (by omega) (by omega)).mp (h.trans nI_0.symm)
      subst this
      exact hb
    · intro h
      rcases Nat.eq_zero_or_pos m with h0 | h0
      · rw [h0]; rfl
      · have := hlt 0 h0
        rw [show reachF rg gd t 0 = rg t from rfl, h] at this
        cases this
  · rw [hh]
    constructor
    · intro h; exact absurd h (by decide)
    · intro h
      have := hlt 0 (by decide)
      rw [show reachF rg gd t 0 = rg t from rfl, h] at this
      cases this
theorem hops_range (rg : Nat → Int32) (gd : Int32) (t : Nat) {r : Nat} (hr : r < 8) : hopsF rg gd t (nI r) = -1 ∨ ∃ m, m < 8 ∧ hopsF rg gd t (nI r) = nI m := by
  rcases hops_spec rg gd t hr with ⟨m, hm, hh, _, _⟩ | ⟨hh, _⟩
  · exact Or.inr ⟨m, hm, hh⟩
  · exact Or.inl hh
