-- pure facts: words, counts of bits, crossings counted twice
theorem word_inj (se : Nat → Int32) {x y : Int32} : wordF se x = wordF se y ↔ x = y := by
  unfold wordF
  split
  · exact Iff.rfl
  · constructor
    · intro h
      apply b_ext
      intro i _
      have := congrArg (fun z => bt z i) h
      simp only [b_xor] at this
      revert this
      cases bt x i <;> cases bt y i <;> cases bt 255 i <;> decide
    · intro h; rw [h]
theorem word_xor (se : Nat → Int32) (x y : Int32) : wordF se x ^^^ wordF se y = x ^^^ y := by
  unfold wordF
  split
  · rfl
  · apply b_ext
    intro i _
    simp only [b_xor]
    cases bt x i <;> cases bt y i <;> cases bt 255 i <;> decide
theorem xor_0 (x : Int32) : x ^^^ 0 = x := by
  apply b_ext
  intro i _
  rw [b_xor, b_0, Bool.xor_false]
theorem word_turn (se : Nat → Int32) (h : se 1 = 0 ∨ se 1 = 1) (x : Int32) : wordF se x = x ^^^ (if se 1 = 1 then 255 else 0) := by
  unfold wordF
  rcases h with h | h
  · rw [if_pos h, if_neg (by rw [h]; decide), xor_0]
  · rw [if_neg (by rw [h]; decide), if_pos h]
theorem word_M8 (se : Nat → Int32) {x : Int32} (h : M8 x) : M8 (wordF se x) := by
  unfold wordF
  split
  · exact h
  · exact M8_xor h M8_255
theorem M8_le {x : Int32} (h : M8 x) : (0 : Int32) ≤ x := by
  obtain ⟨n, hn, rfl⟩ := M8_n h
  exact nI_le (a := 0) (Nat.zero_le n) (by omega)
def bitsT (x : Int32) : Nat → Int32
  | 0 => 0
  | k + 1 => bitsT x k + ((x >>> (nI k &&& 31)) &&& 1)
theorem bitsT_cnt (x : Int32) : ∀ n, n ≤ 32 → bitsT x n = nI (cntB (bt x) n)
  | 0, _ => rfl
  | k + 1, h => by
    have ih := bitsT_cnt x k (by omega)
    show bitsT x k + bitF x (nI k) = _
    rw [ih, bF x (by omega), cntB]
    cases bt x k
    · exact nI_add _ 0
    · exact nI_add _ 1
theorem bits_bc {x : Int32} (h : M16 x) : bitsT x 16 = bcF x := by rw [bitsT_cnt x 16 (by decide), bc_bt h]
theorem bc_range {x : Int32} (h : M16 x) : ∃ n, n ≤ 16 ∧ bcF x = nI n := ⟨_, cntB_le _ _, bc_bt h⟩
/-- the answers as the law gathers them -/
def accT (u : SV) (t : Nat) : Nat → Int32
  | 0 => 0
  | k + 1 => accT u t k ||| (if strF (weS u) k (hopsF u.1 (gdS u) t (nI k)) < seS u 0 then 0 else ((1 : Int32) <<< (nI k &&& 31)))
theorem acc_bt (u : SV) (t : Nat) {i : Nat} (hi : i < 32) : ∀ n, n ≤ 8 → bt (accT u t n) i = (decide (i < n) && decide (¬ strF (weS u) i (hopsF u.1 (gdS u) t (nI i)) < seS u 0))
  | 0, _ => by rw [decide_eq_false (by omega : ¬ i < 0), Bool.false_and]; exact b_0 i
  | k + 1, h => by
    have ih := acc_bt u t hi k (by omega)
    rw [accT, b_or, ih]
    by_cases hk : i = k
    · subst hk
      rw [decide_eq_false (by omega : ¬ i < i), decide_eq_true (by omega : i < i + 1), Bool.false_and, Bool.false_or, Bool.true_and]
      split
      · rename_i hs
        rw [b_0, decide_eq_false (by simpa using hs)]
      · rename_i hs
        rw [b_1shl (by omega) hi, decide_eq_true rfl, decide_eq_true hs]
    · have hd : decide (i < k + 1) = decide (i < k) := by
        by_cases h : i < k
        · rw [decide_eq_true h, decide_eq_true (by omega)]
        · rw [decide_eq_false h, decide_eq_false (by omega)]
      rw [hd]
      split
      · rw [b_0, Bool.or_false]
      · rw [b_1shl (by omega) hi, decide_eq_false hk, Bool.or_false]
theorem acc_ans {u : SV} {t s : Nat} (hs0 : 1 ≤ s) (hs8 : s ≤ 8) (hse : seS u 0 = nI s) (hwe : ∀ r, r < 8 → ∃ w, w ≤ 99 ∧ weS u r = nI w) : accT u t 8 = ansS u t := b_ext fun i hi => by
  rw [acc_bt u t hi 8 (Nat.le_refl _), ans_bt hs0 hs8 hse hwe hi]
/-- the strength by hops and wear, as the law reckons it -/
def fullF (h : Int32) : Int32 := if h < 0 then 0 else if 2 < h then 0 else 8 - 3 * h
theorem full_dec : ∀ m, m < 8 → ∀ w, w < 100 → strF (fun _ => nI w) 0 (nI m) = if fullF (nI m) - nI w / 10 < 0 then 0 else fullF (nI m) - nI w / 10 := by decide +kernel
theorem full_dec1 : ∀ w, w < 100 → strF (fun _ => nI w) 0 (-1) = if fullF (-1) - nI w / 10 < 0 then 0 else fullF (-1) - nI w / 10 := by decide +kernel
theorem full_str {we : Nat → Int32} {r w : Nat} {h : Int32} (hw : we r = nI w) (h9 : w ≤ 99) (hh : h = -1 ∨ ∃ m, m < 8 ∧ h = nI m) : strF we r h = if fullF h - we r / 10 < 0 then 0 else fullF h - we r / 10 := by
  rw [str_one, hw]
  rcases hh with rfl | ⟨m, hm, rfl⟩
  · exact full_dec1 w (by omega)
  · exact full_dec m hm w (by omega)
/-- the threads of a ring -/
theorem thr_bt (rg : Nat → Int32) {r : Nat} (hr : r < 8) {i : Nat} (hi : i < 32) : ∀ n, n ≤ 16 → bt (thrT rg (nI r) n) i = (decide (i < n) && bt (rg i) r)
  | 0, _ => by rw [decide_eq_false (by omega : ¬ i < 0), Bool.false_and]; exact b_0 i
  | k + 1, h => by
    have ih := thr_bt rg hr hi k (by omega)
    rw [thrT, b_or, ih, b_shl k (by omega) _ hi, bF _ (by omega)]
    by_cases hk : i = k
    · subst hk
      rw [decide_eq_false (by omega : ¬ i < i), decide_eq_true (by omega : i < i + 1), decide_eq_true (Nat.le_refl i), Nat.sub_self, Bool.false_and, Bool.false_or, Bool.true_and, Bool.true_and]
      cases bt (rg i) r <;> decide
    · have hz : (decide (k ≤ i) && bt (if bt (rg k) r = true then (1 : Int32) else 0) (i - k)) = false := by
        rcases Nat.lt_or_ge i k with q | q
        · rw [decide_eq_false (by omega), Bool.false_and]
        · split
          · rw [(by decide +kernel : ∀ j, j < 32 → 0 < j → bt (1 : Int32) j = false) (i - k) (by omega) (by omega), Bool.and_false]
          · rw [b_0, Bool.and_false]
      rw [hz, Bool.or_false]
      congr 1
      by_cases h : i < k
      · rw [decide_eq_true h, decide_eq_true (by omega)]
      · rw [decide_eq_false h, decide_eq_false (by omega)]
theorem thr_M16 (u : SV) {r : Nat} (hr : r < 8) : M16 (thrS u (nI r)) := fun i hi => by
  rcases Nat.lt_or_ge i 32 with h | h
  · show bt (thrT u.1 (nI r) 16) i = false
    rw [thr_bt u.1 hr h 16 (Nat.le_refl _), decide_eq_false (by omega), Bool.false_and]
  · exact b_big h
theorem thr_bF (u : SV) {r t : Nat} (hr : r < 8) (ht : t < 16) : bitF (thrS u (nI r)) (nI t) = bitF (u.1 t) (nI r) := by
  rw [bF _ (by omega), bF _ (by omega)]
  show (if bt (thrT u.1 (nI r) 16) t = true then _ else _) = _
  rw [thr_bt u.1 hr (by omega) 16 (Nat.le_refl _), decide_eq_true ht, Bool.true_and]
/-- 'and not' against 255 less -/
theorem sub255_dec : ∀ n, n < 256 → (255 : Int32) - nI n = nI n ^^^ 255 := by decide +kernel
theorem and_sub {x y : Int32} (hx : M8 x) (hy : M8 y) : x &&& (y ^^^ (-1)) = x &&& (255 - y) := by
  obtain ⟨n, hn, e⟩ := M8_n hy
  rw [e, sub255_dec n hn, ← e]
  apply b_ext
  intro i hi
  rw [b_and, b_and, b_not y hi, b_xor, b_255]
  by_cases h : i < 8
  · rw [decide_eq_true h]
    cases bt x i <;> cases bt y i <;> rfl
  · rw [hx i (by omega)]
    rfl
/-- sums -/
def sumN (f : Nat → Nat) : Nat → Nat
  | 0 => 0
  | n + 1 => sumN f n + f n
theorem sumN_cong {f g : Nat → Nat} : ∀ {n : Nat}, (∀ k, k < n → f k = g k) → sumN f n = sumN g n
  | 0, _ => rfl
  | n + 1, h => by rw [sumN, sumN, sumN_cong (fun k hk => h k (Nat.lt_succ_of_lt hk)), h n (Nat.lt_succ_self n)]
theorem sumN_add (f g : Nat → Nat) : ∀ n, sumN (fun k => f k + g k) n = sumN f n + sumN g n
  | 0 => rfl
  | n + 1 => by rw [sumN, sumN, sumN, sumN_add f g n]; omega
theorem sumN_0 : ∀ n, sumN (fun _ => 0) n = 0
  | 0 => rfl
  | n + 1 => by rw [sumN, sumN_0 n]
theorem sumN_swap (g : Nat → Nat → Nat) (m : Nat) : ∀ n, sumN (fun t => sumN (fun r => g t r) m) n = sumN (fun r => sumN (fun t => g t r) n) m
  | 0 => by
    show 0 = _
    rw [show (fun r => sumN (fun t => g t r) 0) = (fun _ => 0) from rfl, sumN_0]
  | n + 1 => by
    rw [sumN, sumN_swap g m n, ← sumN_add]
    exact sumN_cong (fun k _ => rfl)
theorem cnt_sum (p : Nat → Bool) : ∀ n, cntB p n = sumN (fun i => if p i then 1 else 0) n
  | 0 => rfl
  | n + 1 => by rw [cntB, sumN, cnt_sum p n]
theorem cnt_cut (p : Nat → Bool) (m : Nat) (h : ∀ i, m ≤ i → p i = false) : ∀ k, cntB p (m + k) = cntB p m
  | 0 => rfl
  | k + 1 => by
    rw [← Nat.add_assoc, cntB, cnt_cut p m h k, h (m + k) (Nat.le_add_right m k)]
    rfl
theorem cbt_sum {u : SV} (hR : ∀ t, t < 16 → M8 (u.1 t)) : ∀ k, k ≤ 16 → cbtT u k = nI (sumN (fun t => cntB (bt (u.1 t)) 8) k)
  | 0, _ => rfl
  | k + 1, h => by
    rw [cbtT, cbt_sum hR k (by omega), bc_bt (hR k (by omega)).m16, nI_add, sumN, show (16 : Nat) = 8 + 8 from rfl, cnt_cut _ 8 (hR k (by omega))]
theorem cbr_sum (u : SV) : ∀ k, k ≤ 8 → cbrT u k = nI (sumN (fun r => cntB (fun t => bt (u.1 t) r) 16) k)
  | 0, _ => rfl
  | k + 1, h => by
    rw [cbrT, cbr_sum u k (by omega), bc_bt (thr_M16 u (by omega)), nI_add, sumN]
    congr 2
    refine cntB_cong fun t ht => ?_
    show bt (thrT u.1 (nI k) 16) t = _
    rw [thr_bt u.1 (by omega) (by omega) 16 (Nat.le_refl _), decide_eq_true ht, Bool.true_and]
/-- the crossings by threads are the crossings by rings -/
theorem crossings {u : SV} (hR : ∀ t, t < 16 → M8 (u.1 t)) : cbtT u 16 = cbrT u 8 := by
  rw [cbt_sum hR 16 (Nat.le_refl _), cbr_sum u 8 (Nat.le_refl _)]
  congr 1
  rw [sumN_cong (fun t _ => cnt_sum (bt (u.1 t)) 8), sumN_swap]
  exact sumN_cong (fun r _ => (cnt_sum (fun t => bt (u.1 t) r) 16).symm)
/-- pairs that tell the same -/
def altI (u : SV) (t : Nat) (a0 : Int32) : Nat → Int32
  | 0 => a0
  | o + 1 => altI u t a0 o + (if tellsS u t = tellsS u o then 1 else 0)
def altT (u : SV) : Nat → Int32
  | 0 => 0
  | t + 1 => altI u t (altT u t) t
theorem wt_at (u : SV) (w : Nat → Int32) : ∀ t o, o < t → wtT u w t o = tellsS u o
  | 0, o, h => by omega
  | t + 1, o, h => by
    rw [wtT]
    by_cases ho : o = t
    · subst ho; exact pk_us
    · rw [pk_un ho, wt_at u w t o (by omega)]
theorem pt_alt (u : SV) (w : Nat → Int32) : ∀ t, ptT u w t = altT u t
  | 0 => rfl
  | t + 1 => by
    rw [ptT, altT, pt_alt u w t]
    have key : ∀ o, o ≤ t → ptI (upd (wtT u w t) t (tellsS u t)) t (altT u t) o = altI u t (altT u t) o := by
      intro o
      induction o with
      | zero => intro _; rfl
      | succ o ih =>
        intro h
        rw [ptI, altI, ih (by omega), pk_un (by omega : o ≠ t), pk_us, wt_at u w t o (by omega)]
        by_cases e : tellsS u t = tellsS u o
        · rw [if_pos e, if_pos e.symm]
        · rw [if_neg e, if_neg (fun q => e q.symm)]
          exact (Int32.add_zero _).symm
    exact key t (Nat.le_refl t)
theorem count_w (u : SV) (z1 z2 : Nat) (w1 w2 : Nat → Int32) (k : Nat) (h : k < 9) : countS u z1 w1 k = countS u z2 w2 k := by
  match k, h with
  | 0, _ => rfl
  | 1, _ => rfl
  | 2, _ => rfl
  | 3, _ => rfl
  | 4, _ => rfl
  | 5, _ => rfl
  | 6, _ => rfl
  | 7, _ => show ptT u w1 16 = ptT u w2 16; rw [pt_alt, pt_alt]
  | 8, _ => rfl
theorem right_range (u : SV) : ∀ k, ∃ n, n ≤ k ∧ rightT u k = nI n
  | 0 => ⟨0, Nat.le_refl _, rfl⟩
  | k + 1 => by
    obtain ⟨n, hn, e⟩ := right_range u k
    rw [rightT, e]
    split
    · exact ⟨n + 1, by omega, nI_1 n⟩
    · exact ⟨n, by omega, rfl⟩
theorem right_all {u : SV} : ∀ k, (∀ t, t < k → ansS u t = u.1 t) → rightT u k = nI k
  | 0, _ => rfl
  | k + 1, h => by rw [rightT, if_pos (h k (by omega)), right_all k (fun t ht => h t (by omega)), nI_1]
/-- where setting 0 is 6 and no ring is worn by 30, every thread is right -/
theorem new_dec0 : ∀ w, w < 30 → ¬ strF (fun _ => nI w) 0 (nI 0) < nI 6 := by decide +kernel
theorem new_dec1 : ∀ m, m < 8 → 0 < m → ∀ w, w < 30 → strF (fun _ => nI w) 0 (nI m) < nI 6 := by decide +kernel
theorem new_right {u : SV} (hR : ∀ t, t < 16 → M8 (u.1 t)) (hse : seS u 0 = nI 6) (hwe : ∀ r, r < 8 → ∃ w, w < 30 ∧ weS u r = nI w) {t : Nat} (ht : t < 16) : ansS u t = u.1 t := by
  have hwe9 : ∀ r, r < 8 → ∃ w, w ≤ 99 ∧ weS u r = nI w := fun r hr => (hwe r hr).elim fun w h => ⟨w, by omega, h.2⟩
  refine M8_ext (ans_M8 (s := 6) (by decide) (by decide) hse hwe9) (hR t ht) fun i hi => ?_
  rw [ans_bt (s := 6) (by decide) (by decide) hse hwe9 (by omega), decide_eq_true hi, Bool.true_and, hse]
  obtain ⟨w, hw, e⟩ := hwe i hi
  rcases hops_spec u.1 (gdS u) t hi with ⟨m, hm, hh, hb, hlt⟩ | ⟨hh, hlt⟩
  · rw [hh, str_one, e]
    rcases Nat.eq_zero_or_pos m with h0 | h0
    · subst h0
      rw [decide_eq_true (new_dec0 w hw)]
      exact hb.symm
    · rw [decide_eq_false (by simpa using new_dec1 m hm h0 w hw)]
      exact (hlt 0 h0).symm
  · rw [hh, str_none, decide_eq_false (by decide)]
    exact (hlt 0 (by decide)).symm
/-- where setting 0 is 6 or more, no other ring answers -/
theorem far_dec : ∀ m, m < 8 → 0 < m → ∀ w, w < 100 → strF (fun _ => nI w) 0 (nI m) < nI 6 := by decide +kernel
theorem none_more {u : SV} {t s : Nat} (h6 : 6 ≤ s) (hs8 : s ≤ 8) (hse : seS u 0 = nI s) (hwe : ∀ r, r < 8 → ∃ w, w ≤ 99 ∧ weS u r = nI w) : ansS u t &&& (u.1 t ^^^ (-1)) = 0 := b_ext fun i hi => by
  rw [b_and, b_not _ hi, b_0, ans_bt (by omega) hs8 hse hwe hi]
  by_cases h8 : i < 8
  · rw [decide_eq_true h8, Bool.true_and]
    rcases hops_spec u.1 (gdS u) t h8 with ⟨m, hm, hh, hb, hlt⟩ | ⟨hh, hlt⟩
    · rcases Nat.eq_zero_or_pos m with h0 | h0
      · subst h0
        rw [show bt (u.1 t) i = true from hb]
        simp
      · obtain ⟨w, hw, e⟩ := hwe i h8
        have h1 := far_dec m hm h0 w (by omega)
        rw [hh, str_one, e, hse, decide_eq_false, Bool.false_and]
        intro h2
        exact h2 (Std.lt_of_lt_of_le h1 (nI_le h6 (by omega)))
    · rw [hh, str_none, hse, decide_eq_false, Bool.false_and]
      intro h2
      exact h2 (nI_lt (a := 0) (by omega) (by omega))
  · rw [decide_eq_false h8]
    rfl
