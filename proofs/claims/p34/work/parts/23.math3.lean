-- pure facts: what holds of every state that the law comes to, and that the calls keep it
def sumI (f : Nat → Int32) : Nat → Int32
  | 0 => 0
  | n + 1 => sumI f n + f n
theorem sumI_cong {f g : Nat → Int32} : ∀ {n : Nat}, (∀ k, k < n → f k = g k) → sumI f n = sumI g n
  | 0, _ => rfl
  | n + 1, h => by rw [sumI, sumI, sumI_cong (fun k hk => h k (Nat.lt_succ_of_lt hk)), h n (Nat.lt_succ_self n)]
theorem sumI_upd (f : Nat → Int32) {t : Nat} : ∀ {n : Nat}, t < n → sumI (upd f t (f t + 1)) n = sumI f n + 1
  | 0, h => by omega
  | n + 1, h => by
    rw [sumI, sumI]
    by_cases ht : t = n
    · subst ht
      rw [pk_us, sumI_cong (g := f) (fun k hk => pk_un (by omega)), Int32.add_assoc]
    · rw [pk_un (fun q => ht q.symm), sumI_upd f (by omega), Int32.add_assoc, Int32.add_assoc, Int32.add_comm 1]
/-- the machine -/
def MGd (B : Nat) (v : MV) : Prop := ∃ m l : Nat, v.2.2.2.2.2.1 = nI m ∧ v.2.2.2.2.2.2 = nI l ∧ l ≤ m ∧ m ≤ B ∧ (∀ j, j < 8 → (l ≤ j ∧ v.2.1 j = -1) ∨ (j < l ∧ ∃ c, c < 256 ∧ v.2.1 j = nI c)) ∧ (∀ j, j < 4 → ∃ c, c < 256 ∧ v.1 j = nI c) ∧ (∃ c, c < 256 ∧ v.2.2.2.1 = nI c) ∧ (∃ p, p < 16 ∧ v.2.2.1 = nI p) ∧ (v.2.2.2.2.1 = 0 ∨ v.2.2.2.2.1 = 1)
theorem MGd.mono {B C : Nat} {v : MV} (hB : B ≤ C) (h : MGd B v) : MGd C v := by
  obtain ⟨m, l, h1, h2, h3, h4, h5⟩ := h
  exact ⟨m, l, h1, h2, h3, by omega, h5⟩
theorem MGd_begin (B : Nat) : MGd B beginM := ⟨0, 0, rfl, rfl, Nat.le_refl _, Nat.zero_le _, fun j _ => Or.inl ⟨Nat.zero_le j, rfl⟩, fun j _ => ⟨0, by decide, rfl⟩, ⟨0, by decide, rfl⟩, ⟨0, by decide, rfl⟩, Or.inr rfl⟩
theorem rem256 {a : Nat} (h : a < 2 ^ 31) : ∃ c, c < 256 ∧ remF (nI a) 256 = nI c := ⟨a % 256, Nat.mod_lt _ (by decide), pk_rem (d := 256) h (by decide) (by decide)⟩
theorem shift_at (la : Nat → Int32) (ct : Int32) : ∀ j, j < 7 → shiftLa la ct (j + 1) = la j := by
  intro j hj
  rcases (show j = 0 ∨ j = 1 ∨ j = 2 ∨ j = 3 ∨ j = 4 ∨ j = 5 ∨ j = 6 by omega) with rfl | rfl | rfl | rfl | rfl | rfl | rfl <;> simp [shiftLa, upd]
theorem shift_0 (la : Nat → Int32) (ct : Int32) : shiftLa la ct 0 = ct := by simp [shiftLa, upd]
theorem MGd_obey {B : Nat} {v : MV} (h : MGd B v) (p w : Nat) : MGd (B + 1) (obeyS v p w) := by
  obtain ⟨m, l, h1, h2, h3, h4, h5, h6, ⟨c, hc, ec⟩, h8, h9⟩ := h
  have hp : ∃ q, q < 16 ∧ nI ((p + 1) % 16) = nI q := ⟨_, Nat.mod_lt _ (by decide), rfl⟩
  have hw : ∃ q, q < 16 ∧ nI (w % 32 % 16) = nI q := ⟨_, Nat.mod_lt _ (by decide), rfl⟩
  have hm : v.2.2.2.2.2.1 + 1 = nI (m + 1) := by rw [h1, nI_1]
  unfold obeyS
  split
  · exact ⟨m + 1, l, hm, h2, by omega, by omega, h5, h6, ⟨c, hc, ec⟩, hp, Or.inl rfl⟩
  split
  · exact ⟨m + 1, l, hm, h2, by omega, by omega, h5, h6, ⟨w % 32, by omega, rfl⟩, hp, h9⟩
  split
  · obtain ⟨d, hd, ed⟩ := h6 (w % 32 % 4) (Nat.mod_lt _ (by decide))
    refine ⟨m + 1, l, hm, h2, by omega, by omega, h5, h6, ?_, hp, h9⟩
    show ∃ c, c < 256 ∧ remF (v.2.2.2.1 + v.1 (w % 32 % 4)) 256 = nI c
    rw [ec, ed, nI_add]
    exact rem256 (by omega)
  split
  · refine ⟨m + 1, l, hm, h2, by omega, by omega, h5, fun j hj => ?_, ⟨c, hc, ec⟩, hp, h9⟩
    show ∃ c, c < 256 ∧ upd v.1 (w % 32 % 4) v.2.2.2.1 j = nI c
    by_cases e : j = w % 32 % 4
    · subst e; rw [pk_us]; exact ⟨c, hc, ec⟩
    · rw [pk_un e]; exact h6 j hj
  split
  · exact ⟨m + 1, l, hm, h2, by omega, by omega, h5, h6, ⟨c, hc, ec⟩, hw, h9⟩
  split
  · refine ⟨m + 1, l, hm, h2, by omega, by omega, h5, h6, ⟨c, hc, ec⟩, ?_, h9⟩
    show ∃ q, q < 16 ∧ (if v.2.2.2.1 = 0 then nI (w % 32 % 16) else nI ((p + 1) % 16)) = nI q
    split
    · exact hw
    · exact hp
  split
  · refine ⟨m + 1, l, hm, h2, by omega, by omega, h5, h6, ?_, hp, h9⟩
    show ∃ c, c < 256 ∧ remF ((v.2.2.2.1 + nI 256) - nI (w % 32)) 256 = nI c
    rw [ec, nI_add, pk_sub (by omega)]
    exact rem256 (by omega)
  · refine ⟨m + 1, l + 1, hm, ?_, by omega, by omega, fun j hj => ?_, h6, ⟨c, hc, ec⟩, hp, h9⟩
    · show v.2.2.2.2.2.2 + 1 = _
      rw [h2, nI_1]
    · show (l + 1 ≤ j ∧ shiftLa v.2.1 v.2.2.2.1 j = -1) ∨ (j < l + 1 ∧ ∃ c, c < 256 ∧ shiftLa v.2.1 v.2.2.2.1 j = nI c)
      rcases Nat.eq_zero_or_pos j with h0 | h0
      · subst h0
        rw [shift_0]
        exact Or.inr ⟨by omega, c, hc, ec⟩
      · obtain ⟨i, rfl⟩ : ∃ i, j = i + 1 := ⟨j - 1, by omega⟩
        rw [shift_at _ _ i (by omega)]
        rcases h5 i (by omega) with ⟨a1, a2⟩ | ⟨a1, a2⟩
        · exact Or.inl ⟨by omega, a2⟩
        · exact Or.inr ⟨by omega, a2⟩
/-- a state that the law comes to -/
def GD (K : Nat) (u : SV) : Prop := (∀ t, t < 16 → M8 (u.1 t)) ∧ (∀ r, r < 8 → ∃ w, w ≤ 99 ∧ weS u r = nI w) ∧ (∃ s, 1 ≤ s ∧ s ≤ 8 ∧ seS u 0 = nI s) ∧ (seS u 1 = 0 ∨ seS u 1 = 1) ∧ M16 (gdS u) ∧ u.2.2.2.2.2.2.1 = sumI u.2.1 16 ∧ ∃ n, u.2.2.2.2.2.2.1 = nI n ∧ n ≤ K ∧ MGd n (mcS u)
theorem GD.mono {K L : Nat} {u : SV} (hK : K ≤ L) (h : GD K u) : GD L u := by
  obtain ⟨h1, h2, h3, h4, h5, h6, n, h7, h8, h9⟩ := h
  exact ⟨h1, h2, h3, h4, h5, h6, n, h7, by omega, h9⟩
theorem GD.R {K : Nat} {u : SV} (h : GD K u) : ∀ t, t < 16 → M8 (u.1 t) := h.1
theorem GD.we {K : Nat} {u : SV} (h : GD K u) : ∀ r, r < 8 → ∃ w, w ≤ 99 ∧ weS u r = nI w := h.2.1
theorem GD.ru {K : Nat} {u : SV} (h : GD K u) : u.2.2.2.2.2.2.2.2.2.2.2.1 = 0 ∨ u.2.2.2.2.2.2.2.2.2.2.2.1 = 1 := by
  obtain ⟨n, _, _, m, l, _, _, _, _, _, _, _, _, h⟩ := h.2.2.2.2.2.2
  exact h
theorem GD.pl {K : Nat} {u : SV} (h : GD K u) : PlOk u := by
  obtain ⟨n, _, _, m, l, _, _, _, _, _, _, _, ⟨p, hp, ep⟩, _⟩ := h.2.2.2.2.2.2
  exact PlOk_of hp ep
theorem GD_init : GD 0 initS := by
  refine ⟨fun t _ => M8_0, fun r _ => ⟨0, by decide, rfl⟩, ⟨6, by decide, by decide, rfl⟩, Or.inl rfl, fun i _ => b_0 i, ?_, 0, rfl, Nat.le_refl _, ?_⟩
  · decide +kernel
  · exact ⟨0, 0, rfl, rfl, Nat.le_refl _, Nat.le_refl _, fun j _ => Or.inl ⟨Nat.zero_le j, rfl⟩, fun j _ => ⟨0, by decide, rfl⟩, ⟨0, by decide, rfl⟩, ⟨0, by decide, rfl⟩, Or.inr rfl⟩
/-- wear -/
theorem wear_at (we : Nat → Int32) (mask more : Int32) {r : Nat} (hr : r < 8) : ∀ n, n ≤ 8 → wearT we mask more n r = if r < n ∧ bt mask r = true then minF (we r + more) 99 else we r
  | 0, _ => by rw [if_neg (by omega)]; rfl
  | k + 1, h => by
    have ih := wear_at we mask more hr k (by omega)
    have hk : k < 32 := by omega
    have e : wearT we mask more (k + 1) = if bitF mask (nI k) = 1 then upd (wearT we mask more k) k (minF (wearT we mask more k k + more) 99) else wearT we mask more k := rfl
    rw [e]
    by_cases hb : bt mask k = true
    · rw [if_pos ((bF1 mask hk).mpr hb)]
      by_cases hrk : r = k
      · subst hrk
        rw [pk_us, ih, if_neg (by omega), if_pos ⟨by omega, hb⟩]
      · rw [pk_un hrk, ih]
        by_cases q : r < k ∧ bt mask r = true
        · rw [if_pos q, if_pos ⟨by omega, q.2⟩]
        · rw [if_neg q, if_neg (fun z => q ⟨by omega, z.2⟩)]
    · rw [if_neg (fun z => hb ((bF1 mask hk).mp z)), ih]
      by_cases q : r < k ∧ bt mask r = true
      · rw [if_pos q, if_pos ⟨by omega, q.2⟩]
      · rw [if_neg q, if_neg (fun z => ?_)]
        by_cases hrk : r = k
        · subst hrk; exact hb z.2
        · exact q ⟨by omega, z.2⟩
theorem min99 {w k : Nat} (h : w ≤ 99) (hk : k < 1000) : minF (nI w + nI k) 99 = nI (if w + k ≤ 99 then w + k else 99) := by
  rw [nI_add]
  unfold minF
  by_cases q : w + k ≤ 99
  · rw [if_pos q, if_neg (show ¬ (99 : Int32) < nI (w + k) from nI_nlt (a := 99) (b := w + k) q (by decide))]
  · rw [if_neg q, if_pos (show (99 : Int32) < nI (w + k) from nI_lt (a := 99) (by omega) (by omega))]
    rfl
theorem wear_ok {we : Nat → Int32} (h : ∀ r, r < 8 → ∃ w, w ≤ 99 ∧ we r = nI w) (mask : Int32) {k : Nat} (hk : k < 1000) : ∀ r, r < 8 → ∃ w, w ≤ 99 ∧ wearT we mask (nI k) 8 r = nI w := fun r hr => by
  obtain ⟨w, hw, e⟩ := h r hr
  rw [wear_at we mask (nI k) hr 8 (Nat.le_refl _), e]
  split
  · rw [min99 hw hk]
    split <;> exact ⟨_, by omega, rfl⟩
  · exact ⟨w, hw, rfl⟩
theorem M8_upd {f : Nat → Int32} (h : ∀ t, t < 16 → M8 (f t)) {x : Int32} (hx : M8 x) (j : Nat) : ∀ t, t < 16 → M8 (upd f j x t) := fun t ht => by
  by_cases e : t = j
  · subst e; rw [pk_us]; exact hx
  · rw [pk_un e]; exact h t ht
theorem GD_lay {K : Nat} {u : SV} (h : GD K u) (t : Nat) {mask : Int32} (hm : M8 mask) : GD K (layS u t mask) := by
  obtain ⟨h1, h2, h3, h4, h5, h6, h7⟩ := h
  exact ⟨M8_upd h1 hm t, wear_ok h2 _ (k := 2) (by decide), h3, h4, h5, h6, h7⟩
theorem GD_gd {K : Nat} {u : SV} (h : GD K u) {g : Int32} (hg : M16 g) : GD K (setGd u g) := by
  obtain ⟨h1, h2, h3, h4, h5, h6, h7⟩ := h
  exact ⟨h1, h2, h3, h4, hg, h6, h7⟩
theorem renew_at (rg : Nat → Int32) (ring : Int32) {t : Nat} (ht : t < 16) (h : ∀ t, t < 16 → M8 (rg t)) : ∀ n, n ≤ 16 → M8 (renewT rg ring n t)
  | 0, _ => h t ht
  | k + 1, hn => by
    have ih := renew_at rg ring ht h k (by omega)
    rw [renewT]
    by_cases e : t = k
    · subst e; rw [pk_us]; exact M8_and ih _
    · rw [pk_un e]; exact ih
theorem GD_renew {K : Nat} {u : SV} (h : GD K u) (r : Nat) : GD K (renewS u r) := by
  obtain ⟨h1, h2, h3, h4, h5, h6, h7⟩ := h
  refine ⟨fun t ht => renew_at u.1 (nI r) ht h1 16 (Nat.le_refl _), fun j hj => ?_, h3, h4, h5, h6, h7⟩
  show ∃ w, w ≤ 99 ∧ upd (weS u) r 0 j = nI w
  by_cases e : j = r
  · subst e; rw [pk_us]; exact ⟨0, by decide, rfl⟩
  · rw [pk_un e]; exact h2 j hj
theorem GD_set0 {K : Nat} {u : SV} (h : GD K u) {v : Nat} (h1 : 1 ≤ v) (h8 : v ≤ 8) : GD K (u.1, u.2.1, u.2.2.1, upd u.2.2.2.1 0 (nI v), u.2.2.2.2) := by
  obtain ⟨a1, a2, a3, a4, a5, a6, a7⟩ := h
  exact ⟨a1, a2, ⟨v, h1, h8, (pk_us : upd (seS u) 0 (nI v) 0 = nI v)⟩, by show upd (seS u) 0 (nI v) 1 = 0 ∨ _ = 1; rw [pk_un (by decide)]; exact a4, a5, a6, a7⟩
theorem GD_set1 {K : Nat} {u : SV} (h : GD K u) {v : Nat} (h1 : v ≤ 1) : GD K (u.1, u.2.1, u.2.2.1, upd u.2.2.2.1 1 (nI v), u.2.2.2.2) := by
  obtain ⟨a1, a2, a3, a4, a5, a6, a7⟩ := h
  refine ⟨a1, a2, by obtain ⟨s, q⟩ := a3; exact ⟨s, q.1, q.2.1, by show upd (seS u) 1 (nI v) 0 = _; rw [pk_un (by decide)]; exact q.2.2⟩, ?_, a5, a6, a7⟩
  show upd (seS u) 1 (nI v) 1 = 0 ∨ upd (seS u) 1 (nI v) 1 = 1
  rw [pk_us]
  rcases (show v = 0 ∨ v = 1 by omega) with rfl | rfl
  · exact Or.inl rfl
  · exact Or.inr rfl
theorem GD_read {K : Nat} {u : SV} (h : GD K u) {t : Nat} (ht : t < 16) : GD (K + 1) (readS u t) := by
  obtain ⟨h1, h2, h3, h4, h5, h6, n, h7, h8, h9⟩ := h
  refine ⟨h1, wear_ok h2 _ (k := 1) (by decide), h3, h4, h5, ?_, n + 1, ?_, by omega, h9.mono (Nat.le_succ n)⟩
  · show u.2.2.2.2.2.2.1 + 1 = sumI (upd u.2.1 t (u.2.1 t + 1)) 16
    rw [sumI_upd u.2.1 ht, h6]
  · show u.2.2.2.2.2.2.1 + 1 = _
    rw [h7, nI_1]
theorem GD_begin {K : Nat} {u : SV} (h : GD K u) : GD K (setMc u beginM) := by
  obtain ⟨h1, h2, h3, h4, h5, h6, n, h7, h8, h9⟩ := h
  exact ⟨h1, h2, h3, h4, h5, h6, n, h7, h8, MGd_begin n⟩
theorem GD_step {K : Nat} {u : SV} (h : GD K u) : GD (K + 1) (stepS u) := by
  have hp := h.pl.2
  obtain ⟨h1, h2, h3, h4, h5, h6, n, h7, h8, h9⟩ := h
  have hr := GD_read (K := K) ⟨h1, h2, h3, h4, h5, h6, n, h7, h8, h9⟩ hp
  obtain ⟨a1, a2, a3, a4, a5, a6, _⟩ := hr
  refine ⟨a1, a2, a3, a4, a5, a6, n + 1, ?_, by omega, ?_⟩
  · show u.2.2.2.2.2.2.1 + 1 = _
    rw [h7, nI_1]
  · exact MGd_obey (v := mcS (readS u (placeN u))) h9 (placeN u) (tellN u (placeN u))
theorem GD_run : ∀ (N : Nat) {K : Nat} {u : SV}, GD K u → GD (K + N) (runS N u).2
  | 0, _, _, h => h
  | n + 1, K, u, h => by
    rw [runS_succ]
    split
    · exact h.mono (Nat.le_add_right _ _)
    · have := GD_run n (GD_step h)
      exact this.mono (by omega)
theorem run_le : ∀ (N : Nat) (u : SV), (runS N u).1 ≤ N
  | 0, _ => Nat.le_refl _
  | n + 1, u => by
    rw [runS_succ]
    split
    · exact Nat.zero_le _
    · have := run_le n (stepS u)
      dsimp only
      omega
/-- it made all its steps, or it runs no more -/
theorem run_end : ∀ (N : Nat) (u : SV), (runS N u).1 = N ∨ (runS N u).2.2.2.2.2.2.2.2.2.2.2.2.1 = 0
  | 0, _ => Or.inl rfl
  | n + 1, u => by
    rw [runS_succ]
    split
    · rename_i h
      exact Or.inr h
    · rcases run_end n (stepS u) with h | h
      · exact Or.inl (by dsimp only; omega)
      · exact Or.inr h
/-- the law's numbers out of the script -/
def upN (v : Int32) (n : Nat) : Nat := v.toBitVec.toNat % 2 ^ 31 % n
theorem upN_lt (v : Int32) {n : Nat} (h : 0 < n) : upN v n < n := Nat.mod_lt _ h
theorem up_val (v : Int32) {n : Nat} (h0 : 0 < n) (hn : n < 2 ^ 31) : (v &&& 2147483647) - (v &&& 2147483647) / nI n * nI n = nI (upN v n) := by
  rw [pk_and v (m := 2147483647) 31 (by decide)]
  exact pk_rem (Nat.mod_lt _ (by decide)) h0 hn
def actP (u s2 : SV) (x y : Int32) : Int32 × SV :=
  if upN x 16 < 3 then (bitF (u.1 (upN y 16) ^^^ ((1 : Int32) <<< (nI (upN (y >>> (4 &&& 31)) 8) &&& 31))) (nI (upN (y >>> (4 &&& 31)) 8)), layS u (upN y 16) (u.1 (upN y 16) ^^^ ((1 : Int32) <<< (nI (upN (y >>> (4 &&& 31)) 8) &&& 31))))
  else if upN x 16 < 6 then (bcF (u.1 (upN y 16) ^^^ wordF u.2.2.2.1 (nI (upN (y >>> (4 &&& 31)) 256))), layS u (upN y 16) (wordF u.2.2.2.1 (nI (upN (y >>> (4 &&& 31)) 256))))
  else if upN x 16 < 8 then (bitF (u.2.2.2.2.1 ^^^ ((1 : Int32) <<< (nI (upN y 16) &&& 31))) (nI (upN y 16)), setGd u (u.2.2.2.2.1 ^^^ ((1 : Int32) <<< (nI (upN y 16) &&& 31))))
  else if upN x 16 = 8 then (u.2.2.2.1 0, (u.1, u.2.1, u.2.2.1, upd u.2.2.2.1 0 (nI (1 + upN y 8)), u.2.2.2.2))
  else if upN x 16 = 9 then (u.2.2.2.1 1, (u.1, u.2.1, u.2.2.1, upd u.2.2.2.1 1 (nI (y.toBitVec.toNat % 2 ^ 1)), u.2.2.2.2))
  else if upN x 16 = 10 then (if y &&& 3 = 0 then (bcF (thrS u (nI (upN (y >>> (4 &&& 31)) 8))), renewS u (upN (y >>> (4 &&& 31)) 8)) else (tellsS u (upN y 16), readS u (upN y 16)))
  else if upN x 16 = 11 then (if y &&& 7 = 0 then (u.2.2.2.2.2.2.2.2.2.2.2.2.1, setMc u beginM) else (nI (runS (1 + upN y 9) u).1, (runS (1 + upN y 9) u).2))
  else if upN x 16 = 12 then (cbtT s2 16, s2)
  else (tellsS u (upN y 16), readS u (upN y 16))
theorem M8_1shl {r : Nat} (h : r < 8) : M8 ((1 : Int32) <<< (nI r &&& 31)) := fun i hi => by
  rcases Nat.lt_or_ge i 32 with q | q
  · rw [b_1shl (by omega) q, decide_eq_false (by omega)]
  · exact b_big q
theorem M16_1shl {r : Nat} (h : r < 16) : M16 ((1 : Int32) <<< (nI r &&& 31)) := fun i hi => by
  rcases Nat.lt_or_ge i 32 with q | q
  · rw [b_1shl (by omega) q, decide_eq_false (by omega)]
  · exact b_big q
theorem M16_xor {x y : Int32} (h : M16 x) (g : M16 y) : M16 (x ^^^ y) := fun i hi => by rw [b_xor, h i hi, g i hi]; rfl
theorem nI_n0 {n : Nat} (h : n < 2 ^ 31) : ¬ nI n < 0 := nI_pos h
theorem bit_n0 (x : Int32) {r : Nat} (hr : r < 32) : ¬ bitF x (nI r) < 0 := by
  rw [bF x hr]
  split <;> decide
theorem bc_n0 {x : Int32} (h : M16 x) : ¬ bcF x < 0 := by
  obtain ⟨n, hn, e⟩ := bc_range h
  rw [e]
  exact nI_pos (by omega)
theorem tells_n0 (u : SV) (t : Nat) : ¬ tellsS u t < 0 := by
  rw [(tellN_spec u t).2]
  exact nI_pos (by have := (tellN_spec u t).1; omega)
theorem cnt_mono_sum {f : Nat → Nat} {b : Nat} (h : ∀ k, f k ≤ b) : ∀ n, sumN f n ≤ b * n
  | 0 => Nat.le_refl _
  | n + 1 => by
    have h1 := cnt_mono_sum h n
    have h2 := h n
    have h3 : b * (n + 1) = b * n + b := Nat.mul_succ b n
    rw [sumN]
    omega
theorem cbt_n0 {u : SV} (hR : ∀ t, t < 16 → M8 (u.1 t)) : ¬ cbtT u 16 < 0 := by
  rw [cbt_sum hR 16 (Nat.le_refl _)]
  refine nI_pos ?_
  have := cnt_mono_sum (f := fun t => cntB (bt (u.1 t)) 8) (b := 8) (fun k => cntB_le _ 8) 16
  omega
/-- an act answers no less than 0 and keeps the state one that the law comes to -/
theorem act_ok {K : Nat} {u s2 : SV} (h : GD K u) (h2 : GD K s2) (hK : K < 1000000) (x y : Int32) : ¬ (actP u s2 x y).1 < 0 ∧ GD (K + 9) (actP u s2 x y).2 := by
  have ht : upN y 16 < 16 := upN_lt y (by decide)
  have hr : upN (y >>> (4 &&& 31)) 8 < 8 := upN_lt _ (by decide)
  have hw : upN (y >>> (4 &&& 31)) 256 < 256 := upN_lt _ (by decide)
  have up9 : ∀ {v : SV}, GD K v → GD (K + 9) v := fun q => q.mono (by omega)
  unfold actP
  split
  · exact ⟨bit_n0 _ (by omega), up9 (GD_lay h _ (M8_xor (h.R _ ht) (M8_1shl hr)))⟩
  split
  · have hm := word_M8 u.2.2.2.1 (M8_nI hw)
    exact ⟨bc_n0 (M8_xor (h.R _ ht) hm).m16, up9 (GD_lay h _ hm)⟩
  split
  · exact ⟨bit_n0 _ (by omega), up9 (GD_gd h (M16_xor h.2.2.2.2.1 (M16_1shl ht)))⟩
  split
  · obtain ⟨s, a1, a2, a3⟩ := h.2.2.1
    refine ⟨?_, up9 (GD_set0 h (by omega) (by have := upN_lt y (n := 8) (by decide); omega))⟩
    show ¬ seS u 0 < 0
    rw [a3]
    exact nI_pos (by omega)
  split
  · refine ⟨?_, up9 (GD_set1 h (by have := Nat.mod_lt y.toBitVec.toNat (show 0 < 2 ^ 1 by decide); omega))⟩
    show ¬ seS u 1 < 0
    rcases h.2.2.2.1 with e | e <;> rw [e] <;> decide
  split
  · split
    · exact ⟨bc_n0 (thr_M16 u hr), up9 (GD_renew h _)⟩
    · exact ⟨tells_n0 u _, (GD_read h ht).mono (by omega)⟩
  split
  · split
    · obtain ⟨n, _, hn, m, l, e1, _, _, hm, _⟩ := h.2.2.2.2.2.2
      refine ⟨?_, up9 (GD_begin h)⟩
      show ¬ (mcS u).2.2.2.2.2.1 < 0
      rw [e1]
      exact nI_pos (by omega)
    · have h9 := upN_lt y (n := 9) (by decide)
      exact ⟨nI_pos (by have := run_le (1 + upN y 9) u; omega), (GD_run (1 + upN y 9) h).mono (by omega)⟩
  split
  · exact ⟨cbt_n0 h2.R, up9 h2⟩
  · exact ⟨tells_n0 u _, (GD_read h ht).mono (by omega)⟩
