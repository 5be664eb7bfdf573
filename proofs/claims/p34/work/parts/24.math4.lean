-- pure facts: what is told ahead
def readN (u : SV) (t : Nat) : Nat → SV
  | 0 => u
  | n + 1 => readS (readN u t n) t
theorem readN_rg (u : SV) (t : Nat) : ∀ n, (readN u t n).1 = u.1
  | 0 => rfl
  | n + 1 => readN_rg u t n
theorem readN_se (u : SV) (t : Nat) : ∀ n, seS (readN u t n) = seS u
  | 0 => rfl
  | n + 1 => readN_se u t n
theorem readN_gd (u : SV) (t : Nat) : ∀ n, gdS (readN u t n) = gdS u
  | 0 => rfl
  | n + 1 => readN_gd u t n
theorem GD_readN {K : Nat} {u : SV} (h : GD K u) {t : Nat} (ht : t < 16) : ∀ n, GD (K + n) (readN u t n)
  | 0 => h
  | n + 1 => GD_read (GD_readN h ht n) ht
theorem readN_we {u : SV} (t : Nat) {r w : Nat} (hr : r < 8) (hw : w ≤ 99) (e : weS u r = nI w) : ∀ n, n ≤ 100 → weS (readN u t n) r = nI (if bt (u.1 t) r = true then (if w + n ≤ 99 then w + n else 99) else w)
  | 0, _ => by
    show weS u r = _
    rw [e, Nat.add_zero, if_pos hw]
    split <;> rfl
  | n + 1, hn => by
    have ih := readN_we t hr hw e n (by omega)
    show wearT (weS (readN u t n)) ((readN u t n).1 t) (nI 1) 8 r = _
    rw [wear_at _ _ _ hr 8 (Nat.le_refl _), readN_rg, ih]
    by_cases hb : bt (u.1 t) r = true
    · rw [if_pos ⟨hr, hb⟩, if_pos hb, if_pos hb]
      split
      · rename_i q
        rw [min99 q (by decide)]
        rfl
      · rename_i q
        rw [min99 (Nat.le_refl _) (by decide), if_neg (by omega), if_neg (by omega)]
    · rw [if_neg (fun z => hb z.2), if_neg hb, if_neg hb]
theorem loss_dec : ∀ s, s < 9 → 1 ≤ s → ∀ w, w < 100 → (strF (fun _ => nI w) 0 (nI 0) < nI s ↔ 10 * (9 - s) ≤ w) := by decide +kernel
/-- a ring of the thread answers where it isn't worn by ten times what its strength may lose -/
theorem ans_through {v : SV} {t s r w : Nat} (hs0 : 1 ≤ s) (hs8 : s ≤ 8) (hse : seS v 0 = nI s) (hwe : ∀ r, r < 8 → ∃ w, w ≤ 99 ∧ weS v r = nI w) (hr : r < 8) (hb : bt (v.1 t) r = true) (hw : w ≤ 99) (e : weS v r = nI w) : bt (ansS v t) r = decide (w < 10 * (9 - s)) := by
  rw [ans_bt hs0 hs8 hse hwe (by omega), decide_eq_true hr, Bool.true_and, (hops0 v.1 (gdS v) t hr).mpr hb, hse, str_one, e]
  have := loss_dec s (by omega) hs0 w (by omega)
  by_cases q : w < 10 * (9 - s)
  · rw [decide_eq_true q, decide_eq_true]
    intro z
    have := this.mp z
    omega
  · rw [decide_eq_false q, decide_eq_false]
    intro z
    exact z (this.mpr (by omega))
theorem ans_past {v u : SV} {t s r : Nat} (hs0 : 1 ≤ s) (hs8 : s ≤ 8) (hse : seS v 0 = nI s) (hwe : ∀ r, r < 8 → ∃ w, w ≤ 99 ∧ weS v r = nI w) (hwu : ∀ r, r < 8 → ∃ w, w ≤ 99 ∧ weS u r = nI w) (e1 : v.1 = u.1) (e2 : seS v = seS u) (e3 : gdS v = gdS u) (hr : r < 8) (e4 : weS v r = weS u r) : bt (ansS v t) r = bt (ansS u t) r := by
  rw [ans_bt hs0 hs8 hse hwe (by omega), ans_bt hs0 hs8 (by rw [← e2]; exact hse) hwu (by omega), e1, e2, e3, str_one, e4]
  rfl
theorem ruc_spec {we : Nat → Int32} {m : Int32} {w : Nat → Nat} {V : Nat} (hV : V ≤ 80) (hw : ∀ r, r < 8 → w r ≤ 99 ∧ we r = nI (w r)) : ∀ n, n ≤ 8 → (rucI we m (nI V) n = -1 ∧ ∀ r, r < n → bt m r = true → V ≤ w r) ∨ ∃ L, 1 ≤ L ∧ L ≤ V ∧ rucI we m (nI V) n = nI L ∧ (∃ r, r < n ∧ bt m r = true ∧ w r + L = V) ∧ ∀ r, r < n → bt m r = true → w r < V → w r + L ≤ V
  | 0, _ => Or.inl ⟨rfl, fun r h => by omega⟩
  | k + 1, hn => by
    have ih := ruc_spec hV hw k (by omega) (m := m)
    obtain ⟨h9, e⟩ := hw k (by omega)
    have ed : rucI we m (nI V) (k + 1) = if bitF m (nI k) = 1 then (if nI V - we k ≤ 0 then rucI we m (nI V) k else if rucI we m (nI V) k = -1 then nI V - we k else if rucI we m (nI V) k ≤ nI V - we k then rucI we m (nI V) k else nI V - we k) else rucI we m (nI V) k := rfl
    by_cases hb : bt m k = true
    · rw [ed, if_pos ((bF1 m (by omega)).mpr hb), e]
      by_cases hl : V ≤ w k
      · have hle : nI V - nI (w k) ≤ 0 := by
          rw [Int32.le_iff_toInt_le, pk_sub_toInt (by omega) (by omega)]
          show (V : Int) - w k ≤ 0
          omega
        rw [if_pos hle]
        rcases ih with ⟨a1, a2⟩ | ⟨L, a1, a2, a3, ⟨r0, b1, b2, b3⟩, a5⟩
        · exact Or.inl ⟨a1, fun r h1 h2 => (Nat.lt_succ_iff_lt_or_eq.mp h1).elim (fun q => a2 r q h2) (fun q => by rw [q]; exact hl)⟩
        · exact Or.inr ⟨L, a1, a2, a3, ⟨r0, by omega, b2, b3⟩, fun r h1 h2 h3 => (Nat.lt_succ_iff_lt_or_eq.mp h1).elim (fun q => a5 r q h2 h3) (fun q => by rw [q] at h3; omega)⟩
      · have hgt : ¬ nI V - nI (w k) ≤ 0 := by
          rw [pk_sub (by omega)]
          exact nI_nle (by omega) (by omega)
        rw [if_neg hgt, pk_sub (by omega)]
        rcases ih with ⟨a1, a2⟩ | ⟨L, a1, a2, a3, ⟨r0, b1, b2, b3⟩, a5⟩
        · rw [if_pos a1]
          exact Or.inr ⟨V - w k, by omega, by omega, rfl, ⟨k, by omega, hb, by omega⟩, fun r h1 h2 h3 => (Nat.lt_succ_iff_lt_or_eq.mp h1).elim (fun q => by have := a2 r q h2; omega) (fun q => by rw [q]; omega)⟩
        · have hm1 : ¬ rucI we m (nI V) k = -1 := by
            rw [a3]
            intro z
            have z1 := congrArg Int32.toInt z
            rw [nI_toInt (by omega)] at z1
            have z2 : (-1 : Int32).toInt = -1 := by decide
            omega
          rw [if_neg hm1, a3]
          by_cases q : L ≤ V - w k
          · rw [if_pos ((nI_leI (by omega) (by omega)).mpr q)]
            exact Or.inr ⟨L, a1, a2, rfl, ⟨r0, by omega, b2, b3⟩, fun r h1 h2 h3 => (Nat.lt_succ_iff_lt_or_eq.mp h1).elim (fun z => a5 r z h2 h3) (fun z => by rw [z]; omega)⟩
          · rw [if_neg (fun z => q ((nI_leI (by omega) (by omega)).mp z))]
            exact Or.inr ⟨V - w k, by omega, by omega, rfl, ⟨k, by omega, hb, by omega⟩, fun r h1 h2 h3 => (Nat.lt_succ_iff_lt_or_eq.mp h1).elim (fun z => by have := a5 r z h2 h3; omega) (fun z => by rw [z]; omega)⟩
    · rw [ed, if_neg (fun z => hb ((bF1 m (by omega)).mp z))]
      rcases ih with ⟨a1, a2⟩ | ⟨L, a1, a2, a3, ⟨r0, b1, b2, b3⟩, a5⟩
      · exact Or.inl ⟨a1, fun r h1 h2 => (Nat.lt_succ_iff_lt_or_eq.mp h1).elim (fun q => a2 r q h2) (fun q => by rw [q] at h2; exact absurd h2 hb)⟩
      · exact Or.inr ⟨L, a1, a2, a3, ⟨r0, by omega, b2, b3⟩, fun r h1 h2 h3 => (Nat.lt_succ_iff_lt_or_eq.mp h1).elim (fun q => a5 r q h2 h3) (fun q => by rw [q] at h2; exact absurd h2 hb)⟩
/-- the readings until change: none ever, or L; before it the thread tells the same, then another word -/
theorem ruc_all {K : Nat} {u : SV} (h : GD K u) {t : Nat} (ht : t < 16) : (rucS u t = -1 ∧ ∀ n, n ≤ 100 → tellsS (readN u t n) t = tellsS u t) ∨ ∃ L, 1 ≤ L ∧ L ≤ 80 ∧ rucS u t = nI L ∧ (∀ n, n < L → tellsS (readN u t n) t = tellsS u t) ∧ ¬ tellsS (readN u t L) t = tellsS u t := by
  obtain ⟨s, hs0, hs8, hse⟩ := h.2.2.1
  have hwu := h.we
  obtain ⟨w, hw⟩ : ∃ w : Nat → Nat, ∀ r, r < 8 → w r ≤ 99 ∧ weS u r = nI (w r) := by
    refine ⟨fun r => (weS u r).toNatClampNeg, fun r hr => ?_⟩
    obtain ⟨x, hx, e⟩ := hwu r hr
    show (weS u r).toNatClampNeg ≤ 99 ∧ weS u r = nI (weS u r).toNatClampNeg
    rw [e, nI_clamp (by omega)]
    exact ⟨hx, rfl⟩
  have hV : (10 : Int32) * ((8 - seS u 0) + 1) = nI (10 * (9 - s)) := by
    rw [hse]
    show nI 10 * ((nI 8 - nI s) + nI 1) = _
    rw [pk_sub hs8, nI_add, pk_mul]
    congr 2
    omega
  have hdef : rucS u t = rucI (weS u) (u.1 t) (nI (10 * (9 - s))) 8 := by
    show rucI (weS u) (u.1 t) (10 * ((8 - seS u 0) + 1)) 8 = _
    rw [hV]
  have hwn : ∀ n, n ≤ 100 → ∀ r, r < 8 → ∃ x, x ≤ 99 ∧ weS (readN u t n) r = nI x := fun n _ => (GD_readN h ht n).we
  have hsn : ∀ n, seS (readN u t n) 0 = nI s := fun n => by rw [readN_se]; exact hse
  -- a ring at n
  have thr : ∀ n, n ≤ 100 → ∀ r, r < 8 → bt (u.1 t) r = true → bt (ansS (readN u t n) t) r = decide (w r + n < 10 * (9 - s)) := fun n hn r hr hb => by
    have e := readN_we t hr (hw r hr).1 (hw r hr).2 n hn
    rw [if_pos hb] at e
    rw [ans_through hs0 hs8 (hsn n) (hwn n hn) hr (by rw [readN_rg]; exact hb) (by split <;> omega) e]
    congr 1
    apply propext
    split <;> omega
  have thr0 : ∀ r, r < 8 → bt (u.1 t) r = true → bt (ansS u t) r = decide (w r < 10 * (9 - s)) := fun r hr hb => ans_through hs0 hs8 hse hwu hr hb (hw r hr).1 (hw r hr).2
  have pst : ∀ n, n ≤ 100 → ∀ r, r < 8 → ¬ bt (u.1 t) r = true → bt (ansS (readN u t n) t) r = bt (ansS u t) r := fun n hn r hr hb => by
    have e := readN_we t hr (hw r hr).1 (hw r hr).2 n hn
    rw [if_neg hb] at e
    exact ans_past hs0 hs8 (hsn n) (hwn n hn) hwu (readN_rg u t n) (readN_se u t n) (readN_gd u t n) hr (by rw [e, (hw r hr).2])
  have same : ∀ n, n ≤ 100 → (∀ r, r < 8 → bt (u.1 t) r = true → (w r + n < 10 * (9 - s) ↔ w r < 10 * (9 - s))) → tellsS (readN u t n) t = tellsS u t := fun n hn hq => by
    show wordF (seS (readN u t n)) _ = wordF (seS u) _
    rw [readN_se]
    refine (word_inj (seS u)).mpr (M8_ext (ans_M8 hs0 hs8 (hsn n) (hwn n hn)) (ans_M8 hs0 hs8 hse hwu) fun r hr => ?_)
    by_cases hb : bt (u.1 t) r = true
    · rw [thr n hn r hr hb, thr0 r hr hb]
      congr 1
      exact propext (hq r hr hb)
    · exact pst n hn r hr hb
  rcases ruc_spec (we := weS u) (m := u.1 t) (w := w) (V := 10 * (9 - s)) (by omega) hw 8 (Nat.le_refl _) with ⟨a1, a2⟩ | ⟨L, a1, a2, a3, ⟨r0, b1, b2, b3⟩, a5⟩
  · refine Or.inl ⟨hdef.trans a1, fun n hn => same n hn fun r hr hb => ?_⟩
    have := a2 r hr hb
    omega
  · refine Or.inr ⟨L, a1, by omega, hdef.trans a3, fun n hn => same n (by omega) fun r hr hb => ?_, fun hq => ?_⟩
    · constructor
      · intro z; omega
      · intro z
        have := a5 r hr hb z
        omega
    · have hq2 : wordF (seS (readN u t L)) (ansS (readN u t L) t) = wordF (seS u) (ansS u t) := hq
      rw [readN_se] at hq2
      have e : bt (ansS (readN u t L) t) r0 = bt (ansS u t) r0 := by rw [(word_inj (seS u)).mp hq2]
      rw [thr L (by omega) r0 b1 b2, thr0 r0 b1 b2] at e
      rw [decide_eq_false (by omega), decide_eq_true (by omega)] at e
      cases e
/-- the best guard -/
abbrev rhoS (u : SV) (j : Nat) : Int32 := rightT (setGd u (u.2.2.2.2.1 ||| (1 <<< (nI j &&& 31)))) 16
theorem rho_n (u : SV) (j : Nat) : ∃ n, n ≤ 16 ∧ rhoS u j = nI n := right_range _ 16
theorem bg_spec (u : SV) : ∀ k, k ≤ 16 → ((bgT u k).1 = -1 ∧ (bgT u k).2.1 = -1 ∧ ∀ j, j < k → bt (gdS u) j = true) ∨ ∃ b, b < k ∧ bt (gdS u) b = false ∧ (bgT u k).1 = nI b ∧ (bgT u k).2.1 = rhoS u b ∧ ∀ j, j < k → bt (gdS u) j = false → rhoS u j ≤ rhoS u b ∧ (j < b → rhoS u j < rhoS u b)
  | 0, _ => Or.inl ⟨rfl, rfl, fun j h => by omega⟩
  | k + 1, hk => by
    have ih := bg_spec u k (by omega)
    rw [bgT_succ]
    have hle : ∀ {a b c : Int32}, a ≤ b → b ≤ c → a ≤ c := fun h1 h2 => by rw [Int32.le_iff_toInt_le] at *; omega
    by_cases hb : bt (gdS u) k = false
    · rw [if_pos ((bF0 (gdS u) (by omega)).mpr hb)]
      rcases ih with ⟨a1, a2, a3⟩ | ⟨b, b1, b2, b3, b4, b5⟩
      · have hn : ¬ rhoS u k ≤ (bgT u k).2.1 := by
          obtain ⟨n, hn, e⟩ := rho_n u k
          rw [a2, e, Int32.le_iff_toInt_le, nI_toInt (by omega)]
          have : (-1 : Int32).toInt = -1 := by decide
          omega
        rw [if_neg hn]
        refine Or.inr ⟨k, by omega, hb, rfl, rfl, fun j h1 h2 => ?_⟩
        rcases Nat.lt_succ_iff_lt_or_eq.mp h1 with q | q
        · have := a3 j q
          rw [h2] at this
          cases this
        · subst q
          exact ⟨by rw [Int32.le_iff_toInt_le]; omega, fun z => by omega⟩
      · by_cases hq : rhoS u k ≤ (bgT u k).2.1
        · rw [if_pos hq]
          refine Or.inr ⟨b, by omega, b2, b3, b4, fun j h1 h2 => ?_⟩
          rcases Nat.lt_succ_iff_lt_or_eq.mp h1 with q | q
          · exact b5 j q h2
          · subst q
            rw [b4] at hq
            exact ⟨hq, fun z => by omega⟩
        · rw [if_neg hq]
          rw [b4] at hq
          refine Or.inr ⟨k, by omega, hb, rfl, rfl, fun j h1 h2 => ?_⟩
          have hlt : rhoS u b < rhoS u k := by
            rw [Int32.le_iff_toInt_le] at hq
            rw [Int32.lt_iff_toInt_lt]
            omega
          rcases Nat.lt_succ_iff_lt_or_eq.mp h1 with q | q
          · have h3 := (b5 j q h2).1
            rw [Int32.le_iff_toInt_le] at h3
            rw [Int32.lt_iff_toInt_lt] at hlt
            rw [Int32.le_iff_toInt_le, Int32.lt_iff_toInt_lt]
            exact ⟨by omega, fun _ => by omega⟩
          · subst q
            exact ⟨by rw [Int32.le_iff_toInt_le]; omega, fun z => by omega⟩
    · have hb : bt (gdS u) k = true := by cases e : bt (gdS u) k with
        | true => rfl
        | false => exact absurd e hb
      rw [if_neg (fun z => by have := (bF0 (gdS u) (by omega)).mp z; rw [hb] at this; cases this)]
      rcases ih with ⟨a1, a2, a3⟩ | ⟨b, b1, b2, b3, b4, b5⟩
      · exact Or.inl ⟨a1, a2, fun j h1 => (Nat.lt_succ_iff_lt_or_eq.mp h1).elim (fun q => a3 j q) (fun q => by rw [q]; exact hb)⟩
      · refine Or.inr ⟨b, by omega, b2, b3, b4, fun j h1 h2 => ?_⟩
        rcases Nat.lt_succ_iff_lt_or_eq.mp h1 with q | q
        · exact b5 j q h2
        · subst q
          rw [hb] at h2
          cases h2
theorem xor_or {g : Int32} {j : Nat} (hj : j < 32) (h : bt g j = false) : g ^^^ ((1 : Int32) <<< (nI j &&& 31)) = g ||| ((1 : Int32) <<< (nI j &&& 31)) := b_ext fun i hi => by
  rw [b_xor, b_or, b_1shl hj hi]
  by_cases e : i = j
  · subst e
    rw [h, decide_eq_true rfl]
    rfl
  · rw [decide_eq_false e, Bool.xor_false, Bool.or_false]
theorem cnt_full (p : Nat → Bool) : ∀ n, cntB p n = n ↔ ∀ i, i < n → p i = true
  | 0 => ⟨fun _ i h => by omega, fun _ => rfl⟩
  | n + 1 => by
    have ih := cnt_full p n
    have hl := cntB_le p n
    rw [cntB]
    constructor
    · intro h i hi
      cases e : p n with
      | false => rw [e] at h; simp at h; omega
      | true =>
        rw [e] at h
        simp at h
        rcases Nat.lt_succ_iff_lt_or_eq.mp hi with q | q
        · exact ih.mp h i q
        · rw [q]; exact e
    · intro h
      rw [h n (by omega), ih.mpr (fun i hi => h i (by omega))]
      rfl
/-- no guard is best just where all 16 are set -/
theorem bg_none {u : SV} (hg : M16 (gdS u)) : (∀ j, j < 16 → bt (gdS u) j = true) ↔ bcF (gdS u) = 16 := by
  rw [bc_bt hg]
  have hl := cntB_le (bt (gdS u)) 16
  constructor
  · intro h
    rw [(cnt_full _ 16).mpr h]
    rfl
  · intro h
    exact (cnt_full _ 16).mp ((nI_eq (b := 16) (by omega) (by decide)).mp h)
/-- shares -/
theorem share_dec : ∀ k, k < 17 → Op.cmpValue (FP.dcmp (FP.dmul (shareF (nI k)) 4625196817309499392) (FP.i2d (nI k))) .l = 0 := by decide +kernel
theorem share_nn : ∀ k, k < 17 → vf_n64 (FP.dmul (shareF (nI k)) 4625196817309499392) := by
  show ∀ k, k < 17 → FP.dmul (shareF (nI k)) 4625196817309499392 &&& 0x7fffffffffffffff ≤ 0x7ff0000000000000
  decide +kernel
/-- what was told -/
theorem told_age {K : Nat} {u : SV} (h : GD K u) (hK : K < 2 ^ 31) {j : Nat} (hj : j < 8) : u.2.2.2.2.2.2.2.2.1 j = -1 ↔ u.2.2.2.2.2.2.2.2.2.2.2.2.2 ≤ nI j := by
  obtain ⟨n, _, hn, m, l, e1, e2, h1, h2, h5, _⟩ := h.2.2.2.2.2.2
  have e2 : u.2.2.2.2.2.2.2.2.2.2.2.2.2 = nI l := e2
  rw [e2, nI_leI (by omega) (by omega)]
  rcases h5 j hj with ⟨a1, a2⟩ | ⟨a1, c, hc, a2⟩
  · exact ⟨fun _ => a1, fun _ => a2⟩
  · have a2 : u.2.2.2.2.2.2.2.2.1 j = nI c := a2
    rw [a2]
    constructor
    · intro z
      have z1 := congrArg Int32.toInt z
      rw [nI_toInt (by omega)] at z1
      have z2 : (-1 : Int32).toInt = -1 := by decide
      omega
    · intro z; omega
theorem reads_steps {K : Nat} {u : SV} (h : GD K u) (hK : K < 2 ^ 31) : ¬ u.2.2.2.2.2.2.1 < u.2.2.2.2.2.2.2.2.2.2.2.2.1 := by
  obtain ⟨n, e0, hn, m, l, e1, e2, h1, h2, h5, _⟩ := h.2.2.2.2.2.2
  have e1 : u.2.2.2.2.2.2.2.2.2.2.2.2.1 = nI m := e1
  rw [e0, e1]
  exact nI_nlt h2 (by omega)
