/-! ===== Int32 by its bits: bt x i ===== -/
def bt (x : Int32) (i : Nat) : Bool := x.toBitVec.getLsbD i
theorem b_ext {x y : Int32} (h : ∀ i, i < 32 → bt x i = bt y i) : x = y := Int32.toBitVec_inj.mp (BitVec.eq_of_getLsbD_eq (fun i hi => h i hi))
theorem b_or (x y : Int32) (i : Nat) : bt (x ||| y) i = (bt x i || bt y i) := by unfold bt; rw [Int32.toBitVec_or, BitVec.getLsbD_or]
theorem b_and (x y : Int32) (i : Nat) : bt (x &&& y) i = (bt x i && bt y i) := by unfold bt; rw [Int32.toBitVec_and, BitVec.getLsbD_and]
theorem b_xor (x y : Int32) (i : Nat) : bt (x ^^^ y) i = (bt x i ^^ bt y i) := by unfold bt; rw [Int32.toBitVec_xor, BitVec.getLsbD_xor]
theorem b_big {x : Int32} {i : Nat} (h : 32 ≤ i) : bt x i = false := BitVec.getLsbD_of_ge _ _ h
theorem b_255 (i : Nat) : bt 255 i = decide (i < 8) := by
  rcases Nat.lt_or_ge i 32 with h | h
  · exact (by decide +kernel : ∀ i, i < 32 → bt 255 i = decide (i < 8)) i h
  · rw [b_big h, decide_eq_false (by omega)]
theorem b_65535 (i : Nat) : bt 65535 i = decide (i < 16) := by
  rcases Nat.lt_or_ge i 32 with h | h
  · exact (by decide +kernel : ∀ i, i < 32 → bt 65535 i = decide (i < 16)) i h
  · rw [b_big h, decide_eq_false (by omega)]
theorem b_m1 : ∀ i, i < 32 → bt (-1) i = true := by decide +kernel
theorem b_0 (i : Nat) : bt 0 i = false := BitVec.getLsbD_zero
theorem s_l : ∀ n, n < 32 → ((nI n &&& 31).toBitVec.smod 32).toNat = n := by decide +kernel
theorem s_u : ∀ n, n < 32 → (((nI n).toUInt32 &&& Int32.toUInt32 31).toBitVec % 32).toNat = n := by decide +kernel
theorem b_shl (n : Nat) (hn : n < 32) (x : Int32) {i : Nat} (hi : i < 32) : bt (x <<< (nI n &&& 31)) i = (decide (n ≤ i) && bt x (i - n)) := by
  unfold bt
  rw [Int32.toBitVec_shiftLeft]
  show (x.toBitVec <<< ((nI n &&& 31).toBitVec.smod 32).toNat).getLsbD i = _
  rw [s_l n hn, BitVec.getLsbD_shiftLeft]
  rcases Nat.lt_or_ge i n with h | h
  · simp [h, Nat.not_le.mpr h]
  · simp [hi, h, Nat.not_lt.mpr h]
theorem b_ushr (n : Nat) (hn : n < 32) (x : Int32) (i : Nat) : bt ((x.toUInt32 >>> ((nI n).toUInt32 &&& Int32.toUInt32 31)).toInt32) i = bt x (n + i) := by
  show (x.toUInt32 >>> ((nI n).toUInt32 &&& Int32.toUInt32 31)).toBitVec.getLsbD i = x.toUInt32.toBitVec.getLsbD (n + i)
  rw [UInt32.toBitVec_shiftRight]
  show (x.toUInt32.toBitVec >>> (((nI n).toUInt32 &&& Int32.toUInt32 31).toBitVec % 32).toNat).getLsbD i = _
  rw [s_u n hn, BitVec.getLsbD_ushiftRight]
theorem b_sshr (n : Nat) (hn : n < 32) (x : Int32) {i : Nat} (hi : i < 32) : bt (x >>> (nI n &&& 31)) i = if n + i < 32 then bt x (n + i) else bt x 31 := by
  unfold bt
  rw [Int32.toBitVec_shiftRight]
  show (x.toBitVec.sshiftRight ((nI n &&& 31).toBitVec.smod 32).toNat).getLsbD i = _
  rw [s_l n hn, BitVec.getLsbD_sshiftRight, BitVec.msb_eq_getLsbD_last]
  simp [hi]
theorem b_shl8 (x : Int32) {i : Nat} (hi : i < 32) : bt (x <<< ((8 : Int32) &&& 31)) i = (decide (8 ≤ i) && bt x (i - 8)) := b_shl 8 (by omega) x hi
theorem b_shl16 (x : Int32) {i : Nat} (hi : i < 32) : bt (x <<< ((16 : Int32) &&& 31)) i = (decide (16 ≤ i) && bt x (i - 16)) := b_shl 16 (by omega) x hi
theorem b_shl24 (x : Int32) {i : Nat} (hi : i < 32) : bt (x <<< ((24 : Int32) &&& 31)) i = (decide (24 ≤ i) && bt x (i - 24)) := b_shl 24 (by omega) x hi
theorem b_sshr8 (x : Int32) {i : Nat} (hi : i < 32) : bt (x >>> ((8 : Int32) &&& 31)) i = if 8 + i < 32 then bt x (8 + i) else bt x 31 := b_sshr 8 (by omega) x hi
/-- how many k < n have p k -/
def cntB (p : Nat → Bool) : Nat → Nat
  | 0 => 0
  | n + 1 => cntB p n + if p n then 1 else 0
theorem cntB_cong {p q : Nat → Bool} : ∀ {n : Nat}, (∀ k, k < n → p k = q k) → cntB p n = cntB q n
  | 0, _ => rfl
  | n + 1, h => by rw [cntB, cntB, cntB_cong (fun k hk => h k (Nat.lt_succ_of_lt hk)), h n (Nat.lt_succ_self n)]
theorem cntB_le (p : Nat → Bool) : ∀ n, cntB p n ≤ n
  | 0 => Nat.le_refl 0
  | n + 1 => by
    have ih := cntB_le p n
    unfold cntB
    split <;> omega
/-- one bit as a number -/
theorem bF (x : Int32) {r : Nat} (hr : r < 32) : bitF x (nI r) = if bt x r then 1 else 0 := by
  apply b_ext
  intro i hi
  unfold bitF
  rw [b_and, b_sshr r hr x hi]
  rcases Nat.eq_zero_or_pos i with h | h
  · subst h
    rw [Nat.add_zero, if_pos hr, show bt 1 0 = true from by decide]
    cases bt x r <;> decide
  · rw [show bt 1 i = false from (by decide +kernel : ∀ i, i < 32 → 0 < i → bt 1 i = false) i hi h, Bool.and_false]
    cases bt x r
    · exact (b_0 i).symm
    · exact ((by decide +kernel : ∀ i, i < 32 → 0 < i → bt 1 i = false) i hi h).symm
theorem bF1 (x : Int32) {r : Nat} (hr : r < 32) : bitF x (nI r) = 1 ↔ bt x r = true := by
  rw [bF x hr]
  cases bt x r <;> decide
theorem bF0 (x : Int32) {r : Nat} (hr : r < 32) : bitF x (nI r) = 0 ↔ bt x r = false := by
  rw [bF x hr]
  cases bt x r <;> decide
/-- 1 << r -/
theorem b_1shl {r i : Nat} (hr : r < 32) (hi : i < 32) : bt ((1 : Int32) <<< (nI r &&& 31)) i = decide (i = r) := by
  rw [b_shl r hr 1 hi]
  rcases Nat.lt_trichotomy i r with h | h | h
  · rw [decide_eq_false (by omega : ¬ r ≤ i), decide_eq_false (by omega : ¬ i = r)]
    rfl
  · subst h
    rw [Nat.sub_self, decide_eq_true (Nat.le_refl i), decide_eq_true rfl]
    decide
  · rw [decide_eq_true (by omega : r ≤ i), decide_eq_false (by omega : ¬ i = r), Bool.true_and]
    exact (by decide +kernel : ∀ i, i < 32 → 0 < i → bt 1 i = false) (i - r) (by omega) (by omega)
/-- and with 'not' -/
theorem b_not (x : Int32) {i : Nat} (hi : i < 32) : bt (x ^^^ (-1)) i = !bt x i := by
  rw [b_xor, b_m1 i hi]
  cases bt x i <;> rfl
/-- a mask of 8 bits -/
def M8 (x : Int32) : Prop := ∀ i, 8 ≤ i → bt x i = false
def M16 (x : Int32) : Prop := ∀ i, 16 ≤ i → bt x i = false
theorem bt_nI (n i : Nat) : bt (nI n) i = (decide (i < 32) && n.testBit i) := by
  show (BitVec.ofNat 32 n).getLsbD i = _
  rw [BitVec.getLsbD_ofNat]
theorem M8_nI {n : Nat} (h : n < 256) : M8 (nI n) := fun i hi => by
  rw [bt_nI, Nat.testBit_lt_two_pow (Nat.lt_of_lt_of_le h (Nat.pow_le_pow_right (n := 2) (by decide) hi)), Bool.and_false]
theorem M16_nI {n : Nat} (h : n < 65536) : M16 (nI n) := fun i hi => by
  rw [bt_nI, Nat.testBit_lt_two_pow (Nat.lt_of_lt_of_le h (Nat.pow_le_pow_right (n := 2) (by decide) hi)), Bool.and_false]
theorem nI_of_M {x : Int32} {k : Nat} (hk : k < 32) (h : ∀ i, k ≤ i → bt x i = false) : ∃ n, n < 2 ^ k ∧ x = nI n := by
  refine ⟨x.toBitVec.toNat, ?_, ?_⟩
  · refine Nat.lt_pow_two_of_testBit _ (fun i hi => ?_)
    have := h i hi
    unfold bt at this
    exact this
  · apply Int32.toBitVec_inj.mp
    show x.toBitVec = BitVec.ofNat 32 x.toBitVec.toNat
    rw [BitVec.ofNat_toNat, BitVec.setWidth_eq]
theorem M8_n {x : Int32} (h : M8 x) : ∃ n, n < 256 ∧ x = nI n := nI_of_M (k := 8) (by decide) h
theorem M16_n {x : Int32} (h : M16 x) : ∃ n, n < 65536 ∧ x = nI n := nI_of_M (k := 16) (by decide) h
theorem M8.m16 {x : Int32} (h : M8 x) : M16 x := fun i hi => h i (by omega)
theorem M8_xor {x y : Int32} (h : M8 x) (g : M8 y) : M8 (x ^^^ y) := fun i hi => by rw [b_xor, h i hi, g i hi]; rfl
theorem M8_or {x y : Int32} (h : M8 x) (g : M8 y) : M8 (x ||| y) := fun i hi => by rw [b_or, h i hi, g i hi]; rfl
theorem M8_and {x : Int32} (h : M8 x) (y : Int32) : M8 (x &&& y) := fun i hi => by rw [b_and, h i hi]; rfl
theorem M8_255 : M8 255 := fun i hi => by rw [b_255, decide_eq_false (by omega)]
theorem M8_0 : M8 0 := fun i _ => b_0 i
theorem M8_ext {x y : Int32} (h : M8 x) (g : M8 y) (e : ∀ i, i < 8 → bt x i = bt y i) : x = y := b_ext fun i _ => by
  rcases Nat.lt_or_ge i 8 with q | q
  · exact e i q
  · rw [h i q, g i q]
/-- the count of the bits of 16 -/
def bcN1 (n : Nat) : Nat := n - (n / 2 &&& 1431655765)
def bcN2 (a : Nat) : Nat := (a &&& 858993459) + (a / 4 &&& 858993459)
def bcN3 (b : Nat) : Nat := (b + b / 16) &&& 252645135
def bcN4 (c : Nat) : Nat := c + c / 256
def bcN5 (d : Nat) : Nat := d + d / 65536
def bcN (n : Nat) : Nat := bcN5 (bcN4 (bcN3 (bcN2 (bcN1 n)))) &&& 63
def popN (n : Nat) : Nat := n % 2 + n / 2 % 2 + n / 4 % 2 + n / 8 % 2 + n / 16 % 2 + n / 32 % 2 + n / 64 % 2 + n / 128 % 2 + n / 256 % 2 + n / 512 % 2 + n / 1024 % 2 + n / 2048 % 2 + n / 4096 % 2 + n / 8192 % 2 + n / 16384 % 2 + n / 32768 % 2
theorem bc_dec : ((List.range 256).all fun hi => (List.range 256).all fun lo => Nat.beq (bcN (256 * hi + lo)) (popN (256 * hi + lo))) = true := by decide +kernel
theorem bc_and (a b : Nat) : nI a &&& nI b = nI (a &&& b) := by
  apply Int32.toBitVec_inj.1
  show BitVec.ofNat 32 a &&& BitVec.ofNat 32 b = BitVec.ofNat 32 (a &&& b)
  apply BitVec.eq_of_getLsbD_eq
  intro i hi
  simp [hi]
theorem bc_ushr (n s : Nat) (hn : n < 2 ^ 32) (hs : s < 32) : ushrF (nI n) (nI s) = nI (n / 2 ^ s) := pk_ushrN hn (nI s) s (s_u s hs)
theorem bc_N {n : Nat} (h : n < 65536) : bcF (nI n) = nI (bcN n) := by
  have e1 : bc1 (nI n) = nI (bcN1 n) := by
    show nI n - (ushrF (nI n) (nI 1) &&& nI 1431655765) = _
    rw [bc_ushr n 1 (by omega) (by decide), bc_and, pk_sub (Nat.le_trans Nat.and_le_left (Nat.div_le_self _ _))]
    rfl
  have h1 : bcN1 n < 2 ^ 32 := by unfold bcN1; omega
  have e2 : bc2 (nI (bcN1 n)) = nI (bcN2 (bcN1 n)) := by
    show (nI (bcN1 n) &&& nI 858993459) + (ushrF (nI (bcN1 n)) (nI 2) &&& nI 858993459) = _
    rw [bc_ushr _ 2 h1 (by decide), bc_and, bc_and, nI_add]
    rfl
  have h2 : bcN2 (bcN1 n) < 2 ^ 32 := by
    unfold bcN2
    have a1 : bcN1 n &&& 858993459 ≤ 858993459 := Nat.and_le_right
    have a2 : bcN1 n / 4 &&& 858993459 ≤ 858993459 := Nat.and_le_right
    omega
  have e3 : bc3 (nI (bcN2 (bcN1 n))) = nI (bcN3 (bcN2 (bcN1 n))) := by
    show (nI (bcN2 (bcN1 n)) + ushrF (nI (bcN2 (bcN1 n))) (nI 4)) &&& nI 252645135 = _
    rw [bc_ushr _ 4 h2 (by decide), nI_add, bc_and]
    rfl
  have h3 : bcN3 (bcN2 (bcN1 n)) ≤ 252645135 := Nat.and_le_right
  have e4 : bc4 (nI (bcN3 (bcN2 (bcN1 n)))) = nI (bcN4 (bcN3 (bcN2 (bcN1 n)))) := by
    show nI _ + ushrF (nI _) (nI 8) = _
    rw [bc_ushr _ 8 (by omega) (by decide), nI_add]
    rfl
  have h4 : bcN4 (bcN3 (bcN2 (bcN1 n))) < 2 ^ 32 := by unfold bcN4; omega
  have e5 : bc5 (nI (bcN4 (bcN3 (bcN2 (bcN1 n))))) = nI (bcN5 (bcN4 (bcN3 (bcN2 (bcN1 n))))) := by
    show nI _ + ushrF (nI _) (nI 16) = _
    rw [bc_ushr _ 16 h4 (by decide), nI_add]
    rfl
  unfold bcF
  rw [e1, e2, e3, e4, e5]
  show nI _ &&& nI 63 = _
  rw [bc_and]
  rfl
theorem pop_cnt (n : Nat) : popN n = cntB (fun i => n.testBit i) 16 := by
  have hb : ∀ i : Nat, (if n.testBit i = true then 1 else 0) = n / 2 ^ i % 2 := by
    intro i
    rw [Nat.testBit_eq_decide_div_mod_eq]
    have h2 := Nat.mod_lt (n / 2 ^ i) (show 0 < 2 by decide)
    by_cases h : n / 2 ^ i % 2 = 1
    · simp [h]
    · have : n / 2 ^ i % 2 = 0 := by omega
      simp [this]
  simp only [cntB, hb]
  unfold popN
  simp
theorem bc_n {n : Nat} (h : n < 65536) : bcF (nI n) = nI (cntB (fun i => n.testBit i) 16) := by
  have h1 := List.all_eq_true.mp bc_dec (n / 256) (List.mem_range.mpr (by omega))
  have h2 := Nat.eq_of_beq_eq_true (List.all_eq_true.mp h1 (n % 256) (List.mem_range.mpr (by omega)))
  rw [show 256 * (n / 256) + n % 256 = n by omega] at h2
  rw [bc_N h, h2, pop_cnt]
theorem bc_bt {x : Int32} (h : M16 x) : bcF x = nI (cntB (bt x) 16) := by
  obtain ⟨n, hn, rfl⟩ := M16_n h
  rw [bc_n hn]
  congr 1
  refine cntB_cong fun k hk => ?_
  rw [bt_nI, decide_eq_true (by omega : k < 32), Bool.true_and]
