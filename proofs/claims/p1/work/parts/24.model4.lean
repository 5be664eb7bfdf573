-- the reference: what lasts, what is gone, the best guard, the digest; at a fresh row
def rlT (g : Nat → Int32) (t : Nat) : Nat → Nat → Int32
  | 0 => g
  | k + 1 => if k = 0 then g else rdF (rlT g t k) 558 t
theorem rlT_succ {g : Nat → Int32} {t k : Nat} (h : 1 ≤ k) : rlT g t (k + 1) = rdF (rlT g t k) 558 t := by
  rw [rlT, if_neg (by omega)]
theorem rlT_1 (g : Nat → Int32) (t : Nat) : rlT g t 1 = g := rfl
theorem rlT_ZR {g : Nat → Int32} {t : Nat} (h : ZR g 558) : ∀ k, ZR (rlT g t k) 558
  | 0 => h
  | k + 1 => by
    rw [rlT]
    split
    · exact h
    · exact ZR.rd (rlT_ZR h k)
theorem rlT_FR {g : Nat → Int32} {t : Nat} (h : FR g 0) : ∀ k, FR (rlT g t k) 0
  | 0 => h
  | k + 1 => by
    rw [rlT]
    split
    · exact h
    · exact FR.rd (rlT_FR h k) (by omega)
abbrev cp9 (f : Nat → Int32) : Nat → Int32 := cpT f (62 * 0) (62 * 9) 62
theorem FR.c9 {f : Nat → Int32} (h : FR f 0) : FR (cp9 f) 558 := FR.to (62 * 9) h
theorem FR.c0 {f : Nat → Int32} (h : FR f 0) : FR (cp9 f) 0 := FR.off h (by omega)
def goneM (w : Nat) : Int32 := if w = 0 then 1 else if w = 2 then 1 else 0
def bgB (k : Nat) : Int32 := if k = 0 then -1 else 0
def bgM (k : Nat) : Int32 := if k = 0 then -1 else 16
def gfT (f : Nat → Int32) : Nat → Nat → Int32
  | 0 => f
  | k + 1 => upd (cp9 (gfT f k)) 574 ((cp9 (gfT f k)) 574 + ((1 : Int32) <<< (nI k &&& 31)))
theorem gfT_FR {f : Nat → Int32} (h : FR f 0) : ∀ k, FR (gfT f k) 0
  | 0 => h
  | k + 1 => FR.upd (FR.c0 (gfT_FR h k)) (by omega)
def mtF (f : Nat → Int32) : Nat → Nat → Int32
  | 0 => f
  | k + 1 => rlT (cp9 (mtF f k)) k 100
theorem mtF_FR {f : Nat → Int32} (h : FR f 0) : ∀ k, FR (mtF f k) 0
  | 0 => h
  | k + 1 => rlT_FR (FR.c0 (mtF_FR h k)) 100
def gnF (f : Nat → Int32) : Nat → Nat → Int32
  | 0 => f
  | k + 1 => stF (cp9 (gnF f k)) 558
theorem gnF_FR {f : Nat → Int32} (h : FR f 0) : ∀ k, FR (gnF f k) 0
  | 0 => h
  | k + 1 => FR.st (FR.c0 (gnF_FR h k)) (by omega)
def mixF (h v : Int64) : Int64 := 31 * h + v
def mzZ (h : Int64) : Nat → Int64
  | 0 => h
  | n + 1 => mixF (mzZ h n) (i2lF 0)
theorem mzZ_0 (h : Int64) : mzZ h 0 = h := rfl
def mzT (h : Int64) : Nat → Int64
  | 0 => h
  | k + 1 => mixF (mzZ (mzT h k) 8) (i2lF (-1))
def mzC (h : Int64) : Nat → Int64
  | 0 => h
  | k + 1 => mixF (mzC h k) (i2lF (countM 0 k))
def mzM (h : Int64) : Nat → Int64
  | 0 => h
  | k + 1 => mixF (mzM h k) (i2lF (f0J (27 + k)))
def mzL (h : Int64) : Nat → Int64
  | 0 => h
  | k + 1 => mixF (mzL h k) (i2lF (-1))
def mzG (h : Int64) : Nat → Int64
  | 0 => h
  | k + 1 => mixF (mzG h k) (i2lF (goneM k))
set_option maxHeartbeats 4000000 in
set_option maxRecDepth 100000 in
theorem c_X5_readingsLeft (l : Launch) (D : va_G) (cA : Nat → ClassId) (H : Heap) (a : Nat → Nat) (th : Int32) (f kp tx wo : Nat → Int32) (hs : Int64) (hF : FR f 0) (t : Nat) (ht : t < 16) (hP0 : va_P D vwCl (wMd cA a (th, f, 0, kp, tx, 0, wo, 0, 0, hs)) H) (hD0 : va_D (fun _ => True) (wMd cA a (th, f, 0, kp, tx, 0, wo, 0, 0, hs))) : MU l yX5_readingsLeft wsX5_readingsLeft ({ frames := 7, cells := 0, slots := 0, locals := 169 } : Room) D cA [.ref (a 0), .int (nI t)] H (wMd cA a (th, f, 0, kp, tx, 0, wo, 0, 0, hs)) (wMd cA a (th, (rlT (cpT f (62 * 0) (62 * 9) 62) t 100), 0, kp, tx, 0, wo, 0, 0, hs)) (some (.int (-1))) := by
  refine Met.ofW (cc := cX5_readingsLeft) (maxL := 4) (ret := (some .int)) (by decide) rfl ?_
  intro p e s m args below meth c s₁ B hml hv
  obtain ⟨rfl, hH, hKN⟩ := hv
  have hK := hKN.1
  have hx := B.exec
  have hb := B.bytes
  have hr := B.returns
  have hts := atoms_spec (ws := wsX5_readingsLeft) B.pre
  have hown : s.vm.findClass RX5 = some m.cls := findClass_of_methodNamed B.named
  have hlocks := B.notSynchronized
  subst hH
  have hD := hD0.self (sz := s.heap.size)
  generalize hAe : va_A (wMd cA a (th, f, 0, kp, tx, 0, wo, 0, 0, hs)) s.heap.size = A at hD ⊢
  have hA : ∀ q : Nat, s.heap.size ≤ q → A q := fun q h => by rw [← hAe]; exact Or.inr h
  have hS : va_S A s.heap s.heap [] := va_S.rf
  have hP : va_P D vwCl (wMd cA a (th, f, 0, kp, tx, 0, wo, 0, 0, hs)) s.heap := hP0
  have hl := lv_entry ([.ref (a 0), .int (nI t)] : List Value) (n := 4) (Nat.le_of_ble_eq_true rfl)
  rw [lg_entry_eq]
  generalize (lg_sl ([.ref (a 0), .int (nI t)] : List Value) ++ List.replicate (4 - (lg_sl ([.ref (a 0), .int (nI t)] : List Value)).length) Slot.unset).toArray = ls at hl ⊢
  have hl : lv_has ls 4 [(0, .ref (a 0)), (1, .int (nI t))] := hl
  refine lv_aload_n hx hb dX5_readingsLeft_0 rfl (lv_at hl 0 rfl) ?_
  refine lv_iconst (v := 0) hx hb dX5_readingsLeft_1 (by decide) ?_
  refine lv_iload_n hx hb dX5_readingsLeft_2 rfl (lv_at hl 1 rfl) ?_
  refine ro_V (ci := 5) (q0 := 0) (As := [.int 0, .int (nI t)]) (rest := []) ⟨hx, hb, hml, hown, hts⟩ (c_X5_wordOf l D cA _ a (th, f, 0, kp, tx, 0, wo, 0, 0, hs) 0 (by omega) t (by omega) hF.ZR hP) (cwV 2 hts gX5_readingsLeft_X5_wordOf rfl rfl rfl (by decide +kernel) ⟨Nat.le_of_ble_eq_true rfl, Nat.le_of_ble_eq_true rfl⟩) hKN hP rfl rfl rfl hl.1 rfl (lv_room (Nat.le_of_ble_eq_true rfl)) dX5_readingsLeft_3 ⟨Nat.zero_le _, Nat.zero_le _⟩ ?_
  refine lv_istore_n (lv' := [(2, .int 0), (0, .ref (a 0)), (1, .int (nI t))]) hx hb dX5_readingsLeft_6 rfl hl (by decide) rfl (fun ls hl => ?_)
  refine lv_aload_n hx hb dX5_readingsLeft_7 rfl (lv_at hl 1 rfl) ?_
  refine lv_iconst (v := 0) hx hb dX5_readingsLeft_8 (by decide) ?_
  refine lv_bipush (v := 9) hx hb dX5_readingsLeft_9 (by decide) ?_
  refine mu_V (ci := 5) (q0 := 0) (As := [.int 0, .int 9]) (rest := []) (ws' := (wMd cA a (th, (cpT f (62 * 0) (62 * 9) 62), 0, kp, tx, 0, wo, 0, 0, hs))) ⟨hx, hb, hml, hown, hts⟩ (c_X5_copies l D cA _ a (th, f, 0, kp, tx, 0, wo, 0, 0, hs) 0 9 (by omega) (by omega) (by omega) hP (hD.weaken (fun _ _ _ _ => trivial))) (cwV 2 hts gX5_readingsLeft_X5_copies rfl rfl rfl (by decide +kernel) ⟨Nat.le_of_ble_eq_true rfl, Nat.le_of_ble_eq_true rfl⟩) hKN hP hD hS hA rfl rfl [0, 1, 2, 3, 4] rfl ((wMd_fst _ _ _).trans (wMd_fst _ _ _).symm) rfl rfl hl.1 rfl (lv_room (Nat.le_of_ble_eq_true rfl)) dX5_readingsLeft_11 ⟨Nat.zero_le _, Nat.zero_le _⟩ (fun H locs hP hD hS => ?_)
  refine lv_iconst (v := 1) hx hb dX5_readingsLeft_14 (by decide) ?_
  refine lv_istore_n (lv' := [(3, .int 1), (2, .int 0), (0, .ref (a 0)), (1, .int (nI t))]) hx hb dX5_readingsLeft_15 rfl hl (by decide) rfl (fun ls hl => ?_)
  have loop16 : ∀ (n16 k16 : Nat), k16 + n16 = 100 → ∀ (H : Heap) (locs : List Loc), va_P D vwCl (wMd cA a (th, (rlT (cpT f (62 * 0) (62 * 9) 62) t k16), 0, kp, tx, 0, wo, 0, 0, hs)) H → va_D A (wMd cA a (th, (rlT (cpT f (62 * 0) (62 * 9) 62) t k16), 0, kp, tx, 0, wo, 0, 0, hs)) → va_S A s.heap H locs → 1 ≤ k16 → ∀ (ls : Array Slot), lv_has ls 4 [(3, .int (nI k16)), (2, .int 0), (0, .ref (a 0)), (1, .int (nI t))] → W p l e ({ frames := 7, cells := 0, slots := 0, locals := 169 } : Room) s m ([.ref (a 0), .int (nI t)] : List Value).toArray below meth c H locs 0 0 (MQ below (muQ D s.heap (wMd cA a (th, f, 0, kp, tx, 0, wo, 0, 0, hs)) (wMd cA a (th, (rlT (cpT f (62 * 0) (62 * 9) 62) t 100), 0, kp, tx, 0, wo, 0, 0, hs)) (some (.int (-1)))) ([.ref (a 0), .int (nI t)] : List Value).toArray s 0 0 A) (F0 m 16 ls []) := by
    intro n16
    induction n16 with
    | zero =>
      intro k16 hk16 H locs hP hD hS hq16 ls hl
      obtain rfl : 100 = k16 := by omega
      refine lv_iload_n hx hb dX5_readingsLeft_16 rfl (lv_at hl 0 rfl) ?_
      refine lv_bipush (v := 100) hx hb dX5_readingsLeft_17 (by decide) ?_
      refine lv_icmp_ge (tgt := 51) hx hb dX5_readingsLeft_19 (by decide) (fun _ => ?_) (fun h => absurd (by decide) h)
      refine lv_iconst (v := (-1)) hx hb dX5_readingsLeft_51 (by decide) ?_
      exact mu_iret hx hb hr hlocks dX5_readingsLeft_52 hAe hS hP rfl
    | succ n16 ih16 =>
      intro k16 hk16 H locs hP hD hS hq16 ls hl
      have hlt16 : k16 < 100 := by omega
      refine lv_iload_n hx hb dX5_readingsLeft_16 rfl (lv_at hl 0 rfl) ?_
      refine lv_bipush (v := 100) hx hb dX5_readingsLeft_17 (by decide) ?_
      refine lv_icmp_ge (tgt := 51) hx hb dX5_readingsLeft_19 (by decide) (fun h => absurd h (nI_ge hlt16 (by first | decide | omega))) (fun _ => ?_)
      refine lv_aload_n hx hb dX5_readingsLeft_22 rfl (lv_at hl 2 rfl) ?_
      refine lv_sipush (v := 558) hx hb dX5_readingsLeft_23 (by decide) ?_
      refine lv_iload_n hx hb dX5_readingsLeft_26 rfl (lv_at hl 3 rfl) ?_
      refine mu_V (ci := 5) (q0 := 0) (As := [.int 558, .int (nI t)]) (rest := []) (ws' := (wMd cA a (th, (rdF (rlT (cpT f (62 * 0) (62 * 9) 62) t k16) 558 t), 0, kp, tx, 0, wo, 0, 0, hs))) ⟨hx, hb, hml, hown, hts⟩ (c_X5_reads l D cA _ a (th, (rlT (cpT f (62 * 0) (62 * 9) 62) t k16), 0, kp, tx, 0, wo, 0, 0, hs) 558 (by omega) t (by omega) (rlT_ZR hF.c9.ZR k16) hP (hD.weaken (fun _ _ _ _ => trivial))) (cwV 2 hts gX5_readingsLeft_X5_reads rfl rfl rfl (by decide +kernel) ⟨Nat.le_of_ble_eq_true rfl, Nat.le_of_ble_eq_true rfl⟩) hKN hP hD hS hA rfl rfl [0, 1, 2, 3, 4] rfl ((wMd_fst _ _ _).trans (wMd_fst _ _ _).symm) rfl rfl hl.1 rfl (lv_room (Nat.le_of_ble_eq_true rfl)) dX5_readingsLeft_27 ⟨Nat.zero_le _, Nat.zero_le _⟩ (fun H locs hP hD hS => ?_)
      refine lv_pop hx hb dX5_readingsLeft_30 rfl ?_
      refine lv_aload_n hx hb dX5_readingsLeft_31 rfl (lv_at hl 2 rfl) ?_
      refine lv_sipush (v := 558) hx hb dX5_readingsLeft_32 (by decide) ?_
      refine lv_iload_n hx hb dX5_readingsLeft_35 rfl (lv_at hl 3 rfl) ?_
      refine ro_V (ci := 5) (q0 := 0) (As := [.int 558, .int (nI t)]) (rest := []) ⟨hx, hb, hml, hown, hts⟩ (c_X5_wordOf l D cA _ a (th, (rdF (rlT (cpT f (62 * 0) (62 * 9) 62) t k16) 558 t), 0, kp, tx, 0, wo, 0, 0, hs) 558 (by omega) t (by omega) (ZR.rd (rlT_ZR hF.c9.ZR k16)) hP) (cwV 2 hts gX5_readingsLeft_X5_wordOf rfl rfl rfl (by decide +kernel) ⟨Nat.le_of_ble_eq_true rfl, Nat.le_of_ble_eq_true rfl⟩) hKN hP rfl rfl rfl hl.1 rfl (lv_room (Nat.le_of_ble_eq_true rfl)) dX5_readingsLeft_36 ⟨Nat.zero_le _, Nat.zero_le _⟩ ?_
      refine lv_iload_n hx hb dX5_readingsLeft_39 rfl (lv_at hl 1 rfl) ?_
      refine lv_icmp_eq (tgt := 45) hx hb dX5_readingsLeft_40 (by decide) (fun _ => ?_) (fun h => absurd (by decide) h)
      refine lv_iinc (v := (nI (k16 + 1))) (lv' := [(3, .int (nI (k16 + 1))), (2, .int 0), (0, .ref (a 0)), (1, .int (nI t))]) hx hb dX5_readingsLeft_45 hl (k := 0) rfl (nI_1 _) (by decide) rfl (fun ls hl => ?_)
      refine lv_goto (tgt := 16) hx hb dX5_readingsLeft_48 (by decide) ?_
      have e_1 : (rlT (cpT f (62 * 0) (62 * 9) 62) t (k16 + 1)) = (rdF (rlT (cpT f (62 * 0) (62 * 9) 62) t k16) 558 t) := (rlT_succ hq16)
      exact ih16 (k16 + 1) (by omega) _ _ (by rw [e_1]; exact hP) (by rw [e_1]; exact hD) hS (by omega) ls (lv_sub hl [0, 1, 2, 3] rfl)
  exact loop16 (100 - 1) 1 (by omega) _ _ (by rw [rlT_1]; exact hP) (by rw [rlT_1]; exact hD) hS (by omega) ls (lv_sub hl [0, 1, 2, 3] rfl)
theorem mX5_gone_f7 : Cond.fieldLink RX5 7 "WireLoomModel" "s" "[I" ∈ wsX5_gone := by decide +kernel
set_option maxRecDepth 20000 in
theorem iX5_gone_X5 : ∀ w ∈ wsX50, w ∈ wsX5_gone := by decide +kernel
set_option maxHeartbeats 4000000 in
set_option maxRecDepth 100000 in
theorem c_X5_gone (l : Launch) (D : va_G) (cA : Nat → ClassId) (H : Heap) (a : Nat → Nat) (th : Int32) (f kp tx wo : Nat → Int32) (hs : Int64) (hF : FR f 0) (st : Nat) (hst : 1 ≤ st) (hst2 : st ≤ 99) (w : Nat) (hw : w < 4) (hP0 : va_P D vwCl (wMd cA a (th, f, 0, kp, tx, 0, wo, 0, 0, hs)) H) (hD0 : va_D (fun _ => True) (wMd cA a (th, f, 0, kp, tx, 0, wo, 0, 0, hs))) : MU l yX5_gone wsX5_gone ({ frames := 9, cells := 0, slots := 0, locals := 216 } : Room) D cA [.ref (a 0), .int (nI st), .int (nI w)] H (wMd cA a (th, f, 0, kp, tx, 0, wo, 0, 0, hs)) (wMd cA a (th, (stF (cpT f (62 * 0) (62 * 9) 62) 558), 0, kp, tx, 0, wo, 0, 0, hs)) (some (.int (goneM w))) := by
  refine Met.ofW (cc := cX5_gone) (maxL := 4) (ret := (some .int)) (by decide) rfl ?_
  intro p e s m args below meth c s₁ B hml hv
  obtain ⟨rfl, hH, hKN⟩ := hv
  have hK := hKN.1
  have hx := B.exec
  have hb := B.bytes
  have hr := B.returns
  have hts := atoms_spec (ws := wsX5_gone) B.pre
  have hown : s.vm.findClass RX5 = some m.cls := findClass_of_methodNamed B.named
  have hlocks := B.notSynchronized
  subst hH
  have hD := hD0.self (sz := s.heap.size)
  generalize hAe : va_A (wMd cA a (th, f, 0, kp, tx, 0, wo, 0, 0, hs)) s.heap.size = A at hD ⊢
  have hA : ∀ q : Nat, s.heap.size ≤ q → A q := fun q h => by rw [← hAe]; exact Or.inr h
  have hS : va_S A s.heap s.heap [] := va_S.rf
  have hP : va_P D vwCl (wMd cA a (th, f, 0, kp, tx, 0, wo, 0, 0, hs)) s.heap := hP0
  have hl := lv_entry ([.ref (a 0), .int (nI st), .int (nI w)] : List Value) (n := 4) (Nat.le_of_ble_eq_true rfl)
  rw [lg_entry_eq]
  generalize (lg_sl ([.ref (a 0), .int (nI st), .int (nI w)] : List Value) ++ List.replicate (4 - (lg_sl ([.ref (a 0), .int (nI st), .int (nI w)] : List Value)).length) Slot.unset).toArray = ls at hl ⊢
  have hl : lv_has ls 4 [(0, .ref (a 0)), (1, .int (nI st)), (2, .int (nI w))] := hl
  refine lv_aload_n hx hb dX5_gone_0 rfl (lv_at hl 0 rfl) ?_
  refine lv_iconst (v := 0) hx hb dX5_gone_1 (by decide) ?_
  refine lv_bipush (v := 9) hx hb dX5_gone_2 (by decide) ?_
  refine mu_V (ci := 5) (q0 := 0) (As := [.int 0, .int 9]) (rest := []) (ws' := (wMd cA a (th, (cpT f (62 * 0) (62 * 9) 62), 0, kp, tx, 0, wo, 0, 0, hs))) ⟨hx, hb, hml, hown, hts⟩ (c_X5_copies l D cA _ a (th, f, 0, kp, tx, 0, wo, 0, 0, hs) 0 9 (by omega) (by omega) (by omega) hP (hD.weaken (fun _ _ _ _ => trivial))) (cwV 2 hts gX5_gone_X5_copies rfl rfl rfl (by decide +kernel) ⟨Nat.le_of_ble_eq_true rfl, Nat.le_of_ble_eq_true rfl⟩) hKN hP hD hS hA rfl rfl [0, 1, 2, 3, 4] rfl ((wMd_fst _ _ _).trans (wMd_fst _ _ _).symm) rfl rfl hl.1 rfl (lv_room (Nat.le_of_ble_eq_true rfl)) dX5_gone_4 ⟨Nat.zero_le _, Nat.zero_le _⟩ (fun H locs hP hD hS => ?_)
  refine lv_aload_n hx hb dX5_gone_7 rfl (lv_at hl 0 rfl) ?_
  refine lv_sipush (v := 558) hx hb dX5_gone_8 (by decide) ?_
  refine lv_iload_n hx hb dX5_gone_11 rfl (lv_at hl 1 rfl) ?_
  refine mu_V (ci := 5) (q0 := 0) (As := [.int 558, .int (nI st)]) (rest := []) (ws' := (wMd cA a (th, (stF (cpT f (62 * 0) (62 * 9) 62) 558), 0, kp, tx, 0, wo, 0, 0, hs))) ⟨hx, hb, hml, hown, hts⟩ (c_X5_goes l D cA _ a (th, (cpT f (62 * 0) (62 * 9) 62), 0, kp, tx, 0, wo, 0, 0, hs) 558 (by omega) hF.c9.ZR ((hF.c9 27 (by omega)).trans rfl) ((hF.c9 33 (by omega)).trans rfl) st (by omega) (by omega) hP (hD.weaken (fun _ _ _ _ => trivial))) (cwV 2 hts gX5_gone_X5_goes rfl rfl rfl (by decide +kernel) ⟨Nat.le_of_ble_eq_true rfl, Nat.le_of_ble_eq_true rfl⟩) hKN hP hD hS hA rfl rfl [0, 1, 2, 3, 4] rfl ((wMd_fst _ _ _).trans (wMd_fst _ _ _).symm) rfl rfl hl.1 rfl (lv_room (Nat.le_of_ble_eq_true rfl)) dX5_gone_12 ⟨Nat.zero_le _, Nat.zero_le _⟩ (fun H locs hP hD hS => ?_)
  refine lv_istore_n (lv' := [(3, .int 1), (0, .ref (a 0)), (1, .int (nI st)), (2, .int (nI w))]) hx hb dX5_gone_15 rfl hl (by decide) rfl (fun ls hl => ?_)
  refine lv_iload_n hx hb dX5_gone_16 rfl (lv_at hl 3 rfl) ?_
  have hs_17 : w = 0 ∨ w = 1 ∨ w = 2 ∨ w = 3 := (by omega)
  rcases hs_17 with hs_17 | hs_17 | hs_17 | hs_17
  · refine lz_top (v := 0) (by rw [hs_17]; rfl) ?_
    refine lv_if_ne (tgt := 24) hx hb dX5_gone_17 (by decide) (fun h => absurd (by decide) h) (fun _ => ?_)
    refine lv_iload_n hx hb dX5_gone_20 rfl (lv_at hl 0 rfl) ?_
    refine lv_goto (tgt := 72) hx hb dX5_gone_21 (by decide) ?_
    exact mu_iret hx hb hr hlocks dX5_gone_72 hAe hS hP (by rw [hs_17]; rfl)
  · refine lz_top (v := 1) (by rw [hs_17]; rfl) ?_
    refine lv_if_ne (tgt := 24) hx hb dX5_gone_17 (by decide) (fun _ => ?_) (fun h => absurd h (by decide))
    refine lv_iload_n hx hb dX5_gone_24 rfl (lv_at hl 3 rfl) ?_
    refine lz_top (v := 1) (by rw [hs_17]; rfl) ?_
    refine lv_iconst (v := 1) hx hb dX5_gone_25 (by decide) ?_
    refine lv_icmp_ne (tgt := 40) hx hb dX5_gone_26 (by decide) (fun h => absurd (by decide) h) (fun _ => ?_)
    refine lv_aload_n hx hb dX5_gone_29 rfl (lv_at hl 1 rfl) ?_
    refine va_get (D := D) (ci := 5) (v := .ref (a 1)) (C := RX5) (T := TX5) (N := 10) hx hb hts iX5_gone_X5 hown hK hP 0 rfl rfl 1 (by decide) (hts _ mX5_gone_f7) (fun _ h9 => h9) rfl dX5_gone_30 ?_
    refine lv_sipush (v := 586) hx hb dX5_gone_33 (by decide) ?_
    refine lz_iald (k := 586) (f := (stF (cpT f (62 * 0) (62 * 9) 62) 558)) hx hb hK hP 1 0 rfl rfl ⟨by decide, by decide⟩ dX5_gone_36 ?_
    refine lz_top (v := 0) ((st_ne (f := cp9 f) (b := 558) (j := 586) (by omega)).trans ((hF.c9 28 (by omega)).trans rfl)) ?_
    refine lv_goto (tgt := 72) hx hb dX5_gone_37 (by decide) ?_
    exact mu_iret hx hb hr hlocks dX5_gone_72 hAe hS hP (by rw [hs_17]; rfl)
  · refine lz_top (v := 2) (by rw [hs_17]; rfl) ?_
    refine lv_if_ne (tgt := 24) hx hb dX5_gone_17 (by decide) (fun _ => ?_) (fun h => absurd h (by decide))
    refine lv_iload_n hx hb dX5_gone_24 rfl (lv_at hl 3 rfl) ?_
    refine lz_top (v := 2) (by rw [hs_17]; rfl) ?_
    refine lv_iconst (v := 1) hx hb dX5_gone_25 (by decide) ?_
    refine lv_icmp_ne (tgt := 40) hx hb dX5_gone_26 (by decide) (fun _ => ?_) (fun h => absurd h (by decide))
    refine lv_iload_n hx hb dX5_gone_40 rfl (lv_at hl 3 rfl) ?_
    refine lz_top (v := 2) (by rw [hs_17]; rfl) ?_
    refine lv_iconst (v := 2) hx hb dX5_gone_41 (by decide) ?_
    refine lv_icmp_ne (tgt := 56) hx hb dX5_gone_42 (by decide) (fun h => absurd (by decide) h) (fun _ => ?_)
    refine lv_aload_n hx hb dX5_gone_45 rfl (lv_at hl 1 rfl) ?_
    refine va_get (D := D) (ci := 5) (v := .ref (a 1)) (C := RX5) (T := TX5) (N := 10) hx hb hts iX5_gone_X5 hown hK hP 0 rfl rfl 1 (by decide) (hts _ mX5_gone_f7) (fun _ h9 => h9) rfl dX5_gone_46 ?_
    refine lv_sipush (v := 585) hx hb dX5_gone_49 (by decide) ?_
    refine lz_iald (k := 585) (f := (stF (cpT f (62 * 0) (62 * 9) 62) 558)) hx hb hK hP 1 0 rfl rfl ⟨by decide, by decide⟩ dX5_gone_52 ?_
    refine lz_top (v := 1) (st_27 (b := 558)) ?_
    refine lv_goto (tgt := 72) hx hb dX5_gone_53 (by decide) ?_
    exact mu_iret hx hb hr hlocks dX5_gone_72 hAe hS hP (by rw [hs_17]; rfl)
  · refine lz_top (v := 3) (by rw [hs_17]; rfl) ?_
    refine lv_if_ne (tgt := 24) hx hb dX5_gone_17 (by decide) (fun _ => ?_) (fun h => absurd h (by decide))
    refine lv_iload_n hx hb dX5_gone_24 rfl (lv_at hl 3 rfl) ?_
    refine lz_top (v := 3) (by rw [hs_17]; rfl) ?_
    refine lv_iconst (v := 1) hx hb dX5_gone_25 (by decide) ?_
    refine lv_icmp_ne (tgt := 40) hx hb dX5_gone_26 (by decide) (fun _ => ?_) (fun h => absurd h (by decide))
    refine lv_iload_n hx hb dX5_gone_40 rfl (lv_at hl 3 rfl) ?_
    refine lz_top (v := 3) (by rw [hs_17]; rfl) ?_
    refine lv_iconst (v := 2) hx hb dX5_gone_41 (by decide) ?_
    refine lv_icmp_ne (tgt := 56) hx hb dX5_gone_42 (by decide) (fun _ => ?_) (fun h => absurd h (by decide))
    refine lv_aload_n hx hb dX5_gone_56 rfl (lv_at hl 1 rfl) ?_
    refine va_get (D := D) (ci := 5) (v := .ref (a 1)) (C := RX5) (T := TX5) (N := 10) hx hb hts iX5_gone_X5 hown hK hP 0 rfl rfl 1 (by decide) (hts _ mX5_gone_f7) (fun _ h9 => h9) rfl dX5_gone_57 ?_
    refine lv_sipush (v := 593) hx hb dX5_gone_60 (by decide) ?_
    refine lz_iald (k := 593) (f := (stF (cpT f (62 * 0) (62 * 9) 62) 558)) hx hb hK hP 1 0 rfl rfl ⟨by decide, by decide⟩ dX5_gone_63 ?_
    refine lz_top (v := 0) ((st_ne (f := cp9 f) (b := 558) (j := 593) (by omega)).trans ((hF.c9 35 (by omega)).trans rfl)) ?_
    refine lv_aload_n hx hb dX5_gone_64 rfl (lv_at hl 1 rfl) ?_
    refine va_get (D := D) (ci := 5) (v := .ref (a 1)) (C := RX5) (T := TX5) (N := 10) hx hb hts iX5_gone_X5 hown hK hP 0 rfl rfl 1 (by decide) (hts _ mX5_gone_f7) (fun _ h9 => h9) rfl dX5_gone_65 ?_
    refine lv_bipush (v := 35) hx hb dX5_gone_68 (by decide) ?_
    refine lz_iald (k := 35) (f := (stF (cpT f (62 * 0) (62 * 9) 62) 558)) hx hb hK hP 1 0 rfl rfl ⟨by decide, by decide⟩ dX5_gone_70 ?_
    refine lz_top (v := 0) ((st_ne (f := cp9 f) (b := 558) (j := 35) (by omega)).trans (hF.c0.z (by omega) (by omega) (by omega))) ?_
    refine lz_isub (v := 0) hx hb dX5_gone_71 (by decide) ?_
    exact mu_iret hx hb hr hlocks dX5_gone_72 hAe hS hP (by rw [hs_17]; rfl)
theorem mX5_guardFound_f7 : Cond.fieldLink RX5 7 "WireLoomModel" "s" "[I" ∈ wsX5_guardFound := by decide +kernel
set_option maxRecDepth 20000 in
theorem iX5_guardFound_X5 : ∀ w ∈ wsX50, w ∈ wsX5_guardFound := by decide +kernel
set_option maxHeartbeats 4000000 in
set_option maxRecDepth 100000 in
theorem c_X5_guardFound (l : Launch) (D : va_G) (cA : Nat → ClassId) (H : Heap) (a : Nat → Nat) (th : Int32) (f kp tx wo : Nat → Int32) (hs : Int64) (hF : FR f 0) (hP0 : va_P D vwCl (wMd cA a (th, f, 0, kp, tx, 0, wo, 0, 0, hs)) H) (hD0 : va_D (fun _ => True) (wMd cA a (th, f, 0, kp, tx, 0, wo, 0, 0, hs))) : MU l yX5_guardFound wsX5_guardFound ({ frames := 7, cells := 0, slots := 0, locals := 168 } : Room) D cA [.ref (a 0)] H (wMd cA a (th, f, 0, kp, tx, 0, wo, 0, 0, hs)) (wMd cA a (th, (gfT f 16), 0, kp, tx, 0, wo, 0, 0, hs)) (some (.int (bgB 16))) := by
  refine Met.ofW (cc := cX5_guardFound) (maxL := 5) (ret := (some .int)) (by decide) rfl ?_
  intro p e s m args below meth c s₁ B hml hv
  obtain ⟨rfl, hH, hKN⟩ := hv
  have hK := hKN.1
  have hx := B.exec
  have hb := B.bytes
  have hr := B.returns
  have hts := atoms_spec (ws := wsX5_guardFound) B.pre
  have hown : s.vm.findClass RX5 = some m.cls := findClass_of_methodNamed B.named
  have hlocks := B.notSynchronized
  subst hH
  have hD := hD0.self (sz := s.heap.size)
  generalize hAe : va_A (wMd cA a (th, f, 0, kp, tx, 0, wo, 0, 0, hs)) s.heap.size = A at hD ⊢
  have hA : ∀ q : Nat, s.heap.size ≤ q → A q := fun q h => by rw [← hAe]; exact Or.inr h
  have hS : va_S A s.heap s.heap [] := va_S.rf
  have hP : va_P D vwCl (wMd cA a (th, f, 0, kp, tx, 0, wo, 0, 0, hs)) s.heap := hP0
  have hl := lv_entry ([.ref (a 0)] : List Value) (n := 5) (Nat.le_of_ble_eq_true rfl)
  rw [lg_entry_eq]
  generalize (lg_sl ([.ref (a 0)] : List Value) ++ List.replicate (5 - (lg_sl ([.ref (a 0)] : List Value)).length) Slot.unset).toArray = ls at hl ⊢
  have hl : lv_has ls 5 [(0, .ref (a 0))] := hl
  refine lv_iconst (v := (-1)) hx hb dX5_guardFound_0 (by decide) ?_
  refine lv_istore_n (lv' := [(1, .int (-1)), (0, .ref (a 0))]) hx hb dX5_guardFound_1 rfl hl (by decide) rfl (fun ls hl => ?_)
  refine lv_iconst (v := (-1)) hx hb dX5_guardFound_2 (by decide) ?_
  refine lv_istore_n (lv' := [(2, .int (-1)), (1, .int (-1)), (0, .ref (a 0))]) hx hb dX5_guardFound_3 rfl hl (by decide) rfl (fun ls hl => ?_)
  refine lv_iconst (v := 0) hx hb dX5_guardFound_4 (by decide) ?_
  refine lv_istore_n (lv' := [(3, .int 0), (2, .int (-1)), (1, .int (-1)), (0, .ref (a 0))]) hx hb dX5_guardFound_5 rfl hl (by decide) rfl (fun ls hl => ?_)
  have loop6 : ∀ (n6 k6 : Nat), k6 + n6 = 16 → ∀ (H : Heap) (locs : List Loc), va_P D vwCl (wMd cA a (th, (gfT f k6), 0, kp, tx, 0, wo, 0, 0, hs)) H → va_D A (wMd cA a (th, (gfT f k6), 0, kp, tx, 0, wo, 0, 0, hs)) → va_S A s.heap H locs → ∀ (ls : Array Slot), lv_has ls 5 [(3, .int (nI k6)), (2, .int (bgM k6)), (1, .int (bgB k6)), (0, .ref (a 0))] → W p l e ({ frames := 7, cells := 0, slots := 0, locals := 168 } : Room) s m ([.ref (a 0)] : List Value).toArray below meth c H locs 0 0 (MQ below (muQ D s.heap (wMd cA a (th, f, 0, kp, tx, 0, wo, 0, 0, hs)) (wMd cA a (th, (gfT f 16), 0, kp, tx, 0, wo, 0, 0, hs)) (some (.int (bgB 16)))) ([.ref (a 0)] : List Value).toArray s 0 0 A) (F0 m 6 ls []) := by
    intro n6
    induction n6 with
    | zero =>
      intro k6 hk6 H locs hP hD hS ls hl
      obtain rfl : 16 = k6 := by omega
      refine lv_iload_n hx hb dX5_guardFound_6 rfl (lv_at hl 0 rfl) ?_
      refine lv_bipush (v := 16) hx hb dX5_guardFound_7 (by decide) ?_
      refine lv_icmp_ge (tgt := 87) hx hb dX5_guardFound_9 (by decide) (fun _ => ?_) (fun h => absurd (by decide) h)
      refine lv_iload_n hx hb dX5_guardFound_87 rfl (lv_at hl 2 rfl) ?_
      exact mu_iret hx hb hr hlocks dX5_guardFound_88 hAe hS hP rfl
    | succ n6 ih6 =>
      intro k6 hk6 H locs hP hD hS ls hl
      have hlt6 : k6 < 16 := by omega
      refine lv_iload_n hx hb dX5_guardFound_6 rfl (lv_at hl 0 rfl) ?_
      refine lv_bipush (v := 16) hx hb dX5_guardFound_7 (by decide) ?_
      refine lv_icmp_ge (tgt := 87) hx hb dX5_guardFound_9 (by decide) (fun h => absurd h (nI_ge hlt6 (by first | decide | omega))) (fun _ => ?_)
      refine lv_aload_n hx hb dX5_guardFound_12 rfl (lv_at hl 3 rfl) ?_
      refine va_get (D := D) (ci := 5) (v := .ref (a 1)) (C := RX5) (T := TX5) (N := 10) hx hb hts iX5_guardFound_X5 hown hK hP 0 rfl rfl 1 (by decide) (hts _ mX5_guardFound_f7) (fun _ h9 => h9) rfl dX5_guardFound_13 ?_
      refine lv_bipush (v := 16) hx hb dX5_guardFound_16 (by decide) ?_
      refine lz_iald (k := 16) (f := (gfT f k6)) hx hb hK hP 1 0 rfl rfl ⟨by decide, by decide⟩ dX5_guardFound_18 ?_
      refine lz_top (v := 0) ((gfT_FR hF k6).z (j := 16) (by omega) (by omega) (by omega)) ?_
      refine lv_iload_n hx hb dX5_guardFound_19 rfl (lv_at hl 0 rfl) ?_
      refine ro_S (As := [.int 0, .int (nI k6)]) (rest := []) ⟨hx, hb, hml, hown, hts⟩ (c_X5_has0 l D cA _ (nI k6)) (cwS2 2 hts gX5_guardFound_X5_has rfl rfl rfl (by decide +kernel) ⟨Nat.le_of_ble_eq_true rfl, Nat.le_of_ble_eq_true rfl⟩) hKN rfl hl.1 rfl (lv_room (Nat.le_of_ble_eq_true rfl)) dX5_guardFound_20 ⟨Nat.zero_le _, Nat.zero_le _⟩ ?_
      refine lv_if_ne (tgt := 81) hx hb dX5_guardFound_23 (by decide) (fun h => absurd (by decide) h) (fun _ => ?_)
      refine lv_aload_n hx hb dX5_guardFound_26 rfl (lv_at hl 3 rfl) ?_
      refine lv_iconst (v := 0) hx hb dX5_guardFound_27 (by decide) ?_
      refine lv_bipush (v := 9) hx hb dX5_guardFound_28 (by decide) ?_
      refine mu_V (ci := 5) (q0 := 0) (As := [.int 0, .int 9]) (rest := []) (ws' := (wMd cA a (th, (cpT (gfT f k6) (62 * 0) (62 * 9) 62), 0, kp, tx, 0, wo, 0, 0, hs))) ⟨hx, hb, hml, hown, hts⟩ (c_X5_copies l D cA _ a (th, (gfT f k6), 0, kp, tx, 0, wo, 0, 0, hs) 0 9 (by omega) (by omega) (by omega) hP (hD.weaken (fun _ _ _ _ => trivial))) (cwV 2 hts gX5_guardFound_X5_copies rfl rfl rfl (by decide +kernel) ⟨Nat.le_of_ble_eq_true rfl, Nat.le_of_ble_eq_true rfl⟩) hKN hP hD hS hA rfl rfl [0, 1, 2, 3, 4] rfl ((wMd_fst _ _ _).trans (wMd_fst _ _ _).symm) rfl rfl hl.1 rfl (lv_room (Nat.le_of_ble_eq_true rfl)) dX5_guardFound_30 ⟨Nat.zero_le _, Nat.zero_le _⟩ (fun H locs hP hD hS => ?_)
      refine lv_aload_n hx hb dX5_guardFound_33 rfl (lv_at hl 3 rfl) ?_
      refine va_get (D := D) (ci := 5) (v := .ref (a 1)) (C := RX5) (T := TX5) (N := 10) hx hb hts iX5_guardFound_X5 hown hK hP 0 rfl rfl 1 (by decide) (hts _ mX5_guardFound_f7) (fun _ h9 => h9) rfl dX5_guardFound_34 ?_
      refine lv_sipush (v := 574) hx hb dX5_guardFound_37 (by decide) ?_
      refine lv_dup2_11 hx hb dX5_guardFound_40 rfl rfl ?_
      refine lz_iald (k := 574) (f := (cpT (gfT f k6) (62 * 0) (62 * 9) 62)) hx hb hK hP 1 0 rfl rfl ⟨by decide, by decide⟩ dX5_guardFound_41 ?_
      refine lv_iconst (v := 1) hx hb dX5_guardFound_42 (by decide) ?_
      refine lv_iload_n hx hb dX5_guardFound_43 rfl (lv_at hl 0 rfl) ?_
      refine lv_ishl hx hb dX5_guardFound_44 ?_
      refine lv_iadd hx hb dX5_guardFound_45 ?_
      refine lz_iast (k := 574) (f := (cpT (gfT f k6) (62 * 0) (62 * 9) 62)) hx hb hK hP hD hS 1 0 rfl rfl ⟨by decide, by decide⟩ dX5_guardFound_46 (fun H locs hP hD hS => ?_)
      have hP : va_P D vwCl (wMd cA a (th, (upd (cpT (gfT f k6) (62 * 0) (62 * 9) 62) 574 (((cpT (gfT f k6) (62 * 0) (62 * 9) 62) 574) + (1 <<< ((nI k6) &&& 31)))), 0, kp, tx, 0, wo, 0, 0, hs)) H := hP
      have hD : va_D A (wMd cA a (th, (upd (cpT (gfT f k6) (62 * 0) (62 * 9) 62) 574 (((cpT (gfT f k6) (62 * 0) (62 * 9) 62) 574) + (1 <<< ((nI k6) &&& 31)))), 0, kp, tx, 0, wo, 0, 0, hs)) := hD
      refine lv_aload_n hx hb dX5_guardFound_47 rfl (lv_at hl 3 rfl) ?_
      refine lv_sipush (v := 558) hx hb dX5_guardFound_48 (by decide) ?_
      refine ro_V (ci := 5) (q0 := 0) (As := [.int 558]) (rest := []) ⟨hx, hb, hml, hown, hts⟩ (c_X5_right l D cA _ a (th, (upd (cpT (gfT f k6) (62 * 0) (62 * 9) 62) 574 (((cpT (gfT f k6) (62 * 0) (62 * 9) 62) 574) + (1 <<< ((nI k6) &&& 31)))), 0, kp, tx, 0, wo, 0, 0, hs) 558 (by omega) (ZR.upd (gfT_FR hF k6).c9.ZR (by omega)) hP) (cwV 1 hts gX5_guardFound_X5_right rfl rfl rfl (by decide +kernel) ⟨Nat.le_of_ble_eq_true rfl, Nat.le_of_ble_eq_true rfl⟩) hKN hP rfl rfl rfl hl.1 rfl (lv_room (Nat.le_of_ble_eq_true rfl)) dX5_guardFound_51 ⟨Nat.zero_le _, Nat.zero_le _⟩ ?_
      refine lv_istore (lv' := [(4, .int 16), (3, .int (nI k6)), (2, .int (bgM k6)), (1, .int (bgB k6)), (0, .ref (a 0))]) hx hb dX5_guardFound_54 hl (by decide) rfl (fun ls hl => ?_)
      refine lv_iload hx hb dX5_guardFound_56 (lv_at hl 0 rfl) ?_
      refine lv_iload_n hx hb dX5_guardFound_58 rfl (lv_at hl 2 rfl) ?_
      refine lv_icmp_le (tgt := 66) hx hb dX5_guardFound_59 (by decide) (fun c_59 => ?_) (fun c_59 => ?_)
      · refine lv_iload_n hx hb dX5_guardFound_66 rfl (lv_at hl 3 rfl) ?_
        refine lv_istore_n (lv' := [(1, .int (bgB k6)), (4, .int 16), (3, .int (nI k6)), (2, .int (bgM k6)), (0, .ref (a 0))]) hx hb dX5_guardFound_67 rfl hl (by decide) rfl (fun ls hl => ?_)
        refine lv_iload hx hb dX5_guardFound_68 (lv_at hl 1 rfl) ?_
        refine lv_iload_n hx hb dX5_guardFound_70 rfl (lv_at hl 3 rfl) ?_
        refine lv_icmp_le (tgt := 79) hx hb dX5_guardFound_71 (by decide) (fun c_71 => ?_) (fun c_71 => ?_)
        · refine lv_iload_n hx hb dX5_guardFound_79 rfl (lv_at hl 3 rfl) ?_
          refine lv_istore_n (lv' := [(2, .int (bgM k6)), (1, .int (bgB k6)), (4, .int 16), (3, .int (nI k6)), (0, .ref (a 0))]) hx hb dX5_guardFound_80 rfl hl (by decide) rfl (fun ls hl => ?_)
          refine lv_iinc (v := (nI (k6 + 1))) (lv' := [(3, .int (nI (k6 + 1))), (2, .int (bgM k6)), (1, .int (bgB k6)), (4, .int 16), (0, .ref (a 0))]) hx hb dX5_guardFound_81 hl (k := 3) rfl (nI_1 _) (by decide) rfl (fun ls hl => ?_)
          refine lv_goto (tgt := 6) hx hb dX5_guardFound_84 (by decide) ?_
          have e_1 : (bgB (k6 + 1)) = (bgB k6) := (by rcases k6 with _ | k6; exact absurd c_59 (by decide); rfl)
          have e_2 : (bgM (k6 + 1)) = (bgM k6) := (by rcases k6 with _ | k6; exact absurd c_71 (by decide); rfl)
          have e_3 : (gfT f (k6 + 1)) = (upd (cpT (gfT f k6) (62 * 0) (62 * 9) 62) 574 (((cpT (gfT f k6) (62 * 0) (62 * 9) 62) 574) + (1 <<< ((nI k6) &&& 31)))) := rfl
          exact ih6 (k6 + 1) (by omega) _ _ (by rw [e_3]; exact hP) (by rw [e_3]; exact hD) hS ls (by rw [e_1, e_2]; exact (lv_sub hl [0, 1, 2, 4] rfl))
        · refine lv_iload hx hb dX5_guardFound_74 (lv_at hl 1 rfl) ?_
          refine lv_goto (tgt := 80) hx hb dX5_guardFound_76 (by decide) ?_
          refine lv_istore_n (lv' := [(2, .int 16), (1, .int (bgB k6)), (4, .int 16), (3, .int (nI k6)), (0, .ref (a 0))]) hx hb dX5_guardFound_80 rfl hl (by decide) rfl (fun ls hl => ?_)
          refine lv_iinc (v := (nI (k6 + 1))) (lv' := [(3, .int (nI (k6 + 1))), (2, .int 16), (1, .int (bgB k6)), (4, .int 16), (0, .ref (a 0))]) hx hb dX5_guardFound_81 hl (k := 3) rfl (nI_1 _) (by decide) rfl (fun ls hl => ?_)
          refine lv_goto (tgt := 6) hx hb dX5_guardFound_84 (by decide) ?_
          have e_4 : (bgB (k6 + 1)) = (bgB k6) := (by rcases k6 with _ | k6; exact absurd c_59 (by decide); rfl)
          have e_5 : (bgM (k6 + 1)) = 16 := (by rcases k6 with _ | k6; rfl; exact absurd (Int32.le_refl 16 : (16 : Int32) ≤ bgM (k6 + 1)) c_71)
          have e_6 : (gfT f (k6 + 1)) = (upd (cpT (gfT f k6) (62 * 0) (62 * 9) 62) 574 (((cpT (gfT f k6) (62 * 0) (62 * 9) 62) 574) + (1 <<< ((nI k6) &&& 31)))) := rfl
          exact ih6 (k6 + 1) (by omega) _ _ (by rw [e_6]; exact hP) (by rw [e_6]; exact hD) hS ls (by rw [e_4, e_5]; exact (lv_sub hl [0, 1, 2, 4] rfl))
      · refine lv_iload_n hx hb dX5_guardFound_62 rfl (lv_at hl 1 rfl) ?_
        refine lv_goto (tgt := 67) hx hb dX5_guardFound_63 (by decide) ?_
        refine lv_istore_n (lv' := [(1, .int (nI k6)), (4, .int 16), (3, .int (nI k6)), (2, .int (bgM k6)), (0, .ref (a 0))]) hx hb dX5_guardFound_67 rfl hl (by decide) rfl (fun ls hl => ?_)
        refine lv_iload hx hb dX5_guardFound_68 (lv_at hl 1 rfl) ?_
        refine lv_iload_n hx hb dX5_guardFound_70 rfl (lv_at hl 3 rfl) ?_
        refine lv_icmp_le (tgt := 79) hx hb dX5_guardFound_71 (by decide) (fun c_71 => ?_) (fun c_71 => ?_)
        · refine lv_iload_n hx hb dX5_guardFound_79 rfl (lv_at hl 3 rfl) ?_
          refine lv_istore_n (lv' := [(2, .int (bgM k6)), (1, .int (nI k6)), (4, .int 16), (3, .int (nI k6)), (0, .ref (a 0))]) hx hb dX5_guardFound_80 rfl hl (by decide) rfl (fun ls hl => ?_)
          refine lv_iinc (v := (nI (k6 + 1))) (lv' := [(3, .int (nI (k6 + 1))), (2, .int (bgM k6)), (1, .int (nI k6)), (4, .int 16), (0, .ref (a 0))]) hx hb dX5_guardFound_81 hl (k := 3) rfl (nI_1 _) (by decide) rfl (fun ls hl => ?_)
          refine lv_goto (tgt := 6) hx hb dX5_guardFound_84 (by decide) ?_
          have e_7 : (bgB (k6 + 1)) = (nI k6) := (by rcases k6 with _ | k6; rfl; exact absurd (Int32.le_refl 16 : (16 : Int32) ≤ bgM (k6 + 1)) c_59)
          have e_8 : (bgM (k6 + 1)) = (bgM k6) := (by rcases k6 with _ | k6; exact absurd c_71 (by decide); rfl)
          have e_9 : (gfT f (k6 + 1)) = (upd (cpT (gfT f k6) (62 * 0) (62 * 9) 62) 574 (((cpT (gfT f k6) (62 * 0) (62 * 9) 62) 574) + (1 <<< ((nI k6) &&& 31)))) := rfl
          exact ih6 (k6 + 1) (by omega) _ _ (by rw [e_9]; exact hP) (by rw [e_9]; exact hD) hS ls (by rw [e_7, e_8]; exact (lv_sub hl [0, 1, 2, 4] rfl))
        · refine lv_iload hx hb dX5_guardFound_74 (lv_at hl 1 rfl) ?_
          refine lv_goto (tgt := 80) hx hb dX5_guardFound_76 (by decide) ?_
          refine lv_istore_n (lv' := [(2, .int 16), (1, .int (nI k6)), (4, .int 16), (3, .int (nI k6)), (0, .ref (a 0))]) hx hb dX5_guardFound_80 rfl hl (by decide) rfl (fun ls hl => ?_)
          refine lv_iinc (v := (nI (k6 + 1))) (lv' := [(3, .int (nI (k6 + 1))), (2, .int 16), (1, .int (nI k6)), (4, .int 16), (0, .ref (a 0))]) hx hb dX5_guardFound_81 hl (k := 3) rfl (nI_1 _) (by decide) rfl (fun ls hl => ?_)
          refine lv_goto (tgt := 6) hx hb dX5_guardFound_84 (by decide) ?_
          have e_10 : (bgB (k6 + 1)) = (nI k6) := (by rcases k6 with _ | k6; rfl; exact absurd (Int32.le_refl 16 : (16 : Int32) ≤ bgM (k6 + 1)) c_59)
          have e_11 : (bgM (k6 + 1)) = 16 := (by rcases k6 with _ | k6; rfl; exact absurd (Int32.le_refl 16 : (16 : Int32) ≤ bgM (k6 + 1)) c_71)
          have e_12 : (gfT f (k6 + 1)) = (upd (cpT (gfT f k6) (62 * 0) (62 * 9) 62) 574 (((cpT (gfT f k6) (62 * 0) (62 * 9) 62) 574) + (1 <<< ((nI k6) &&& 31)))) := rfl
          exact ih6 (k6 + 1) (by omega) _ _ (by rw [e_12]; exact hP) (by rw [e_12]; exact hD) hS ls (by rw [e_10, e_11]; exact (lv_sub hl [0, 1, 2, 4] rfl))
  exact loop6 16 0 (by omega) _ _ hP hD hS ls (lv_sub hl [0, 1, 2, 3] rfl)
theorem mX5_bestGuard_f23 : Cond.fieldLink RX5 23 "WireLoomModel" "thrown" "I" ∈ wsX5_bestGuard := by decide +kernel
set_option maxRecDepth 20000 in
theorem iX5_bestGuard_X5 : ∀ w ∈ wsX50, w ∈ wsX5_bestGuard := by decide +kernel
set_option maxHeartbeats 4000000 in
set_option maxRecDepth 100000 in
theorem c_X5_bestGuard (l : Launch) (D : va_G) (cA : Nat → ClassId) (H : Heap) (a : Nat → Nat) (th : Int32) (f kp tx wo : Nat → Int32) (hs : Int64) (hF : FR f 0) (hP0 : va_P D vwCl (wMd cA a (th, f, 0, kp, tx, 0, wo, 0, 0, hs)) H) (hD0 : va_D (fun _ => True) (wMd cA a (th, f, 0, kp, tx, 0, wo, 0, 0, hs))) : MU l yX5_bestGuard wsX5_bestGuard ({ frames := 8, cells := 0, slots := 0, locals := 192 } : Room) D cA [.ref (a 0)] H (wMd cA a (th, f, 0, kp, tx, 0, wo, 0, 0, hs)) (wMd cA a (0, (gfT f 16), 0, kp, tx, 0, wo, 0, 0, hs)) (some (.int (bgB 16))) := by
  refine Met.ofW (cc := cX5_bestGuard) (maxL := 1) (ret := (some .int)) (by decide) rfl ?_
  intro p e s m args below meth c s₁ B hml hv
  obtain ⟨rfl, hH, hKN⟩ := hv
  have hK := hKN.1
  have hx := B.exec
  have hb := B.bytes
  have hr := B.returns
  have hts := atoms_spec (ws := wsX5_bestGuard) B.pre
  have hown : s.vm.findClass RX5 = some m.cls := findClass_of_methodNamed B.named
  have hlocks := B.notSynchronized
  subst hH
  have hD := hD0.self (sz := s.heap.size)
  generalize hAe : va_A (wMd cA a (th, f, 0, kp, tx, 0, wo, 0, 0, hs)) s.heap.size = A at hD ⊢
  have hA : ∀ q : Nat, s.heap.size ≤ q → A q := fun q h => by rw [← hAe]; exact Or.inr h
  have hS : va_S A s.heap s.heap [] := va_S.rf
  have hP : va_P D vwCl (wMd cA a (th, f, 0, kp, tx, 0, wo, 0, 0, hs)) s.heap := hP0
  have hl := lv_entry ([.ref (a 0)] : List Value) (n := 1) (Nat.le_of_ble_eq_true rfl)
  rw [lg_entry_eq]
  generalize (lg_sl ([.ref (a 0)] : List Value) ++ List.replicate (1 - (lg_sl ([.ref (a 0)] : List Value)).length) Slot.unset).toArray = ls at hl ⊢
  have hl : lv_has ls 1 [(0, .ref (a 0))] := hl
  refine lv_aload_n hx hb dX5_bestGuard_0 rfl (lv_at hl 0 rfl) ?_
  refine lv_iconst (v := 0) hx hb dX5_bestGuard_1 (by decide) ?_
  refine va_put (D := D) (ci := 5) (v := .int 0) (ty := .int) (C := RX5) (T := TX5) (N := 10) hx hb hts iX5_bestGuard_X5 tyX5 tyX5_ok nmX5 hown hK hP hD hS 0 rfl rfl 0 (by decide) (hts _ mX5_bestGuard_f23) (fun _ h9 => h9) rfl (by decide +kernel) rfl rfl (Nat.le_of_ble_eq_true rfl) dX5_bestGuard_2 (fun H locs hP hD hS => ?_)
  have hP : va_P D vwCl (wMd cA a (0, f, 0, kp, tx, 0, wo, 0, 0, hs)) H := hP
  have hD : va_D A (wMd cA a (0, f, 0, kp, tx, 0, wo, 0, 0, hs)) := hD
  refine lv_aload_n hx hb dX5_bestGuard_5 rfl (lv_at hl 0 rfl) ?_
  refine mu_V (ci := 5) (q0 := 0) (As := []) (rest := []) (ws' := (wMd cA a (0, (gfT f 16), 0, kp, tx, 0, wo, 0, 0, hs))) ⟨hx, hb, hml, hown, hts⟩ (c_X5_guardFound l D cA _ a 0 f kp tx wo hs hF hP (hD.weaken (fun _ _ _ _ => trivial))) (cwV 0 hts gX5_bestGuard_X5_guardFound rfl rfl rfl (by decide +kernel) ⟨Nat.le_of_ble_eq_true rfl, Nat.le_of_ble_eq_true rfl⟩) hKN hP hD hS hA rfl rfl [0, 1, 2, 3, 4] rfl ((wMd_fst _ _ _).trans (wMd_fst _ _ _).symm) rfl rfl hl.1 rfl (lv_room (Nat.le_of_ble_eq_true rfl)) dX5_bestGuard_6 ⟨Nat.zero_le _, Nat.zero_le _⟩ (fun H locs hP hD hS => ?_)
  exact mu_iret hx hb hr hlocks dX5_bestGuard_9 hAe hS hP rfl
set_option maxHeartbeats 4000000 in
set_option maxRecDepth 100000 in
theorem c_X5_lastsFor (l : Launch) (D : va_G) (cA : Nat → ClassId) (H : Heap) (a : Nat → Nat) (th : Int32) (f kp tx wo : Nat → Int32) (hs : Int64) (t : Nat) (ht : t < 16) (hF : FR f 0) (hP0 : va_P D vwCl (wMd cA a (th, f, 0, kp, tx, 0, wo, 0, 0, hs)) H) (hD0 : va_D (fun _ => True) (wMd cA a (th, f, 0, kp, tx, 0, wo, 0, 0, hs))) : MU l yX5_lastsFor wsX5_lastsFor ({ frames := 8, cells := 0, slots := 0, locals := 192 } : Room) D cA [.ref (a 0), .int (nI t)] H (wMd cA a (th, f, 0, kp, tx, 0, wo, 0, 0, hs)) (wMd cA a (0, (rlT (cpT f (62 * 0) (62 * 9) 62) t 100), 0, kp, tx, 0, wo, 0, 0, hs)) (some (.int (-1))) := by
  refine Met.ofW (cc := cX5_lastsFor) (maxL := 2) (ret := (some .int)) (by decide) rfl ?_
  intro p e s m args below meth c s₁ B hml hv
  obtain ⟨rfl, hH, hKN⟩ := hv
  have hK := hKN.1
  have hx := B.exec
  have hb := B.bytes
  have hr := B.returns
  have hts := atoms_spec (ws := wsX5_lastsFor) B.pre
  have hown : s.vm.findClass RX5 = some m.cls := findClass_of_methodNamed B.named
  have hlocks := B.notSynchronized
  subst hH
  have hD := hD0.self (sz := s.heap.size)
  generalize hAe : va_A (wMd cA a (th, f, 0, kp, tx, 0, wo, 0, 0, hs)) s.heap.size = A at hD ⊢
  have hA : ∀ q : Nat, s.heap.size ≤ q → A q := fun q h => by rw [← hAe]; exact Or.inr h
  have hS : va_S A s.heap s.heap [] := va_S.rf
  have hP : va_P D vwCl (wMd cA a (th, f, 0, kp, tx, 0, wo, 0, 0, hs)) s.heap := hP0
  have hl := lv_entry ([.ref (a 0), .int (nI t)] : List Value) (n := 2) (Nat.le_of_ble_eq_true rfl)
  rw [lg_entry_eq]
  generalize (lg_sl ([.ref (a 0), .int (nI t)] : List Value) ++ List.replicate (2 - (lg_sl ([.ref (a 0), .int (nI t)] : List Value)).length) Slot.unset).toArray = ls at hl ⊢
  have hl : lv_has ls 2 [(0, .ref (a 0)), (1, .int (nI t))] := hl
  refine lv_aload_n hx hb dX5_lastsFor_0 rfl (lv_at hl 0 rfl) ?_
  refine lv_iload_n hx hb dX5_lastsFor_1 rfl (lv_at hl 1 rfl) ?_
  refine ro_S (As := [.int (nI t)]) (rest := [.ref (a 0)]) ⟨hx, hb, hml, hown, hts⟩ (c_X5_isThread l D cA _ (nI t)) (cwS2 1 hts gX5_lastsFor_X5_isThread rfl rfl rfl (by decide +kernel) ⟨Nat.le_of_ble_eq_true rfl, Nat.le_of_ble_eq_true rfl⟩) hKN rfl hl.1 rfl (lv_room (Nat.le_of_ble_eq_true rfl)) dX5_lastsFor_2 ⟨Nat.zero_le _, Nat.zero_le _⟩ ?_
  refine lz_top (v := 1) (inF_ok (k := t) (a := 0) (b := 15) (by omega) (by omega) (by decide)) ?_
  refine lv_if_eq (tgt := 12) hx hb dX5_lastsFor_5 (by decide) (fun h => absurd h (by decide)) (fun _ => ?_)
  refine lv_iconst (v := 0) hx hb dX5_lastsFor_8 (by decide) ?_
  refine lv_goto (tgt := 13) hx hb dX5_lastsFor_9 (by decide) ?_
  refine mu_V (ci := 5) (q0 := 0) (As := [.int 0]) (rest := []) (ws' := (wMd cA a (0, f, 0, kp, tx, 0, wo, 0, 0, hs))) ⟨hx, hb, hml, hown, hts⟩ (c_X5_holds0 l D cA _ a (th, f, 0, kp, tx, 0, wo, 0, 0, hs) hP (hD.weaken (fun _ _ _ _ => trivial))) (cwV 1 hts gX5_lastsFor_X5_holds rfl rfl rfl (by decide +kernel) ⟨Nat.le_of_ble_eq_true rfl, Nat.le_of_ble_eq_true rfl⟩) hKN hP hD hS hA rfl rfl [0, 1, 2, 3, 4] rfl ((wMd_fst _ _ _).trans (wMd_fst _ _ _).symm) rfl rfl hl.1 rfl (lv_room (Nat.le_of_ble_eq_true rfl)) dX5_lastsFor_13 ⟨Nat.zero_le _, Nat.zero_le _⟩ (fun H locs hP hD hS => ?_)
  refine lv_if_eq (tgt := 27) hx hb dX5_lastsFor_16 (by decide) (fun h => absurd h (by decide)) (fun _ => ?_)
  refine lv_aload_n hx hb dX5_lastsFor_19 rfl (lv_at hl 0 rfl) ?_
  refine lv_iload_n hx hb dX5_lastsFor_20 rfl (lv_at hl 1 rfl) ?_
  refine mu_V (ci := 5) (q0 := 0) (As := [.int (nI t)]) (rest := []) (ws' := (wMd cA a (0, (rlT (cpT f (62 * 0) (62 * 9) 62) t 100), 0, kp, tx, 0, wo, 0, 0, hs))) ⟨hx, hb, hml, hown, hts⟩ (c_X5_readingsLeft l D cA _ a 0 f kp tx wo hs hF t (by omega) hP (hD.weaken (fun _ _ _ _ => trivial))) (cwV 1 hts gX5_lastsFor_X5_readingsLeft rfl rfl rfl (by decide +kernel) ⟨Nat.le_of_ble_eq_true rfl, Nat.le_of_ble_eq_true rfl⟩) hKN hP hD hS hA rfl rfl [0, 1, 2, 3, 4] rfl ((wMd_fst _ _ _).trans (wMd_fst _ _ _).symm) rfl rfl hl.1 rfl (lv_room (Nat.le_of_ble_eq_true rfl)) dX5_lastsFor_21 ⟨Nat.zero_le _, Nat.zero_le _⟩ (fun H locs hP hD hS => ?_)
  refine lv_goto (tgt := 28) hx hb dX5_lastsFor_24 (by decide) ?_
  exact mu_iret hx hb hr hlocks dX5_lastsFor_28 hAe hS hP rfl
set_option maxHeartbeats 4000000 in
set_option maxRecDepth 100000 in
theorem c_X5_ifGone (l : Launch) (D : va_G) (cA : Nat → ClassId) (H : Heap) (a : Nat → Nat) (th : Int32) (f kp tx wo : Nat → Int32) (hs : Int64) (st : Nat) (hst : 1 ≤ st) (hst2 : st ≤ 99) (w : Nat) (hw : w < 4) (hF : FR f 0) (hP0 : va_P D vwCl (wMd cA a (th, f, 0, kp, tx, 0, wo, 0, 0, hs)) H) (hD0 : va_D (fun _ => True) (wMd cA a (th, f, 0, kp, tx, 0, wo, 0, 0, hs))) : MU l yX5_ifGone wsX5_ifGone ({ frames := 10, cells := 0, slots := 0, locals := 239 } : Room) D cA [.ref (a 0), .int (nI st), .int (nI w)] H (wMd cA a (th, f, 0, kp, tx, 0, wo, 0, 0, hs)) (wMd cA a (0, (stF (cpT f (62 * 0) (62 * 9) 62) 558), 0, kp, tx, 0, wo, 0, 0, hs)) (some (.int (goneM w))) := by
  refine Met.ofW (cc := cX5_ifGone) (maxL := 3) (ret := (some .int)) (by decide) rfl ?_
  intro p e s m args below meth c s₁ B hml hv
  obtain ⟨rfl, hH, hKN⟩ := hv
  have hK := hKN.1
  have hx := B.exec
  have hb := B.bytes
  have hr := B.returns
  have hts := atoms_spec (ws := wsX5_ifGone) B.pre
  have hown : s.vm.findClass RX5 = some m.cls := findClass_of_methodNamed B.named
  have hlocks := B.notSynchronized
  subst hH
  have hD := hD0.self (sz := s.heap.size)
  generalize hAe : va_A (wMd cA a (th, f, 0, kp, tx, 0, wo, 0, 0, hs)) s.heap.size = A at hD ⊢
  have hA : ∀ q : Nat, s.heap.size ≤ q → A q := fun q h => by rw [← hAe]; exact Or.inr h
  have hS : va_S A s.heap s.heap [] := va_S.rf
  have hP : va_P D vwCl (wMd cA a (th, f, 0, kp, tx, 0, wo, 0, 0, hs)) s.heap := hP0
  have hl := lv_entry ([.ref (a 0), .int (nI st), .int (nI w)] : List Value) (n := 3) (Nat.le_of_ble_eq_true rfl)
  rw [lg_entry_eq]
  generalize (lg_sl ([.ref (a 0), .int (nI st), .int (nI w)] : List Value) ++ List.replicate (3 - (lg_sl ([.ref (a 0), .int (nI st), .int (nI w)] : List Value)).length) Slot.unset).toArray = ls at hl ⊢
  have hl : lv_has ls 3 [(0, .ref (a 0)), (1, .int (nI st)), (2, .int (nI w))] := hl
  refine lv_aload_n hx hb dX5_ifGone_0 rfl (lv_at hl 0 rfl) ?_
  refine lv_iload_n hx hb dX5_ifGone_1 rfl (lv_at hl 1 rfl) ?_
  refine lv_iconst (v := 1) hx hb dX5_ifGone_2 (by decide) ?_
  refine lv_bipush (v := 99) hx hb dX5_ifGone_3 (by decide) ?_
  refine ro_S (As := [.int (nI st), .int 1, .int 99]) (rest := [.ref (a 0)]) ⟨hx, hb, hml, hown, hts⟩ (c_X5_in l D cA _ (nI st) 1 99) (cwS2 3 hts gX5_ifGone_X5_in rfl rfl rfl (by decide +kernel) ⟨Nat.le_of_ble_eq_true rfl, Nat.le_of_ble_eq_true rfl⟩) hKN rfl hl.1 rfl (lv_room (Nat.le_of_ble_eq_true rfl)) dX5_ifGone_5 ⟨Nat.zero_le _, Nat.zero_le _⟩ ?_
  refine lz_top (v := 1) (inF_ok (k := st) (a := 1) (b := 99) (by omega) (by omega) (by decide)) ?_
  refine lv_if_eq (tgt := 24) hx hb dX5_ifGone_8 (by decide) (fun h => absurd h (by decide)) (fun _ => ?_)
  refine lv_iload_n hx hb dX5_ifGone_11 rfl (lv_at hl 2 rfl) ?_
  refine lv_iconst (v := 0) hx hb dX5_ifGone_12 (by decide) ?_
  refine lv_iconst (v := 3) hx hb dX5_ifGone_13 (by decide) ?_
  refine ro_S (As := [.int (nI w), .int 0, .int 3]) (rest := [.ref (a 0)]) ⟨hx, hb, hml, hown, hts⟩ (c_X5_in l D cA _ (nI w) 0 3) (cwS2 3 hts gX5_ifGone_X5_in rfl rfl rfl (by decide +kernel) ⟨Nat.le_of_ble_eq_true rfl, Nat.le_of_ble_eq_true rfl⟩) hKN rfl hl.1 rfl (lv_room (Nat.le_of_ble_eq_true rfl)) dX5_ifGone_14 ⟨Nat.zero_le _, Nat.zero_le _⟩ ?_
  refine lz_top (v := 1) (inF_ok (k := w) (a := 0) (b := 3) (by omega) (by omega) (by decide)) ?_
  refine lv_if_eq (tgt := 24) hx hb dX5_ifGone_17 (by decide) (fun h => absurd h (by decide)) (fun _ => ?_)
  refine lv_iconst (v := 0) hx hb dX5_ifGone_20 (by decide) ?_
  refine lv_goto (tgt := 25) hx hb dX5_ifGone_21 (by decide) ?_
  refine mu_V (ci := 5) (q0 := 0) (As := [.int 0]) (rest := []) (ws' := (wMd cA a (0, f, 0, kp, tx, 0, wo, 0, 0, hs))) ⟨hx, hb, hml, hown, hts⟩ (c_X5_holds0 l D cA _ a (th, f, 0, kp, tx, 0, wo, 0, 0, hs) hP (hD.weaken (fun _ _ _ _ => trivial))) (cwV 1 hts gX5_ifGone_X5_holds rfl rfl rfl (by decide +kernel) ⟨Nat.le_of_ble_eq_true rfl, Nat.le_of_ble_eq_true rfl⟩) hKN hP hD hS hA rfl rfl [0, 1, 2, 3, 4] rfl ((wMd_fst _ _ _).trans (wMd_fst _ _ _).symm) rfl rfl hl.1 rfl (lv_room (Nat.le_of_ble_eq_true rfl)) dX5_ifGone_25 ⟨Nat.zero_le _, Nat.zero_le _⟩ (fun H locs hP hD hS => ?_)
  refine lv_if_eq (tgt := 40) hx hb dX5_ifGone_28 (by decide) (fun h => absurd h (by decide)) (fun _ => ?_)
  refine lv_aload_n hx hb dX5_ifGone_31 rfl (lv_at hl 0 rfl) ?_
  refine lv_iload_n hx hb dX5_ifGone_32 rfl (lv_at hl 1 rfl) ?_
  refine lv_iload_n hx hb dX5_ifGone_33 rfl (lv_at hl 2 rfl) ?_
  refine mu_V (ci := 5) (q0 := 0) (As := [.int (nI st), .int (nI w)]) (rest := []) (ws' := (wMd cA a (0, (stF (cpT f (62 * 0) (62 * 9) 62) 558), 0, kp, tx, 0, wo, 0, 0, hs))) ⟨hx, hb, hml, hown, hts⟩ (c_X5_gone l D cA _ a 0 f kp tx wo hs hF st (by omega) (by omega) w (by omega) hP (hD.weaken (fun _ _ _ _ => trivial))) (cwV 2 hts gX5_ifGone_X5_gone rfl rfl rfl (by decide +kernel) ⟨Nat.le_of_ble_eq_true rfl, Nat.le_of_ble_eq_true rfl⟩) hKN hP hD hS hA rfl rfl [0, 1, 2, 3, 4] rfl ((wMd_fst _ _ _).trans (wMd_fst _ _ _).symm) rfl rfl hl.1 rfl (lv_room (Nat.le_of_ble_eq_true rfl)) dX5_ifGone_34 ⟨Nat.zero_le _, Nat.zero_le _⟩ (fun H locs hP hD hS => ?_)
  refine lv_goto (tgt := 41) hx hb dX5_ifGone_37 (by decide) ?_
  exact mu_iret hx hb hr hlocks dX5_ifGone_41 hAe hS hP rfl
theorem mX5_mix_k191 : Cond.constantLong RX5 191 (31) ∈ wsX5_mix := by decide +kernel
theorem mX5_mix_f193 : Cond.fieldLink RX5 193 "WireLoomModel" "hash" "J" ∈ wsX5_mix := by decide +kernel
set_option maxRecDepth 20000 in
theorem iX5_mix_X5 : ∀ w ∈ wsX50, w ∈ wsX5_mix := by decide +kernel
set_option maxHeartbeats 4000000 in
set_option maxRecDepth 100000 in
theorem c_X5_mix (l : Launch) (D : va_G) (cA : Nat → ClassId) (H : Heap) (a : Nat → Nat) (u : MDV) (v : Int64) (hP0 : va_P D vwCl (wMd cA a u) H) (hD0 : va_D (fun _ => True) (wMd cA a u)) : MU l yX5_mix wsX5_mix ({ frames := 0, cells := 0, slots := 0, locals := 0 } : Room) D cA [.ref (a 0), .long v] H (wMd cA a u) (wMd cA a (u.1, u.2.1, u.2.2.1, u.2.2.2.1, u.2.2.2.2.1, u.2.2.2.2.2.1, u.2.2.2.2.2.2.1, u.2.2.2.2.2.2.2.1, u.2.2.2.2.2.2.2.2.1, (mixF u.2.2.2.2.2.2.2.2.2 v))) none := by
  refine Met.ofW (cc := cX5_mix) (maxL := 3) (ret := none) (by decide) rfl ?_
  intro p e s m args below meth c s₁ B hml hv
  obtain ⟨rfl, hH, hKN⟩ := hv
  have hK := hKN.1
  have hx := B.exec
  have hb := B.bytes
  have hr := B.returns
  have hts := atoms_spec (ws := wsX5_mix) B.pre
  have hown : s.vm.findClass RX5 = some m.cls := findClass_of_methodNamed B.named
  have hlocks := B.notSynchronized
  subst hH
  have hD := hD0.self (sz := s.heap.size)
  generalize hAe : va_A (wMd cA a u) s.heap.size = A at hD ⊢
  have hA : ∀ q : Nat, s.heap.size ≤ q → A q := fun q h => by rw [← hAe]; exact Or.inr h
  have hS : va_S A s.heap s.heap [] := va_S.rf
  have hP : va_P D vwCl (wMd cA a u) s.heap := hP0
  have hl := lv_entry ([.ref (a 0), .long v] : List Value) (n := 3) (Nat.le_of_ble_eq_true rfl)
  rw [lg_entry_eq]
  generalize (lg_sl ([.ref (a 0), .long v] : List Value) ++ List.replicate (3 - (lg_sl ([.ref (a 0), .long v] : List Value)).length) Slot.unset).toArray = ls at hl ⊢
  have hl : lv_has ls 3 [(0, .ref (a 0)), (1, .long v)] := hl
  refine lv_aload_n hx hb dX5_mix_0 rfl (lv_at hl 0 rfl) ?_
  refine lv_ldc2 (v := 31) hx hb hown (hts _ mX5_mix_k191) dX5_mix_1 ?_
  refine lv_aload_n hx hb dX5_mix_4 rfl (lv_at hl 0 rfl) ?_
  refine va_get (D := D) (ci := 5) (v := .long u.2.2.2.2.2.2.2.2.2) (C := RX5) (T := TX5) (N := 10) hx hb hts iX5_mix_X5 hown hK hP 0 rfl rfl 9 (by decide) (hts _ mX5_mix_f193) (fun _ h9 => h9) rfl dX5_mix_5 ?_
  refine lv_lmul hx hb dX5_mix_8 ?_
  refine lv_lload_n hx hb dX5_mix_9 rfl (lv_at hl 1 rfl) ?_
  refine lv_ladd hx hb dX5_mix_10 ?_
  refine va_put (D := D) (ci := 5) (v := .long ((31 * u.2.2.2.2.2.2.2.2.2) + v)) (ty := .long) (C := RX5) (T := TX5) (N := 10) hx hb hts iX5_mix_X5 tyX5 tyX5_ok nmX5 hown hK hP hD hS 0 rfl rfl 9 (by decide) (hts _ mX5_mix_f193) (fun _ h9 => h9) rfl (by decide +kernel) rfl rfl (Nat.le_of_ble_eq_true rfl) dX5_mix_11 (fun H locs hP hD hS => ?_)
  have hP : va_P D vwCl (wMd cA a (u.1, u.2.1, u.2.2.1, u.2.2.2.1, u.2.2.2.2.1, u.2.2.2.2.2.1, u.2.2.2.2.2.2.1, u.2.2.2.2.2.2.2.1, u.2.2.2.2.2.2.2.2.1, ((31 * u.2.2.2.2.2.2.2.2.2) + v))) H := hP
  have hD : va_D A (wMd cA a (u.1, u.2.1, u.2.2.1, u.2.2.2.1, u.2.2.2.2.1, u.2.2.2.2.2.1, u.2.2.2.2.2.2.1, u.2.2.2.2.2.2.2.1, u.2.2.2.2.2.2.2.2.1, ((31 * u.2.2.2.2.2.2.2.2.2) + v))) := hD
  exact mu_vret hx hb hr hlocks dX5_mix_14 hAe hS hP
set_option maxHeartbeats 4000000 in
set_option maxRecDepth 100000 in
theorem c_X5_mixThreads (l : Launch) (D : va_G) (cA : Nat → ClassId) (H : Heap) (a : Nat → Nat) (th : Int32) (f kp tx wo : Nat → Int32) (hs : Int64) (hF : FR f 0) (hP0 : va_P D vwCl (wMd cA a (th, f, 0, kp, tx, 0, wo, 0, 0, hs)) H) (hD0 : va_D (fun _ => True) (wMd cA a (th, f, 0, kp, tx, 0, wo, 0, 0, hs))) : MU l yX5_mixThreads wsX5_mixThreads ({ frames := 8, cells := 0, slots := 0, locals := 192 } : Room) D cA [.ref (a 0)] H (wMd cA a (th, f, 0, kp, tx, 0, wo, 0, 0, hs)) (wMd cA a (th, (mtF f 16), 0, kp, tx, 0, wo, 0, 0, (mzZ (mzZ (mzT hs 16) 40) 16))) none := by
  refine Met.ofW (cc := cX5_mixThreads) (maxL := 3) (ret := none) (by decide) rfl ?_
  intro p e s m args below meth c s₁ B hml hv
  obtain ⟨rfl, hH, hKN⟩ := hv
  have hK := hKN.1
  have hx := B.exec
  have hb := B.bytes
  have hr := B.returns
  have hts := atoms_spec (ws := wsX5_mixThreads) B.pre
  have hown : s.vm.findClass RX5 = some m.cls := findClass_of_methodNamed B.named
  have hlocks := B.notSynchronized
  subst hH
  have hD := hD0.self (sz := s.heap.size)
  generalize hAe : va_A (wMd cA a (th, f, 0, kp, tx, 0, wo, 0, 0, hs)) s.heap.size = A at hD ⊢
  have hA : ∀ q : Nat, s.heap.size ≤ q → A q := fun q h => by rw [← hAe]; exact Or.inr h
  have hS : va_S A s.heap s.heap [] := va_S.rf
  have hP : va_P D vwCl (wMd cA a (th, f, 0, kp, tx, 0, wo, 0, 0, hs)) s.heap := hP0
  have hl := lv_entry ([.ref (a 0)] : List Value) (n := 3) (Nat.le_of_ble_eq_true rfl)
  rw [lg_entry_eq]
  generalize (lg_sl ([.ref (a 0)] : List Value) ++ List.replicate (3 - (lg_sl ([.ref (a 0)] : List Value)).length) Slot.unset).toArray = ls at hl ⊢
  have hl : lv_has ls 3 [(0, .ref (a 0))] := hl
  refine lv_iconst (v := 0) hx hb dX5_mixThreads_0 (by decide) ?_
  refine lv_istore_n (lv' := [(1, .int 0), (0, .ref (a 0))]) hx hb dX5_mixThreads_1 rfl hl (by decide) rfl (fun ls hl => ?_)
  have loop2 : ∀ (n2 k2 : Nat), k2 + n2 = 16 → ∀ (H : Heap) (locs : List Loc), va_P D vwCl (wMd cA a (th, (mtF f k2), 0, kp, tx, 0, wo, 0, 0, (mzT hs k2))) H → va_D A (wMd cA a (th, (mtF f k2), 0, kp, tx, 0, wo, 0, 0, (mzT hs k2))) → va_S A s.heap H locs → ∀ (ls : Array Slot), lv_has ls 3 [(1, .int (nI k2)), (0, .ref (a 0))] → W p l e ({ frames := 8, cells := 0, slots := 0, locals := 192 } : Room) s m ([.ref (a 0)] : List Value).toArray below meth c H locs 0 0 (MQ below (muQ D s.heap (wMd cA a (th, f, 0, kp, tx, 0, wo, 0, 0, hs)) (wMd cA a (th, (mtF f 16), 0, kp, tx, 0, wo, 0, 0, (mzZ (mzZ (mzT hs 16) 40) 16))) none) ([.ref (a 0)] : List Value).toArray s 0 0 A) (F0 m 2 ls []) := by
    intro n2
    induction n2 with
    | zero =>
      intro k2 hk2 H locs hP hD hS ls hl
      obtain rfl : 16 = k2 := by omega
      refine lv_iload_n hx hb dX5_mixThreads_2 rfl (lv_at hl 0 rfl) ?_
      refine lv_bipush (v := 16) hx hb dX5_mixThreads_3 (by decide) ?_
      refine lv_icmp_ge (tgt := 49) hx hb dX5_mixThreads_5 (by decide) (fun _ => ?_) (fun h => absurd (by decide) h)
      refine lv_iconst (v := 0) hx hb dX5_mixThreads_49 (by decide) ?_
      refine lv_istore_n (lv' := [(1, .int 0), (0, .ref (a 0))]) hx hb dX5_mixThreads_50 rfl hl (by decide) rfl (fun ls hl => ?_)
      have loop51 : ∀ (n51 k51 : Nat), k51 + n51 = 40 → ∀ (H : Heap) (locs : List Loc), va_P D vwCl (wMd cA a (th, (mtF f 16), 0, kp, tx, 0, wo, 0, 0, (mzZ (mzT hs 16) k51))) H → va_D A (wMd cA a (th, (mtF f 16), 0, kp, tx, 0, wo, 0, 0, (mzZ (mzT hs 16) k51))) → va_S A s.heap H locs → ∀ (ls : Array Slot), lv_has ls 3 [(1, .int (nI k51)), (0, .ref (a 0))] → W p l e ({ frames := 8, cells := 0, slots := 0, locals := 192 } : Room) s m ([.ref (a 0)] : List Value).toArray below meth c H locs 0 0 (MQ below (muQ D s.heap (wMd cA a (th, f, 0, kp, tx, 0, wo, 0, 0, hs)) (wMd cA a (th, (mtF f 16), 0, kp, tx, 0, wo, 0, 0, (mzZ (mzZ (mzT hs 16) 40) 16))) none) ([.ref (a 0)] : List Value).toArray s 0 0 A) (F0 m 51 ls []) := by
        intro n51
        induction n51 with
        | zero =>
          intro k51 hk51 H locs hP hD hS ls hl
          obtain rfl : 40 = k51 := by omega
          refine lv_iload_n hx hb dX5_mixThreads_51 rfl (lv_at hl 0 rfl) ?_
          refine lv_bipush (v := 40) hx hb dX5_mixThreads_52 (by decide) ?_
          refine lv_icmp_ge (tgt := 78) hx hb dX5_mixThreads_54 (by decide) (fun _ => ?_) (fun h => absurd (by decide) h)
          refine lv_iconst (v := 0) hx hb dX5_mixThreads_78 (by decide) ?_
          refine lv_istore_n (lv' := [(1, .int 0), (0, .ref (a 0))]) hx hb dX5_mixThreads_79 rfl hl (by decide) rfl (fun ls hl => ?_)
          have loop80 : ∀ (n80 k80 : Nat), k80 + n80 = 16 → ∀ (H : Heap) (locs : List Loc), va_P D vwCl (wMd cA a (th, (mtF f 16), 0, kp, tx, 0, wo, 0, 0, (mzZ (mzZ (mzT hs 16) 40) k80))) H → va_D A (wMd cA a (th, (mtF f 16), 0, kp, tx, 0, wo, 0, 0, (mzZ (mzZ (mzT hs 16) 40) k80))) → va_S A s.heap H locs → ∀ (ls : Array Slot), lv_has ls 3 [(1, .int (nI k80)), (0, .ref (a 0))] → W p l e ({ frames := 8, cells := 0, slots := 0, locals := 192 } : Room) s m ([.ref (a 0)] : List Value).toArray below meth c H locs 0 0 (MQ below (muQ D s.heap (wMd cA a (th, f, 0, kp, tx, 0, wo, 0, 0, hs)) (wMd cA a (th, (mtF f 16), 0, kp, tx, 0, wo, 0, 0, (mzZ (mzZ (mzT hs 16) 40) 16))) none) ([.ref (a 0)] : List Value).toArray s 0 0 A) (F0 m 80 ls []) := by
            intro n80
            induction n80 with
            | zero =>
              intro k80 hk80 H locs hP hD hS ls hl
              obtain rfl : 16 = k80 := by omega
              refine lv_iload_n hx hb dX5_mixThreads_80 rfl (lv_at hl 0 rfl) ?_
              refine lv_bipush (v := 16) hx hb dX5_mixThreads_81 (by decide) ?_
              refine lv_icmp_ge (tgt := 110) hx hb dX5_mixThreads_83 (by decide) (fun _ => ?_) (fun h => absurd (by decide) h)
              exact mu_vret hx hb hr hlocks dX5_mixThreads_110 hAe hS hP
            | succ n80 ih80 =>
              intro k80 hk80 H locs hP hD hS ls hl
              have hlt80 : k80 < 16 := by omega
              refine lv_iload_n hx hb dX5_mixThreads_80 rfl (lv_at hl 0 rfl) ?_
              refine lv_bipush (v := 16) hx hb dX5_mixThreads_81 (by decide) ?_
              refine lv_icmp_ge (tgt := 110) hx hb dX5_mixThreads_83 (by decide) (fun h => absurd h (nI_ge hlt80 (by first | decide | omega))) (fun _ => ?_)
              refine lv_aload_n hx hb dX5_mixThreads_86 rfl (lv_at hl 1 rfl) ?_
              refine lv_aload_n hx hb dX5_mixThreads_87 rfl (lv_at hl 1 rfl) ?_
              refine lv_iconst (v := 0) hx hb dX5_mixThreads_88 (by decide) ?_
              refine lv_iload_n hx hb dX5_mixThreads_89 rfl (lv_at hl 0 rfl) ?_
              refine lv_bipush (v := 8) hx hb dX5_mixThreads_90 (by decide) ?_
              refine lz_idiv (v := (nI (k80 / 8))) hx hb dX5_mixThreads_92 (by decide) (pk_div (d := 8) (by omega) (by decide) (by decide)) ?_
              refine lv_iload_n hx hb dX5_mixThreads_93 rfl (lv_at hl 0 rfl) ?_
              refine lv_bipush (v := 8) hx hb dX5_mixThreads_94 (by decide) ?_
              refine lz_irem (v := (nI (k80 % 8))) hx hb dX5_mixThreads_96 (by decide) (pk_rem (d := 8) (by omega) (by decide) (by decide)) ?_
              refine ro_V (ci := 5) (q0 := 0) (As := [.int 0, .int (nI (k80 / 8)), .int (nI (k80 % 8))]) (rest := [.ref (a 0)]) ⟨hx, hb, hml, hown, hts⟩ (c_X5_strengthIn l D cA _ a (th, (mtF f 16), 0, kp, tx, 0, wo, 0, 0, (mzZ (mzZ (mzT hs 16) 40) k80)) 0 (by omega) (k80 / 8) (by omega) (k80 % 8) (by omega) (FR.ZR (mtF_FR hF 16)) hP) (cwV 3 hts gX5_mixThreads_X5_strengthIn rfl rfl rfl (by decide +kernel) ⟨Nat.le_of_ble_eq_true rfl, Nat.le_of_ble_eq_true rfl⟩) hKN hP rfl rfl rfl hl.1 rfl (lv_room (Nat.le_of_ble_eq_true rfl)) dX5_mixThreads_97 ⟨Nat.zero_le _, Nat.zero_le _⟩ ?_
              refine lv_i2l (v := (i2lF 0)) hx hb dX5_mixThreads_100 rfl ?_
              refine mu_V (ci := 5) (q0 := 0) (As := [.long (i2lF 0)]) (rest := []) (ws' := (wMd cA a (th, (mtF f 16), 0, kp, tx, 0, wo, 0, 0, (mixF (mzZ (mzZ (mzT hs 16) 40) k80) (i2lF 0))))) ⟨hx, hb, hml, hown, hts⟩ (c_X5_mix l D cA _ a (th, (mtF f 16), 0, kp, tx, 0, wo, 0, 0, (mzZ (mzZ (mzT hs 16) 40) k80)) (i2lF 0) hP (hD.weaken (fun _ _ _ _ => trivial))) (cwV 1 hts gX5_mixThreads_X5_mix rfl rfl rfl (by decide +kernel) ⟨Nat.le_of_ble_eq_true rfl, Nat.le_of_ble_eq_true rfl⟩) hKN hP hD hS hA rfl rfl [0, 1, 2, 3, 4] rfl ((wMd_fst _ _ _).trans (wMd_fst _ _ _).symm) rfl rfl hl.1 rfl (lv_room (Nat.le_of_ble_eq_true rfl)) dX5_mixThreads_101 ⟨Nat.zero_le _, Nat.zero_le _⟩ (fun H locs hP hD hS => ?_)
              refine lv_iinc (v := (nI (k80 + 1))) (lv' := [(1, .int (nI (k80 + 1))), (0, .ref (a 0))]) hx hb dX5_mixThreads_104 hl (k := 0) rfl (nI_1 _) (by decide) rfl (fun ls hl => ?_)
              refine lv_goto (tgt := 80) hx hb dX5_mixThreads_107 (by decide) ?_
              have e_1 : (mzZ (mzZ (mzT hs 16) 40) (k80 + 1)) = (mixF (mzZ (mzZ (mzT hs 16) 40) k80) (i2lF 0)) := rfl
              exact ih80 (k80 + 1) (by omega) _ _ (by rw [e_1]; exact hP) (by rw [e_1]; exact hD) hS ls (lv_sub hl [0, 1] rfl)
          exact loop80 16 0 (by omega) _ _ (by rw [mzZ_0]; exact hP) (by rw [mzZ_0]; exact hD) hS ls (lv_sub hl [0, 1] rfl)
        | succ n51 ih51 =>
          intro k51 hk51 H locs hP hD hS ls hl
          have hlt51 : k51 < 40 := by omega
          refine lv_iload_n hx hb dX5_mixThreads_51 rfl (lv_at hl 0 rfl) ?_
          refine lv_bipush (v := 40) hx hb dX5_mixThreads_52 (by decide) ?_
          refine lv_icmp_ge (tgt := 78) hx hb dX5_mixThreads_54 (by decide) (fun h => absurd h (nI_ge hlt51 (by first | decide | omega))) (fun _ => ?_)
          refine lv_aload_n hx hb dX5_mixThreads_57 rfl (lv_at hl 1 rfl) ?_
          refine lv_aload_n hx hb dX5_mixThreads_58 rfl (lv_at hl 1 rfl) ?_
          refine lv_iload_n hx hb dX5_mixThreads_59 rfl (lv_at hl 0 rfl) ?_
          refine lv_iconst (v := 5) hx hb dX5_mixThreads_60 (by decide) ?_
          refine lz_idiv (v := (nI (k51 / 5))) hx hb dX5_mixThreads_61 (by decide) (pk_div (d := 5) (by omega) (by decide) (by decide)) ?_
          refine lv_iload_n hx hb dX5_mixThreads_62 rfl (lv_at hl 0 rfl) ?_
          refine lv_iconst (v := 5) hx hb dX5_mixThreads_63 (by decide) ?_
          refine lz_irem (v := (nI (k51 % 5))) hx hb dX5_mixThreads_64 (by decide) (pk_rem (d := 5) (by omega) (by decide) (by decide)) ?_
          refine ro_V (ci := 5) (q0 := 0) (As := [.int (nI (k51 / 5)), .int (nI (k51 % 5))]) (rest := [.ref (a 0)]) ⟨hx, hb, hml, hown, hts⟩ (c_X5_ofRing l D cA _ a (th, (mtF f 16), 0, kp, tx, 0, wo, 0, 0, (mzZ (mzT hs 16) k51)) (k51 / 5) (by omega) (k51 % 5) (by omega) (mtF_FR hF 16) hP) (cwV 2 hts gX5_mixThreads_X5_ofRing rfl rfl rfl (by decide +kernel) ⟨Nat.le_of_ble_eq_true rfl, Nat.le_of_ble_eq_true rfl⟩) hKN hP rfl rfl rfl hl.1 rfl (lv_room (Nat.le_of_ble_eq_true rfl)) dX5_mixThreads_65 ⟨Nat.zero_le _, Nat.zero_le _⟩ ?_
          refine lv_i2l (v := (i2lF 0)) hx hb dX5_mixThreads_68 rfl ?_
          refine mu_V (ci := 5) (q0 := 0) (As := [.long (i2lF 0)]) (rest := []) (ws' := (wMd cA a (th, (mtF f 16), 0, kp, tx, 0, wo, 0, 0, (mixF (mzZ (mzT hs 16) k51) (i2lF 0))))) ⟨hx, hb, hml, hown, hts⟩ (c_X5_mix l D cA _ a (th, (mtF f 16), 0, kp, tx, 0, wo, 0, 0, (mzZ (mzT hs 16) k51)) (i2lF 0) hP (hD.weaken (fun _ _ _ _ => trivial))) (cwV 1 hts gX5_mixThreads_X5_mix rfl rfl rfl (by decide +kernel) ⟨Nat.le_of_ble_eq_true rfl, Nat.le_of_ble_eq_true rfl⟩) hKN hP hD hS hA rfl rfl [0, 1, 2, 3, 4] rfl ((wMd_fst _ _ _).trans (wMd_fst _ _ _).symm) rfl rfl hl.1 rfl (lv_room (Nat.le_of_ble_eq_true rfl)) dX5_mixThreads_69 ⟨Nat.zero_le _, Nat.zero_le _⟩ (fun H locs hP hD hS => ?_)
          refine lv_iinc (v := (nI (k51 + 1))) (lv' := [(1, .int (nI (k51 + 1))), (0, .ref (a 0))]) hx hb dX5_mixThreads_72 hl (k := 0) rfl (nI_1 _) (by decide) rfl (fun ls hl => ?_)
          refine lv_goto (tgt := 51) hx hb dX5_mixThreads_75 (by decide) ?_
          have e_2 : (mzZ (mzT hs 16) (k51 + 1)) = (mixF (mzZ (mzT hs 16) k51) (i2lF 0)) := rfl
          exact ih51 (k51 + 1) (by omega) _ _ (by rw [e_2]; exact hP) (by rw [e_2]; exact hD) hS ls (lv_sub hl [0, 1] rfl)
      exact loop51 40 0 (by omega) _ _ hP hD hS ls (lv_sub hl [0, 1] rfl)
    | succ n2 ih2 =>
      intro k2 hk2 H locs hP hD hS ls hl
      have hlt2 : k2 < 16 := by omega
      refine lv_iload_n hx hb dX5_mixThreads_2 rfl (lv_at hl 0 rfl) ?_
      refine lv_bipush (v := 16) hx hb dX5_mixThreads_3 (by decide) ?_
      refine lv_icmp_ge (tgt := 49) hx hb dX5_mixThreads_5 (by decide) (fun h => absurd h (nI_ge hlt2 (by first | decide | omega))) (fun _ => ?_)
      refine lv_iconst (v := 0) hx hb dX5_mixThreads_8 (by decide) ?_
      refine lv_istore_n (lv' := [(2, .int 0), (1, .int (nI k2)), (0, .ref (a 0))]) hx hb dX5_mixThreads_9 rfl hl (by decide) rfl (fun ls hl => ?_)
      have loop10 : ∀ (n10 k10 : Nat), k10 + n10 = 8 → ∀ (H : Heap) (locs : List Loc), va_P D vwCl (wMd cA a (th, (mtF f k2), 0, kp, tx, 0, wo, 0, 0, (mzZ (mzT hs k2) k10))) H → va_D A (wMd cA a (th, (mtF f k2), 0, kp, tx, 0, wo, 0, 0, (mzZ (mzT hs k2) k10))) → va_S A s.heap H locs → ∀ (ls : Array Slot), lv_has ls 3 [(2, .int (nI k10)), (1, .int (nI k2)), (0, .ref (a 0))] → W p l e ({ frames := 8, cells := 0, slots := 0, locals := 192 } : Room) s m ([.ref (a 0)] : List Value).toArray below meth c H locs 0 0 (MQ below (muQ D s.heap (wMd cA a (th, f, 0, kp, tx, 0, wo, 0, 0, hs)) (wMd cA a (th, (mtF f 16), 0, kp, tx, 0, wo, 0, 0, (mzZ (mzZ (mzT hs 16) 40) 16))) none) ([.ref (a 0)] : List Value).toArray s 0 0 A) (F0 m 10 ls []) := by
        intro n10
        induction n10 with
        | zero =>
          intro k10 hk10 H locs hP hD hS ls hl
          obtain rfl : 8 = k10 := by omega
          refine lv_iload_n hx hb dX5_mixThreads_10 rfl (lv_at hl 0 rfl) ?_
          refine lv_bipush (v := 8) hx hb dX5_mixThreads_11 (by decide) ?_
          refine lv_icmp_ge (tgt := 33) hx hb dX5_mixThreads_13 (by decide) (fun _ => ?_) (fun h => absurd (by decide) h)
          refine lv_aload_n hx hb dX5_mixThreads_33 rfl (lv_at hl 2 rfl) ?_
          refine lv_aload_n hx hb dX5_mixThreads_34 rfl (lv_at hl 2 rfl) ?_
          refine lv_iload_n hx hb dX5_mixThreads_35 rfl (lv_at hl 1 rfl) ?_
          refine mu_V (ci := 5) (q0 := 0) (As := [.int (nI k2)]) (rest := [.ref (a 0)]) (ws' := (wMd cA a (th, (rlT (cpT (mtF f k2) (62 * 0) (62 * 9) 62) k2 100), 0, kp, tx, 0, wo, 0, 0, (mzZ (mzT hs k2) 8)))) ⟨hx, hb, hml, hown, hts⟩ (c_X5_readingsLeft l D cA _ a th (mtF f k2) kp tx wo (mzZ (mzT hs k2) 8) (mtF_FR hF k2) k2 (by omega) hP (hD.weaken (fun _ _ _ _ => trivial))) (cwV 1 hts gX5_mixThreads_X5_readingsLeft rfl rfl rfl (by decide +kernel) ⟨Nat.le_of_ble_eq_true rfl, Nat.le_of_ble_eq_true rfl⟩) hKN hP hD hS hA rfl rfl [0, 1, 2, 3, 4] rfl ((wMd_fst _ _ _).trans (wMd_fst _ _ _).symm) rfl rfl hl.1 rfl (lv_room (Nat.le_of_ble_eq_true rfl)) dX5_mixThreads_36 ⟨Nat.zero_le _, Nat.zero_le _⟩ (fun H locs hP hD hS => ?_)
          refine lv_i2l (v := (i2lF (-1))) hx hb dX5_mixThreads_39 rfl ?_
          refine mu_V (ci := 5) (q0 := 0) (As := [.long (i2lF (-1))]) (rest := []) (ws' := (wMd cA a (th, (rlT (cpT (mtF f k2) (62 * 0) (62 * 9) 62) k2 100), 0, kp, tx, 0, wo, 0, 0, (mixF (mzZ (mzT hs k2) 8) (i2lF (-1)))))) ⟨hx, hb, hml, hown, hts⟩ (c_X5_mix l D cA _ a (th, (rlT (cpT (mtF f k2) (62 * 0) (62 * 9) 62) k2 100), 0, kp, tx, 0, wo, 0, 0, (mzZ (mzT hs k2) 8)) (i2lF (-1)) hP (hD.weaken (fun _ _ _ _ => trivial))) (cwV 1 hts gX5_mixThreads_X5_mix rfl rfl rfl (by decide +kernel) ⟨Nat.le_of_ble_eq_true rfl, Nat.le_of_ble_eq_true rfl⟩) hKN hP hD hS hA rfl rfl [0, 1, 2, 3, 4] rfl ((wMd_fst _ _ _).trans (wMd_fst _ _ _).symm) rfl rfl hl.1 rfl (lv_room (Nat.le_of_ble_eq_true rfl)) dX5_mixThreads_40 ⟨Nat.zero_le _, Nat.zero_le _⟩ (fun H locs hP hD hS => ?_)
          refine lv_iinc (v := (nI (k2 + 1))) (lv' := [(1, .int (nI (k2 + 1))), (2, .int (nI 8)), (0, .ref (a 0))]) hx hb dX5_mixThreads_43 hl (k := 1) rfl (nI_1 _) (by decide) rfl (fun ls hl => ?_)
          refine lv_goto (tgt := 2) hx hb dX5_mixThreads_46 (by decide) ?_
          have e_3 : (mtF f (k2 + 1)) = (rlT (cpT (mtF f k2) (62 * 0) (62 * 9) 62) k2 100) := rfl
          have e_4 : (mzT hs (k2 + 1)) = (mixF (mzZ (mzT hs k2) 8) (i2lF (-1))) := rfl
          exact ih2 (k2 + 1) (by omega) _ _ (by rw [e_3, e_4]; exact hP) (by rw [e_3, e_4]; exact hD) hS ls (lv_sub hl [0, 2] rfl)
        | succ n10 ih10 =>
          intro k10 hk10 H locs hP hD hS ls hl
          have hlt10 : k10 < 8 := by omega
          refine lv_iload_n hx hb dX5_mixThreads_10 rfl (lv_at hl 0 rfl) ?_
          refine lv_bipush (v := 8) hx hb dX5_mixThreads_11 (by decide) ?_
          refine lv_icmp_ge (tgt := 33) hx hb dX5_mixThreads_13 (by decide) (fun h => absurd h (nI_ge hlt10 (by first | decide | omega))) (fun _ => ?_)
          refine lv_aload_n hx hb dX5_mixThreads_16 rfl (lv_at hl 2 rfl) ?_
          refine lv_aload_n hx hb dX5_mixThreads_17 rfl (lv_at hl 2 rfl) ?_
          refine lv_iload_n hx hb dX5_mixThreads_18 rfl (lv_at hl 1 rfl) ?_
          refine lv_iload_n hx hb dX5_mixThreads_19 rfl (lv_at hl 0 rfl) ?_
          refine ro_V (ci := 5) (q0 := 0) (As := [.int (nI k2), .int (nI k10)]) (rest := [.ref (a 0)]) ⟨hx, hb, hml, hown, hts⟩ (c_X5_ofThread l D cA _ a (th, (mtF f k2), 0, kp, tx, 0, wo, 0, 0, (mzZ (mzT hs k2) k10)) k2 (by omega) k10 (by omega) (mtF_FR hF k2) hP) (cwV 2 hts gX5_mixThreads_X5_ofThread rfl rfl rfl (by decide +kernel) ⟨Nat.le_of_ble_eq_true rfl, Nat.le_of_ble_eq_true rfl⟩) hKN hP rfl rfl rfl hl.1 rfl (lv_room (Nat.le_of_ble_eq_true rfl)) dX5_mixThreads_20 ⟨Nat.zero_le _, Nat.zero_le _⟩ ?_
          refine lv_i2l (v := (i2lF 0)) hx hb dX5_mixThreads_23 rfl ?_
          refine mu_V (ci := 5) (q0 := 0) (As := [.long (i2lF 0)]) (rest := []) (ws' := (wMd cA a (th, (mtF f k2), 0, kp, tx, 0, wo, 0, 0, (mixF (mzZ (mzT hs k2) k10) (i2lF 0))))) ⟨hx, hb, hml, hown, hts⟩ (c_X5_mix l D cA _ a (th, (mtF f k2), 0, kp, tx, 0, wo, 0, 0, (mzZ (mzT hs k2) k10)) (i2lF 0) hP (hD.weaken (fun _ _ _ _ => trivial))) (cwV 1 hts gX5_mixThreads_X5_mix rfl rfl rfl (by decide +kernel) ⟨Nat.le_of_ble_eq_true rfl, Nat.le_of_ble_eq_true rfl⟩) hKN hP hD hS hA rfl rfl [0, 1, 2, 3, 4] rfl ((wMd_fst _ _ _).trans (wMd_fst _ _ _).symm) rfl rfl hl.1 rfl (lv_room (Nat.le_of_ble_eq_true rfl)) dX5_mixThreads_24 ⟨Nat.zero_le _, Nat.zero_le _⟩ (fun H locs hP hD hS => ?_)
          refine lv_iinc (v := (nI (k10 + 1))) (lv' := [(2, .int (nI (k10 + 1))), (1, .int (nI k2)), (0, .ref (a 0))]) hx hb dX5_mixThreads_27 hl (k := 0) rfl (nI_1 _) (by decide) rfl (fun ls hl => ?_)
          refine lv_goto (tgt := 10) hx hb dX5_mixThreads_30 (by decide) ?_
          have e_5 : (mzZ (mzT hs k2) (k10 + 1)) = (mixF (mzZ (mzT hs k2) k10) (i2lF 0)) := rfl
          exact ih10 (k10 + 1) (by omega) _ _ (by rw [e_5]; exact hP) (by rw [e_5]; exact hD) hS ls (lv_sub hl [0, 1, 2] rfl)
      exact loop10 8 0 (by omega) _ _ hP hD hS ls (lv_sub hl [0, 1, 2] rfl)
  exact loop2 16 0 (by omega) _ _ hP hD hS ls (lv_sub hl [0, 1] rfl)
theorem mX5_bits_k197 : Cond.constantDouble RX5 197 (4611686018427387904) ∈ wsX5_bits := by decide +kernel
set_option maxHeartbeats 4000000 in
set_option maxRecDepth 100000 in
theorem c_X5_bits1 (l : Launch) (D : va_G) (cA : Nat → ClassId) (H : Heap) : RO l yX5_bits wsX5_bits ({ frames := 0, cells := 0, slots := 0, locals := 0 } : Room) D cA [.double (shareF 16), .long 4503599627370496, .long 1023] H (some (.long 4607182418800017408)) := by
  refine Met.ofW (cc := cX5_bits) (maxL := 10) (ret := (some .long)) (by decide) rfl ?_
  intro p e s m args below meth c s₁ B hml hv
  obtain ⟨rfl, hH, hKN⟩ := hv
  have hK := hKN.1
  have hx := B.exec
  have hb := B.bytes
  have hr := B.returns
  have hts := atoms_spec (ws := wsX5_bits) B.pre
  have hown : s.vm.findClass RX5 = some m.cls := findClass_of_methodNamed B.named
  have hlocks := B.notSynchronized
  subst hH
  have hH : s.heap = s.heap := rfl
  have hl := lv_entry ([.double (shareF 16), .long 4503599627370496, .long 1023] : List Value) (n := 10) (Nat.le_of_ble_eq_true rfl)
  rw [lg_entry_eq]
  generalize (lg_sl ([.double (shareF 16), .long 4503599627370496, .long 1023] : List Value) ++ List.replicate (10 - (lg_sl ([.double (shareF 16), .long 4503599627370496, .long 1023] : List Value)).length) Slot.unset).toArray = ls at hl ⊢
  have hl : lv_has ls 10 [(0, .double (shareF 16)), (2, .long 4503599627370496), (4, .long 1023)] := hl
  refine lv_dload_n hx hb dX5_bits_0 rfl (lv_at hl 0 rfl) ?_
  refine lv_dconst0 hx hb dX5_bits_1 ?_
  refine lv_dcmp hx hb dX5_bits_2 ?_
  refine lz_top (v := 1) (by decide +kernel) ?_
  refine lv_if_ne (tgt := 8) hx hb dX5_bits_3 (by decide) (fun _ => ?_) (fun h => absurd h (by decide))
  refine lv_dload_n hx hb dX5_bits_8 rfl (lv_at hl 0 rfl) ?_
  refine lv_dstore (lv' := [(6, .double (shareF 16)), (0, .double (shareF 16)), (2, .long 4503599627370496), (4, .long 1023)]) hx hb dX5_bits_9 hl (by decide) rfl (fun ls hl => ?_)
  refine lv_lload hx hb dX5_bits_11 (lv_at hl 3 rfl) ?_
  refine lv_lstore (lv' := [(8, .long 1023), (6, .double (shareF 16)), (0, .double (shareF 16)), (2, .long 4503599627370496), (4, .long 1023)]) hx hb dX5_bits_13 hl (by decide) rfl (fun ls hl => ?_)
  refine lv_dload hx hb dX5_bits_15 (lv_at hl 1 rfl) ?_
  refine lv_ldc2d (v := 4611686018427387904) hx hb hown (hts _ mX5_bits_k197) dX5_bits_17 ?_
  refine lv_dcmp hx hb dX5_bits_20 ?_
  refine lz_top (v := (-1)) (by decide +kernel) ?_
  refine lv_if_lt (tgt := 41) hx hb dX5_bits_21 (by decide) (fun _ => ?_) (fun h => absurd (by decide) h)
  refine lv_dload hx hb dX5_bits_41 (lv_at hl 1 rfl) ?_
  refine lv_dconst1 hx hb dX5_bits_43 ?_
  refine lv_dcmp hx hb dX5_bits_44 ?_
  refine lz_top (v := 0) (by decide +kernel) ?_
  refine lv_if_ge (tgt := 65) hx hb dX5_bits_45 (by decide) (fun _ => ?_) (fun h => absurd (by decide) h)
  refine lv_lload hx hb dX5_bits_65 (lv_at hl 0 rfl) ?_
  refine lv_lload_n hx hb dX5_bits_67 rfl (lv_at hl 3 rfl) ?_
  refine lv_lmul hx hb dX5_bits_68 ?_
  refine lv_dload hx hb dX5_bits_69 (lv_at hl 1 rfl) ?_
  refine lv_dconst1 hx hb dX5_bits_71 ?_
  refine lv_dsub hx hb dX5_bits_72 (by unfold vf_n64; decide +kernel) ?_
  refine lv_lload_n hx hb dX5_bits_73 rfl (lv_at hl 3 rfl) ?_
  refine lv_l2d hx hb dX5_bits_74 ?_
  refine lv_dmul hx hb dX5_bits_75 (by unfold vf_n64; decide +kernel) ?_
  refine lv_d2l hx hb dX5_bits_76 ?_
  refine lv_ladd hx hb dX5_bits_77 ?_
  exact ro_lret hx hb hr hlocks hH dX5_bits_78 (by decide +kernel)
set_option maxHeartbeats 4000000 in
set_option maxRecDepth 100000 in
theorem c_X5_bits0 (l : Launch) (D : va_G) (cA : Nat → ClassId) (H : Heap) : RO l yX5_bits wsX5_bits ({ frames := 0, cells := 0, slots := 0, locals := 0 } : Room) D cA [.double (FP.f2d (meanF 0)), .long 8388608, .long 127] H (some (.long 0)) := by
  refine Met.ofW (cc := cX5_bits) (maxL := 10) (ret := (some .long)) (by decide) rfl ?_
  intro p e s m args below meth c s₁ B hml hv
  obtain ⟨rfl, hH, hKN⟩ := hv
  have hK := hKN.1
  have hx := B.exec
  have hb := B.bytes
  have hr := B.returns
  have hts := atoms_spec (ws := wsX5_bits) B.pre
  have hown : s.vm.findClass RX5 = some m.cls := findClass_of_methodNamed B.named
  have hlocks := B.notSynchronized
  subst hH
  have hH : s.heap = s.heap := rfl
  have hl := lv_entry ([.double (FP.f2d (meanF 0)), .long 8388608, .long 127] : List Value) (n := 10) (Nat.le_of_ble_eq_true rfl)
  rw [lg_entry_eq]
  generalize (lg_sl ([.double (FP.f2d (meanF 0)), .long 8388608, .long 127] : List Value) ++ List.replicate (10 - (lg_sl ([.double (FP.f2d (meanF 0)), .long 8388608, .long 127] : List Value)).length) Slot.unset).toArray = ls at hl ⊢
  have hl : lv_has ls 10 [(0, .double (FP.f2d (meanF 0))), (2, .long 8388608), (4, .long 127)] := hl
  refine lv_dload_n hx hb dX5_bits_0 rfl (lv_at hl 0 rfl) ?_
  refine lv_dconst0 hx hb dX5_bits_1 ?_
  refine lv_dcmp hx hb dX5_bits_2 ?_
  refine lz_top (v := 0) (by decide +kernel) ?_
  refine lv_if_ne (tgt := 8) hx hb dX5_bits_3 (by decide) (fun h => absurd (by decide) h) (fun _ => ?_)
  refine lv_lconst (v := 0) hx hb dX5_bits_6 (by decide) ?_
  exact ro_lret hx hb hr hlocks hH dX5_bits_7 rfl
theorem mX5_digest_f23 : Cond.fieldLink RX5 23 "WireLoomModel" "thrown" "I" ∈ wsX5_digest := by decide +kernel
theorem mX5_digest_k203 : Cond.constantLong RX5 203 (3371) ∈ wsX5_digest := by decide +kernel
theorem mX5_digest_f193 : Cond.fieldLink RX5 193 "WireLoomModel" "hash" "J" ∈ wsX5_digest := by decide +kernel
theorem mX5_digest_f7 : Cond.fieldLink RX5 7 "WireLoomModel" "s" "[I" ∈ wsX5_digest := by decide +kernel
theorem mX5_digest_k208 : Cond.constantLong RX5 208 (-1) ∈ wsX5_digest := by decide +kernel
theorem mX5_digest_k210 : Cond.constantLong RX5 210 (4503599627370496) ∈ wsX5_digest := by decide +kernel
theorem mX5_digest_k212 : Cond.constantLong RX5 212 (1023) ∈ wsX5_digest := by decide +kernel
theorem mX5_digest_k218 : Cond.constantLong RX5 218 (8388608) ∈ wsX5_digest := by decide +kernel
theorem mX5_digest_k220 : Cond.constantLong RX5 220 (127) ∈ wsX5_digest := by decide +kernel
theorem mX5_digest_f13 : Cond.fieldLink RX5 13 "WireLoomModel" "isKept" "[Z" ∈ wsX5_digest := by decide +kernel
theorem mX5_digest_f105 : Cond.fieldLink RX5 105 "WireLoomModel" "length" "I" ∈ wsX5_digest := by decide +kernel
set_option maxRecDepth 20000 in
theorem iX5_digest_X5 : ∀ w ∈ wsX50, w ∈ wsX5_digest := by decide +kernel
set_option maxHeartbeats 4000000 in
set_option maxRecDepth 100000 in
theorem c_X5_digest (l : Launch) (D : va_G) (cA : Nat → ClassId) (H : Heap) (a : Nat → Nat) (th : Int32) (f kp tx wo : Nat → Int32) (hs : Int64) (hF : FR f 0) (hk0 : kp 0 = 0) (hk1 : kp 1 = 0) (hP0 : va_P D vwCl (wMd cA a (th, f, 0, kp, tx, 0, wo, 0, 0, hs)) H) (hD0 : va_D (fun _ => True) (wMd cA a (th, f, 0, kp, tx, 0, wo, 0, 0, hs))) : MU l yX5_digest wsX5_digest ({ frames := 10, cells := 0, slots := 0, locals := 239 } : Room) D cA [.ref (a 0)] H (wMd cA a (th, f, 0, kp, tx, 0, wo, 0, 0, hs)) (wMd cA a (0, (gfT (gnF (mtF f 16) 4) 16), 0, kp, tx, 0, wo, 0, 0, (mixF (mixF (mixF (mixF (mixF (mixF (mixF (mixF (mzG (mzL (mzM (mzZ (mzZ (mzT (mixF (mixF (mzC 3371 10) (i2lF 6)) (i2lF 0)) 16) 40) 16) 9) 8) 4) (-1)) (i2lF (-1))) (i2lF (bgB 16))) 4607182418800017408) 0) 0) 0) (i2lF 0)))) (some (.long (mixF (mixF (mixF (mixF (mixF (mixF (mixF (mixF (mzG (mzL (mzM (mzZ (mzZ (mzT (mixF (mixF (mzC 3371 10) (i2lF 6)) (i2lF 0)) 16) 40) 16) 9) 8) 4) (-1)) (i2lF (-1))) (i2lF (bgB 16))) 4607182418800017408) 0) 0) 0) (i2lF 0)))) := by
  refine Met.ofW (cc := cX5_digest) (maxL := 2) (ret := (some .long)) (by decide) rfl ?_
  intro p e s m args below meth c s₁ B hml hv
  obtain ⟨rfl, hH, hKN⟩ := hv
  have hK := hKN.1
  have hx := B.exec
  have hb := B.bytes
  have hr := B.returns
  have hts := atoms_spec (ws := wsX5_digest) B.pre
  have hown : s.vm.findClass RX5 = some m.cls := findClass_of_methodNamed B.named
  have hlocks := B.notSynchronized
  subst hH
  have hD := hD0.self (sz := s.heap.size)
  generalize hAe : va_A (wMd cA a (th, f, 0, kp, tx, 0, wo, 0, 0, hs)) s.heap.size = A at hD ⊢
  have hA : ∀ q : Nat, s.heap.size ≤ q → A q := fun q h => by rw [← hAe]; exact Or.inr h
  have hS : va_S A s.heap s.heap [] := va_S.rf
  have hP : va_P D vwCl (wMd cA a (th, f, 0, kp, tx, 0, wo, 0, 0, hs)) s.heap := hP0
  have hl := lv_entry ([.ref (a 0)] : List Value) (n := 2) (Nat.le_of_ble_eq_true rfl)
  rw [lg_entry_eq]
  generalize (lg_sl ([.ref (a 0)] : List Value) ++ List.replicate (2 - (lg_sl ([.ref (a 0)] : List Value)).length) Slot.unset).toArray = ls at hl ⊢
  have hl : lv_has ls 2 [(0, .ref (a 0))] := hl
  refine lv_aload_n hx hb dX5_digest_0 rfl (lv_at hl 0 rfl) ?_
  refine lv_iconst (v := 0) hx hb dX5_digest_1 (by decide) ?_
  refine va_put (D := D) (ci := 5) (v := .int 0) (ty := .int) (C := RX5) (T := TX5) (N := 10) hx hb hts iX5_digest_X5 tyX5 tyX5_ok nmX5 hown hK hP hD hS 0 rfl rfl 0 (by decide) (hts _ mX5_digest_f23) (fun _ h9 => h9) rfl (by decide +kernel) rfl rfl (Nat.le_of_ble_eq_true rfl) dX5_digest_2 (fun H locs hP hD hS => ?_)
  have hP : va_P D vwCl (wMd cA a (0, f, 0, kp, tx, 0, wo, 0, 0, hs)) H := hP
  have hD : va_D A (wMd cA a (0, f, 0, kp, tx, 0, wo, 0, 0, hs)) := hD
  refine lv_aload_n hx hb dX5_digest_5 rfl (lv_at hl 0 rfl) ?_
  refine lv_ldc2 (v := 3371) hx hb hown (hts _ mX5_digest_k203) dX5_digest_6 ?_
  refine va_put (D := D) (ci := 5) (v := .long 3371) (ty := .long) (C := RX5) (T := TX5) (N := 10) hx hb hts iX5_digest_X5 tyX5 tyX5_ok nmX5 hown hK hP hD hS 0 rfl rfl 9 (by decide) (hts _ mX5_digest_f193) (fun _ h9 => h9) rfl (by decide +kernel) rfl rfl (Nat.le_of_ble_eq_true rfl) dX5_digest_9 (fun H locs hP hD hS => ?_)
  have hP : va_P D vwCl (wMd cA a (0, f, 0, kp, tx, 0, wo, 0, 0, 3371)) H := hP
  have hD : va_D A (wMd cA a (0, f, 0, kp, tx, 0, wo, 0, 0, 3371)) := hD
  refine lv_iconst (v := 0) hx hb dX5_digest_12 (by decide) ?_
  refine lv_istore_n (lv' := [(1, .int 0), (0, .ref (a 0))]) hx hb dX5_digest_13 rfl hl (by decide) rfl (fun ls hl => ?_)
  have loop14 : ∀ (n14 k14 : Nat), k14 + n14 = 10 → ∀ (H : Heap) (locs : List Loc), va_P D vwCl (wMd cA a (0, f, 0, kp, tx, 0, wo, 0, 0, (mzC 3371 k14))) H → va_D A (wMd cA a (0, f, 0, kp, tx, 0, wo, 0, 0, (mzC 3371 k14))) → va_S A s.heap H locs → ∀ (ls : Array Slot), lv_has ls 2 [(1, .int (nI k14)), (0, .ref (a 0))] → W p l e ({ frames := 10, cells := 0, slots := 0, locals := 239 } : Room) s m ([.ref (a 0)] : List Value).toArray below meth c H locs 0 0 (MQ below (muQ D s.heap (wMd cA a (th, f, 0, kp, tx, 0, wo, 0, 0, hs)) (wMd cA a (0, (gfT (gnF (mtF f 16) 4) 16), 0, kp, tx, 0, wo, 0, 0, (mixF (mixF (mixF (mixF (mixF (mixF (mixF (mixF (mzG (mzL (mzM (mzZ (mzZ (mzT (mixF (mixF (mzC 3371 10) (i2lF 6)) (i2lF 0)) 16) 40) 16) 9) 8) 4) (-1)) (i2lF (-1))) (i2lF (bgB 16))) 4607182418800017408) 0) 0) 0) (i2lF 0)))) (some (.long (mixF (mixF (mixF (mixF (mixF (mixF (mixF (mixF (mzG (mzL (mzM (mzZ (mzZ (mzT (mixF (mixF (mzC 3371 10) (i2lF 6)) (i2lF 0)) 16) 40) 16) 9) 8) 4) (-1)) (i2lF (-1))) (i2lF (bgB 16))) 4607182418800017408) 0) 0) 0) (i2lF 0))))) ([.ref (a 0)] : List Value).toArray s 0 0 A) (F0 m 14 ls []) := by
    intro n14
    induction n14 with
    | zero =>
      intro k14 hk14 H locs hP hD hS ls hl
      obtain rfl : 10 = k14 := by omega
      refine lv_iload_n hx hb dX5_digest_14 rfl (lv_at hl 0 rfl) ?_
      refine lv_bipush (v := 10) hx hb dX5_digest_15 (by decide) ?_
      refine lv_icmp_ge (tgt := 36) hx hb dX5_digest_17 (by decide) (fun _ => ?_) (fun h => absurd (by decide) h)
      refine lv_aload_n hx hb dX5_digest_36 rfl (lv_at hl 1 rfl) ?_
      refine lv_aload_n hx hb dX5_digest_37 rfl (lv_at hl 1 rfl) ?_
      refine va_get (D := D) (ci := 5) (v := .ref (a 1)) (C := RX5) (T := TX5) (N := 10) hx hb hts iX5_digest_X5 hown hK hP 0 rfl rfl 1 (by decide) (hts _ mX5_digest_f7) (fun _ h9 => h9) rfl dX5_digest_38 ?_
      refine lv_bipush (v := 25) hx hb dX5_digest_41 (by decide) ?_
      refine lz_iald (k := 25) (f := f) hx hb hK hP 1 0 rfl rfl ⟨by decide, by decide⟩ dX5_digest_43 ?_
      refine lz_top (v := 6) hF.se ?_
      refine lv_i2l (v := (i2lF 6)) hx hb dX5_digest_44 rfl ?_
      refine mu_V (ci := 5) (q0 := 0) (As := [.long (i2lF 6)]) (rest := []) (ws' := (wMd cA a (0, f, 0, kp, tx, 0, wo, 0, 0, (mixF (mzC 3371 10) (i2lF 6))))) ⟨hx, hb, hml, hown, hts⟩ (c_X5_mix l D cA _ a (0, f, 0, kp, tx, 0, wo, 0, 0, (mzC 3371 10)) (i2lF 6) hP (hD.weaken (fun _ _ _ _ => trivial))) (cwV 1 hts gX5_digest_X5_mix rfl rfl rfl (by decide +kernel) ⟨Nat.le_of_ble_eq_true rfl, Nat.le_of_ble_eq_true rfl⟩) hKN hP hD hS hA rfl rfl [0, 1, 2, 3, 4] rfl ((wMd_fst _ _ _).trans (wMd_fst _ _ _).symm) rfl rfl hl.1 rfl (lv_room (Nat.le_of_ble_eq_true rfl)) dX5_digest_45 ⟨Nat.zero_le _, Nat.zero_le _⟩ (fun H locs hP hD hS => ?_)
      refine lv_aload_n hx hb dX5_digest_48 rfl (lv_at hl 1 rfl) ?_
      refine lv_aload_n hx hb dX5_digest_49 rfl (lv_at hl 1 rfl) ?_
      refine va_get (D := D) (ci := 5) (v := .ref (a 1)) (C := RX5) (T := TX5) (N := 10) hx hb hts iX5_digest_X5 hown hK hP 0 rfl rfl 1 (by decide) (hts _ mX5_digest_f7) (fun _ h9 => h9) rfl dX5_digest_50 ?_
      refine lv_bipush (v := 26) hx hb dX5_digest_53 (by decide) ?_
      refine lz_iald (k := 26) (f := f) hx hb hK hP 1 0 rfl rfl ⟨by decide, by decide⟩ dX5_digest_55 ?_
      refine lz_top (v := 0) (hF.z (j := 26) (by omega) (by omega) (by omega)) ?_
      refine lv_i2l (v := (i2lF 0)) hx hb dX5_digest_56 rfl ?_
      refine mu_V (ci := 5) (q0 := 0) (As := [.long (i2lF 0)]) (rest := []) (ws' := (wMd cA a (0, f, 0, kp, tx, 0, wo, 0, 0, (mixF (mixF (mzC 3371 10) (i2lF 6)) (i2lF 0))))) ⟨hx, hb, hml, hown, hts⟩ (c_X5_mix l D cA _ a (0, f, 0, kp, tx, 0, wo, 0, 0, (mixF (mzC 3371 10) (i2lF 6))) (i2lF 0) hP (hD.weaken (fun _ _ _ _ => trivial))) (cwV 1 hts gX5_digest_X5_mix rfl rfl rfl (by decide +kernel) ⟨Nat.le_of_ble_eq_true rfl, Nat.le_of_ble_eq_true rfl⟩) hKN hP hD hS hA rfl rfl [0, 1, 2, 3, 4] rfl ((wMd_fst _ _ _).trans (wMd_fst _ _ _).symm) rfl rfl hl.1 rfl (lv_room (Nat.le_of_ble_eq_true rfl)) dX5_digest_57 ⟨Nat.zero_le _, Nat.zero_le _⟩ (fun H locs hP hD hS => ?_)
      refine lv_aload_n hx hb dX5_digest_60 rfl (lv_at hl 1 rfl) ?_
      refine mu_V (ci := 5) (q0 := 0) (As := []) (rest := []) (ws' := (wMd cA a (0, (mtF f 16), 0, kp, tx, 0, wo, 0, 0, (mzZ (mzZ (mzT (mixF (mixF (mzC 3371 10) (i2lF 6)) (i2lF 0)) 16) 40) 16)))) ⟨hx, hb, hml, hown, hts⟩ (c_X5_mixThreads l D cA _ a 0 f kp tx wo (mixF (mixF (mzC 3371 10) (i2lF 6)) (i2lF 0)) hF hP (hD.weaken (fun _ _ _ _ => trivial))) (cwV 0 hts gX5_digest_X5_mixThreads rfl rfl rfl (by decide +kernel) ⟨Nat.le_of_ble_eq_true rfl, Nat.le_of_ble_eq_true rfl⟩) hKN hP hD hS hA rfl rfl [0, 1, 2, 3, 4] rfl ((wMd_fst _ _ _).trans (wMd_fst _ _ _).symm) rfl rfl hl.1 rfl (lv_room (Nat.le_of_ble_eq_true rfl)) dX5_digest_61 ⟨Nat.zero_le _, Nat.zero_le _⟩ (fun H locs hP hD hS => ?_)
      refine lv_iconst (v := 0) hx hb dX5_digest_64 (by decide) ?_
      refine lv_istore_n (lv' := [(1, .int 0), (0, .ref (a 0))]) hx hb dX5_digest_65 rfl hl (by decide) rfl (fun ls hl => ?_)
      have loop66 : ∀ (n66 k66 : Nat), k66 + n66 = 9 → ∀ (H : Heap) (locs : List Loc), va_P D vwCl (wMd cA a (0, (mtF f 16), 0, kp, tx, 0, wo, 0, 0, (mzM (mzZ (mzZ (mzT (mixF (mixF (mzC 3371 10) (i2lF 6)) (i2lF 0)) 16) 40) 16) k66))) H → va_D A (wMd cA a (0, (mtF f 16), 0, kp, tx, 0, wo, 0, 0, (mzM (mzZ (mzZ (mzT (mixF (mixF (mzC 3371 10) (i2lF 6)) (i2lF 0)) 16) 40) 16) k66))) → va_S A s.heap H locs → ∀ (ls : Array Slot), lv_has ls 2 [(1, .int (nI k66)), (0, .ref (a 0))] → W p l e ({ frames := 10, cells := 0, slots := 0, locals := 239 } : Room) s m ([.ref (a 0)] : List Value).toArray below meth c H locs 0 0 (MQ below (muQ D s.heap (wMd cA a (th, f, 0, kp, tx, 0, wo, 0, 0, hs)) (wMd cA a (0, (gfT (gnF (mtF f 16) 4) 16), 0, kp, tx, 0, wo, 0, 0, (mixF (mixF (mixF (mixF (mixF (mixF (mixF (mixF (mzG (mzL (mzM (mzZ (mzZ (mzT (mixF (mixF (mzC 3371 10) (i2lF 6)) (i2lF 0)) 16) 40) 16) 9) 8) 4) (-1)) (i2lF (-1))) (i2lF (bgB 16))) 4607182418800017408) 0) 0) 0) (i2lF 0)))) (some (.long (mixF (mixF (mixF (mixF (mixF (mixF (mixF (mixF (mzG (mzL (mzM (mzZ (mzZ (mzT (mixF (mixF (mzC 3371 10) (i2lF 6)) (i2lF 0)) 16) 40) 16) 9) 8) 4) (-1)) (i2lF (-1))) (i2lF (bgB 16))) 4607182418800017408) 0) 0) 0) (i2lF 0))))) ([.ref (a 0)] : List Value).toArray s 0 0 A) (F0 m 66 ls []) := by
        intro n66
        induction n66 with
        | zero =>
          intro k66 hk66 H locs hP hD hS ls hl
          obtain rfl : 9 = k66 := by omega
          refine lv_iload_n hx hb dX5_digest_66 rfl (lv_at hl 0 rfl) ?_
          refine lv_bipush (v := 9) hx hb dX5_digest_67 (by decide) ?_
          refine lv_icmp_ge (tgt := 88) hx hb dX5_digest_69 (by decide) (fun _ => ?_) (fun h => absurd (by decide) h)
          refine lv_iconst (v := 0) hx hb dX5_digest_88 (by decide) ?_
          refine lv_istore_n (lv' := [(1, .int 0), (0, .ref (a 0))]) hx hb dX5_digest_89 rfl hl (by decide) rfl (fun ls hl => ?_)
          have loop90 : ∀ (n90 k90 : Nat), k90 + n90 = 8 → ∀ (H : Heap) (locs : List Loc), va_P D vwCl (wMd cA a (0, (mtF f 16), 0, kp, tx, 0, wo, 0, 0, (mzL (mzM (mzZ (mzZ (mzT (mixF (mixF (mzC 3371 10) (i2lF 6)) (i2lF 0)) 16) 40) 16) 9) k90))) H → va_D A (wMd cA a (0, (mtF f 16), 0, kp, tx, 0, wo, 0, 0, (mzL (mzM (mzZ (mzZ (mzT (mixF (mixF (mzC 3371 10) (i2lF 6)) (i2lF 0)) 16) 40) 16) 9) k90))) → va_S A s.heap H locs → ∀ (ls : Array Slot), lv_has ls 2 [(1, .int (nI k90)), (0, .ref (a 0))] → W p l e ({ frames := 10, cells := 0, slots := 0, locals := 239 } : Room) s m ([.ref (a 0)] : List Value).toArray below meth c H locs 0 0 (MQ below (muQ D s.heap (wMd cA a (th, f, 0, kp, tx, 0, wo, 0, 0, hs)) (wMd cA a (0, (gfT (gnF (mtF f 16) 4) 16), 0, kp, tx, 0, wo, 0, 0, (mixF (mixF (mixF (mixF (mixF (mixF (mixF (mixF (mzG (mzL (mzM (mzZ (mzZ (mzT (mixF (mixF (mzC 3371 10) (i2lF 6)) (i2lF 0)) 16) 40) 16) 9) 8) 4) (-1)) (i2lF (-1))) (i2lF (bgB 16))) 4607182418800017408) 0) 0) 0) (i2lF 0)))) (some (.long (mixF (mixF (mixF (mixF (mixF (mixF (mixF (mixF (mzG (mzL (mzM (mzZ (mzZ (mzT (mixF (mixF (mzC 3371 10) (i2lF 6)) (i2lF 0)) 16) 40) 16) 9) 8) 4) (-1)) (i2lF (-1))) (i2lF (bgB 16))) 4607182418800017408) 0) 0) 0) (i2lF 0))))) ([.ref (a 0)] : List Value).toArray s 0 0 A) (F0 m 90 ls []) := by
            intro n90
            induction n90 with
            | zero =>
              intro k90 hk90 H locs hP hD hS ls hl
              obtain rfl : 8 = k90 := by omega
              refine lv_iload_n hx hb dX5_digest_90 rfl (lv_at hl 0 rfl) ?_
              refine lv_bipush (v := 8) hx hb dX5_digest_91 (by decide) ?_
              refine lv_icmp_ge (tgt := 112) hx hb dX5_digest_93 (by decide) (fun _ => ?_) (fun h => absurd (by decide) h)
              refine lv_iconst (v := 0) hx hb dX5_digest_112 (by decide) ?_
              refine lv_istore_n (lv' := [(1, .int 0), (0, .ref (a 0))]) hx hb dX5_digest_113 rfl hl (by decide) rfl (fun ls hl => ?_)
              have loop114 : ∀ (n114 k114 : Nat), k114 + n114 = 4 → ∀ (H : Heap) (locs : List Loc), va_P D vwCl (wMd cA a (0, (gnF (mtF f 16) k114), 0, kp, tx, 0, wo, 0, 0, (mzG (mzL (mzM (mzZ (mzZ (mzT (mixF (mixF (mzC 3371 10) (i2lF 6)) (i2lF 0)) 16) 40) 16) 9) 8) k114))) H → va_D A (wMd cA a (0, (gnF (mtF f 16) k114), 0, kp, tx, 0, wo, 0, 0, (mzG (mzL (mzM (mzZ (mzZ (mzT (mixF (mixF (mzC 3371 10) (i2lF 6)) (i2lF 0)) 16) 40) 16) 9) 8) k114))) → va_S A s.heap H locs → ∀ (ls : Array Slot), lv_has ls 2 [(1, .int (nI k114)), (0, .ref (a 0))] → W p l e ({ frames := 10, cells := 0, slots := 0, locals := 239 } : Room) s m ([.ref (a 0)] : List Value).toArray below meth c H locs 0 0 (MQ below (muQ D s.heap (wMd cA a (th, f, 0, kp, tx, 0, wo, 0, 0, hs)) (wMd cA a (0, (gfT (gnF (mtF f 16) 4) 16), 0, kp, tx, 0, wo, 0, 0, (mixF (mixF (mixF (mixF (mixF (mixF (mixF (mixF (mzG (mzL (mzM (mzZ (mzZ (mzT (mixF (mixF (mzC 3371 10) (i2lF 6)) (i2lF 0)) 16) 40) 16) 9) 8) 4) (-1)) (i2lF (-1))) (i2lF (bgB 16))) 4607182418800017408) 0) 0) 0) (i2lF 0)))) (some (.long (mixF (mixF (mixF (mixF (mixF (mixF (mixF (mixF (mzG (mzL (mzM (mzZ (mzZ (mzT (mixF (mixF (mzC 3371 10) (i2lF 6)) (i2lF 0)) 16) 40) 16) 9) 8) 4) (-1)) (i2lF (-1))) (i2lF (bgB 16))) 4607182418800017408) 0) 0) 0) (i2lF 0))))) ([.ref (a 0)] : List Value).toArray s 0 0 A) (F0 m 114 ls []) := by
                intro n114
                induction n114 with
                | zero =>
                  intro k114 hk114 H locs hP hD hS ls hl
                  obtain rfl : 4 = k114 := by omega
                  refine lv_iload_n hx hb dX5_digest_114 rfl (lv_at hl 0 rfl) ?_
                  refine lv_iconst (v := 4) hx hb dX5_digest_115 (by decide) ?_
                  refine lv_icmp_ge (tgt := 137) hx hb dX5_digest_116 (by decide) (fun _ => ?_) (fun h => absurd (by decide) h)
                  refine lv_aload_n hx hb dX5_digest_137 rfl (lv_at hl 1 rfl) ?_
                  refine lv_aload_n hx hb dX5_digest_138 rfl (lv_at hl 1 rfl) ?_
                  refine mu_V (ci := 5) (q0 := 0) (As := []) (rest := [.ref (a 0)]) (ws' := (wMd cA a (0, (gnF (mtF f 16) 4), 0, kp, tx, 0, wo, 0, 0, (mzG (mzL (mzM (mzZ (mzZ (mzT (mixF (mixF (mzC 3371 10) (i2lF 6)) (i2lF 0)) 16) 40) 16) 9) 8) 4)))) ⟨hx, hb, hml, hown, hts⟩ (c_X5_isProgram l D cA _ a 0 (gnF (mtF f 16) 4) kp tx wo (mzG (mzL (mzM (mzZ (mzZ (mzT (mixF (mixF (mzC 3371 10) (i2lF 6)) (i2lF 0)) 16) 40) 16) 9) 8) 4) hP (hD.weaken (fun _ _ _ _ => trivial))) (cwV 0 hts gX5_digest_X5_isProgram rfl rfl rfl (by decide +kernel) ⟨Nat.le_of_ble_eq_true rfl, Nat.le_of_ble_eq_true rfl⟩) hKN hP hD hS hA rfl rfl [0, 1, 2, 3, 4] rfl ((wMd_fst _ _ _).trans (wMd_fst _ _ _).symm) rfl rfl hl.1 rfl (lv_room (Nat.le_of_ble_eq_true rfl)) dX5_digest_139 ⟨Nat.zero_le _, Nat.zero_le _⟩ (fun H locs hP hD hS => ?_)
                  refine lv_if_eq (tgt := 154) hx hb dX5_digest_142 (by decide) (fun _ => ?_) (fun h => absurd (by decide) h)
                  refine lv_ldc2 (v := -1) hx hb hown (hts _ mX5_digest_k208) dX5_digest_154 ?_
                  refine mu_V (ci := 5) (q0 := 0) (As := [.long (-1)]) (rest := []) (ws' := (wMd cA a (0, (gnF (mtF f 16) 4), 0, kp, tx, 0, wo, 0, 0, (mixF (mzG (mzL (mzM (mzZ (mzZ (mzT (mixF (mixF (mzC 3371 10) (i2lF 6)) (i2lF 0)) 16) 40) 16) 9) 8) 4) (-1))))) ⟨hx, hb, hml, hown, hts⟩ (c_X5_mix l D cA _ a (0, (gnF (mtF f 16) 4), 0, kp, tx, 0, wo, 0, 0, (mzG (mzL (mzM (mzZ (mzZ (mzT (mixF (mixF (mzC 3371 10) (i2lF 6)) (i2lF 0)) 16) 40) 16) 9) 8) 4)) (-1) hP (hD.weaken (fun _ _ _ _ => trivial))) (cwV 1 hts gX5_digest_X5_mix rfl rfl rfl (by decide +kernel) ⟨Nat.le_of_ble_eq_true rfl, Nat.le_of_ble_eq_true rfl⟩) hKN hP hD hS hA rfl rfl [0, 1, 2, 3, 4] rfl ((wMd_fst _ _ _).trans (wMd_fst _ _ _).symm) rfl rfl hl.1 rfl (lv_room (Nat.le_of_ble_eq_true rfl)) dX5_digest_157 ⟨Nat.zero_le _, Nat.zero_le _⟩ (fun H locs hP hD hS => ?_)
                  refine lv_aload_n hx hb dX5_digest_160 rfl (lv_at hl 1 rfl) ?_
                  refine lv_aload_n hx hb dX5_digest_161 rfl (lv_at hl 1 rfl) ?_
                  refine mu_V (ci := 5) (q0 := 0) (As := []) (rest := [.ref (a 0)]) (ws' := (wMd cA a (0, (gnF (mtF f 16) 4), 0, kp, tx, 0, wo, 0, 0, (mixF (mzG (mzL (mzM (mzZ (mzZ (mzT (mixF (mixF (mzC 3371 10) (i2lF 6)) (i2lF 0)) 16) 40) 16) 9) 8) 4) (-1))))) ⟨hx, hb, hml, hown, hts⟩ (c_X5_placeFound l D cA _ a 0 (gnF (mtF f 16) 4) kp tx wo (mixF (mzG (mzL (mzM (mzZ (mzZ (mzT (mixF (mixF (mzC 3371 10) (i2lF 6)) (i2lF 0)) 16) 40) 16) 9) 8) 4) (-1)) hP (hD.weaken (fun _ _ _ _ => trivial))) (cwV 0 hts gX5_digest_X5_placeFound rfl rfl rfl (by decide +kernel) ⟨Nat.le_of_ble_eq_true rfl, Nat.le_of_ble_eq_true rfl⟩) hKN hP hD hS hA rfl rfl [0, 1, 2, 3, 4] rfl ((wMd_fst _ _ _).trans (wMd_fst _ _ _).symm) rfl rfl hl.1 rfl (lv_room (Nat.le_of_ble_eq_true rfl)) dX5_digest_162 ⟨Nat.zero_le _, Nat.zero_le _⟩ (fun H locs hP hD hS => ?_)
                  refine lv_i2l (v := (i2lF (-1))) hx hb dX5_digest_165 rfl ?_
                  refine mu_V (ci := 5) (q0 := 0) (As := [.long (i2lF (-1))]) (rest := []) (ws' := (wMd cA a (0, (gnF (mtF f 16) 4), 0, kp, tx, 0, wo, 0, 0, (mixF (mixF (mzG (mzL (mzM (mzZ (mzZ (mzT (mixF (mixF (mzC 3371 10) (i2lF 6)) (i2lF 0)) 16) 40) 16) 9) 8) 4) (-1)) (i2lF (-1)))))) ⟨hx, hb, hml, hown, hts⟩ (c_X5_mix l D cA _ a (0, (gnF (mtF f 16) 4), 0, kp, tx, 0, wo, 0, 0, (mixF (mzG (mzL (mzM (mzZ (mzZ (mzT (mixF (mixF (mzC 3371 10) (i2lF 6)) (i2lF 0)) 16) 40) 16) 9) 8) 4) (-1))) (i2lF (-1)) hP (hD.weaken (fun _ _ _ _ => trivial))) (cwV 1 hts gX5_digest_X5_mix rfl rfl rfl (by decide +kernel) ⟨Nat.le_of_ble_eq_true rfl, Nat.le_of_ble_eq_true rfl⟩) hKN hP hD hS hA rfl rfl [0, 1, 2, 3, 4] rfl ((wMd_fst _ _ _).trans (wMd_fst _ _ _).symm) rfl rfl hl.1 rfl (lv_room (Nat.le_of_ble_eq_true rfl)) dX5_digest_166 ⟨Nat.zero_le _, Nat.zero_le _⟩ (fun H locs hP hD hS => ?_)
                  refine lv_aload_n hx hb dX5_digest_169 rfl (lv_at hl 1 rfl) ?_
                  refine lv_aload_n hx hb dX5_digest_170 rfl (lv_at hl 1 rfl) ?_
                  refine mu_V (ci := 5) (q0 := 0) (As := []) (rest := [.ref (a 0)]) (ws' := (wMd cA a (0, (gfT (gnF (mtF f 16) 4) 16), 0, kp, tx, 0, wo, 0, 0, (mixF (mixF (mzG (mzL (mzM (mzZ (mzZ (mzT (mixF (mixF (mzC 3371 10) (i2lF 6)) (i2lF 0)) 16) 40) 16) 9) 8) 4) (-1)) (i2lF (-1)))))) ⟨hx, hb, hml, hown, hts⟩ (c_X5_guardFound l D cA _ a 0 (gnF (mtF f 16) 4) kp tx wo (mixF (mixF (mzG (mzL (mzM (mzZ (mzZ (mzT (mixF (mixF (mzC 3371 10) (i2lF 6)) (i2lF 0)) 16) 40) 16) 9) 8) 4) (-1)) (i2lF (-1))) (gnF_FR (mtF_FR hF 16) 4) hP (hD.weaken (fun _ _ _ _ => trivial))) (cwV 0 hts gX5_digest_X5_guardFound rfl rfl rfl (by decide +kernel) ⟨Nat.le_of_ble_eq_true rfl, Nat.le_of_ble_eq_true rfl⟩) hKN hP hD hS hA rfl rfl [0, 1, 2, 3, 4] rfl ((wMd_fst _ _ _).trans (wMd_fst _ _ _).symm) rfl rfl hl.1 rfl (lv_room (Nat.le_of_ble_eq_true rfl)) dX5_digest_171 ⟨Nat.zero_le _, Nat.zero_le _⟩ (fun H locs hP hD hS => ?_)
                  refine lv_i2l (v := (i2lF (bgB 16))) hx hb dX5_digest_174 rfl ?_
                  refine mu_V (ci := 5) (q0 := 0) (As := [.long (i2lF (bgB 16))]) (rest := []) (ws' := (wMd cA a (0, (gfT (gnF (mtF f 16) 4) 16), 0, kp, tx, 0, wo, 0, 0, (mixF (mixF (mixF (mzG (mzL (mzM (mzZ (mzZ (mzT (mixF (mixF (mzC 3371 10) (i2lF 6)) (i2lF 0)) 16) 40) 16) 9) 8) 4) (-1)) (i2lF (-1))) (i2lF (bgB 16)))))) ⟨hx, hb, hml, hown, hts⟩ (c_X5_mix l D cA _ a (0, (gfT (gnF (mtF f 16) 4) 16), 0, kp, tx, 0, wo, 0, 0, (mixF (mixF (mzG (mzL (mzM (mzZ (mzZ (mzT (mixF (mixF (mzC 3371 10) (i2lF 6)) (i2lF 0)) 16) 40) 16) 9) 8) 4) (-1)) (i2lF (-1)))) (i2lF (bgB 16)) hP (hD.weaken (fun _ _ _ _ => trivial))) (cwV 1 hts gX5_digest_X5_mix rfl rfl rfl (by decide +kernel) ⟨Nat.le_of_ble_eq_true rfl, Nat.le_of_ble_eq_true rfl⟩) hKN hP hD hS hA rfl rfl [0, 1, 2, 3, 4] rfl ((wMd_fst _ _ _).trans (wMd_fst _ _ _).symm) rfl rfl hl.1 rfl (lv_room (Nat.le_of_ble_eq_true rfl)) dX5_digest_175 ⟨Nat.zero_le _, Nat.zero_le _⟩ (fun H locs hP hD hS => ?_)
                  refine lv_aload_n hx hb dX5_digest_178 rfl (lv_at hl 1 rfl) ?_
                  refine lv_aload_n hx hb dX5_digest_179 rfl (lv_at hl 1 rfl) ?_
                  refine ro_V (ci := 5) (q0 := 0) (As := []) (rest := [.ref (a 0)]) ⟨hx, hb, hml, hown, hts⟩ (c_X5_share l D cA _ a (0, (gfT (gnF (mtF f 16) 4) 16), 0, kp, tx, 0, wo, 0, 0, (mixF (mixF (mixF (mzG (mzL (mzM (mzZ (mzZ (mzT (mixF (mixF (mzC 3371 10) (i2lF 6)) (i2lF 0)) 16) 40) 16) 9) 8) 4) (-1)) (i2lF (-1))) (i2lF (bgB 16)))) (FR.ZR (gfT_FR (gnF_FR (mtF_FR hF 16) 4) 16)) hP) (cwV 0 hts gX5_digest_X5_share rfl rfl rfl (by decide +kernel) ⟨Nat.le_of_ble_eq_true rfl, Nat.le_of_ble_eq_true rfl⟩) hKN hP rfl rfl rfl hl.1 rfl (lv_room (Nat.le_of_ble_eq_true rfl)) dX5_digest_180 ⟨Nat.zero_le _, Nat.zero_le _⟩ ?_
                  refine lv_ldc2 (v := 4503599627370496) hx hb hown (hts _ mX5_digest_k210) dX5_digest_183 ?_
                  refine lv_ldc2 (v := 1023) hx hb hown (hts _ mX5_digest_k212) dX5_digest_186 ?_
                  refine ro_S (As := [.double (shareF 16), .long 4503599627370496, .long 1023]) (rest := [.ref (a 0)]) ⟨hx, hb, hml, hown, hts⟩ (c_X5_bits1 l D cA _) (cwS2 3 hts gX5_digest_X5_bits rfl rfl rfl (by decide +kernel) ⟨Nat.le_of_ble_eq_true rfl, Nat.le_of_ble_eq_true rfl⟩) hKN rfl hl.1 rfl (lv_room (Nat.le_of_ble_eq_true rfl)) dX5_digest_189 ⟨Nat.zero_le _, Nat.zero_le _⟩ ?_
                  refine mu_V (ci := 5) (q0 := 0) (As := [.long 4607182418800017408]) (rest := []) (ws' := (wMd cA a (0, (gfT (gnF (mtF f 16) 4) 16), 0, kp, tx, 0, wo, 0, 0, (mixF (mixF (mixF (mixF (mzG (mzL (mzM (mzZ (mzZ (mzT (mixF (mixF (mzC 3371 10) (i2lF 6)) (i2lF 0)) 16) 40) 16) 9) 8) 4) (-1)) (i2lF (-1))) (i2lF (bgB 16))) 4607182418800017408)))) ⟨hx, hb, hml, hown, hts⟩ (c_X5_mix l D cA _ a (0, (gfT (gnF (mtF f 16) 4) 16), 0, kp, tx, 0, wo, 0, 0, (mixF (mixF (mixF (mzG (mzL (mzM (mzZ (mzZ (mzT (mixF (mixF (mzC 3371 10) (i2lF 6)) (i2lF 0)) 16) 40) 16) 9) 8) 4) (-1)) (i2lF (-1))) (i2lF (bgB 16)))) 4607182418800017408 hP (hD.weaken (fun _ _ _ _ => trivial))) (cwV 1 hts gX5_digest_X5_mix rfl rfl rfl (by decide +kernel) ⟨Nat.le_of_ble_eq_true rfl, Nat.le_of_ble_eq_true rfl⟩) hKN hP hD hS hA rfl rfl [0, 1, 2, 3, 4] rfl ((wMd_fst _ _ _).trans (wMd_fst _ _ _).symm) rfl rfl hl.1 rfl (lv_room (Nat.le_of_ble_eq_true rfl)) dX5_digest_192 ⟨Nat.zero_le _, Nat.zero_le _⟩ (fun H locs hP hD hS => ?_)
                  refine lv_aload_n hx hb dX5_digest_195 rfl (lv_at hl 1 rfl) ?_
                  refine lv_aload_n hx hb dX5_digest_196 rfl (lv_at hl 1 rfl) ?_
                  refine ro_V (ci := 5) (q0 := 0) (As := []) (rest := [.ref (a 0)]) ⟨hx, hb, hml, hown, hts⟩ (c_X5_mean l D cA _ a (0, (gfT (gnF (mtF f 16) 4) 16), 0, kp, tx, 0, wo, 0, 0, (mixF (mixF (mixF (mixF (mzG (mzL (mzM (mzZ (mzZ (mzT (mixF (mixF (mzC 3371 10) (i2lF 6)) (i2lF 0)) 16) 40) 16) 9) 8) 4) (-1)) (i2lF (-1))) (i2lF (bgB 16))) 4607182418800017408)) (FR.ZR (gfT_FR (gnF_FR (mtF_FR hF 16) 4) 16)) hP) (cwV 0 hts gX5_digest_X5_mean rfl rfl rfl (by decide +kernel) ⟨Nat.le_of_ble_eq_true rfl, Nat.le_of_ble_eq_true rfl⟩) hKN hP rfl rfl rfl hl.1 rfl (lv_room (Nat.le_of_ble_eq_true rfl)) dX5_digest_197 ⟨Nat.zero_le _, Nat.zero_le _⟩ ?_
                  refine lv_f2d hx hb dX5_digest_200 (by unfold vf_n64; decide +kernel) ?_
                  refine lv_ldc2 (v := 8388608) hx hb hown (hts _ mX5_digest_k218) dX5_digest_201 ?_
                  refine lv_ldc2 (v := 127) hx hb hown (hts _ mX5_digest_k220) dX5_digest_204 ?_
                  refine ro_S (As := [.double (FP.f2d (meanF 0)), .long 8388608, .long 127]) (rest := [.ref (a 0)]) ⟨hx, hb, hml, hown, hts⟩ (c_X5_bits0 l D cA _) (cwS2 3 hts gX5_digest_X5_bits rfl rfl rfl (by decide +kernel) ⟨Nat.le_of_ble_eq_true rfl, Nat.le_of_ble_eq_true rfl⟩) hKN rfl hl.1 rfl (lv_room (Nat.le_of_ble_eq_true rfl)) dX5_digest_207 ⟨Nat.zero_le _, Nat.zero_le _⟩ ?_
                  refine mu_V (ci := 5) (q0 := 0) (As := [.long 0]) (rest := []) (ws' := (wMd cA a (0, (gfT (gnF (mtF f 16) 4) 16), 0, kp, tx, 0, wo, 0, 0, (mixF (mixF (mixF (mixF (mixF (mzG (mzL (mzM (mzZ (mzZ (mzT (mixF (mixF (mzC 3371 10) (i2lF 6)) (i2lF 0)) 16) 40) 16) 9) 8) 4) (-1)) (i2lF (-1))) (i2lF (bgB 16))) 4607182418800017408) 0)))) ⟨hx, hb, hml, hown, hts⟩ (c_X5_mix l D cA _ a (0, (gfT (gnF (mtF f 16) 4) 16), 0, kp, tx, 0, wo, 0, 0, (mixF (mixF (mixF (mixF (mzG (mzL (mzM (mzZ (mzZ (mzT (mixF (mixF (mzC 3371 10) (i2lF 6)) (i2lF 0)) 16) 40) 16) 9) 8) 4) (-1)) (i2lF (-1))) (i2lF (bgB 16))) 4607182418800017408)) 0 hP (hD.weaken (fun _ _ _ _ => trivial))) (cwV 1 hts gX5_digest_X5_mix rfl rfl rfl (by decide +kernel) ⟨Nat.le_of_ble_eq_true rfl, Nat.le_of_ble_eq_true rfl⟩) hKN hP hD hS hA rfl rfl [0, 1, 2, 3, 4] rfl ((wMd_fst _ _ _).trans (wMd_fst _ _ _).symm) rfl rfl hl.1 rfl (lv_room (Nat.le_of_ble_eq_true rfl)) dX5_digest_210 ⟨Nat.zero_le _, Nat.zero_le _⟩ (fun H locs hP hD hS => ?_)
                  refine lv_aload_n hx hb dX5_digest_213 rfl (lv_at hl 1 rfl) ?_
                  refine lv_aload_n hx hb dX5_digest_214 rfl (lv_at hl 1 rfl) ?_
                  refine va_get (D := D) (ci := 5) (v := .ref (a 2)) (C := RX5) (T := TX5) (N := 10) hx hb hts iX5_digest_X5 hown hK hP 0 rfl rfl 3 (by decide) (hts _ mX5_digest_f13) (fun _ h9 => h9) rfl dX5_digest_215 ?_
                  refine lv_iconst (v := 0) hx hb dX5_digest_218 (by decide) ?_
                  refine lz_zald (k := 0) (f := kp) hx hb hK hP 2 1 rfl rfl ⟨by decide, by decide⟩ dX5_digest_219 ?_
                  refine lz_top (v := 0) hk0 ?_
                  refine lv_if_eq (tgt := 227) hx hb dX5_digest_220 (by decide) (fun _ => ?_) (fun h => absurd (by decide) h)
                  refine lv_lconst (v := 0) hx hb dX5_digest_227 (by decide) ?_
                  refine mu_V (ci := 5) (q0 := 0) (As := [.long 0]) (rest := []) (ws' := (wMd cA a (0, (gfT (gnF (mtF f 16) 4) 16), 0, kp, tx, 0, wo, 0, 0, (mixF (mixF (mixF (mixF (mixF (mixF (mzG (mzL (mzM (mzZ (mzZ (mzT (mixF (mixF (mzC 3371 10) (i2lF 6)) (i2lF 0)) 16) 40) 16) 9) 8) 4) (-1)) (i2lF (-1))) (i2lF (bgB 16))) 4607182418800017408) 0) 0)))) ⟨hx, hb, hml, hown, hts⟩ (c_X5_mix l D cA _ a (0, (gfT (gnF (mtF f 16) 4) 16), 0, kp, tx, 0, wo, 0, 0, (mixF (mixF (mixF (mixF (mixF (mzG (mzL (mzM (mzZ (mzZ (mzT (mixF (mixF (mzC 3371 10) (i2lF 6)) (i2lF 0)) 16) 40) 16) 9) 8) 4) (-1)) (i2lF (-1))) (i2lF (bgB 16))) 4607182418800017408) 0)) 0 hP (hD.weaken (fun _ _ _ _ => trivial))) (cwV 1 hts gX5_digest_X5_mix rfl rfl rfl (by decide +kernel) ⟨Nat.le_of_ble_eq_true rfl, Nat.le_of_ble_eq_true rfl⟩) hKN hP hD hS hA rfl rfl [0, 1, 2, 3, 4] rfl ((wMd_fst _ _ _).trans (wMd_fst _ _ _).symm) rfl rfl hl.1 rfl (lv_room (Nat.le_of_ble_eq_true rfl)) dX5_digest_228 ⟨Nat.zero_le _, Nat.zero_le _⟩ (fun H locs hP hD hS => ?_)
                  refine lv_aload_n hx hb dX5_digest_231 rfl (lv_at hl 1 rfl) ?_
                  refine lv_aload_n hx hb dX5_digest_232 rfl (lv_at hl 1 rfl) ?_
                  refine va_get (D := D) (ci := 5) (v := .ref (a 2)) (C := RX5) (T := TX5) (N := 10) hx hb hts iX5_digest_X5 hown hK hP 0 rfl rfl 3 (by decide) (hts _ mX5_digest_f13) (fun _ h9 => h9) rfl dX5_digest_233 ?_
                  refine lv_iconst (v := 1) hx hb dX5_digest_236 (by decide) ?_
                  refine lz_zald (k := 1) (f := kp) hx hb hK hP 2 1 rfl rfl ⟨by decide, by decide⟩ dX5_digest_237 ?_
                  refine lz_top (v := 0) hk1 ?_
                  refine lv_if_eq (tgt := 245) hx hb dX5_digest_238 (by decide) (fun _ => ?_) (fun h => absurd (by decide) h)
                  refine lv_lconst (v := 0) hx hb dX5_digest_245 (by decide) ?_
                  refine mu_V (ci := 5) (q0 := 0) (As := [.long 0]) (rest := []) (ws' := (wMd cA a (0, (gfT (gnF (mtF f 16) 4) 16), 0, kp, tx, 0, wo, 0, 0, (mixF (mixF (mixF (mixF (mixF (mixF (mixF (mzG (mzL (mzM (mzZ (mzZ (mzT (mixF (mixF (mzC 3371 10) (i2lF 6)) (i2lF 0)) 16) 40) 16) 9) 8) 4) (-1)) (i2lF (-1))) (i2lF (bgB 16))) 4607182418800017408) 0) 0) 0)))) ⟨hx, hb, hml, hown, hts⟩ (c_X5_mix l D cA _ a (0, (gfT (gnF (mtF f 16) 4) 16), 0, kp, tx, 0, wo, 0, 0, (mixF (mixF (mixF (mixF (mixF (mixF (mzG (mzL (mzM (mzZ (mzZ (mzT (mixF (mixF (mzC 3371 10) (i2lF 6)) (i2lF 0)) 16) 40) 16) 9) 8) 4) (-1)) (i2lF (-1))) (i2lF (bgB 16))) 4607182418800017408) 0) 0)) 0 hP (hD.weaken (fun _ _ _ _ => trivial))) (cwV 1 hts gX5_digest_X5_mix rfl rfl rfl (by decide +kernel) ⟨Nat.le_of_ble_eq_true rfl, Nat.le_of_ble_eq_true rfl⟩) hKN hP hD hS hA rfl rfl [0, 1, 2, 3, 4] rfl ((wMd_fst _ _ _).trans (wMd_fst _ _ _).symm) rfl rfl hl.1 rfl (lv_room (Nat.le_of_ble_eq_true rfl)) dX5_digest_246 ⟨Nat.zero_le _, Nat.zero_le _⟩ (fun H locs hP hD hS => ?_)
                  refine lv_aload_n hx hb dX5_digest_249 rfl (lv_at hl 1 rfl) ?_
                  refine lv_aload_n hx hb dX5_digest_250 rfl (lv_at hl 1 rfl) ?_
                  refine va_get (D := D) (ci := 5) (v := .int 0) (C := RX5) (T := TX5) (N := 10) hx hb hts iX5_digest_X5 hown hK hP 0 rfl rfl 5 (by decide) (hts _ mX5_digest_f105) (fun _ h9 => h9) rfl dX5_digest_251 ?_
                  refine lv_i2l (v := (i2lF 0)) hx hb dX5_digest_254 rfl ?_
                  refine mu_V (ci := 5) (q0 := 0) (As := [.long (i2lF 0)]) (rest := []) (ws' := (wMd cA a (0, (gfT (gnF (mtF f 16) 4) 16), 0, kp, tx, 0, wo, 0, 0, (mixF (mixF (mixF (mixF (mixF (mixF (mixF (mixF (mzG (mzL (mzM (mzZ (mzZ (mzT (mixF (mixF (mzC 3371 10) (i2lF 6)) (i2lF 0)) 16) 40) 16) 9) 8) 4) (-1)) (i2lF (-1))) (i2lF (bgB 16))) 4607182418800017408) 0) 0) 0) (i2lF 0))))) ⟨hx, hb, hml, hown, hts⟩ (c_X5_mix l D cA _ a (0, (gfT (gnF (mtF f 16) 4) 16), 0, kp, tx, 0, wo, 0, 0, (mixF (mixF (mixF (mixF (mixF (mixF (mixF (mzG (mzL (mzM (mzZ (mzZ (mzT (mixF (mixF (mzC 3371 10) (i2lF 6)) (i2lF 0)) 16) 40) 16) 9) 8) 4) (-1)) (i2lF (-1))) (i2lF (bgB 16))) 4607182418800017408) 0) 0) 0)) (i2lF 0) hP (hD.weaken (fun _ _ _ _ => trivial))) (cwV 1 hts gX5_digest_X5_mix rfl rfl rfl (by decide +kernel) ⟨Nat.le_of_ble_eq_true rfl, Nat.le_of_ble_eq_true rfl⟩) hKN hP hD hS hA rfl rfl [0, 1, 2, 3, 4] rfl ((wMd_fst _ _ _).trans (wMd_fst _ _ _).symm) rfl rfl hl.1 rfl (lv_room (Nat.le_of_ble_eq_true rfl)) dX5_digest_255 ⟨Nat.zero_le _, Nat.zero_le _⟩ (fun H locs hP hD hS => ?_)
                  refine lv_iconst (v := 0) hx hb dX5_digest_258 (by decide) ?_
                  refine lv_istore_n (lv' := [(1, .int 0), (0, .ref (a 0))]) hx hb dX5_digest_259 rfl hl (by decide) rfl (fun ls hl => ?_)
                  refine lv_iload_n hx hb dX5_digest_260 rfl (lv_at hl 0 rfl) ?_
                  refine lv_aload_n hx hb dX5_digest_261 rfl (lv_at hl 1 rfl) ?_
                  refine va_get (D := D) (ci := 5) (v := .int 0) (C := RX5) (T := TX5) (N := 10) hx hb hts iX5_digest_X5 hown hK hP 0 rfl rfl 5 (by decide) (hts _ mX5_digest_f105) (fun _ h9 => h9) rfl dX5_digest_262 ?_
                  refine lv_icmp_ge (tgt := 285) hx hb dX5_digest_265 (by decide) (fun _ => ?_) (fun h => absurd (by decide) h)
                  refine lv_aload_n hx hb dX5_digest_285 rfl (lv_at hl 1 rfl) ?_
                  refine va_get (D := D) (ci := 5) (v := .long (mixF (mixF (mixF (mixF (mixF (mixF (mixF (mixF (mzG (mzL (mzM (mzZ (mzZ (mzT (mixF (mixF (mzC 3371 10) (i2lF 6)) (i2lF 0)) 16) 40) 16) 9) 8) 4) (-1)) (i2lF (-1))) (i2lF (bgB 16))) 4607182418800017408) 0) 0) 0) (i2lF 0))) (C := RX5) (T := TX5) (N := 10) hx hb hts iX5_digest_X5 hown hK hP 0 rfl rfl 9 (by decide) (hts _ mX5_digest_f193) (fun _ h9 => h9) rfl dX5_digest_286 ?_
                  exact mu_lret hx hb hr hlocks dX5_digest_289 hAe hS hP rfl
                | succ n114 ih114 =>
                  intro k114 hk114 H locs hP hD hS ls hl
                  have hlt114 : k114 < 4 := by omega
                  refine lv_iload_n hx hb dX5_digest_114 rfl (lv_at hl 0 rfl) ?_
                  refine lv_iconst (v := 4) hx hb dX5_digest_115 (by decide) ?_
                  refine lv_icmp_ge (tgt := 137) hx hb dX5_digest_116 (by decide) (fun h => absurd h (nI_ge hlt114 (by first | decide | omega))) (fun _ => ?_)
                  refine lv_aload_n hx hb dX5_digest_119 rfl (lv_at hl 1 rfl) ?_
                  refine lv_aload_n hx hb dX5_digest_120 rfl (lv_at hl 1 rfl) ?_
                  refine lv_bipush (v := 20) hx hb dX5_digest_121 (by decide) ?_
                  refine lv_iload_n hx hb dX5_digest_123 rfl (lv_at hl 0 rfl) ?_
                  refine mu_V (ci := 5) (q0 := 0) (As := [.int 20, .int (nI k114)]) (rest := [.ref (a 0)]) (ws' := (wMd cA a (0, (stF (cpT (gnF (mtF f 16) k114) (62 * 0) (62 * 9) 62) 558), 0, kp, tx, 0, wo, 0, 0, (mzG (mzL (mzM (mzZ (mzZ (mzT (mixF (mixF (mzC 3371 10) (i2lF 6)) (i2lF 0)) 16) 40) 16) 9) 8) k114)))) ⟨hx, hb, hml, hown, hts⟩ (c_X5_gone l D cA _ a 0 (gnF (mtF f 16) k114) kp tx wo (mzG (mzL (mzM (mzZ (mzZ (mzT (mixF (mixF (mzC 3371 10) (i2lF 6)) (i2lF 0)) 16) 40) 16) 9) 8) k114) (gnF_FR (mtF_FR hF 16) k114) 20 (by omega) (by omega) k114 (by omega) hP (hD.weaken (fun _ _ _ _ => trivial))) (cwV 2 hts gX5_digest_X5_gone rfl rfl rfl (by decide +kernel) ⟨Nat.le_of_ble_eq_true rfl, Nat.le_of_ble_eq_true rfl⟩) hKN hP hD hS hA rfl rfl [0, 1, 2, 3, 4] rfl ((wMd_fst _ _ _).trans (wMd_fst _ _ _).symm) rfl rfl hl.1 rfl (lv_room (Nat.le_of_ble_eq_true rfl)) dX5_digest_124 ⟨Nat.zero_le _, Nat.zero_le _⟩ (fun H locs hP hD hS => ?_)
                  refine lv_i2l (v := (i2lF (goneM k114))) hx hb dX5_digest_127 rfl ?_
                  refine mu_V (ci := 5) (q0 := 0) (As := [.long (i2lF (goneM k114))]) (rest := []) (ws' := (wMd cA a (0, (stF (cpT (gnF (mtF f 16) k114) (62 * 0) (62 * 9) 62) 558), 0, kp, tx, 0, wo, 0, 0, (mixF (mzG (mzL (mzM (mzZ (mzZ (mzT (mixF (mixF (mzC 3371 10) (i2lF 6)) (i2lF 0)) 16) 40) 16) 9) 8) k114) (i2lF (goneM k114)))))) ⟨hx, hb, hml, hown, hts⟩ (c_X5_mix l D cA _ a (0, (stF (cpT (gnF (mtF f 16) k114) (62 * 0) (62 * 9) 62) 558), 0, kp, tx, 0, wo, 0, 0, (mzG (mzL (mzM (mzZ (mzZ (mzT (mixF (mixF (mzC 3371 10) (i2lF 6)) (i2lF 0)) 16) 40) 16) 9) 8) k114)) (i2lF (goneM k114)) hP (hD.weaken (fun _ _ _ _ => trivial))) (cwV 1 hts gX5_digest_X5_mix rfl rfl rfl (by decide +kernel) ⟨Nat.le_of_ble_eq_true rfl, Nat.le_of_ble_eq_true rfl⟩) hKN hP hD hS hA rfl rfl [0, 1, 2, 3, 4] rfl ((wMd_fst _ _ _).trans (wMd_fst _ _ _).symm) rfl rfl hl.1 rfl (lv_room (Nat.le_of_ble_eq_true rfl)) dX5_digest_128 ⟨Nat.zero_le _, Nat.zero_le _⟩ (fun H locs hP hD hS => ?_)
                  refine lv_iinc (v := (nI (k114 + 1))) (lv' := [(1, .int (nI (k114 + 1))), (0, .ref (a 0))]) hx hb dX5_digest_131 hl (k := 0) rfl (nI_1 _) (by decide) rfl (fun ls hl => ?_)
                  refine lv_goto (tgt := 114) hx hb dX5_digest_134 (by decide) ?_
                  have e_1 : (gnF (mtF f 16) (k114 + 1)) = (stF (cpT (gnF (mtF f 16) k114) (62 * 0) (62 * 9) 62) 558) := rfl
                  have e_2 : (mzG (mzL (mzM (mzZ (mzZ (mzT (mixF (mixF (mzC 3371 10) (i2lF 6)) (i2lF 0)) 16) 40) 16) 9) 8) (k114 + 1)) = (mixF (mzG (mzL (mzM (mzZ (mzZ (mzT (mixF (mixF (mzC 3371 10) (i2lF 6)) (i2lF 0)) 16) 40) 16) 9) 8) k114) (i2lF (goneM k114))) := rfl
                  exact ih114 (k114 + 1) (by omega) _ _ (by rw [e_1, e_2]; exact hP) (by rw [e_1, e_2]; exact hD) hS ls (lv_sub hl [0, 1] rfl)
              exact loop114 4 0 (by omega) _ _ hP hD hS ls (lv_sub hl [0, 1] rfl)
            | succ n90 ih90 =>
              intro k90 hk90 H locs hP hD hS ls hl
              have hlt90 : k90 < 8 := by omega
              refine lv_iload_n hx hb dX5_digest_90 rfl (lv_at hl 0 rfl) ?_
              refine lv_bipush (v := 8) hx hb dX5_digest_91 (by decide) ?_
              refine lv_icmp_ge (tgt := 112) hx hb dX5_digest_93 (by decide) (fun h => absurd h (nI_ge hlt90 (by first | decide | omega))) (fun _ => ?_)
              refine lv_aload_n hx hb dX5_digest_96 rfl (lv_at hl 1 rfl) ?_
              refine lv_aload_n hx hb dX5_digest_97 rfl (lv_at hl 1 rfl) ?_
              refine lv_iload_n hx hb dX5_digest_98 rfl (lv_at hl 0 rfl) ?_
              refine ro_V (ci := 5) (q0 := 0) (As := [.int (nI k90)]) (rest := [.ref (a 0)]) ⟨hx, hb, hml, hown, hts⟩ (c_X5_toldAgo l D cA _ a (0, (mtF f 16), 0, kp, tx, 0, wo, 0, 0, (mzL (mzM (mzZ (mzZ (mzT (mixF (mixF (mzC 3371 10) (i2lF 6)) (i2lF 0)) 16) 40) 16) 9) k90)) k90 (by omega) (mtF_FR hF 16) hP) (cwV 1 hts gX5_digest_X5_toldAgo rfl rfl rfl (by decide +kernel) ⟨Nat.le_of_ble_eq_true rfl, Nat.le_of_ble_eq_true rfl⟩) hKN hP rfl rfl rfl hl.1 rfl (lv_room (Nat.le_of_ble_eq_true rfl)) dX5_digest_99 ⟨Nat.zero_le _, Nat.zero_le _⟩ ?_
              refine lv_i2l (v := (i2lF (-1))) hx hb dX5_digest_102 rfl ?_
              refine mu_V (ci := 5) (q0 := 0) (As := [.long (i2lF (-1))]) (rest := []) (ws' := (wMd cA a (0, (mtF f 16), 0, kp, tx, 0, wo, 0, 0, (mixF (mzL (mzM (mzZ (mzZ (mzT (mixF (mixF (mzC 3371 10) (i2lF 6)) (i2lF 0)) 16) 40) 16) 9) k90) (i2lF (-1)))))) ⟨hx, hb, hml, hown, hts⟩ (c_X5_mix l D cA _ a (0, (mtF f 16), 0, kp, tx, 0, wo, 0, 0, (mzL (mzM (mzZ (mzZ (mzT (mixF (mixF (mzC 3371 10) (i2lF 6)) (i2lF 0)) 16) 40) 16) 9) k90)) (i2lF (-1)) hP (hD.weaken (fun _ _ _ _ => trivial))) (cwV 1 hts gX5_digest_X5_mix rfl rfl rfl (by decide +kernel) ⟨Nat.le_of_ble_eq_true rfl, Nat.le_of_ble_eq_true rfl⟩) hKN hP hD hS hA rfl rfl [0, 1, 2, 3, 4] rfl ((wMd_fst _ _ _).trans (wMd_fst _ _ _).symm) rfl rfl hl.1 rfl (lv_room (Nat.le_of_ble_eq_true rfl)) dX5_digest_103 ⟨Nat.zero_le _, Nat.zero_le _⟩ (fun H locs hP hD hS => ?_)
              refine lv_iinc (v := (nI (k90 + 1))) (lv' := [(1, .int (nI (k90 + 1))), (0, .ref (a 0))]) hx hb dX5_digest_106 hl (k := 0) rfl (nI_1 _) (by decide) rfl (fun ls hl => ?_)
              refine lv_goto (tgt := 90) hx hb dX5_digest_109 (by decide) ?_
              have e_3 : (mzL (mzM (mzZ (mzZ (mzT (mixF (mixF (mzC 3371 10) (i2lF 6)) (i2lF 0)) 16) 40) 16) 9) (k90 + 1)) = (mixF (mzL (mzM (mzZ (mzZ (mzT (mixF (mixF (mzC 3371 10) (i2lF 6)) (i2lF 0)) 16) 40) 16) 9) k90) (i2lF (-1))) := rfl
              exact ih90 (k90 + 1) (by omega) _ _ (by rw [e_3]; exact hP) (by rw [e_3]; exact hD) hS ls (lv_sub hl [0, 1] rfl)
          exact loop90 8 0 (by omega) _ _ hP hD hS ls (lv_sub hl [0, 1] rfl)
        | succ n66 ih66 =>
          intro k66 hk66 H locs hP hD hS ls hl
          have hlt66 : k66 < 9 := by omega
          refine lv_iload_n hx hb dX5_digest_66 rfl (lv_at hl 0 rfl) ?_
          refine lv_bipush (v := 9) hx hb dX5_digest_67 (by decide) ?_
          refine lv_icmp_ge (tgt := 88) hx hb dX5_digest_69 (by decide) (fun h => absurd h (nI_ge hlt66 (by first | decide | omega))) (fun _ => ?_)
          refine lv_aload_n hx hb dX5_digest_72 rfl (lv_at hl 1 rfl) ?_
          refine lv_aload_n hx hb dX5_digest_73 rfl (lv_at hl 1 rfl) ?_
          refine lv_iload_n hx hb dX5_digest_74 rfl (lv_at hl 0 rfl) ?_
          refine ro_V (ci := 5) (q0 := 0) (As := [.int (nI k66)]) (rest := [.ref (a 0)]) ⟨hx, hb, hml, hown, hts⟩ (c_X5_ofMachine l D cA _ a (0, (mtF f 16), 0, kp, tx, 0, wo, 0, 0, (mzM (mzZ (mzZ (mzT (mixF (mixF (mzC 3371 10) (i2lF 6)) (i2lF 0)) 16) 40) 16) k66)) k66 (by omega) (mtF_FR hF 16) hP) (cwV 1 hts gX5_digest_X5_ofMachine rfl rfl rfl (by decide +kernel) ⟨Nat.le_of_ble_eq_true rfl, Nat.le_of_ble_eq_true rfl⟩) hKN hP rfl rfl rfl hl.1 rfl (lv_room (Nat.le_of_ble_eq_true rfl)) dX5_digest_75 ⟨Nat.zero_le _, Nat.zero_le _⟩ ?_
          refine lv_i2l (v := (i2lF (f0J (27 + k66)))) hx hb dX5_digest_78 rfl ?_
          refine mu_V (ci := 5) (q0 := 0) (As := [.long (i2lF (f0J (27 + k66)))]) (rest := []) (ws' := (wMd cA a (0, (mtF f 16), 0, kp, tx, 0, wo, 0, 0, (mixF (mzM (mzZ (mzZ (mzT (mixF (mixF (mzC 3371 10) (i2lF 6)) (i2lF 0)) 16) 40) 16) k66) (i2lF (f0J (27 + k66))))))) ⟨hx, hb, hml, hown, hts⟩ (c_X5_mix l D cA _ a (0, (mtF f 16), 0, kp, tx, 0, wo, 0, 0, (mzM (mzZ (mzZ (mzT (mixF (mixF (mzC 3371 10) (i2lF 6)) (i2lF 0)) 16) 40) 16) k66)) (i2lF (f0J (27 + k66))) hP (hD.weaken (fun _ _ _ _ => trivial))) (cwV 1 hts gX5_digest_X5_mix rfl rfl rfl (by decide +kernel) ⟨Nat.le_of_ble_eq_true rfl, Nat.le_of_ble_eq_true rfl⟩) hKN hP hD hS hA rfl rfl [0, 1, 2, 3, 4] rfl ((wMd_fst _ _ _).trans (wMd_fst _ _ _).symm) rfl rfl hl.1 rfl (lv_room (Nat.le_of_ble_eq_true rfl)) dX5_digest_79 ⟨Nat.zero_le _, Nat.zero_le _⟩ (fun H locs hP hD hS => ?_)
          refine lv_iinc (v := (nI (k66 + 1))) (lv' := [(1, .int (nI (k66 + 1))), (0, .ref (a 0))]) hx hb dX5_digest_82 hl (k := 0) rfl (nI_1 _) (by decide) rfl (fun ls hl => ?_)
          refine lv_goto (tgt := 66) hx hb dX5_digest_85 (by decide) ?_
          have e_4 : (mzM (mzZ (mzZ (mzT (mixF (mixF (mzC 3371 10) (i2lF 6)) (i2lF 0)) 16) 40) 16) (k66 + 1)) = (mixF (mzM (mzZ (mzZ (mzT (mixF (mixF (mzC 3371 10) (i2lF 6)) (i2lF 0)) 16) 40) 16) k66) (i2lF (f0J (27 + k66)))) := rfl
          exact ih66 (k66 + 1) (by omega) _ _ (by rw [e_4]; exact hP) (by rw [e_4]; exact hD) hS ls (lv_sub hl [0, 1] rfl)
      exact loop66 9 0 (by omega) _ _ hP hD hS ls (lv_sub hl [0, 1] rfl)
    | succ n14 ih14 =>
      intro k14 hk14 H locs hP hD hS ls hl
      have hlt14 : k14 < 10 := by omega
      refine lv_iload_n hx hb dX5_digest_14 rfl (lv_at hl 0 rfl) ?_
      refine lv_bipush (v := 10) hx hb dX5_digest_15 (by decide) ?_
      refine lv_icmp_ge (tgt := 36) hx hb dX5_digest_17 (by decide) (fun h => absurd h (nI_ge hlt14 (by first | decide | omega))) (fun _ => ?_)
      refine lv_aload_n hx hb dX5_digest_20 rfl (lv_at hl 1 rfl) ?_
      refine lv_aload_n hx hb dX5_digest_21 rfl (lv_at hl 1 rfl) ?_
      refine lv_iload_n hx hb dX5_digest_22 rfl (lv_at hl 0 rfl) ?_
      refine ro_V (ci := 5) (q0 := 0) (As := [.int (nI k14)]) (rest := [.ref (a 0)]) ⟨hx, hb, hml, hown, hts⟩ (c_X5_counted l D cA _ a (0, f, 0, kp, tx, 0, wo, 0, 0, (mzC 3371 k14)) k14 (by omega) hF hP) (cwV 1 hts gX5_digest_X5_counted rfl rfl rfl (by decide +kernel) ⟨Nat.le_of_ble_eq_true rfl, Nat.le_of_ble_eq_true rfl⟩) hKN hP rfl rfl rfl hl.1 rfl (lv_room (Nat.le_of_ble_eq_true rfl)) dX5_digest_23 ⟨Nat.zero_le _, Nat.zero_le _⟩ ?_
      refine lv_i2l (v := (i2lF (countM 0 k14))) hx hb dX5_digest_26 rfl ?_
      refine mu_V (ci := 5) (q0 := 0) (As := [.long (i2lF (countM 0 k14))]) (rest := []) (ws' := (wMd cA a (0, f, 0, kp, tx, 0, wo, 0, 0, (mixF (mzC 3371 k14) (i2lF (countM 0 k14)))))) ⟨hx, hb, hml, hown, hts⟩ (c_X5_mix l D cA _ a (0, f, 0, kp, tx, 0, wo, 0, 0, (mzC 3371 k14)) (i2lF (countM 0 k14)) hP (hD.weaken (fun _ _ _ _ => trivial))) (cwV 1 hts gX5_digest_X5_mix rfl rfl rfl (by decide +kernel) ⟨Nat.le_of_ble_eq_true rfl, Nat.le_of_ble_eq_true rfl⟩) hKN hP hD hS hA rfl rfl [0, 1, 2, 3, 4] rfl ((wMd_fst _ _ _).trans (wMd_fst _ _ _).symm) rfl rfl hl.1 rfl (lv_room (Nat.le_of_ble_eq_true rfl)) dX5_digest_27 ⟨Nat.zero_le _, Nat.zero_le _⟩ (fun H locs hP hD hS => ?_)
      refine lv_iinc (v := (nI (k14 + 1))) (lv' := [(1, .int (nI (k14 + 1))), (0, .ref (a 0))]) hx hb dX5_digest_30 hl (k := 0) rfl (nI_1 _) (by decide) rfl (fun ls hl => ?_)
      refine lv_goto (tgt := 14) hx hb dX5_digest_33 (by decide) ?_
      have e_5 : (mzC 3371 (k14 + 1)) = (mixF (mzC 3371 k14) (i2lF (countM 0 k14))) := rfl
      exact ih14 (k14 + 1) (by omega) _ _ (by rw [e_5]; exact hP) (by rw [e_5]; exact hD) hS ls (lv_sub hl [0, 1] rfl)
  exact loop14 10 0 (by omega) _ _ hP hD hS ls (lv_sub hl [0, 1] rfl)
