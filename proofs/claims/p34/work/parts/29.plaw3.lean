-- the law's looks
def cntV (u : SV) (w : Nat) : Int32 := countS u 0 (fun _ => 0) w
def lkW (u : SV) (w0 : Nat → Int32) : Nat → Nat → Int32
  | 0 => w0
  | k + 1 => if k = 7 then wtT u (lkW u w0 k) 16 else lkW u w0 k
def lkA (u : SV) : Nat → Int64
  | 0 => 13
  | k + 1 => 31 * (31 * lkA u k + i2lF (cntV u k)) + i2lF (machS u k)
def lkB (u : SV) (h : Int64) : Nat → Int64
  | 0 => h
  | k + 1 => 31 * lkB u h k + i2lF (thofS u (k / 8) (k % 8))
def lkC (u : SV) (h : Int64) : Nat → Int64
  | 0 => h
  | k + 1 => 31 * (31 * lkC u h k + i2lF (riofS u (k / 5) (k % 5))) + i2lF (u.2.2.2.2.2.2.2.2.1 (k / 5))
def looksV (u : SV) : Int64 := 31 * (31 * lkC u (lkB u (lkA u 9) 128) 40 + i2lF (u.2.2.2.1 0)) + i2lF (u.2.2.2.1 1)
theorem mL_looks_k9 : Cond.constantLong RL 9 (13) ∈ wsL_looks := by decide +kernel
theorem mL_looks_k11 : Cond.constantLong RL 11 (31) ∈ wsL_looks := by decide +kernel
set_option maxHeartbeats 4000000 in
set_option maxRecDepth 100000 in
theorem c_L_looks (l : Launch) (D : va_G) (cA : Nat → ClassId) (H : Heap) (Ad : Nat → Nat → Nat) (f : Nat → SV) (o z : Nat) (tx : TV) (rt : (Nat → Int32) × (Nat → Int32)) (hP0 : va_P D vwCl (all cA Ad (f, ((nI o), (nI z)), tx, rt)) H) (hD0 : va_D (fun _ => True) (all cA Ad (f, ((nI o), (nI z)), tx, rt))) : MU l yL_looks wsL_looks ({ frames := 6, cells := 0, slots := 0, locals := 138 } : Room) D cA [.ref (Ad 10 0)] H (all cA Ad (f, ((nI o), (nI z)), tx, rt)) (all cA Ad (f, ((nI o), (nI z)), tx, (rt.1, lkW (f 0) rt.2 9))) (some (.long (looksV (f 0)))) := by
  refine Met.ofW (cc := cL_looks) (maxL := 4) (ret := (some .long)) (by decide) rfl ?_
  intro p e s m args below meth c s₁ B hml hv
  obtain ⟨rfl, hH, hKN⟩ := hv
  have hK := hKN.1
  have hx := B.exec
  have hb := B.bytes
  have hr := B.returns
  have hts := atoms_spec (ws := wsL_looks) B.pre
  have hown : s.vm.findClass RL = some m.cls := findClass_of_methodNamed B.named
  have hlocks := B.notSynchronized
  subst hH
  have hWD := hD0.self (sz := s.heap.size)
  generalize hAe : va_A (all cA Ad (f, ((nI o), (nI z)), tx, rt)) s.heap.size = A at hWD ⊢
  have hA : ∀ q : Nat, s.heap.size ≤ q → A q := fun q h => by rw [← hAe]; exact Or.inr h
  have hS : va_S A s.heap s.heap [] := va_S.rf
  have hWP : va_P D vwCl (all cA Ad (f, ((nI o), (nI z)), tx, rt)) s.heap := hP0
  have hl := lv_entry ([.ref (Ad 10 0)] : List Value) (n := 4) (Nat.le_of_ble_eq_true rfl)
  rw [lg_entry_eq]
  generalize (lg_sl ([.ref (Ad 10 0)] : List Value) ++ List.replicate (4 - (lg_sl ([.ref (Ad 10 0)] : List Value)).length) Slot.unset).toArray = ls at hl ⊢
  have hl : lv_has ls 4 [(0, .ref (Ad 10 0))] := hl
  refine lv_ldc2 (v := 13) hx hb hown (hts _ mL_looks_k9) dL_looks_0 ?_
  refine lv_lstore_n (lv' := [(1, .long 13), (0, .ref (Ad 10 0))]) hx hb dL_looks_3 rfl hl (by decide) rfl (fun ls hl => ?_)
  refine lv_iconst (v := 0) hx hb dL_looks_4 (by decide) ?_
  refine lv_istore_n (lv' := [(3, .int 0), (1, .long 13), (0, .ref (Ad 10 0))]) hx hb dL_looks_5 rfl hl (by decide) rfl (fun ls hl => ?_)
  have loop6 : ∀ (n6 k6 : Nat), k6 + n6 = 9 → ∀ (H : Heap) (locs : List Loc), va_P D vwCl (all cA Ad (f, ((nI o), (nI z)), tx, (rt.1, (lkW (f 0) rt.2 k6)))) H → va_D A (all cA Ad (f, ((nI o), (nI z)), tx, (rt.1, (lkW (f 0) rt.2 k6)))) → va_S A s.heap H locs → ∀ (ls : Array Slot), lv_has ls 4 [(3, .int (nI k6)), (1, .long (lkA (f 0) k6)), (0, .ref (Ad 10 0))] → W p l e ({ frames := 6, cells := 0, slots := 0, locals := 138 } : Room) s m ([.ref (Ad 10 0)] : List Value).toArray below meth c H locs 0 0 (MQ below (muQ D s.heap (all cA Ad (f, ((nI o), (nI z)), tx, rt)) (all cA Ad (f, ((nI o), (nI z)), tx, (rt.1, lkW (f 0) rt.2 9))) (some (.long (looksV (f 0))))) ([.ref (Ad 10 0)] : List Value).toArray s 0 0 A) (F0 m 6 ls []) := by
    intro n6
    induction n6 with
    | zero =>
      intro k6 hk6 H locs hWP hWD hS ls hl
      obtain rfl : 9 = k6 := by omega
      refine lv_iload_n hx hb dL_looks_6 rfl (lv_at hl 0 rfl) ?_
      refine lv_bipush (v := 9) hx hb dL_looks_7 (by decide) ?_
      refine lv_icmp_ge (tgt := 42) hx hb dL_looks_9 (by decide) (fun _ => ?_) (fun h => absurd (by decide) h)
      refine lv_iconst (v := 0) hx hb dL_looks_42 (by decide) ?_
      refine lv_istore_n (lv' := [(3, .int 0), (1, .long (lkA (f 0) 9)), (0, .ref (Ad 10 0))]) hx hb dL_looks_43 rfl hl (by decide) rfl (fun ls hl => ?_)
      have loop44 : ∀ (n44 k44 : Nat), k44 + n44 = 128 → ∀ (H : Heap) (locs : List Loc), va_P D vwCl (all cA Ad (f, ((nI o), (nI z)), tx, (rt.1, (lkW (f 0) rt.2 9)))) H → va_D A (all cA Ad (f, ((nI o), (nI z)), tx, (rt.1, (lkW (f 0) rt.2 9)))) → va_S A s.heap H locs → ∀ (ls : Array Slot), lv_has ls 4 [(3, .int (nI k44)), (1, .long (lkB (f 0) (lkA (f 0) 9) k44)), (0, .ref (Ad 10 0))] → W p l e ({ frames := 6, cells := 0, slots := 0, locals := 138 } : Room) s m ([.ref (Ad 10 0)] : List Value).toArray below meth c H locs 0 0 (MQ below (muQ D s.heap (all cA Ad (f, ((nI o), (nI z)), tx, rt)) (all cA Ad (f, ((nI o), (nI z)), tx, (rt.1, lkW (f 0) rt.2 9))) (some (.long (looksV (f 0))))) ([.ref (Ad 10 0)] : List Value).toArray s 0 0 A) (F0 m 44 ls []) := by
        intro n44
        induction n44 with
        | zero =>
          intro k44 hk44 H locs hWP hWD hS ls hl
          obtain rfl : 128 = k44 := by omega
          refine lv_iload_n hx hb dL_looks_44 rfl (lv_at hl 0 rfl) ?_
          refine lv_sipush (v := 128) hx hb dL_looks_45 (by decide) ?_
          refine lv_icmp_ge (tgt := 77) hx hb dL_looks_48 (by decide) (fun _ => ?_) (fun h => absurd (by decide) h)
          refine lv_iconst (v := 0) hx hb dL_looks_77 (by decide) ?_
          refine lv_istore_n (lv' := [(3, .int 0), (1, .long (lkB (f 0) (lkA (f 0) 9) 128)), (0, .ref (Ad 10 0))]) hx hb dL_looks_78 rfl hl (by decide) rfl (fun ls hl => ?_)
          have loop79 : ∀ (n79 k79 : Nat), k79 + n79 = 40 → ∀ (H : Heap) (locs : List Loc), va_P D vwCl (all cA Ad (f, ((nI o), (nI z)), tx, (rt.1, (lkW (f 0) rt.2 9)))) H → va_D A (all cA Ad (f, ((nI o), (nI z)), tx, (rt.1, (lkW (f 0) rt.2 9)))) → va_S A s.heap H locs → ∀ (ls : Array Slot), lv_has ls 4 [(3, .int (nI k79)), (1, .long (lkC (f 0) (lkB (f 0) (lkA (f 0) 9) 128) k79)), (0, .ref (Ad 10 0))] → W p l e ({ frames := 6, cells := 0, slots := 0, locals := 138 } : Room) s m ([.ref (Ad 10 0)] : List Value).toArray below meth c H locs 0 0 (MQ below (muQ D s.heap (all cA Ad (f, ((nI o), (nI z)), tx, rt)) (all cA Ad (f, ((nI o), (nI z)), tx, (rt.1, lkW (f 0) rt.2 9))) (some (.long (looksV (f 0))))) ([.ref (Ad 10 0)] : List Value).toArray s 0 0 A) (F0 m 79 ls []) := by
            intro n79
            induction n79 with
            | zero =>
              intro k79 hk79 H locs hWP hWD hS ls hl
              obtain rfl : 40 = k79 := by omega
              refine lv_iload_n hx hb dL_looks_79 rfl (lv_at hl 0 rfl) ?_
              refine lv_bipush (v := 40) hx hb dL_looks_80 (by decide) ?_
              refine lv_icmp_ge (tgt := 122) hx hb dL_looks_82 (by decide) (fun _ => ?_) (fun h => absurd (by decide) h)
              refine lv_ldc2 (v := 31) hx hb hown (hts _ mL_looks_k11) dL_looks_122 ?_
              refine lv_ldc2 (v := 31) hx hb hown (hts _ mL_looks_k11) dL_looks_125 ?_
              refine lv_lload_n hx hb dL_looks_128 rfl (lv_at hl 1 rfl) ?_
              refine lv_lmul hx hb dL_looks_129 ?_
              refine lv_aload_n hx hb dL_looks_130 rfl (lv_at hl 2 rfl) ?_
              refine lv_iconst (v := 0) hx hb dL_looks_131 (by decide) ?_
              refine ro_V (ci := 4) (q0 := 0) (As := [.int 0]) (rest := [.long (31 * (lkC (f 0) (lkB (f 0) (lkA (f 0) 9) 128) 40)), .long 31]) ⟨hx, hb, hml, hown, hts⟩ (c_X4_setting l D cA _ Ad f o z tx (rt.1, (lkW (f 0) rt.2 9)) 0 (by decide) hWP) (cwV 1 hts gL_looks_X4_setting rfl rfl rfl (by decide +kernel) ⟨Nat.le_of_ble_eq_true rfl, Nat.le_of_ble_eq_true rfl⟩) hKN (lw_fP 10 (by decide) hWP : va_P D vwCl ((wLm cA Ad (rt.1, (lkW (f 0) rt.2 9))) ++ (rst cA Ad (f, ((nI o), (nI z)), tx, (rt.1, (lkW (f 0) rt.2 9))) 10)) H) rfl rfl rfl hl.1 rfl (lv_room (Nat.le_of_ble_eq_true rfl)) dL_looks_132 ⟨Nat.zero_le _, Nat.zero_le _⟩ ?_
              refine lz_top (v := ((f 0).2.2.2.1 0)) rfl ?_
              refine lv_i2l (v := (i2lF ((f 0).2.2.2.1 0))) hx hb dL_looks_135 rfl ?_
              refine lv_ladd hx hb dL_looks_136 ?_
              refine lv_lmul hx hb dL_looks_137 ?_
              refine lv_aload_n hx hb dL_looks_138 rfl (lv_at hl 2 rfl) ?_
              refine lv_iconst (v := 1) hx hb dL_looks_139 (by decide) ?_
              refine ro_V (ci := 4) (q0 := 0) (As := [.int 1]) (rest := [.long (31 * ((31 * (lkC (f 0) (lkB (f 0) (lkA (f 0) 9) 128) 40)) + (i2lF ((f 0).2.2.2.1 0))))]) ⟨hx, hb, hml, hown, hts⟩ (c_X4_setting l D cA _ Ad f o z tx (rt.1, (lkW (f 0) rt.2 9)) 1 (by decide) hWP) (cwV 1 hts gL_looks_X4_setting rfl rfl rfl (by decide +kernel) ⟨Nat.le_of_ble_eq_true rfl, Nat.le_of_ble_eq_true rfl⟩) hKN (lw_fP 10 (by decide) hWP : va_P D vwCl ((wLm cA Ad (rt.1, (lkW (f 0) rt.2 9))) ++ (rst cA Ad (f, ((nI o), (nI z)), tx, (rt.1, (lkW (f 0) rt.2 9))) 10)) H) rfl rfl rfl hl.1 rfl (lv_room (Nat.le_of_ble_eq_true rfl)) dL_looks_140 ⟨Nat.zero_le _, Nat.zero_le _⟩ ?_
              refine lz_top (v := ((f 0).2.2.2.1 1)) rfl ?_
              refine lv_i2l (v := (i2lF ((f 0).2.2.2.1 1))) hx hb dL_looks_143 rfl ?_
              refine lv_ladd hx hb dL_looks_144 ?_
              exact mu_lret hx hb hr hlocks dL_looks_145 hAe hS hWP rfl
            | succ n79 ih79 =>
              intro k79 hk79 H locs hWP hWD hS ls hl
              have hlt79 : k79 < 40 := by omega
              refine lv_iload_n hx hb dL_looks_79 rfl (lv_at hl 0 rfl) ?_
              refine lv_bipush (v := 40) hx hb dL_looks_80 (by decide) ?_
              refine lv_icmp_ge (tgt := 122) hx hb dL_looks_82 (by decide) (fun h => absurd h (nI_ge hlt79 (by first | decide | omega))) (fun _ => ?_)
              refine lv_ldc2 (v := 31) hx hb hown (hts _ mL_looks_k11) dL_looks_85 ?_
              refine lv_ldc2 (v := 31) hx hb hown (hts _ mL_looks_k11) dL_looks_88 ?_
              refine lv_lload_n hx hb dL_looks_91 rfl (lv_at hl 1 rfl) ?_
              refine lv_lmul hx hb dL_looks_92 ?_
              refine lv_aload_n hx hb dL_looks_93 rfl (lv_at hl 2 rfl) ?_
              refine lv_iload_n hx hb dL_looks_94 rfl (lv_at hl 0 rfl) ?_
              refine lv_iconst (v := 5) hx hb dL_looks_95 (by decide) ?_
              refine lz_idiv (v := (nI (k79 / 5))) hx hb dL_looks_96 (by decide) (pk_div (d := 5) (by omega) (by decide) (by decide)) ?_
              refine lv_iload_n hx hb dL_looks_97 rfl (lv_at hl 0 rfl) ?_
              refine lv_iconst (v := 5) hx hb dL_looks_98 (by decide) ?_
              refine lz_irem (v := (nI (k79 % 5))) hx hb dL_looks_99 (by decide) (pk_rem (d := 5) (by omega) (by decide) (by decide)) ?_
              refine ro_V (ci := 4) (q0 := 0) (As := [.int (nI (k79 / 5)), .int (nI (k79 % 5))]) (rest := [.long (31 * (lkC (f 0) (lkB (f 0) (lkA (f 0) 9) 128) k79)), .long 31]) ⟨hx, hb, hml, hown, hts⟩ (c_X4_ringOf l D cA _ Ad f o z tx (rt.1, (lkW (f 0) rt.2 9)) (k79 / 5) (by omega) (k79 % 5) (by omega) hWP) (cwV 2 hts gL_looks_X4_ringOf rfl rfl rfl (by decide +kernel) ⟨Nat.le_of_ble_eq_true rfl, Nat.le_of_ble_eq_true rfl⟩) hKN (lw_fP 10 (by decide) hWP : va_P D vwCl ((wLm cA Ad (rt.1, (lkW (f 0) rt.2 9))) ++ (rst cA Ad (f, ((nI o), (nI z)), tx, (rt.1, (lkW (f 0) rt.2 9))) 10)) H) rfl rfl rfl hl.1 rfl (lv_room (Nat.le_of_ble_eq_true rfl)) dL_looks_100 ⟨Nat.zero_le _, Nat.zero_le _⟩ ?_
              refine lz_top (v := (riofS (f 0) (k79 / 5) (k79 % 5))) rfl ?_
              refine lv_i2l (v := (i2lF (riofS (f 0) (k79 / 5) (k79 % 5)))) hx hb dL_looks_103 rfl ?_
              refine lv_ladd hx hb dL_looks_104 ?_
              refine lv_lmul hx hb dL_looks_105 ?_
              refine lv_aload_n hx hb dL_looks_106 rfl (lv_at hl 2 rfl) ?_
              refine lv_iload_n hx hb dL_looks_107 rfl (lv_at hl 0 rfl) ?_
              refine lv_iconst (v := 5) hx hb dL_looks_108 (by decide) ?_
              refine lz_idiv (v := (nI (k79 / 5))) hx hb dL_looks_109 (by decide) (pk_div (d := 5) (by omega) (by decide) (by decide)) ?_
              refine ro_V (ci := 4) (q0 := 0) (As := [.int (nI (k79 / 5))]) (rest := [.long (31 * ((31 * (lkC (f 0) (lkB (f 0) (lkA (f 0) 9) 128) k79)) + (i2lF (riofS (f 0) (k79 / 5) (k79 % 5)))))]) ⟨hx, hb, hml, hown, hts⟩ (c_X4_told l D cA _ Ad f o z tx (rt.1, (lkW (f 0) rt.2 9)) (k79 / 5) (by omega) hWP) (cwV 1 hts gL_looks_X4_told rfl rfl rfl (by decide +kernel) ⟨Nat.le_of_ble_eq_true rfl, Nat.le_of_ble_eq_true rfl⟩) hKN (lw_fP 10 (by decide) hWP : va_P D vwCl ((wLm cA Ad (rt.1, (lkW (f 0) rt.2 9))) ++ (rst cA Ad (f, ((nI o), (nI z)), tx, (rt.1, (lkW (f 0) rt.2 9))) 10)) H) rfl rfl rfl hl.1 rfl (lv_room (Nat.le_of_ble_eq_true rfl)) dL_looks_110 ⟨Nat.zero_le _, Nat.zero_le _⟩ ?_
              refine lz_top (v := ((f 0).2.2.2.2.2.2.2.2.1 (k79 / 5))) rfl ?_
              refine lv_i2l (v := (i2lF ((f 0).2.2.2.2.2.2.2.2.1 (k79 / 5)))) hx hb dL_looks_113 rfl ?_
              refine lv_ladd hx hb dL_looks_114 ?_
              refine lv_lstore_n (lv' := [(1, .long ((31 * ((31 * (lkC (f 0) (lkB (f 0) (lkA (f 0) 9) 128) k79)) + (i2lF (riofS (f 0) (k79 / 5) (k79 % 5))))) + (i2lF ((f 0).2.2.2.2.2.2.2.2.1 (k79 / 5))))), (3, .int (nI k79)), (0, .ref (Ad 10 0))]) hx hb dL_looks_115 rfl hl (by decide) rfl (fun ls hl => ?_)
              refine lv_iinc (v := (nI (k79 + 1))) (lv' := [(3, .int (nI (k79 + 1))), (1, .long ((31 * ((31 * (lkC (f 0) (lkB (f 0) (lkA (f 0) 9) 128) k79)) + (i2lF (riofS (f 0) (k79 / 5) (k79 % 5))))) + (i2lF ((f 0).2.2.2.2.2.2.2.2.1 (k79 / 5))))), (0, .ref (Ad 10 0))]) hx hb dL_looks_116 hl (k := 1) rfl (nI_1 _) (by decide) rfl (fun ls hl => ?_)
              refine lv_goto (tgt := 79) hx hb dL_looks_119 (by decide) ?_
              have e_1 : (lkC (f 0) (lkB (f 0) (lkA (f 0) 9) 128) (k79 + 1)) = ((31 * ((31 * (lkC (f 0) (lkB (f 0) (lkA (f 0) 9) 128) k79)) + (i2lF (riofS (f 0) (k79 / 5) (k79 % 5))))) + (i2lF ((f 0).2.2.2.2.2.2.2.2.1 (k79 / 5)))) := rfl
              exact ih79 (k79 + 1) (by omega) _ _ hWP hWD hS ls (by rw [e_1]; exact (lv_sub hl [0, 1, 2] rfl))
          exact loop79 40 0 (by omega) _ _ hWP hWD hS ls (lv_sub hl [0, 1, 2] rfl)
        | succ n44 ih44 =>
          intro k44 hk44 H locs hWP hWD hS ls hl
          have hlt44 : k44 < 128 := by omega
          refine lv_iload_n hx hb dL_looks_44 rfl (lv_at hl 0 rfl) ?_
          refine lv_sipush (v := 128) hx hb dL_looks_45 (by decide) ?_
          refine lv_icmp_ge (tgt := 77) hx hb dL_looks_48 (by decide) (fun h => absurd h (nI_ge hlt44 (by first | decide | omega))) (fun _ => ?_)
          refine lv_ldc2 (v := 31) hx hb hown (hts _ mL_looks_k11) dL_looks_51 ?_
          refine lv_lload_n hx hb dL_looks_54 rfl (lv_at hl 1 rfl) ?_
          refine lv_lmul hx hb dL_looks_55 ?_
          refine lv_aload_n hx hb dL_looks_56 rfl (lv_at hl 2 rfl) ?_
          refine lv_iload_n hx hb dL_looks_57 rfl (lv_at hl 0 rfl) ?_
          refine lv_bipush (v := 8) hx hb dL_looks_58 (by decide) ?_
          refine lz_idiv (v := (nI (k44 / 8))) hx hb dL_looks_60 (by decide) (pk_div (d := 8) (by omega) (by decide) (by decide)) ?_
          refine lv_iload_n hx hb dL_looks_61 rfl (lv_at hl 0 rfl) ?_
          refine lv_bipush (v := 8) hx hb dL_looks_62 (by decide) ?_
          refine lz_irem (v := (nI (k44 % 8))) hx hb dL_looks_64 (by decide) (pk_rem (d := 8) (by omega) (by decide) (by decide)) ?_
          refine ro_V (ci := 4) (q0 := 0) (As := [.int (nI (k44 / 8)), .int (nI (k44 % 8))]) (rest := [.long (31 * (lkB (f 0) (lkA (f 0) 9) k44))]) ⟨hx, hb, hml, hown, hts⟩ (c_X4_threadOf l D cA _ Ad f o z tx (rt.1, (lkW (f 0) rt.2 9)) (k44 / 8) (by omega) (k44 % 8) (by omega) hWP) (cwV 2 hts gL_looks_X4_threadOf rfl rfl rfl (by decide +kernel) ⟨Nat.le_of_ble_eq_true rfl, Nat.le_of_ble_eq_true rfl⟩) hKN (lw_fP 10 (by decide) hWP : va_P D vwCl ((wLm cA Ad (rt.1, (lkW (f 0) rt.2 9))) ++ (rst cA Ad (f, ((nI o), (nI z)), tx, (rt.1, (lkW (f 0) rt.2 9))) 10)) H) rfl rfl rfl hl.1 rfl (lv_room (Nat.le_of_ble_eq_true rfl)) dL_looks_65 ⟨Nat.zero_le _, Nat.zero_le _⟩ ?_
          refine lz_top (v := (thofS (f 0) (k44 / 8) (k44 % 8))) rfl ?_
          refine lv_i2l (v := (i2lF (thofS (f 0) (k44 / 8) (k44 % 8)))) hx hb dL_looks_68 rfl ?_
          refine lv_ladd hx hb dL_looks_69 ?_
          refine lv_lstore_n (lv' := [(1, .long ((31 * (lkB (f 0) (lkA (f 0) 9) k44)) + (i2lF (thofS (f 0) (k44 / 8) (k44 % 8))))), (3, .int (nI k44)), (0, .ref (Ad 10 0))]) hx hb dL_looks_70 rfl hl (by decide) rfl (fun ls hl => ?_)
          refine lv_iinc (v := (nI (k44 + 1))) (lv' := [(3, .int (nI (k44 + 1))), (1, .long ((31 * (lkB (f 0) (lkA (f 0) 9) k44)) + (i2lF (thofS (f 0) (k44 / 8) (k44 % 8))))), (0, .ref (Ad 10 0))]) hx hb dL_looks_71 hl (k := 1) rfl (nI_1 _) (by decide) rfl (fun ls hl => ?_)
          refine lv_goto (tgt := 44) hx hb dL_looks_74 (by decide) ?_
          have e_2 : (lkB (f 0) (lkA (f 0) 9) (k44 + 1)) = ((31 * (lkB (f 0) (lkA (f 0) 9) k44)) + (i2lF (thofS (f 0) (k44 / 8) (k44 % 8)))) := rfl
          exact ih44 (k44 + 1) (by omega) _ _ hWP hWD hS ls (by rw [e_2]; exact (lv_sub hl [0, 1, 2] rfl))
      exact loop44 128 0 (by omega) _ _ hWP hWD hS ls (lv_sub hl [0, 1, 2] rfl)
    | succ n6 ih6 =>
      intro k6 hk6 H locs hWP hWD hS ls hl
      have hlt6 : k6 < 9 := by omega
      refine lv_iload_n hx hb dL_looks_6 rfl (lv_at hl 0 rfl) ?_
      refine lv_bipush (v := 9) hx hb dL_looks_7 (by decide) ?_
      refine lv_icmp_ge (tgt := 42) hx hb dL_looks_9 (by decide) (fun h => absurd h (nI_ge hlt6 (by first | decide | omega))) (fun _ => ?_)
      refine lv_ldc2 (v := 31) hx hb hown (hts _ mL_looks_k11) dL_looks_12 ?_
      refine lv_ldc2 (v := 31) hx hb hown (hts _ mL_looks_k11) dL_looks_15 ?_
      refine lv_lload_n hx hb dL_looks_18 rfl (lv_at hl 1 rfl) ?_
      refine lv_lmul hx hb dL_looks_19 ?_
      refine lv_aload_n hx hb dL_looks_20 rfl (lv_at hl 2 rfl) ?_
      refine lv_iload_n hx hb dL_looks_21 rfl (lv_at hl 0 rfl) ?_
      refine mu_Vw (ci := 4) (q0 := 0) (As := [.int (nI k6)]) (rest := [.long (31 * (lkA (f 0) k6)), .long 31]) ⟨hx, hb, hml, hown, hts⟩ (c_X4_count l D cA _ Ad f o z tx (rt.1, (lkW (f 0) rt.2 k6)) k6 (by omega) hWP (hWD.weaken (fun _ _ _ _ => trivial))) (cwV 1 hts gL_looks_X4_count rfl rfl rfl (by decide +kernel) ⟨Nat.le_of_ble_eq_true rfl, Nat.le_of_ble_eq_true rfl⟩) hKN hWP hWD hS hA (lw_fP 10 (by decide) hWP : va_P D vwCl ((wLm cA Ad (rt.1, (lkW (f 0) rt.2 k6))) ++ (rst cA Ad (f, ((nI o), (nI z)), tx, (rt.1, (lkW (f 0) rt.2 k6))) 10)) H) rfl rfl (all_fst _ _ _ _) rfl hl.1 rfl (lv_room (Nat.le_of_ble_eq_true rfl)) dL_looks_22 ⟨Nat.zero_le _, Nat.zero_le _⟩ (fun H locs hWP hWD hS => ?_)
      have hWP : va_P D vwCl (all cA Ad (f, ((nI o), (nI z)), tx, (rt.1, (lkW (f 0) rt.2 (k6 + 1))))) H := hWP
      have hWD : va_D A (all cA Ad (f, ((nI o), (nI z)), tx, (rt.1, (lkW (f 0) rt.2 (k6 + 1))))) := hWD
      refine lz_top (v := (countS (f 0) z (lkW (f 0) rt.2 k6) k6)) rfl ?_
      refine lz_top (v := (cntV (f 0) k6)) (count_w (f 0) z 0 _ _ k6 hlt6) ?_
      refine lv_i2l (v := (i2lF (cntV (f 0) k6))) hx hb dL_looks_25 rfl ?_
      refine lv_ladd hx hb dL_looks_26 ?_
      refine lv_lmul hx hb dL_looks_27 ?_
      refine lv_aload_n hx hb dL_looks_28 rfl (lv_at hl 2 rfl) ?_
      refine lv_iload_n hx hb dL_looks_29 rfl (lv_at hl 0 rfl) ?_
      refine ro_V (ci := 4) (q0 := 0) (As := [.int (nI k6)]) (rest := [.long (31 * ((31 * (lkA (f 0) k6)) + (i2lF (cntV (f 0) k6))))]) ⟨hx, hb, hml, hown, hts⟩ (c_X4_machine l D cA _ Ad f o z tx (rt.1, (lkW (f 0) rt.2 (k6 + 1))) k6 (by omega) hWP) (cwV 1 hts gL_looks_X4_machine rfl rfl rfl (by decide +kernel) ⟨Nat.le_of_ble_eq_true rfl, Nat.le_of_ble_eq_true rfl⟩) hKN (lw_fP 10 (by decide) hWP : va_P D vwCl ((wLm cA Ad (rt.1, (lkW (f 0) rt.2 (k6 + 1)))) ++ (rst cA Ad (f, ((nI o), (nI z)), tx, (rt.1, (lkW (f 0) rt.2 (k6 + 1)))) 10)) H) rfl rfl rfl hl.1 rfl (lv_room (Nat.le_of_ble_eq_true rfl)) dL_looks_30 ⟨Nat.zero_le _, Nat.zero_le _⟩ ?_
      refine lz_top (v := (machS (f 0) k6)) rfl ?_
      refine lv_i2l (v := (i2lF (machS (f 0) k6))) hx hb dL_looks_33 rfl ?_
      refine lv_ladd hx hb dL_looks_34 ?_
      refine lv_lstore_n (lv' := [(1, .long ((31 * ((31 * (lkA (f 0) k6)) + (i2lF (cntV (f 0) k6)))) + (i2lF (machS (f 0) k6)))), (3, .int (nI k6)), (0, .ref (Ad 10 0))]) hx hb dL_looks_35 rfl hl (by decide) rfl (fun ls hl => ?_)
      refine lv_iinc (v := (nI (k6 + 1))) (lv' := [(3, .int (nI (k6 + 1))), (1, .long ((31 * ((31 * (lkA (f 0) k6)) + (i2lF (cntV (f 0) k6)))) + (i2lF (machS (f 0) k6)))), (0, .ref (Ad 10 0))]) hx hb dL_looks_36 hl (k := 1) rfl (nI_1 _) (by decide) rfl (fun ls hl => ?_)
      refine lv_goto (tgt := 6) hx hb dL_looks_39 (by decide) ?_
      have e_3 : (lkA (f 0) (k6 + 1)) = ((31 * ((31 * (lkA (f 0) k6)) + (i2lF (cntV (f 0) k6)))) + (i2lF (machS (f 0) k6))) := rfl
      exact ih6 (k6 + 1) (by omega) _ _ hWP hWD hS ls (by rw [e_3]; exact (lv_sub hl [0, 1, 2] rfl))
  exact loop6 9 0 (by omega) _ _ hWP hWD hS ls (lv_sub hl [0, 1, 2] rfl)
