-- the digest
def lshlF (x : Int64) (y : Int32) : Int64 := x <<< (y.toInt64 &&& 63)
theorem mX4_digestThreads_k286 : Cond.constantLong RX4 286 (31) ∈ wsX4_digestThreads := by decide +kernel
theorem mX4_digestThreads_f10 : Cond.fieldLink RX4 10 "WireLoom" "now" "LWireLoom$State;" ∈ wsX4_digestThreads := by decide +kernel
set_option maxRecDepth 20000 in
theorem iX4_digestThreads_X4 : ∀ w ∈ wsX40, w ∈ wsX4_digestThreads := by decide +kernel
set_option maxHeartbeats 4000000 in
set_option maxRecDepth 100000 in
theorem c_X4_digestThreads (l : Launch) (D : va_G) (cA : Nat → ClassId) (H : Heap) (Ad : Nat → Nat → Nat) (f : Nat → SV) (o z : Nat) (tx : TV) (rt : (Nat → Int32) × (Nat → Int32)) (h : Int64) (hP0 : va_P D vwCl (all cA Ad (f, ((nI o), (nI z)), tx, rt)) H) : RO l yX4_digestThreads wsX4_digestThreads ({ frames := 5, cells := 0, slots := 0, locals := 116 } : Room) D cA [.ref (Ad 10 0), .long h] H (some (.long (dgT (f 0) h 16))) := by
  refine Met.ofW (cc := cX4_digestThreads) (maxL := 7) (ret := (some .long)) (by decide) rfl ?_
  intro p e s m args below meth c s₁ B hml hv
  obtain ⟨rfl, hH, hKN⟩ := hv
  have hK := hKN.1
  have hx := B.exec
  have hb := B.bytes
  have hr := B.returns
  have hts := atoms_spec (ws := wsX4_digestThreads) B.pre
  have hown : s.vm.findClass RX4 = some m.cls := findClass_of_methodNamed B.named
  have hlocks := B.notSynchronized
  subst hH
  have hH : s.heap = s.heap := rfl
  have hWP := hP0
  have hl := lv_entry ([.ref (Ad 10 0), .long h] : List Value) (n := 7) (Nat.le_of_ble_eq_true rfl)
  rw [lg_entry_eq]
  generalize (lg_sl ([.ref (Ad 10 0), .long h] : List Value) ++ List.replicate (7 - (lg_sl ([.ref (Ad 10 0), .long h] : List Value)).length) Slot.unset).toArray = ls at hl ⊢
  have hl : lv_has ls 7 [(0, .ref (Ad 10 0)), (1, .long h)] := hl
  refine lv_lload_n hx hb dX4_digestThreads_0 rfl (lv_at hl 1 rfl) ?_
  refine lv_lstore_n (lv' := [(3, .long h), (0, .ref (Ad 10 0)), (1, .long h)]) hx hb dX4_digestThreads_1 rfl hl (by decide) rfl (fun ls hl => ?_)
  refine lv_iconst (v := 0) hx hb dX4_digestThreads_2 (by decide) ?_
  refine lv_istore (lv' := [(5, .int 0), (3, .long h), (0, .ref (Ad 10 0)), (1, .long h)]) hx hb dX4_digestThreads_3 hl (by decide) rfl (fun ls hl => ?_)
  have loop5 : ∀ (n5 k5 : Nat), k5 + n5 = 16 → ∀ (ls : Array Slot), lv_has ls 7 [(5, .int (nI k5)), (3, .long (dgT (f 0) h k5)), (0, .ref (Ad 10 0)), (1, .long h)] → W p l e ({ frames := 5, cells := 0, slots := 0, locals := 116 } : Room) s m ([.ref (Ad 10 0), .long h] : List Value).toArray below meth c s.heap [] 0 0 (MQ below (roQ s.heap (some (.long (dgT (f 0) h 16)))) ([.ref (Ad 10 0), .long h] : List Value).toArray s 0 0 noA) (F0 m 5 ls []) := by
    intro n5
    induction n5 with
    | zero =>
      intro k5 hk5 ls hl
      obtain rfl : 16 = k5 := by omega
      refine lv_iload hx hb dX4_digestThreads_5 (lv_at hl 0 rfl) ?_
      refine lv_bipush (v := 16) hx hb dX4_digestThreads_7 (by decide) ?_
      refine lv_icmp_ge (tgt := 67) hx hb dX4_digestThreads_9 (by decide) (fun _ => ?_) (fun h => absurd (by decide) h)
      refine lv_lload_n hx hb dX4_digestThreads_67 rfl (lv_at hl 1 rfl) ?_
      exact ro_lret hx hb hr hlocks hH dX4_digestThreads_68 rfl
    | succ n5 ih5 =>
      intro k5 hk5 ls hl
      have hlt5 : k5 < 16 := by omega
      refine lv_iload hx hb dX4_digestThreads_5 (lv_at hl 0 rfl) ?_
      refine lv_bipush (v := 16) hx hb dX4_digestThreads_7 (by decide) ?_
      refine lv_icmp_ge (tgt := 67) hx hb dX4_digestThreads_9 (by decide) (fun h => absurd h (nI_ge hlt5 (by first | decide | omega))) (fun _ => ?_)
      refine lv_iconst (v := 0) hx hb dX4_digestThreads_12 (by decide) ?_
      refine lv_istore (lv' := [(6, .int 0), (5, .int (nI k5)), (3, .long (dgT (f 0) h k5)), (0, .ref (Ad 10 0)), (1, .long h)]) hx hb dX4_digestThreads_13 hl (by decide) rfl (fun ls hl => ?_)
      have loop15 : ∀ (n15 k15 : Nat), k15 + n15 = 8 → ∀ (ls : Array Slot), lv_has ls 7 [(6, .int (nI k15)), (5, .int (nI k5)), (3, .long (dgI (f 0) k5 (dgT (f 0) h k5) k15)), (0, .ref (Ad 10 0)), (1, .long h)] → W p l e ({ frames := 5, cells := 0, slots := 0, locals := 116 } : Room) s m ([.ref (Ad 10 0), .long h] : List Value).toArray below meth c s.heap [] 0 0 (MQ below (roQ s.heap (some (.long (dgT (f 0) h 16)))) ([.ref (Ad 10 0), .long h] : List Value).toArray s 0 0 noA) (F0 m 15 ls []) := by
        intro n15
        induction n15 with
        | zero =>
          intro k15 hk15 ls hl
          obtain rfl : 8 = k15 := by omega
          refine lv_iload hx hb dX4_digestThreads_15 (lv_at hl 0 rfl) ?_
          refine lv_bipush (v := 7) hx hb dX4_digestThreads_17 (by decide) ?_
          refine lv_icmp_gt (tgt := 44) hx hb dX4_digestThreads_19 (by decide) (fun _ => ?_) (fun h => absurd (nI_lt (a := 7) (by decide) (by decide)) h)
          refine lv_ldc2 (v := 31) hx hb hown (hts _ mX4_digestThreads_k286) dX4_digestThreads_44 ?_
          refine lv_lload_n hx hb dX4_digestThreads_47 rfl (lv_at hl 2 rfl) ?_
          refine lv_lmul hx hb dX4_digestThreads_48 ?_
          refine lv_aload_n hx hb dX4_digestThreads_49 rfl (lv_at hl 3 rfl) ?_
          have hP : va_P D vwCl ((wLm cA Ad rt) ++ (rst cA Ad (f, ((nI o), (nI z)), tx, rt) 10)) s.heap := lw_fP 10 (by decide) hWP
          refine va_get (D := D) (ci := 4) (v := .ref (Ad 0 0)) (C := RX4) (T := TX4) (N := 7) hx hb hts iX4_digestThreads_X4 hown hK hP 0 rfl rfl 0 (by decide) (hts _ mX4_digestThreads_f10) (fun _ h9 => h9) rfl dX4_digestThreads_50 ?_
          refine lv_iload hx hb dX4_digestThreads_53 (lv_at hl 1 rfl) ?_
          have hP : va_P D vwCl ((wSt cA (Ad 0) (f 0)) ++ (rst cA Ad (f, ((nI o), (nI z)), tx, rt) 0)) s.heap := lw_fP 0 (by decide) hWP
          refine ro_V (ci := 2) (q0 := 0) (As := [.int (nI k5)]) (rest := [.long (31 * (dgI (f 0) k5 (dgT (f 0) h k5) 8))]) ⟨hx, hb, hml, hown, hts⟩ (c_X2_readingsUntilChange l D cA _ (Ad 0) (f 0) k5 (by omega) (va_P_l hP) ) (cwV 1 hts gX4_digestThreads_X2_readingsUntilChange rfl rfl rfl (by decide +kernel) ⟨Nat.le_of_ble_eq_true rfl, Nat.le_of_ble_eq_true rfl⟩) hKN hP rfl rfl rfl hl.1 rfl (lv_room (Nat.le_of_ble_eq_true rfl)) dX4_digestThreads_55 ⟨Nat.zero_le _, Nat.zero_le _⟩ ?_
          refine lv_i2l (v := (i2lF (rucS (f 0) k5))) hx hb dX4_digestThreads_58 rfl ?_
          refine lv_ladd hx hb dX4_digestThreads_59 ?_
          refine lv_lstore_n (lv' := [(3, .long ((31 * (dgI (f 0) k5 (dgT (f 0) h k5) 8)) + (i2lF (rucS (f 0) k5)))), (6, .int (nI 8)), (5, .int (nI k5)), (0, .ref (Ad 10 0)), (1, .long h)]) hx hb dX4_digestThreads_60 rfl hl (by decide) rfl (fun ls hl => ?_)
          refine lv_iinc (v := (nI (k5 + 1))) (lv' := [(5, .int (nI (k5 + 1))), (3, .long ((31 * (dgI (f 0) k5 (dgT (f 0) h k5) 8)) + (i2lF (rucS (f 0) k5)))), (6, .int (nI 8)), (0, .ref (Ad 10 0)), (1, .long h)]) hx hb dX4_digestThreads_61 hl (k := 2) rfl (nI_1 _) (by decide) rfl (fun ls hl => ?_)
          refine lv_goto (tgt := 5) hx hb dX4_digestThreads_64 (by decide) ?_
          have e_1 : (dgT (f 0) h (k5 + 1)) = ((31 * (dgI (f 0) k5 (dgT (f 0) h k5) 8)) + (i2lF (rucS (f 0) k5))) := rfl
          exact ih5 (k5 + 1) (by omega) ls (by rw [e_1]; exact (lv_sub hl [0, 1, 3, 4] rfl))
        | succ n15 ih15 =>
          intro k15 hk15 ls hl
          have hlt15 : k15 < 8 := by omega
          refine lv_iload hx hb dX4_digestThreads_15 (lv_at hl 0 rfl) ?_
          refine lv_bipush (v := 7) hx hb dX4_digestThreads_17 (by decide) ?_
          refine lv_icmp_gt (tgt := 44) hx hb dX4_digestThreads_19 (by decide) (fun h => absurd h (nI_nlt (a := 7) (by omega) (by decide))) (fun _ => ?_)
          refine lv_ldc2 (v := 31) hx hb hown (hts _ mX4_digestThreads_k286) dX4_digestThreads_22 ?_
          refine lv_lload_n hx hb dX4_digestThreads_25 rfl (lv_at hl 2 rfl) ?_
          refine lv_lmul hx hb dX4_digestThreads_26 ?_
          refine lv_aload_n hx hb dX4_digestThreads_27 rfl (lv_at hl 3 rfl) ?_
          refine lv_iload hx hb dX4_digestThreads_28 (lv_at hl 1 rfl) ?_
          refine lv_iload hx hb dX4_digestThreads_30 (lv_at hl 0 rfl) ?_
          refine ro_V (ci := 4) (q0 := 0) (As := [.int (nI k5), .int (nI k15)]) (rest := [.long (31 * (dgI (f 0) k5 (dgT (f 0) h k5) k15))]) ⟨hx, hb, hml, hown, hts⟩ (c_X4_threadOf l D cA _ Ad f o z tx rt k5 (by omega) k15 (by omega) hWP) (cwV 2 hts gX4_digestThreads_X4_threadOf rfl rfl rfl (by decide +kernel) ⟨Nat.le_of_ble_eq_true rfl, Nat.le_of_ble_eq_true rfl⟩) hKN (lw_fP 10 (by decide) hWP : va_P D vwCl ((wLm cA Ad rt) ++ (rst cA Ad (f, ((nI o), (nI z)), tx, rt) 10)) s.heap) rfl rfl rfl hl.1 rfl (lv_room (Nat.le_of_ble_eq_true rfl)) dX4_digestThreads_32 ⟨Nat.zero_le _, Nat.zero_le _⟩ ?_
          refine lz_top (v := (thofS (f 0) k5 k15)) rfl ?_
          refine lv_i2l (v := (i2lF (thofS (f 0) k5 k15))) hx hb dX4_digestThreads_35 rfl ?_
          refine lv_ladd hx hb dX4_digestThreads_36 ?_
          refine lv_lstore_n (lv' := [(3, .long ((31 * (dgI (f 0) k5 (dgT (f 0) h k5) k15)) + (i2lF (thofS (f 0) k5 k15)))), (6, .int (nI k15)), (5, .int (nI k5)), (0, .ref (Ad 10 0)), (1, .long h)]) hx hb dX4_digestThreads_37 rfl hl (by decide) rfl (fun ls hl => ?_)
          refine lv_iinc (v := (nI (k15 + 1))) (lv' := [(6, .int (nI (k15 + 1))), (3, .long ((31 * (dgI (f 0) k5 (dgT (f 0) h k5) k15)) + (i2lF (thofS (f 0) k5 k15)))), (5, .int (nI k5)), (0, .ref (Ad 10 0)), (1, .long h)]) hx hb dX4_digestThreads_38 hl (k := 1) rfl (nI_1 _) (by decide) rfl (fun ls hl => ?_)
          refine lv_goto (tgt := 15) hx hb dX4_digestThreads_41 (by decide) ?_
          have e_2 : (dgI (f 0) k5 (dgT (f 0) h k5) (k15 + 1)) = ((31 * (dgI (f 0) k5 (dgT (f 0) h k5) k15)) + (i2lF (thofS (f 0) k5 k15))) := rfl
          exact ih15 (k15 + 1) (by omega) ls (by rw [e_2]; exact (lv_sub hl [0, 2, 1, 3, 4] rfl))
      exact loop15 8 0 (by omega) ls (lv_sub hl [0, 1, 2, 3, 4] rfl)
  exact loop5 16 0 (by omega) ls (lv_sub hl [0, 1, 2, 3] rfl)
theorem mX4_digestRings_k286 : Cond.constantLong RX4 286 (31) ∈ wsX4_digestRings := by decide +kernel
set_option maxHeartbeats 4000000 in
set_option maxRecDepth 100000 in
theorem c_X4_digestRings (l : Launch) (D : va_G) (cA : Nat → ClassId) (H : Heap) (Ad : Nat → Nat → Nat) (f : Nat → SV) (o z : Nat) (tx : TV) (rt : (Nat → Int32) × (Nat → Int32)) (h : Int64) (hP0 : va_P D vwCl (all cA Ad (f, ((nI o), (nI z)), tx, rt)) H) : RO l yX4_digestRings wsX4_digestRings ({ frames := 5, cells := 0, slots := 0, locals := 118 } : Room) D cA [.ref (Ad 10 0), .long h] H (some (.long (dsI (f 0) 1 (dsI (f 0) 0 (drT (f 0) h 8) 8) 8))) := by
  refine Met.ofW (cc := cX4_digestRings) (maxL := 7) (ret := (some .long)) (by decide) rfl ?_
  intro p e s m args below meth c s₁ B hml hv
  obtain ⟨rfl, hH, hKN⟩ := hv
  have hK := hKN.1
  have hx := B.exec
  have hb := B.bytes
  have hr := B.returns
  have hts := atoms_spec (ws := wsX4_digestRings) B.pre
  have hown : s.vm.findClass RX4 = some m.cls := findClass_of_methodNamed B.named
  have hlocks := B.notSynchronized
  subst hH
  have hH : s.heap = s.heap := rfl
  have hWP := hP0
  have hl := lv_entry ([.ref (Ad 10 0), .long h] : List Value) (n := 7) (Nat.le_of_ble_eq_true rfl)
  rw [lg_entry_eq]
  generalize (lg_sl ([.ref (Ad 10 0), .long h] : List Value) ++ List.replicate (7 - (lg_sl ([.ref (Ad 10 0), .long h] : List Value)).length) Slot.unset).toArray = ls at hl ⊢
  have hl : lv_has ls 7 [(0, .ref (Ad 10 0)), (1, .long h)] := hl
  refine lv_lload_n hx hb dX4_digestRings_0 rfl (lv_at hl 1 rfl) ?_
  refine lv_lstore_n (lv' := [(3, .long h), (0, .ref (Ad 10 0)), (1, .long h)]) hx hb dX4_digestRings_1 rfl hl (by decide) rfl (fun ls hl => ?_)
  refine lv_iconst (v := 0) hx hb dX4_digestRings_2 (by decide) ?_
  refine lv_istore (lv' := [(5, .int 0), (3, .long h), (0, .ref (Ad 10 0)), (1, .long h)]) hx hb dX4_digestRings_3 hl (by decide) rfl (fun ls hl => ?_)
  have loop5 : ∀ (n5 k5 : Nat), k5 + n5 = 8 → ∀ (ls : Array Slot), lv_has ls 7 [(5, .int (nI k5)), (3, .long (drT (f 0) h k5)), (0, .ref (Ad 10 0)), (1, .long h)] → W p l e ({ frames := 5, cells := 0, slots := 0, locals := 118 } : Room) s m ([.ref (Ad 10 0), .long h] : List Value).toArray below meth c s.heap [] 0 0 (MQ below (roQ s.heap (some (.long (dsI (f 0) 1 (dsI (f 0) 0 (drT (f 0) h 8) 8) 8)))) ([.ref (Ad 10 0), .long h] : List Value).toArray s 0 0 noA) (F0 m 5 ls []) := by
    intro n5
    induction n5 with
    | zero =>
      intro k5 hk5 ls hl
      obtain rfl : 8 = k5 := by omega
      refine lv_iload hx hb dX4_digestRings_5 (lv_at hl 0 rfl) ?_
      refine lv_bipush (v := 8) hx hb dX4_digestRings_7 (by decide) ?_
      refine lv_icmp_ge (tgt := 49) hx hb dX4_digestRings_9 (by decide) (fun _ => ?_) (fun h => absurd (by decide) h)
      refine lv_iconst (v := 0) hx hb dX4_digestRings_49 (by decide) ?_
      refine lv_istore (lv' := [(5, .int 0), (3, .long (drT (f 0) h 8)), (0, .ref (Ad 10 0)), (1, .long h)]) hx hb dX4_digestRings_50 hl (by decide) rfl (fun ls hl => ?_)
      refine lv_iload hx hb dX4_digestRings_52 (lv_at hl 0 rfl) ?_
      refine lv_iconst (v := 1) hx hb dX4_digestRings_54 (by decide) ?_
      refine lv_icmp_gt (tgt := 97) hx hb dX4_digestRings_55 (by decide) (fun h => absurd h (by decide)) (fun _ => ?_)
      refine lv_iconst (v := 0) hx hb dX4_digestRings_58 (by decide) ?_
      refine lv_istore (lv' := [(6, .int 0), (5, .int 0), (3, .long (drT (f 0) h 8)), (0, .ref (Ad 10 0)), (1, .long h)]) hx hb dX4_digestRings_59 hl (by decide) rfl (fun ls hl => ?_)
      have loop61 : ∀ (n61 k61 : Nat), k61 + n61 = 8 → ∀ (ls : Array Slot), lv_has ls 7 [(6, .int (nI k61)), (5, .int 0), (3, .long (dsI (f 0) 0 (drT (f 0) h 8) k61)), (0, .ref (Ad 10 0)), (1, .long h)] → W p l e ({ frames := 5, cells := 0, slots := 0, locals := 118 } : Room) s m ([.ref (Ad 10 0), .long h] : List Value).toArray below meth c s.heap [] 0 0 (MQ below (roQ s.heap (some (.long (dsI (f 0) 1 (dsI (f 0) 0 (drT (f 0) h 8) 8) 8)))) ([.ref (Ad 10 0), .long h] : List Value).toArray s 0 0 noA) (F0 m 61 ls []) := by
        intro n61
        induction n61 with
        | zero =>
          intro k61 hk61 ls hl
          obtain rfl : 8 = k61 := by omega
          refine lv_iload hx hb dX4_digestRings_61 (lv_at hl 0 rfl) ?_
          refine lv_bipush (v := 8) hx hb dX4_digestRings_63 (by decide) ?_
          refine lv_icmp_ge (tgt := 91) hx hb dX4_digestRings_65 (by decide) (fun _ => ?_) (fun h => absurd (by decide) h)
          refine lv_iinc (v := 1) (lv' := [(5, .int 1), (6, .int (nI 8)), (3, .long (dsI (f 0) 0 (drT (f 0) h 8) 8)), (0, .ref (Ad 10 0)), (1, .long h)]) hx hb dX4_digestRings_91 hl (k := 1) rfl (by decide) (by decide) rfl (fun ls hl => ?_)
          refine lv_goto (tgt := 52) hx hb dX4_digestRings_94 (by decide) ?_
          refine lv_iload hx hb dX4_digestRings_52 (lv_at hl 0 rfl) ?_
          refine lv_iconst (v := 1) hx hb dX4_digestRings_54 (by decide) ?_
          refine lv_icmp_gt (tgt := 97) hx hb dX4_digestRings_55 (by decide) (fun h => absurd h (by decide)) (fun _ => ?_)
          refine lv_iconst (v := 0) hx hb dX4_digestRings_58 (by decide) ?_
          refine lv_istore (lv' := [(6, .int 0), (5, .int 1), (3, .long (dsI (f 0) 0 (drT (f 0) h 8) 8)), (0, .ref (Ad 10 0)), (1, .long h)]) hx hb dX4_digestRings_59 hl (by decide) rfl (fun ls hl => ?_)
          have loop61 : ∀ (n61 k61 : Nat), k61 + n61 = 8 → ∀ (ls : Array Slot), lv_has ls 7 [(6, .int (nI k61)), (5, .int 1), (3, .long (dsI (f 0) 1 (dsI (f 0) 0 (drT (f 0) h 8) 8) k61)), (0, .ref (Ad 10 0)), (1, .long h)] → W p l e ({ frames := 5, cells := 0, slots := 0, locals := 118 } : Room) s m ([.ref (Ad 10 0), .long h] : List Value).toArray below meth c s.heap [] 0 0 (MQ below (roQ s.heap (some (.long (dsI (f 0) 1 (dsI (f 0) 0 (drT (f 0) h 8) 8) 8)))) ([.ref (Ad 10 0), .long h] : List Value).toArray s 0 0 noA) (F0 m 61 ls []) := by
            intro n61
            induction n61 with
            | zero =>
              intro k61 hk61 ls hl
              obtain rfl : 8 = k61 := by omega
              refine lv_iload hx hb dX4_digestRings_61 (lv_at hl 0 rfl) ?_
              refine lv_bipush (v := 8) hx hb dX4_digestRings_63 (by decide) ?_
              refine lv_icmp_ge (tgt := 91) hx hb dX4_digestRings_65 (by decide) (fun _ => ?_) (fun h => absurd (by decide) h)
              refine lv_iinc (v := 2) (lv' := [(5, .int 2), (6, .int (nI 8)), (3, .long (dsI (f 0) 1 (dsI (f 0) 0 (drT (f 0) h 8) 8) 8)), (0, .ref (Ad 10 0)), (1, .long h)]) hx hb dX4_digestRings_91 hl (k := 1) rfl (by decide) (by decide) rfl (fun ls hl => ?_)
              refine lv_goto (tgt := 52) hx hb dX4_digestRings_94 (by decide) ?_
              refine lv_iload hx hb dX4_digestRings_52 (lv_at hl 0 rfl) ?_
              refine lv_iconst (v := 1) hx hb dX4_digestRings_54 (by decide) ?_
              refine lv_icmp_gt (tgt := 97) hx hb dX4_digestRings_55 (by decide) (fun _ => ?_) (fun h => absurd (by decide) h)
              refine lv_lload_n hx hb dX4_digestRings_97 rfl (lv_at hl 2 rfl) ?_
              exact ro_lret hx hb hr hlocks hH dX4_digestRings_98 rfl
            | succ n61 ih61 =>
              intro k61 hk61 ls hl
              have hlt61 : k61 < 8 := by omega
              refine lv_iload hx hb dX4_digestRings_61 (lv_at hl 0 rfl) ?_
              refine lv_bipush (v := 8) hx hb dX4_digestRings_63 (by decide) ?_
              refine lv_icmp_ge (tgt := 91) hx hb dX4_digestRings_65 (by decide) (fun h => absurd h (nI_ge hlt61 (by first | decide | omega))) (fun _ => ?_)
              refine lv_ldc2 (v := 31) hx hb hown (hts _ mX4_digestRings_k286) dX4_digestRings_68 ?_
              refine lv_lload_n hx hb dX4_digestRings_71 rfl (lv_at hl 2 rfl) ?_
              refine lv_lmul hx hb dX4_digestRings_72 ?_
              refine lv_aload_n hx hb dX4_digestRings_73 rfl (lv_at hl 3 rfl) ?_
              refine lv_iload hx hb dX4_digestRings_74 (lv_at hl 1 rfl) ?_
              refine lv_iload hx hb dX4_digestRings_76 (lv_at hl 0 rfl) ?_
              refine lv_iconst (v := 0) hx hb dX4_digestRings_78 (by decide) ?_
              refine ro_V (ci := 4) (q0 := 0) (As := [.int 1, .int (nI k61), .int 0]) (rest := [.long (31 * (dsI (f 0) 1 (dsI (f 0) 0 (drT (f 0) h 8) 8) k61))]) ⟨hx, hb, hml, hown, hts⟩ (c_X4_strength l D cA _ Ad f o z tx rt 1 (by omega) k61 (by omega) 0 (by omega) hWP) (cwV 3 hts gX4_digestRings_X4_strength rfl rfl rfl (by decide +kernel) ⟨Nat.le_of_ble_eq_true rfl, Nat.le_of_ble_eq_true rfl⟩) hKN (lw_fP 10 (by decide) hWP : va_P D vwCl ((wLm cA Ad rt) ++ (rst cA Ad (f, ((nI o), (nI z)), tx, rt) 10)) s.heap) rfl rfl rfl hl.1 rfl (lv_room (Nat.le_of_ble_eq_true rfl)) dX4_digestRings_79 ⟨Nat.zero_le _, Nat.zero_le _⟩ ?_
              refine lz_top (v := (strgS (f 0) 1 k61 0)) rfl ?_
              refine lv_i2l (v := (i2lF (strgS (f 0) 1 k61 0))) hx hb dX4_digestRings_82 rfl ?_
              refine lv_ladd hx hb dX4_digestRings_83 ?_
              refine lv_lstore_n (lv' := [(3, .long ((31 * (dsI (f 0) 1 (dsI (f 0) 0 (drT (f 0) h 8) 8) k61)) + (i2lF (strgS (f 0) 1 k61 0)))), (6, .int (nI k61)), (5, .int 1), (0, .ref (Ad 10 0)), (1, .long h)]) hx hb dX4_digestRings_84 rfl hl (by decide) rfl (fun ls hl => ?_)
              refine lv_iinc (v := (nI (k61 + 1))) (lv' := [(6, .int (nI (k61 + 1))), (3, .long ((31 * (dsI (f 0) 1 (dsI (f 0) 0 (drT (f 0) h 8) 8) k61)) + (i2lF (strgS (f 0) 1 k61 0)))), (5, .int 1), (0, .ref (Ad 10 0)), (1, .long h)]) hx hb dX4_digestRings_85 hl (k := 1) rfl (nI_1 _) (by decide) rfl (fun ls hl => ?_)
              refine lv_goto (tgt := 61) hx hb dX4_digestRings_88 (by decide) ?_
              have e_1 : (dsI (f 0) 1 (dsI (f 0) 0 (drT (f 0) h 8) 8) (k61 + 1)) = ((31 * (dsI (f 0) 1 (dsI (f 0) 0 (drT (f 0) h 8) 8) k61)) + (i2lF (strgS (f 0) 1 k61 0))) := rfl
              exact ih61 (k61 + 1) (by omega) ls (by rw [e_1]; exact (lv_sub hl [0, 2, 1, 3, 4] rfl))
          exact loop61 8 0 (by omega) ls (lv_sub hl [0, 1, 2, 3, 4] rfl)
        | succ n61 ih61 =>
          intro k61 hk61 ls hl
          have hlt61 : k61 < 8 := by omega
          refine lv_iload hx hb dX4_digestRings_61 (lv_at hl 0 rfl) ?_
          refine lv_bipush (v := 8) hx hb dX4_digestRings_63 (by decide) ?_
          refine lv_icmp_ge (tgt := 91) hx hb dX4_digestRings_65 (by decide) (fun h => absurd h (nI_ge hlt61 (by first | decide | omega))) (fun _ => ?_)
          refine lv_ldc2 (v := 31) hx hb hown (hts _ mX4_digestRings_k286) dX4_digestRings_68 ?_
          refine lv_lload_n hx hb dX4_digestRings_71 rfl (lv_at hl 2 rfl) ?_
          refine lv_lmul hx hb dX4_digestRings_72 ?_
          refine lv_aload_n hx hb dX4_digestRings_73 rfl (lv_at hl 3 rfl) ?_
          refine lv_iload hx hb dX4_digestRings_74 (lv_at hl 1 rfl) ?_
          refine lv_iload hx hb dX4_digestRings_76 (lv_at hl 0 rfl) ?_
          refine lv_iconst (v := 0) hx hb dX4_digestRings_78 (by decide) ?_
          refine ro_V (ci := 4) (q0 := 0) (As := [.int 0, .int (nI k61), .int 0]) (rest := [.long (31 * (dsI (f 0) 0 (drT (f 0) h 8) k61))]) ⟨hx, hb, hml, hown, hts⟩ (c_X4_strength l D cA _ Ad f o z tx rt 0 (by omega) k61 (by omega) 0 (by omega) hWP) (cwV 3 hts gX4_digestRings_X4_strength rfl rfl rfl (by decide +kernel) ⟨Nat.le_of_ble_eq_true rfl, Nat.le_of_ble_eq_true rfl⟩) hKN (lw_fP 10 (by decide) hWP : va_P D vwCl ((wLm cA Ad rt) ++ (rst cA Ad (f, ((nI o), (nI z)), tx, rt) 10)) s.heap) rfl rfl rfl hl.1 rfl (lv_room (Nat.le_of_ble_eq_true rfl)) dX4_digestRings_79 ⟨Nat.zero_le _, Nat.zero_le _⟩ ?_
          refine lz_top (v := (strgS (f 0) 0 k61 0)) rfl ?_
          refine lv_i2l (v := (i2lF (strgS (f 0) 0 k61 0))) hx hb dX4_digestRings_82 rfl ?_
          refine lv_ladd hx hb dX4_digestRings_83 ?_
          refine lv_lstore_n (lv' := [(3, .long ((31 * (dsI (f 0) 0 (drT (f 0) h 8) k61)) + (i2lF (strgS (f 0) 0 k61 0)))), (6, .int (nI k61)), (5, .int 0), (0, .ref (Ad 10 0)), (1, .long h)]) hx hb dX4_digestRings_84 rfl hl (by decide) rfl (fun ls hl => ?_)
          refine lv_iinc (v := (nI (k61 + 1))) (lv' := [(6, .int (nI (k61 + 1))), (3, .long ((31 * (dsI (f 0) 0 (drT (f 0) h 8) k61)) + (i2lF (strgS (f 0) 0 k61 0)))), (5, .int 0), (0, .ref (Ad 10 0)), (1, .long h)]) hx hb dX4_digestRings_85 hl (k := 1) rfl (nI_1 _) (by decide) rfl (fun ls hl => ?_)
          refine lv_goto (tgt := 61) hx hb dX4_digestRings_88 (by decide) ?_
          have e_2 : (dsI (f 0) 0 (drT (f 0) h 8) (k61 + 1)) = ((31 * (dsI (f 0) 0 (drT (f 0) h 8) k61)) + (i2lF (strgS (f 0) 0 k61 0))) := rfl
          exact ih61 (k61 + 1) (by omega) ls (by rw [e_2]; exact (lv_sub hl [0, 2, 1, 3, 4] rfl))
      exact loop61 8 0 (by omega) ls (lv_sub hl [0, 1, 2, 3, 4] rfl)
    | succ n5 ih5 =>
      intro k5 hk5 ls hl
      have hlt5 : k5 < 8 := by omega
      refine lv_iload hx hb dX4_digestRings_5 (lv_at hl 0 rfl) ?_
      refine lv_bipush (v := 8) hx hb dX4_digestRings_7 (by decide) ?_
      refine lv_icmp_ge (tgt := 49) hx hb dX4_digestRings_9 (by decide) (fun h => absurd h (nI_ge hlt5 (by first | decide | omega))) (fun _ => ?_)
      refine lv_iconst (v := 0) hx hb dX4_digestRings_12 (by decide) ?_
      refine lv_istore (lv' := [(6, .int 0), (5, .int (nI k5)), (3, .long (drT (f 0) h k5)), (0, .ref (Ad 10 0)), (1, .long h)]) hx hb dX4_digestRings_13 hl (by decide) rfl (fun ls hl => ?_)
      have loop15 : ∀ (n15 k15 : Nat), k15 + n15 = 5 → ∀ (ls : Array Slot), lv_has ls 7 [(6, .int (nI k15)), (5, .int (nI k5)), (3, .long (drI (f 0) k5 (drT (f 0) h k5) k15)), (0, .ref (Ad 10 0)), (1, .long h)] → W p l e ({ frames := 5, cells := 0, slots := 0, locals := 118 } : Room) s m ([.ref (Ad 10 0), .long h] : List Value).toArray below meth c s.heap [] 0 0 (MQ below (roQ s.heap (some (.long (dsI (f 0) 1 (dsI (f 0) 0 (drT (f 0) h 8) 8) 8)))) ([.ref (Ad 10 0), .long h] : List Value).toArray s 0 0 noA) (F0 m 15 ls []) := by
        intro n15
        induction n15 with
        | zero =>
          intro k15 hk15 ls hl
          obtain rfl : 5 = k15 := by omega
          refine lv_iload hx hb dX4_digestRings_15 (lv_at hl 0 rfl) ?_
          refine lv_iconst (v := 4) hx hb dX4_digestRings_17 (by decide) ?_
          refine lv_icmp_gt (tgt := 43) hx hb dX4_digestRings_18 (by decide) (fun _ => ?_) (fun h => absurd (nI_lt (a := 4) (by decide) (by decide)) h)
          refine lv_iinc (v := (nI (k5 + 1))) (lv' := [(5, .int (nI (k5 + 1))), (6, .int (nI 5)), (3, .long (drI (f 0) k5 (drT (f 0) h k5) 5)), (0, .ref (Ad 10 0)), (1, .long h)]) hx hb dX4_digestRings_43 hl (k := 1) rfl (nI_1 _) (by decide) rfl (fun ls hl => ?_)
          refine lv_goto (tgt := 5) hx hb dX4_digestRings_46 (by decide) ?_
          have e_3 : (drT (f 0) h (k5 + 1)) = (drI (f 0) k5 (drT (f 0) h k5) 5) := rfl
          exact ih5 (k5 + 1) (by omega) ls (by rw [e_3]; exact (lv_sub hl [0, 2, 3, 4] rfl))
        | succ n15 ih15 =>
          intro k15 hk15 ls hl
          have hlt15 : k15 < 5 := by omega
          refine lv_iload hx hb dX4_digestRings_15 (lv_at hl 0 rfl) ?_
          refine lv_iconst (v := 4) hx hb dX4_digestRings_17 (by decide) ?_
          refine lv_icmp_gt (tgt := 43) hx hb dX4_digestRings_18 (by decide) (fun h => absurd h (nI_nlt (a := 4) (by omega) (by decide))) (fun _ => ?_)
          refine lv_ldc2 (v := 31) hx hb hown (hts _ mX4_digestRings_k286) dX4_digestRings_21 ?_
          refine lv_lload_n hx hb dX4_digestRings_24 rfl (lv_at hl 2 rfl) ?_
          refine lv_lmul hx hb dX4_digestRings_25 ?_
          refine lv_aload_n hx hb dX4_digestRings_26 rfl (lv_at hl 3 rfl) ?_
          refine lv_iload hx hb dX4_digestRings_27 (lv_at hl 1 rfl) ?_
          refine lv_iload hx hb dX4_digestRings_29 (lv_at hl 0 rfl) ?_
          refine ro_V (ci := 4) (q0 := 0) (As := [.int (nI k5), .int (nI k15)]) (rest := [.long (31 * (drI (f 0) k5 (drT (f 0) h k5) k15))]) ⟨hx, hb, hml, hown, hts⟩ (c_X4_ringOf l D cA _ Ad f o z tx rt k5 (by omega) k15 (by omega) hWP) (cwV 2 hts gX4_digestRings_X4_ringOf rfl rfl rfl (by decide +kernel) ⟨Nat.le_of_ble_eq_true rfl, Nat.le_of_ble_eq_true rfl⟩) hKN (lw_fP 10 (by decide) hWP : va_P D vwCl ((wLm cA Ad rt) ++ (rst cA Ad (f, ((nI o), (nI z)), tx, rt) 10)) s.heap) rfl rfl rfl hl.1 rfl (lv_room (Nat.le_of_ble_eq_true rfl)) dX4_digestRings_31 ⟨Nat.zero_le _, Nat.zero_le _⟩ ?_
          refine lz_top (v := (riofS (f 0) k5 k15)) rfl ?_
          refine lv_i2l (v := (i2lF (riofS (f 0) k5 k15))) hx hb dX4_digestRings_34 rfl ?_
          refine lv_ladd hx hb dX4_digestRings_35 ?_
          refine lv_lstore_n (lv' := [(3, .long ((31 * (drI (f 0) k5 (drT (f 0) h k5) k15)) + (i2lF (riofS (f 0) k5 k15)))), (6, .int (nI k15)), (5, .int (nI k5)), (0, .ref (Ad 10 0)), (1, .long h)]) hx hb dX4_digestRings_36 rfl hl (by decide) rfl (fun ls hl => ?_)
          refine lv_iinc (v := (nI (k15 + 1))) (lv' := [(6, .int (nI (k15 + 1))), (3, .long ((31 * (drI (f 0) k5 (drT (f 0) h k5) k15)) + (i2lF (riofS (f 0) k5 k15)))), (5, .int (nI k5)), (0, .ref (Ad 10 0)), (1, .long h)]) hx hb dX4_digestRings_37 hl (k := 1) rfl (nI_1 _) (by decide) rfl (fun ls hl => ?_)
          refine lv_goto (tgt := 15) hx hb dX4_digestRings_40 (by decide) ?_
          have e_4 : (drI (f 0) k5 (drT (f 0) h k5) (k15 + 1)) = ((31 * (drI (f 0) k5 (drT (f 0) h k5) k15)) + (i2lF (riofS (f 0) k5 k15))) := rfl
          exact ih15 (k15 + 1) (by omega) ls (by rw [e_4]; exact (lv_sub hl [0, 2, 1, 3, 4] rfl))
      exact loop15 5 0 (by omega) ls (lv_sub hl [0, 1, 2, 3, 4] rfl)
  exact loop5 8 0 (by omega) ls (lv_sub hl [0, 1, 2, 3] rfl)
theorem mX4_digestMachine_k286 : Cond.constantLong RX4 286 (31) ∈ wsX4_digestMachine := by decide +kernel
theorem mX4_digestMachine_f10 : Cond.fieldLink RX4 10 "WireLoom" "now" "LWireLoom$State;" ∈ wsX4_digestMachine := by decide +kernel
theorem mX4_digestMachine_f110 : Cond.fieldLink RX4 110 "WireLoom$State" "machine" "LWireLoom$Machine;" ∈ wsX4_digestMachine := by decide +kernel
theorem mX4_digestMachine_f244 : Cond.fieldLink RX4 244 "WireLoom$Machine" "latest" "[I" ∈ wsX4_digestMachine := by decide +kernel
set_option maxRecDepth 20000 in
theorem iX4_digestMachine_X0 : ∀ w ∈ wsX00, w ∈ wsX4_digestMachine := by decide +kernel
set_option maxRecDepth 20000 in
theorem iX4_digestMachine_X2 : ∀ w ∈ wsX20, w ∈ wsX4_digestMachine := by decide +kernel
set_option maxRecDepth 20000 in
theorem iX4_digestMachine_X4 : ∀ w ∈ wsX40, w ∈ wsX4_digestMachine := by decide +kernel
set_option maxHeartbeats 4000000 in
set_option maxRecDepth 100000 in
theorem c_X4_digestMachine (l : Launch) (D : va_G) (cA : Nat → ClassId) (H : Heap) (Ad : Nat → Nat → Nat) (f : Nat → SV) (o z : Nat) (tx : TV) (rt : (Nat → Int32) × (Nat → Int32)) (h : Int64) (hP0 : va_P D vwCl (all cA Ad (f, ((nI o), (nI z)), tx, rt)) H) : RO l yX4_digestMachine wsX4_digestMachine ({ frames := 1, cells := 0, slots := 0, locals := 21 } : Room) D cA [.ref (Ad 10 0), .long h] H (some (.long (dlI (f 0) (dmI (f 0) h 9) 8))) := by
  refine Met.ofW (cc := cX4_digestMachine) (maxL := 6) (ret := (some .long)) (by decide) rfl ?_
  intro p e s m args below meth c s₁ B hml hv
  obtain ⟨rfl, hH, hKN⟩ := hv
  have hK := hKN.1
  have hx := B.exec
  have hb := B.bytes
  have hr := B.returns
  have hts := atoms_spec (ws := wsX4_digestMachine) B.pre
  have hown : s.vm.findClass RX4 = some m.cls := findClass_of_methodNamed B.named
  have hlocks := B.notSynchronized
  subst hH
  have hH : s.heap = s.heap := rfl
  have hWP := hP0
  have hl := lv_entry ([.ref (Ad 10 0), .long h] : List Value) (n := 6) (Nat.le_of_ble_eq_true rfl)
  rw [lg_entry_eq]
  generalize (lg_sl ([.ref (Ad 10 0), .long h] : List Value) ++ List.replicate (6 - (lg_sl ([.ref (Ad 10 0), .long h] : List Value)).length) Slot.unset).toArray = ls at hl ⊢
  have hl : lv_has ls 6 [(0, .ref (Ad 10 0)), (1, .long h)] := hl
  refine lv_lload_n hx hb dX4_digestMachine_0 rfl (lv_at hl 1 rfl) ?_
  refine lv_lstore_n (lv' := [(3, .long h), (0, .ref (Ad 10 0)), (1, .long h)]) hx hb dX4_digestMachine_1 rfl hl (by decide) rfl (fun ls hl => ?_)
  refine lv_iconst (v := 0) hx hb dX4_digestMachine_2 (by decide) ?_
  refine lv_istore (lv' := [(5, .int 0), (3, .long h), (0, .ref (Ad 10 0)), (1, .long h)]) hx hb dX4_digestMachine_3 hl (by decide) rfl (fun ls hl => ?_)
  have loop5 : ∀ (n5 k5 : Nat), k5 + n5 = 9 → ∀ (ls : Array Slot), lv_has ls 6 [(5, .int (nI k5)), (3, .long (dmI (f 0) h k5)), (0, .ref (Ad 10 0)), (1, .long h)] → W p l e ({ frames := 1, cells := 0, slots := 0, locals := 21 } : Room) s m ([.ref (Ad 10 0), .long h] : List Value).toArray below meth c s.heap [] 0 0 (MQ below (roQ s.heap (some (.long (dlI (f 0) (dmI (f 0) h 9) 8)))) ([.ref (Ad 10 0), .long h] : List Value).toArray s 0 0 noA) (F0 m 5 ls []) := by
    intro n5
    induction n5 with
    | zero =>
      intro k5 hk5 ls hl
      obtain rfl : 9 = k5 := by omega
      refine lv_iload hx hb dX4_digestMachine_5 (lv_at hl 0 rfl) ?_
      refine lv_bipush (v := 8) hx hb dX4_digestMachine_7 (by decide) ?_
      refine lv_icmp_gt (tgt := 32) hx hb dX4_digestMachine_9 (by decide) (fun _ => ?_) (fun h => absurd (nI_lt (a := 8) (by decide) (by decide)) h)
      refine lv_iconst (v := 0) hx hb dX4_digestMachine_32 (by decide) ?_
      refine lv_istore (lv' := [(5, .int 0), (3, .long (dmI (f 0) h 9)), (0, .ref (Ad 10 0)), (1, .long h)]) hx hb dX4_digestMachine_33 hl (by decide) rfl (fun ls hl => ?_)
      have loop35 : ∀ (n35 k35 : Nat), k35 + n35 = 8 → ∀ (ls : Array Slot), lv_has ls 6 [(5, .int (nI k35)), (3, .long (dlI (f 0) (dmI (f 0) h 9) k35)), (0, .ref (Ad 10 0)), (1, .long h)] → W p l e ({ frames := 1, cells := 0, slots := 0, locals := 21 } : Room) s m ([.ref (Ad 10 0), .long h] : List Value).toArray below meth c s.heap [] 0 0 (MQ below (roQ s.heap (some (.long (dlI (f 0) (dmI (f 0) h 9) 8)))) ([.ref (Ad 10 0), .long h] : List Value).toArray s 0 0 noA) (F0 m 35 ls []) := by
        intro n35
        induction n35 with
        | zero =>
          intro k35 hk35 ls hl
          obtain rfl : 8 = k35 := by omega
          refine lv_iload hx hb dX4_digestMachine_35 (lv_at hl 0 rfl) ?_
          refine lv_bipush (v := 8) hx hb dX4_digestMachine_37 (by decide) ?_
          refine lv_icmp_ge (tgt := 69) hx hb dX4_digestMachine_39 (by decide) (fun _ => ?_) (fun h => absurd (by decide) h)
          refine lv_lload_n hx hb dX4_digestMachine_69 rfl (lv_at hl 1 rfl) ?_
          exact ro_lret hx hb hr hlocks hH dX4_digestMachine_70 rfl
        | succ n35 ih35 =>
          intro k35 hk35 ls hl
          have hlt35 : k35 < 8 := by omega
          refine lv_iload hx hb dX4_digestMachine_35 (lv_at hl 0 rfl) ?_
          refine lv_bipush (v := 8) hx hb dX4_digestMachine_37 (by decide) ?_
          refine lv_icmp_ge (tgt := 69) hx hb dX4_digestMachine_39 (by decide) (fun h => absurd h (nI_ge hlt35 (by first | decide | omega))) (fun _ => ?_)
          refine lv_ldc2 (v := 31) hx hb hown (hts _ mX4_digestMachine_k286) dX4_digestMachine_42 ?_
          refine lv_lload_n hx hb dX4_digestMachine_45 rfl (lv_at hl 1 rfl) ?_
          refine lv_lmul hx hb dX4_digestMachine_46 ?_
          refine lv_aload_n hx hb dX4_digestMachine_47 rfl (lv_at hl 2 rfl) ?_
          have hP : va_P D vwCl ((wLm cA Ad rt) ++ (rst cA Ad (f, ((nI o), (nI z)), tx, rt) 10)) s.heap := lw_fP 10 (by decide) hWP
          refine va_get (D := D) (ci := 4) (v := .ref (Ad 0 0)) (C := RX4) (T := TX4) (N := 7) hx hb hts iX4_digestMachine_X4 hown hK hP 0 rfl rfl 0 (by decide) (hts _ mX4_digestMachine_f10) (fun _ h9 => h9) rfl dX4_digestMachine_48 ?_
          have hP : va_P D vwCl ((wSt cA (Ad 0) (f 0)) ++ (rst cA Ad (f, ((nI o), (nI z)), tx, rt) 0)) s.heap := lw_fP 0 (by decide) hWP
          refine va_get (D := D) (ci := 2) (v := .ref ((Ad 0) 5)) (C := RX2) (T := TX2) (N := 8) hx hb hts iX4_digestMachine_X2 hown hK hP 0 rfl rfl 4 (by decide) (hts _ mX4_digestMachine_f110) (fun _ h9 => h9) rfl dX4_digestMachine_51 ?_
          refine va_get (D := D) (ci := 0) (v := .ref ((Ad 0) 7)) (C := RX0) (T := TX0) (N := 7) hx hb hts iX4_digestMachine_X0 hown hK hP 5 rfl rfl 1 (by decide) (hts _ mX4_digestMachine_f244) (fun _ h9 => h9) rfl dX4_digestMachine_54 ?_
          refine lv_iload hx hb dX4_digestMachine_57 (lv_at hl 0 rfl) ?_
          refine lz_iald (k := k35) (f := (f 0).2.2.2.2.2.2.2.2.1) hx hb hK hP 7 0 rfl rfl ⟨by omega, by decide⟩ dX4_digestMachine_59 ?_
          refine lv_i2l (v := (i2lF (((f 0).2.2.2.2.2.2.2.2.1) k35))) hx hb dX4_digestMachine_60 rfl ?_
          refine lv_ladd hx hb dX4_digestMachine_61 ?_
          refine lv_lstore_n (lv' := [(3, .long ((31 * (dlI (f 0) (dmI (f 0) h 9) k35)) + (i2lF (((f 0).2.2.2.2.2.2.2.2.1) k35)))), (5, .int (nI k35)), (0, .ref (Ad 10 0)), (1, .long h)]) hx hb dX4_digestMachine_62 rfl hl (by decide) rfl (fun ls hl => ?_)
          refine lv_iinc (v := (nI (k35 + 1))) (lv' := [(5, .int (nI (k35 + 1))), (3, .long ((31 * (dlI (f 0) (dmI (f 0) h 9) k35)) + (i2lF (((f 0).2.2.2.2.2.2.2.2.1) k35)))), (0, .ref (Ad 10 0)), (1, .long h)]) hx hb dX4_digestMachine_63 hl (k := 1) rfl (nI_1 _) (by decide) rfl (fun ls hl => ?_)
          refine lv_goto (tgt := 35) hx hb dX4_digestMachine_66 (by decide) ?_
          have e_1 : (dlI (f 0) (dmI (f 0) h 9) (k35 + 1)) = ((31 * (dlI (f 0) (dmI (f 0) h 9) k35)) + (i2lF (((f 0).2.2.2.2.2.2.2.2.1) k35))) := rfl
          exact ih35 (k35 + 1) (by omega) ls (by rw [e_1]; exact (lv_sub hl [0, 1, 2, 3] rfl))
      exact loop35 8 0 (by omega) ls (lv_sub hl [0, 1, 2, 3] rfl)
    | succ n5 ih5 =>
      intro k5 hk5 ls hl
      have hlt5 : k5 < 9 := by omega
      refine lv_iload hx hb dX4_digestMachine_5 (lv_at hl 0 rfl) ?_
      refine lv_bipush (v := 8) hx hb dX4_digestMachine_7 (by decide) ?_
      refine lv_icmp_gt (tgt := 32) hx hb dX4_digestMachine_9 (by decide) (fun h => absurd h (nI_nlt (a := 8) (by omega) (by decide))) (fun _ => ?_)
      refine lv_ldc2 (v := 31) hx hb hown (hts _ mX4_digestMachine_k286) dX4_digestMachine_12 ?_
      refine lv_lload_n hx hb dX4_digestMachine_15 rfl (lv_at hl 1 rfl) ?_
      refine lv_lmul hx hb dX4_digestMachine_16 ?_
      refine lv_aload_n hx hb dX4_digestMachine_17 rfl (lv_at hl 2 rfl) ?_
      refine lv_iload hx hb dX4_digestMachine_18 (lv_at hl 0 rfl) ?_
      refine ro_V (ci := 4) (q0 := 0) (As := [.int (nI k5)]) (rest := [.long (31 * (dmI (f 0) h k5))]) ⟨hx, hb, hml, hown, hts⟩ (c_X4_machine l D cA _ Ad f o z tx rt k5 (by omega) hWP) (cwV 1 hts gX4_digestMachine_X4_machine rfl rfl rfl (by decide +kernel) ⟨Nat.le_of_ble_eq_true rfl, Nat.le_of_ble_eq_true rfl⟩) hKN (lw_fP 10 (by decide) hWP : va_P D vwCl ((wLm cA Ad rt) ++ (rst cA Ad (f, ((nI o), (nI z)), tx, rt) 10)) s.heap) rfl rfl rfl hl.1 rfl (lv_room (Nat.le_of_ble_eq_true rfl)) dX4_digestMachine_20 ⟨Nat.zero_le _, Nat.zero_le _⟩ ?_
      refine lz_top (v := (machS (f 0) k5)) rfl ?_
      refine lv_i2l (v := (i2lF (machS (f 0) k5))) hx hb dX4_digestMachine_23 rfl ?_
      refine lv_ladd hx hb dX4_digestMachine_24 ?_
      refine lv_lstore_n (lv' := [(3, .long ((31 * (dmI (f 0) h k5)) + (i2lF (machS (f 0) k5)))), (5, .int (nI k5)), (0, .ref (Ad 10 0)), (1, .long h)]) hx hb dX4_digestMachine_25 rfl hl (by decide) rfl (fun ls hl => ?_)
      refine lv_iinc (v := (nI (k5 + 1))) (lv' := [(5, .int (nI (k5 + 1))), (3, .long ((31 * (dmI (f 0) h k5)) + (i2lF (machS (f 0) k5)))), (0, .ref (Ad 10 0)), (1, .long h)]) hx hb dX4_digestMachine_26 hl (k := 1) rfl (nI_1 _) (by decide) rfl (fun ls hl => ?_)
      refine lv_goto (tgt := 5) hx hb dX4_digestMachine_29 (by decide) ?_
      have e_2 : (dmI (f 0) h (k5 + 1)) = ((31 * (dmI (f 0) h k5)) + (i2lF (machS (f 0) k5))) := rfl
      exact ih5 (k5 + 1) (by omega) ls (by rw [e_2]; exact (lv_sub hl [0, 1, 2, 3] rfl))
  exact loop5 9 0 (by omega) ls (lv_sub hl [0, 1, 2, 3] rfl)
theorem mX4_digestBuffer_k286 : Cond.constantLong RX4 286 (31) ∈ wsX4_digestBuffer := by decide +kernel
theorem mX4_digestBuffer_f37 : Cond.fieldLink RX4 37 "WireLoom" "buffer" "LWireLoom$Text;" ∈ wsX4_digestBuffer := by decide +kernel
theorem mX4_digestBuffer_f129 : Cond.fieldLink RX4 129 "WireLoom$Text" "length" "I" ∈ wsX4_digestBuffer := by decide +kernel
set_option maxRecDepth 20000 in
theorem iX4_digestBuffer_X3 : ∀ w ∈ wsX30, w ∈ wsX4_digestBuffer := by decide +kernel
set_option maxRecDepth 20000 in
theorem iX4_digestBuffer_X4 : ∀ w ∈ wsX40, w ∈ wsX4_digestBuffer := by decide +kernel
set_option maxHeartbeats 4000000 in
set_option maxRecDepth 100000 in
/-- of an empty buffer -/
theorem c_X4_digestBuffer (l : Launch) (D : va_G) (cA : Nat → ClassId) (H : Heap) (Ad : Nat → Nat → Nat) (f : Nat → SV) (o z : Nat) (cd wd : Nat → Int32) (wc ph : Int32) (rt : (Nat → Int32) × (Nat → Int32)) (h : Int64) (hP0 : va_P D vwCl (all cA Ad (f, ((nI o), (nI z)), (cd, wd, 0, wc, ph), rt)) H) : RO l yX4_digestBuffer wsX4_digestBuffer ({ frames := 0, cells := 0, slots := 0, locals := 0 } : Room) D cA [.ref (Ad 10 0), .long h] H (some (.long (31 * h + i2lF 0))) := by
  refine Met.ofW (cc := cX4_digestBuffer) (maxL := 6) (ret := (some .long)) (by decide) rfl ?_
  intro p e s m args below meth c s₁ B hml hv
  obtain ⟨rfl, hH, hKN⟩ := hv
  have hK := hKN.1
  have hx := B.exec
  have hb := B.bytes
  have hr := B.returns
  have hts := atoms_spec (ws := wsX4_digestBuffer) B.pre
  have hown : s.vm.findClass RX4 = some m.cls := findClass_of_methodNamed B.named
  have hlocks := B.notSynchronized
  subst hH
  have hH : s.heap = s.heap := rfl
  have hWP := hP0
  have hl := lv_entry ([.ref (Ad 10 0), .long h] : List Value) (n := 6) (Nat.le_of_ble_eq_true rfl)
  rw [lg_entry_eq]
  generalize (lg_sl ([.ref (Ad 10 0), .long h] : List Value) ++ List.replicate (6 - (lg_sl ([.ref (Ad 10 0), .long h] : List Value)).length) Slot.unset).toArray = ls at hl ⊢
  have hl : lv_has ls 6 [(0, .ref (Ad 10 0)), (1, .long h)] := hl
  refine lv_ldc2 (v := 31) hx hb hown (hts _ mX4_digestBuffer_k286) dX4_digestBuffer_0 ?_
  refine lv_lload_n hx hb dX4_digestBuffer_3 rfl (lv_at hl 1 rfl) ?_
  refine lv_lmul hx hb dX4_digestBuffer_4 ?_
  refine lv_aload_n hx hb dX4_digestBuffer_5 rfl (lv_at hl 0 rfl) ?_
  have hP : va_P D vwCl ((wLm cA Ad rt) ++ (rst cA Ad (f, ((nI o), (nI z)), (cd, wd, 0, wc, ph), rt) 10)) s.heap := lw_fP 10 (by decide) hWP
  refine va_get (D := D) (ci := 4) (v := .ref (Ad 12 0)) (C := RX4) (T := TX4) (N := 7) hx hb hts iX4_digestBuffer_X4 hown hK hP 0 rfl rfl 5 (by decide) (hts _ mX4_digestBuffer_f37) (fun _ h9 => h9) rfl dX4_digestBuffer_6 ?_
  have hP : va_P D vwCl ((wTx cA (Ad 12) (cd, wd, 0, wc, ph)) ++ (rst cA Ad (f, ((nI o), (nI z)), (cd, wd, 0, wc, ph), rt) 12)) s.heap := lw_fP 12 (by decide) hWP
  refine va_get (D := D) (ci := 3) (v := .int 0) (C := RX3) (T := TX3) (N := 5) hx hb hts iX4_digestBuffer_X3 hown hK hP 0 rfl rfl 2 (by decide) (hts _ mX4_digestBuffer_f129) (fun _ h9 => h9) rfl dX4_digestBuffer_9 ?_
  refine lv_i2l (v := (i2lF 0)) hx hb dX4_digestBuffer_12 rfl ?_
  refine lv_ladd hx hb dX4_digestBuffer_13 ?_
  refine lv_lstore_n (lv' := [(3, .long ((31 * h) + (i2lF 0))), (0, .ref (Ad 10 0)), (1, .long h)]) hx hb dX4_digestBuffer_14 rfl hl (by decide) rfl (fun ls hl => ?_)
  refine lv_iconst (v := 0) hx hb dX4_digestBuffer_15 (by decide) ?_
  refine lv_istore (lv' := [(5, .int 0), (3, .long ((31 * h) + (i2lF 0))), (0, .ref (Ad 10 0)), (1, .long h)]) hx hb dX4_digestBuffer_16 hl (by decide) rfl (fun ls hl => ?_)
  refine lv_iload hx hb dX4_digestBuffer_18 (lv_at hl 0 rfl) ?_
  refine lv_aload_n hx hb dX4_digestBuffer_20 rfl (lv_at hl 2 rfl) ?_
  have hP : va_P D vwCl ((wLm cA Ad rt) ++ (rst cA Ad (f, ((nI o), (nI z)), (cd, wd, 0, wc, ph), rt) 10)) s.heap := lw_fP 10 (by decide) hWP
  refine va_get (D := D) (ci := 4) (v := .ref (Ad 12 0)) (C := RX4) (T := TX4) (N := 7) hx hb hts iX4_digestBuffer_X4 hown hK hP 0 rfl rfl 5 (by decide) (hts _ mX4_digestBuffer_f37) (fun _ h9 => h9) rfl dX4_digestBuffer_21 ?_
  have hP : va_P D vwCl ((wTx cA (Ad 12) (cd, wd, 0, wc, ph)) ++ (rst cA Ad (f, ((nI o), (nI z)), (cd, wd, 0, wc, ph), rt) 12)) s.heap := lw_fP 12 (by decide) hWP
  refine va_get (D := D) (ci := 3) (v := .int 0) (C := RX3) (T := TX3) (N := 5) hx hb hts iX4_digestBuffer_X3 hown hK hP 0 rfl rfl 2 (by decide) (hts _ mX4_digestBuffer_f129) (fun _ h9 => h9) rfl dX4_digestBuffer_24 ?_
  refine lv_icmp_ge (tgt := 54) hx hb dX4_digestBuffer_27 (by decide) (fun _ => ?_) (fun h => absurd (by decide) h)
  refine lv_lload_n hx hb dX4_digestBuffer_54 rfl (lv_at hl 1 rfl) ?_
  exact ro_lret hx hb hr hlocks hH dX4_digestBuffer_55 rfl
set_option maxHeartbeats 4000000 in
set_option maxRecDepth 100000 in
theorem c_X4_bitsOfShare1 (l : Launch) (D : va_G) (cA : Nat → ClassId) (H : Heap) : RO l yX4_bitsOfShare wsX4_bitsOfShare ({ frames := 1, cells := 0, slots := 0, locals := 21 } : Room) D cA [.int 16, .int 4, .int 52, .int 1023] H (some (.long 4607182418800017408)) := by
  refine Met.ofW (cc := cX4_bitsOfShare) (maxL := 9) (ret := (some .long)) (by decide) rfl ?_
  intro p e s m args below meth c s₁ B hml hv
  obtain ⟨rfl, hH, hKN⟩ := hv
  have hK := hKN.1
  have hx := B.exec
  have hb := B.bytes
  have hr := B.returns
  have hts := atoms_spec (ws := wsX4_bitsOfShare) B.pre
  have hown : s.vm.findClass RX4 = some m.cls := findClass_of_methodNamed B.named
  have hlocks := B.notSynchronized
  subst hH
  have hH : s.heap = s.heap := rfl
  have hl := lv_entry ([.int 16, .int 4, .int 52, .int 1023] : List Value) (n := 9) (Nat.le_of_ble_eq_true rfl)
  rw [lg_entry_eq]
  generalize (lg_sl ([.int 16, .int 4, .int 52, .int 1023] : List Value) ++ List.replicate (9 - (lg_sl ([.int 16, .int 4, .int 52, .int 1023] : List Value)).length) Slot.unset).toArray = ls at hl ⊢
  have hl : lv_has ls 9 [(0, .int 16), (1, .int 4), (2, .int 52), (3, .int 1023)] := hl
  refine lv_iload_n hx hb dX4_bitsOfShare_0 rfl (lv_at hl 0 rfl) ?_
  refine lv_if_gt (tgt := 6) hx hb dX4_bitsOfShare_1 (by decide) (fun _ => ?_) (fun h => absurd (by decide) h)
  refine lv_iconst (v := 0) hx hb dX4_bitsOfShare_6 (by decide) ?_
  refine lv_istore (lv' := [(4, .int 0), (0, .int 16), (1, .int 4), (2, .int 52), (3, .int 1023)]) hx hb dX4_bitsOfShare_7 hl (by decide) rfl (fun ls hl => ?_)
  refine lv_iconst (v := 1) hx hb dX4_bitsOfShare_9 (by decide) ?_
  refine lv_istore (lv' := [(5, .int 1), (4, .int 0), (0, .int 16), (1, .int 4), (2, .int 52), (3, .int 1023)]) hx hb dX4_bitsOfShare_10 hl (by decide) rfl (fun ls hl => ?_)
  refine lv_iload hx hb dX4_bitsOfShare_12 (lv_at hl 0 rfl) ?_
  refine lv_bipush (v := 31) hx hb dX4_bitsOfShare_14 (by decide) ?_
  refine lv_icmp_ge (tgt := 39) hx hb dX4_bitsOfShare_16 (by decide) (fun h => absurd h (by decide)) (fun _ => ?_)
  refine lv_iload_n hx hb dX4_bitsOfShare_19 rfl (lv_at hl 2 rfl) ?_
  refine lv_iload hx hb dX4_bitsOfShare_20 (lv_at hl 0 rfl) ?_
  refine ro_S (As := [.int 16, .int 1]) (rest := []) ⟨hx, hb, hml, hown, hts⟩ (c_X4_bit l D cA _ 16 1) (cwS2 2 hts gX4_bitsOfShare_X4_bit rfl rfl rfl (by decide +kernel) ⟨Nat.le_of_ble_eq_true rfl, Nat.le_of_ble_eq_true rfl⟩) hKN rfl hl.1 rfl (lv_room (Nat.le_of_ble_eq_true rfl)) dX4_bitsOfShare_22 ⟨Nat.zero_le _, Nat.zero_le _⟩ ?_
  refine lz_top (v := 0) (by decide) ?_
  refine lv_iconst (v := 1) hx hb dX4_bitsOfShare_25 (by decide) ?_
  refine lv_icmp_ne (tgt := 33) hx hb dX4_bitsOfShare_26 (by decide) (fun _ => ?_) (fun h => absurd h (by decide))
  refine lv_iinc (v := 2) (lv' := [(5, .int 2), (4, .int 0), (0, .int 16), (1, .int 4), (2, .int 52), (3, .int 1023)]) hx hb dX4_bitsOfShare_33 hl (k := 0) rfl (by decide) (by decide) rfl (fun ls hl => ?_)
  refine lv_goto (tgt := 12) hx hb dX4_bitsOfShare_36 (by decide) ?_
  refine lv_iload hx hb dX4_bitsOfShare_12 (lv_at hl 0 rfl) ?_
  refine lv_bipush (v := 31) hx hb dX4_bitsOfShare_14 (by decide) ?_
  refine lv_icmp_ge (tgt := 39) hx hb dX4_bitsOfShare_16 (by decide) (fun h => absurd h (by decide)) (fun _ => ?_)
  refine lv_iload_n hx hb dX4_bitsOfShare_19 rfl (lv_at hl 2 rfl) ?_
  refine lv_iload hx hb dX4_bitsOfShare_20 (lv_at hl 0 rfl) ?_
  refine ro_S (As := [.int 16, .int 2]) (rest := []) ⟨hx, hb, hml, hown, hts⟩ (c_X4_bit l D cA _ 16 2) (cwS2 2 hts gX4_bitsOfShare_X4_bit rfl rfl rfl (by decide +kernel) ⟨Nat.le_of_ble_eq_true rfl, Nat.le_of_ble_eq_true rfl⟩) hKN rfl hl.1 rfl (lv_room (Nat.le_of_ble_eq_true rfl)) dX4_bitsOfShare_22 ⟨Nat.zero_le _, Nat.zero_le _⟩ ?_
  refine lz_top (v := 0) (by decide) ?_
  refine lv_iconst (v := 1) hx hb dX4_bitsOfShare_25 (by decide) ?_
  refine lv_icmp_ne (tgt := 33) hx hb dX4_bitsOfShare_26 (by decide) (fun _ => ?_) (fun h => absurd h (by decide))
  refine lv_iinc (v := 3) (lv' := [(5, .int 3), (4, .int 0), (0, .int 16), (1, .int 4), (2, .int 52), (3, .int 1023)]) hx hb dX4_bitsOfShare_33 hl (k := 0) rfl (by decide) (by decide) rfl (fun ls hl => ?_)
  refine lv_goto (tgt := 12) hx hb dX4_bitsOfShare_36 (by decide) ?_
  refine lv_iload hx hb dX4_bitsOfShare_12 (lv_at hl 0 rfl) ?_
  refine lv_bipush (v := 31) hx hb dX4_bitsOfShare_14 (by decide) ?_
  refine lv_icmp_ge (tgt := 39) hx hb dX4_bitsOfShare_16 (by decide) (fun h => absurd h (by decide)) (fun _ => ?_)
  refine lv_iload_n hx hb dX4_bitsOfShare_19 rfl (lv_at hl 2 rfl) ?_
  refine lv_iload hx hb dX4_bitsOfShare_20 (lv_at hl 0 rfl) ?_
  refine ro_S (As := [.int 16, .int 3]) (rest := []) ⟨hx, hb, hml, hown, hts⟩ (c_X4_bit l D cA _ 16 3) (cwS2 2 hts gX4_bitsOfShare_X4_bit rfl rfl rfl (by decide +kernel) ⟨Nat.le_of_ble_eq_true rfl, Nat.le_of_ble_eq_true rfl⟩) hKN rfl hl.1 rfl (lv_room (Nat.le_of_ble_eq_true rfl)) dX4_bitsOfShare_22 ⟨Nat.zero_le _, Nat.zero_le _⟩ ?_
  refine lz_top (v := 0) (by decide) ?_
  refine lv_iconst (v := 1) hx hb dX4_bitsOfShare_25 (by decide) ?_
  refine lv_icmp_ne (tgt := 33) hx hb dX4_bitsOfShare_26 (by decide) (fun _ => ?_) (fun h => absurd h (by decide))
  refine lv_iinc (v := 4) (lv' := [(5, .int 4), (4, .int 0), (0, .int 16), (1, .int 4), (2, .int 52), (3, .int 1023)]) hx hb dX4_bitsOfShare_33 hl (k := 0) rfl (by decide) (by decide) rfl (fun ls hl => ?_)
  refine lv_goto (tgt := 12) hx hb dX4_bitsOfShare_36 (by decide) ?_
  refine lv_iload hx hb dX4_bitsOfShare_12 (lv_at hl 0 rfl) ?_
  refine lv_bipush (v := 31) hx hb dX4_bitsOfShare_14 (by decide) ?_
  refine lv_icmp_ge (tgt := 39) hx hb dX4_bitsOfShare_16 (by decide) (fun h => absurd h (by decide)) (fun _ => ?_)
  refine lv_iload_n hx hb dX4_bitsOfShare_19 rfl (lv_at hl 2 rfl) ?_
  refine lv_iload hx hb dX4_bitsOfShare_20 (lv_at hl 0 rfl) ?_
  refine ro_S (As := [.int 16, .int 4]) (rest := []) ⟨hx, hb, hml, hown, hts⟩ (c_X4_bit l D cA _ 16 4) (cwS2 2 hts gX4_bitsOfShare_X4_bit rfl rfl rfl (by decide +kernel) ⟨Nat.le_of_ble_eq_true rfl, Nat.le_of_ble_eq_true rfl⟩) hKN rfl hl.1 rfl (lv_room (Nat.le_of_ble_eq_true rfl)) dX4_bitsOfShare_22 ⟨Nat.zero_le _, Nat.zero_le _⟩ ?_
  refine lz_top (v := 1) (by decide) ?_
  refine lv_iconst (v := 1) hx hb dX4_bitsOfShare_25 (by decide) ?_
  refine lv_icmp_ne (tgt := 33) hx hb dX4_bitsOfShare_26 (by decide) (fun h => absurd (by decide) h) (fun _ => ?_)
  refine lv_iload hx hb dX4_bitsOfShare_29 (lv_at hl 0 rfl) ?_
  refine lv_istore (lv' := [(4, .int 4), (5, .int 4), (0, .int 16), (1, .int 4), (2, .int 52), (3, .int 1023)]) hx hb dX4_bitsOfShare_31 hl (by decide) rfl (fun ls hl => ?_)
  refine lv_iinc (v := 5) (lv' := [(5, .int 5), (4, .int 4), (0, .int 16), (1, .int 4), (2, .int 52), (3, .int 1023)]) hx hb dX4_bitsOfShare_33 hl (k := 1) rfl (by decide) (by decide) rfl (fun ls hl => ?_)
  refine lv_goto (tgt := 12) hx hb dX4_bitsOfShare_36 (by decide) ?_
  refine lv_iload hx hb dX4_bitsOfShare_12 (lv_at hl 0 rfl) ?_
  refine lv_bipush (v := 31) hx hb dX4_bitsOfShare_14 (by decide) ?_
  refine lv_icmp_ge (tgt := 39) hx hb dX4_bitsOfShare_16 (by decide) (fun h => absurd h (by decide)) (fun _ => ?_)
  refine lv_iload_n hx hb dX4_bitsOfShare_19 rfl (lv_at hl 2 rfl) ?_
  refine lv_iload hx hb dX4_bitsOfShare_20 (lv_at hl 0 rfl) ?_
  refine ro_S (As := [.int 16, .int 5]) (rest := []) ⟨hx, hb, hml, hown, hts⟩ (c_X4_bit l D cA _ 16 5) (cwS2 2 hts gX4_bitsOfShare_X4_bit rfl rfl rfl (by decide +kernel) ⟨Nat.le_of_ble_eq_true rfl, Nat.le_of_ble_eq_true rfl⟩) hKN rfl hl.1 rfl (lv_room (Nat.le_of_ble_eq_true rfl)) dX4_bitsOfShare_22 ⟨Nat.zero_le _, Nat.zero_le _⟩ ?_
  refine lz_top (v := 0) (by decide) ?_
  refine lv_iconst (v := 1) hx hb dX4_bitsOfShare_25 (by decide) ?_
  refine lv_icmp_ne (tgt := 33) hx hb dX4_bitsOfShare_26 (by decide) (fun _ => ?_) (fun h => absurd h (by decide))
  refine lv_iinc (v := 6) (lv' := [(5, .int 6), (4, .int 4), (0, .int 16), (1, .int 4), (2, .int 52), (3, .int 1023)]) hx hb dX4_bitsOfShare_33 hl (k := 0) rfl (by decide) (by decide) rfl (fun ls hl => ?_)
  refine lv_goto (tgt := 12) hx hb dX4_bitsOfShare_36 (by decide) ?_
  refine lv_iload hx hb dX4_bitsOfShare_12 (lv_at hl 0 rfl) ?_
  refine lv_bipush (v := 31) hx hb dX4_bitsOfShare_14 (by decide) ?_
  refine lv_icmp_ge (tgt := 39) hx hb dX4_bitsOfShare_16 (by decide) (fun h => absurd h (by decide)) (fun _ => ?_)
  refine lv_iload_n hx hb dX4_bitsOfShare_19 rfl (lv_at hl 2 rfl) ?_
  refine lv_iload hx hb dX4_bitsOfShare_20 (lv_at hl 0 rfl) ?_
  refine ro_S (As := [.int 16, .int 6]) (rest := []) ⟨hx, hb, hml, hown, hts⟩ (c_X4_bit l D cA _ 16 6) (cwS2 2 hts gX4_bitsOfShare_X4_bit rfl rfl rfl (by decide +kernel) ⟨Nat.le_of_ble_eq_true rfl, Nat.le_of_ble_eq_true rfl⟩) hKN rfl hl.1 rfl (lv_room (Nat.le_of_ble_eq_true rfl)) dX4_bitsOfShare_22 ⟨Nat.zero_le _, Nat.zero_le _⟩ ?_
  refine lz_top (v := 0) (by decide) ?_
  refine lv_iconst (v := 1) hx hb dX4_bitsOfShare_25 (by decide) ?_
  refine lv_icmp_ne (tgt := 33) hx hb dX4_bitsOfShare_26 (by decide) (fun _ => ?_) (fun h => absurd h (by decide))
  refine lv_iinc (v := 7) (lv' := [(5, .int 7), (4, .int 4), (0, .int 16), (1, .int 4), (2, .int 52), (3, .int 1023)]) hx hb dX4_bitsOfShare_33 hl (k := 0) rfl (by decide) (by decide) rfl (fun ls hl => ?_)
  refine lv_goto (tgt := 12) hx hb dX4_bitsOfShare_36 (by decide) ?_
  refine lv_iload hx hb dX4_bitsOfShare_12 (lv_at hl 0 rfl) ?_
  refine lv_bipush (v := 31) hx hb dX4_bitsOfShare_14 (by decide) ?_
  refine lv_icmp_ge (tgt := 39) hx hb dX4_bitsOfShare_16 (by decide) (fun h => absurd h (by decide)) (fun _ => ?_)
  refine lv_iload_n hx hb dX4_bitsOfShare_19 rfl (lv_at hl 2 rfl) ?_
  refine lv_iload hx hb dX4_bitsOfShare_20 (lv_at hl 0 rfl) ?_
  refine ro_S (As := [.int 16, .int 7]) (rest := []) ⟨hx, hb, hml, hown, hts⟩ (c_X4_bit l D cA _ 16 7) (cwS2 2 hts gX4_bitsOfShare_X4_bit rfl rfl rfl (by decide +kernel) ⟨Nat.le_of_ble_eq_true rfl, Nat.le_of_ble_eq_true rfl⟩) hKN rfl hl.1 rfl (lv_room (Nat.le_of_ble_eq_true rfl)) dX4_bitsOfShare_22 ⟨Nat.zero_le _, Nat.zero_le _⟩ ?_
  refine lz_top (v := 0) (by decide) ?_
  refine lv_iconst (v := 1) hx hb dX4_bitsOfShare_25 (by decide) ?_
  refine lv_icmp_ne (tgt := 33) hx hb dX4_bitsOfShare_26 (by decide) (fun _ => ?_) (fun h => absurd h (by decide))
  refine lv_iinc (v := 8) (lv' := [(5, .int 8), (4, .int 4), (0, .int 16), (1, .int 4), (2, .int 52), (3, .int 1023)]) hx hb dX4_bitsOfShare_33 hl (k := 0) rfl (by decide) (by decide) rfl (fun ls hl => ?_)
  refine lv_goto (tgt := 12) hx hb dX4_bitsOfShare_36 (by decide) ?_
  refine lv_iload hx hb dX4_bitsOfShare_12 (lv_at hl 0 rfl) ?_
  refine lv_bipush (v := 31) hx hb dX4_bitsOfShare_14 (by decide) ?_
  refine lv_icmp_ge (tgt := 39) hx hb dX4_bitsOfShare_16 (by decide) (fun h => absurd h (by decide)) (fun _ => ?_)
  refine lv_iload_n hx hb dX4_bitsOfShare_19 rfl (lv_at hl 2 rfl) ?_
  refine lv_iload hx hb dX4_bitsOfShare_20 (lv_at hl 0 rfl) ?_
  refine ro_S (As := [.int 16, .int 8]) (rest := []) ⟨hx, hb, hml, hown, hts⟩ (c_X4_bit l D cA _ 16 8) (cwS2 2 hts gX4_bitsOfShare_X4_bit rfl rfl rfl (by decide +kernel) ⟨Nat.le_of_ble_eq_true rfl, Nat.le_of_ble_eq_true rfl⟩) hKN rfl hl.1 rfl (lv_room (Nat.le_of_ble_eq_true rfl)) dX4_bitsOfShare_22 ⟨Nat.zero_le _, Nat.zero_le _⟩ ?_
  refine lz_top (v := 0) (by decide) ?_
  refine lv_iconst (v := 1) hx hb dX4_bitsOfShare_25 (by decide) ?_
  refine lv_icmp_ne (tgt := 33) hx hb dX4_bitsOfShare_26 (by decide) (fun _ => ?_) (fun h => absurd h (by decide))
  refine lv_iinc (v := 9) (lv' := [(5, .int 9), (4, .int 4), (0, .int 16), (1, .int 4), (2, .int 52), (3, .int 1023)]) hx hb dX4_bitsOfShare_33 hl (k := 0) rfl (by decide) (by decide) rfl (fun ls hl => ?_)
  refine lv_goto (tgt := 12) hx hb dX4_bitsOfShare_36 (by decide) ?_
  refine lv_iload hx hb dX4_bitsOfShare_12 (lv_at hl 0 rfl) ?_
  refine lv_bipush (v := 31) hx hb dX4_bitsOfShare_14 (by decide) ?_
  refine lv_icmp_ge (tgt := 39) hx hb dX4_bitsOfShare_16 (by decide) (fun h => absurd h (by decide)) (fun _ => ?_)
  refine lv_iload_n hx hb dX4_bitsOfShare_19 rfl (lv_at hl 2 rfl) ?_
  refine lv_iload hx hb dX4_bitsOfShare_20 (lv_at hl 0 rfl) ?_
  refine ro_S (As := [.int 16, .int 9]) (rest := []) ⟨hx, hb, hml, hown, hts⟩ (c_X4_bit l D cA _ 16 9) (cwS2 2 hts gX4_bitsOfShare_X4_bit rfl rfl rfl (by decide +kernel) ⟨Nat.le_of_ble_eq_true rfl, Nat.le_of_ble_eq_true rfl⟩) hKN rfl hl.1 rfl (lv_room (Nat.le_of_ble_eq_true rfl)) dX4_bitsOfShare_22 ⟨Nat.zero_le _, Nat.zero_le _⟩ ?_
  refine lz_top (v := 0) (by decide) ?_
  refine lv_iconst (v := 1) hx hb dX4_bitsOfShare_25 (by decide) ?_
  refine lv_icmp_ne (tgt := 33) hx hb dX4_bitsOfShare_26 (by decide) (fun _ => ?_) (fun h => absurd h (by decide))
  refine lv_iinc (v := 10) (lv' := [(5, .int 10), (4, .int 4), (0, .int 16), (1, .int 4), (2, .int 52), (3, .int 1023)]) hx hb dX4_bitsOfShare_33 hl (k := 0) rfl (by decide) (by decide) rfl (fun ls hl => ?_)
  refine lv_goto (tgt := 12) hx hb dX4_bitsOfShare_36 (by decide) ?_
  refine lv_iload hx hb dX4_bitsOfShare_12 (lv_at hl 0 rfl) ?_
  refine lv_bipush (v := 31) hx hb dX4_bitsOfShare_14 (by decide) ?_
  refine lv_icmp_ge (tgt := 39) hx hb dX4_bitsOfShare_16 (by decide) (fun h => absurd h (by decide)) (fun _ => ?_)
  refine lv_iload_n hx hb dX4_bitsOfShare_19 rfl (lv_at hl 2 rfl) ?_
  refine lv_iload hx hb dX4_bitsOfShare_20 (lv_at hl 0 rfl) ?_
  refine ro_S (As := [.int 16, .int 10]) (rest := []) ⟨hx, hb, hml, hown, hts⟩ (c_X4_bit l D cA _ 16 10) (cwS2 2 hts gX4_bitsOfShare_X4_bit rfl rfl rfl (by decide +kernel) ⟨Nat.le_of_ble_eq_true rfl, Nat.le_of_ble_eq_true rfl⟩) hKN rfl hl.1 rfl (lv_room (Nat.le_of_ble_eq_true rfl)) dX4_bitsOfShare_22 ⟨Nat.zero_le _, Nat.zero_le _⟩ ?_
  refine lz_top (v := 0) (by decide) ?_
  refine lv_iconst (v := 1) hx hb dX4_bitsOfShare_25 (by decide) ?_
  refine lv_icmp_ne (tgt := 33) hx hb dX4_bitsOfShare_26 (by decide) (fun _ => ?_) (fun h => absurd h (by decide))
  refine lv_iinc (v := 11) (lv' := [(5, .int 11), (4, .int 4), (0, .int 16), (1, .int 4), (2, .int 52), (3, .int 1023)]) hx hb dX4_bitsOfShare_33 hl (k := 0) rfl (by decide) (by decide) rfl (fun ls hl => ?_)
  refine lv_goto (tgt := 12) hx hb dX4_bitsOfShare_36 (by decide) ?_
  refine lv_iload hx hb dX4_bitsOfShare_12 (lv_at hl 0 rfl) ?_
  refine lv_bipush (v := 31) hx hb dX4_bitsOfShare_14 (by decide) ?_
  refine lv_icmp_ge (tgt := 39) hx hb dX4_bitsOfShare_16 (by decide) (fun h => absurd h (by decide)) (fun _ => ?_)
  refine lv_iload_n hx hb dX4_bitsOfShare_19 rfl (lv_at hl 2 rfl) ?_
  refine lv_iload hx hb dX4_bitsOfShare_20 (lv_at hl 0 rfl) ?_
  refine ro_S (As := [.int 16, .int 11]) (rest := []) ⟨hx, hb, hml, hown, hts⟩ (c_X4_bit l D cA _ 16 11) (cwS2 2 hts gX4_bitsOfShare_X4_bit rfl rfl rfl (by decide +kernel) ⟨Nat.le_of_ble_eq_true rfl, Nat.le_of_ble_eq_true rfl⟩) hKN rfl hl.1 rfl (lv_room (Nat.le_of_ble_eq_true rfl)) dX4_bitsOfShare_22 ⟨Nat.zero_le _, Nat.zero_le _⟩ ?_
  refine lz_top (v := 0) (by decide) ?_
  refine lv_iconst (v := 1) hx hb dX4_bitsOfShare_25 (by decide) ?_
  refine lv_icmp_ne (tgt := 33) hx hb dX4_bitsOfShare_26 (by decide) (fun _ => ?_) (fun h => absurd h (by decide))
  refine lv_iinc (v := 12) (lv' := [(5, .int 12), (4, .int 4), (0, .int 16), (1, .int 4), (2, .int 52), (3, .int 1023)]) hx hb dX4_bitsOfShare_33 hl (k := 0) rfl (by decide) (by decide) rfl (fun ls hl => ?_)
  refine lv_goto (tgt := 12) hx hb dX4_bitsOfShare_36 (by decide) ?_
  refine lv_iload hx hb dX4_bitsOfShare_12 (lv_at hl 0 rfl) ?_
  refine lv_bipush (v := 31) hx hb dX4_bitsOfShare_14 (by decide) ?_
  refine lv_icmp_ge (tgt := 39) hx hb dX4_bitsOfShare_16 (by decide) (fun h => absurd h (by decide)) (fun _ => ?_)
  refine lv_iload_n hx hb dX4_bitsOfShare_19 rfl (lv_at hl 2 rfl) ?_
  refine lv_iload hx hb dX4_bitsOfShare_20 (lv_at hl 0 rfl) ?_
  refine ro_S (As := [.int 16, .int 12]) (rest := []) ⟨hx, hb, hml, hown, hts⟩ (c_X4_bit l D cA _ 16 12) (cwS2 2 hts gX4_bitsOfShare_X4_bit rfl rfl rfl (by decide +kernel) ⟨Nat.le_of_ble_eq_true rfl, Nat.le_of_ble_eq_true rfl⟩) hKN rfl hl.1 rfl (lv_room (Nat.le_of_ble_eq_true rfl)) dX4_bitsOfShare_22 ⟨Nat.zero_le _, Nat.zero_le _⟩ ?_
  refine lz_top (v := 0) (by decide) ?_
  refine lv_iconst (v := 1) hx hb dX4_bitsOfShare_25 (by decide) ?_
  refine lv_icmp_ne (tgt := 33) hx hb dX4_bitsOfShare_26 (by decide) (fun _ => ?_) (fun h => absurd h (by decide))
  refine lv_iinc (v := 13) (lv' := [(5, .int 13), (4, .int 4), (0, .int 16), (1, .int 4), (2, .int 52), (3, .int 1023)]) hx hb dX4_bitsOfShare_33 hl (k := 0) rfl (by decide) (by decide) rfl (fun ls hl => ?_)
  refine lv_goto (tgt := 12) hx hb dX4_bitsOfShare_36 (by decide) ?_
  refine lv_iload hx hb dX4_bitsOfShare_12 (lv_at hl 0 rfl) ?_
  refine lv_bipush (v := 31) hx hb dX4_bitsOfShare_14 (by decide) ?_
  refine lv_icmp_ge (tgt := 39) hx hb dX4_bitsOfShare_16 (by decide) (fun h => absurd h (by decide)) (fun _ => ?_)
  refine lv_iload_n hx hb dX4_bitsOfShare_19 rfl (lv_at hl 2 rfl) ?_
  refine lv_iload hx hb dX4_bitsOfShare_20 (lv_at hl 0 rfl) ?_
  refine ro_S (As := [.int 16, .int 13]) (rest := []) ⟨hx, hb, hml, hown, hts⟩ (c_X4_bit l D cA _ 16 13) (cwS2 2 hts gX4_bitsOfShare_X4_bit rfl rfl rfl (by decide +kernel) ⟨Nat.le_of_ble_eq_true rfl, Nat.le_of_ble_eq_true rfl⟩) hKN rfl hl.1 rfl (lv_room (Nat.le_of_ble_eq_true rfl)) dX4_bitsOfShare_22 ⟨Nat.zero_le _, Nat.zero_le _⟩ ?_
  refine lz_top (v := 0) (by decide) ?_
  refine lv_iconst (v := 1) hx hb dX4_bitsOfShare_25 (by decide) ?_
  refine lv_icmp_ne (tgt := 33) hx hb dX4_bitsOfShare_26 (by decide) (fun _ => ?_) (fun h => absurd h (by decide))
  refine lv_iinc (v := 14) (lv' := [(5, .int 14), (4, .int 4), (0, .int 16), (1, .int 4), (2, .int 52), (3, .int 1023)]) hx hb dX4_bitsOfShare_33 hl (k := 0) rfl (by decide) (by decide) rfl (fun ls hl => ?_)
  refine lv_goto (tgt := 12) hx hb dX4_bitsOfShare_36 (by decide) ?_
  refine lv_iload hx hb dX4_bitsOfShare_12 (lv_at hl 0 rfl) ?_
  refine lv_bipush (v := 31) hx hb dX4_bitsOfShare_14 (by decide) ?_
  refine lv_icmp_ge (tgt := 39) hx hb dX4_bitsOfShare_16 (by decide) (fun h => absurd h (by decide)) (fun _ => ?_)
  refine lv_iload_n hx hb dX4_bitsOfShare_19 rfl (lv_at hl 2 rfl) ?_
  refine lv_iload hx hb dX4_bitsOfShare_20 (lv_at hl 0 rfl) ?_
  refine ro_S (As := [.int 16, .int 14]) (rest := []) ⟨hx, hb, hml, hown, hts⟩ (c_X4_bit l D cA _ 16 14) (cwS2 2 hts gX4_bitsOfShare_X4_bit rfl rfl rfl (by decide +kernel) ⟨Nat.le_of_ble_eq_true rfl, Nat.le_of_ble_eq_true rfl⟩) hKN rfl hl.1 rfl (lv_room (Nat.le_of_ble_eq_true rfl)) dX4_bitsOfShare_22 ⟨Nat.zero_le _, Nat.zero_le _⟩ ?_
  refine lz_top (v := 0) (by decide) ?_
  refine lv_iconst (v := 1) hx hb dX4_bitsOfShare_25 (by decide) ?_
  refine lv_icmp_ne (tgt := 33) hx hb dX4_bitsOfShare_26 (by decide) (fun _ => ?_) (fun h => absurd h (by decide))
  refine lv_iinc (v := 15) (lv' := [(5, .int 15), (4, .int 4), (0, .int 16), (1, .int 4), (2, .int 52), (3, .int 1023)]) hx hb dX4_bitsOfShare_33 hl (k := 0) rfl (by decide) (by decide) rfl (fun ls hl => ?_)
  refine lv_goto (tgt := 12) hx hb dX4_bitsOfShare_36 (by decide) ?_
  refine lv_iload hx hb dX4_bitsOfShare_12 (lv_at hl 0 rfl) ?_
  refine lv_bipush (v := 31) hx hb dX4_bitsOfShare_14 (by decide) ?_
  refine lv_icmp_ge (tgt := 39) hx hb dX4_bitsOfShare_16 (by decide) (fun h => absurd h (by decide)) (fun _ => ?_)
  refine lv_iload_n hx hb dX4_bitsOfShare_19 rfl (lv_at hl 2 rfl) ?_
  refine lv_iload hx hb dX4_bitsOfShare_20 (lv_at hl 0 rfl) ?_
  refine ro_S (As := [.int 16, .int 15]) (rest := []) ⟨hx, hb, hml, hown, hts⟩ (c_X4_bit l D cA _ 16 15) (cwS2 2 hts gX4_bitsOfShare_X4_bit rfl rfl rfl (by decide +kernel) ⟨Nat.le_of_ble_eq_true rfl, Nat.le_of_ble_eq_true rfl⟩) hKN rfl hl.1 rfl (lv_room (Nat.le_of_ble_eq_true rfl)) dX4_bitsOfShare_22 ⟨Nat.zero_le _, Nat.zero_le _⟩ ?_
  refine lz_top (v := 0) (by decide) ?_
  refine lv_iconst (v := 1) hx hb dX4_bitsOfShare_25 (by decide) ?_
  refine lv_icmp_ne (tgt := 33) hx hb dX4_bitsOfShare_26 (by decide) (fun _ => ?_) (fun h => absurd h (by decide))
  refine lv_iinc (v := 16) (lv' := [(5, .int 16), (4, .int 4), (0, .int 16), (1, .int 4), (2, .int 52), (3, .int 1023)]) hx hb dX4_bitsOfShare_33 hl (k := 0) rfl (by decide) (by decide) rfl (fun ls hl => ?_)
  refine lv_goto (tgt := 12) hx hb dX4_bitsOfShare_36 (by decide) ?_
  refine lv_iload hx hb dX4_bitsOfShare_12 (lv_at hl 0 rfl) ?_
  refine lv_bipush (v := 31) hx hb dX4_bitsOfShare_14 (by decide) ?_
  refine lv_icmp_ge (tgt := 39) hx hb dX4_bitsOfShare_16 (by decide) (fun h => absurd h (by decide)) (fun _ => ?_)
  refine lv_iload_n hx hb dX4_bitsOfShare_19 rfl (lv_at hl 2 rfl) ?_
  refine lv_iload hx hb dX4_bitsOfShare_20 (lv_at hl 0 rfl) ?_
  refine ro_S (As := [.int 16, .int 16]) (rest := []) ⟨hx, hb, hml, hown, hts⟩ (c_X4_bit l D cA _ 16 16) (cwS2 2 hts gX4_bitsOfShare_X4_bit rfl rfl rfl (by decide +kernel) ⟨Nat.le_of_ble_eq_true rfl, Nat.le_of_ble_eq_true rfl⟩) hKN rfl hl.1 rfl (lv_room (Nat.le_of_ble_eq_true rfl)) dX4_bitsOfShare_22 ⟨Nat.zero_le _, Nat.zero_le _⟩ ?_
  refine lz_top (v := 0) (by decide) ?_
  refine lv_iconst (v := 1) hx hb dX4_bitsOfShare_25 (by decide) ?_
  refine lv_icmp_ne (tgt := 33) hx hb dX4_bitsOfShare_26 (by decide) (fun _ => ?_) (fun h => absurd h (by decide))
  refine lv_iinc (v := 17) (lv' := [(5, .int 17), (4, .int 4), (0, .int 16), (1, .int 4), (2, .int 52), (3, .int 1023)]) hx hb dX4_bitsOfShare_33 hl (k := 0) rfl (by decide) (by decide) rfl (fun ls hl => ?_)
  refine lv_goto (tgt := 12) hx hb dX4_bitsOfShare_36 (by decide) ?_
  refine lv_iload hx hb dX4_bitsOfShare_12 (lv_at hl 0 rfl) ?_
  refine lv_bipush (v := 31) hx hb dX4_bitsOfShare_14 (by decide) ?_
  refine lv_icmp_ge (tgt := 39) hx hb dX4_bitsOfShare_16 (by decide) (fun h => absurd h (by decide)) (fun _ => ?_)
  refine lv_iload_n hx hb dX4_bitsOfShare_19 rfl (lv_at hl 2 rfl) ?_
  refine lv_iload hx hb dX4_bitsOfShare_20 (lv_at hl 0 rfl) ?_
  refine ro_S (As := [.int 16, .int 17]) (rest := []) ⟨hx, hb, hml, hown, hts⟩ (c_X4_bit l D cA _ 16 17) (cwS2 2 hts gX4_bitsOfShare_X4_bit rfl rfl rfl (by decide +kernel) ⟨Nat.le_of_ble_eq_true rfl, Nat.le_of_ble_eq_true rfl⟩) hKN rfl hl.1 rfl (lv_room (Nat.le_of_ble_eq_true rfl)) dX4_bitsOfShare_22 ⟨Nat.zero_le _, Nat.zero_le _⟩ ?_
  refine lz_top (v := 0) (by decide) ?_
  refine lv_iconst (v := 1) hx hb dX4_bitsOfShare_25 (by decide) ?_
  refine lv_icmp_ne (tgt := 33) hx hb dX4_bitsOfShare_26 (by decide) (fun _ => ?_) (fun h => absurd h (by decide))
  refine lv_iinc (v := 18) (lv' := [(5, .int 18), (4, .int 4), (0, .int 16), (1, .int 4), (2, .int 52), (3, .int 1023)]) hx hb dX4_bitsOfShare_33 hl (k := 0) rfl (by decide) (by decide) rfl (fun ls hl => ?_)
  refine lv_goto (tgt := 12) hx hb dX4_bitsOfShare_36 (by decide) ?_
  refine lv_iload hx hb dX4_bitsOfShare_12 (lv_at hl 0 rfl) ?_
  refine lv_bipush (v := 31) hx hb dX4_bitsOfShare_14 (by decide) ?_
  refine lv_icmp_ge (tgt := 39) hx hb dX4_bitsOfShare_16 (by decide) (fun h => absurd h (by decide)) (fun _ => ?_)
  refine lv_iload_n hx hb dX4_bitsOfShare_19 rfl (lv_at hl 2 rfl) ?_
  refine lv_iload hx hb dX4_bitsOfShare_20 (lv_at hl 0 rfl) ?_
  refine ro_S (As := [.int 16, .int 18]) (rest := []) ⟨hx, hb, hml, hown, hts⟩ (c_X4_bit l D cA _ 16 18) (cwS2 2 hts gX4_bitsOfShare_X4_bit rfl rfl rfl (by decide +kernel) ⟨Nat.le_of_ble_eq_true rfl, Nat.le_of_ble_eq_true rfl⟩) hKN rfl hl.1 rfl (lv_room (Nat.le_of_ble_eq_true rfl)) dX4_bitsOfShare_22 ⟨Nat.zero_le _, Nat.zero_le _⟩ ?_
  refine lz_top (v := 0) (by decide) ?_
  refine lv_iconst (v := 1) hx hb dX4_bitsOfShare_25 (by decide) ?_
  refine lv_icmp_ne (tgt := 33) hx hb dX4_bitsOfShare_26 (by decide) (fun _ => ?_) (fun h => absurd h (by decide))
  refine lv_iinc (v := 19) (lv' := [(5, .int 19), (4, .int 4), (0, .int 16), (1, .int 4), (2, .int 52), (3, .int 1023)]) hx hb dX4_bitsOfShare_33 hl (k := 0) rfl (by decide) (by decide) rfl (fun ls hl => ?_)
  refine lv_goto (tgt := 12) hx hb dX4_bitsOfShare_36 (by decide) ?_
  refine lv_iload hx hb dX4_bitsOfShare_12 (lv_at hl 0 rfl) ?_
  refine lv_bipush (v := 31) hx hb dX4_bitsOfShare_14 (by decide) ?_
  refine lv_icmp_ge (tgt := 39) hx hb dX4_bitsOfShare_16 (by decide) (fun h => absurd h (by decide)) (fun _ => ?_)
  refine lv_iload_n hx hb dX4_bitsOfShare_19 rfl (lv_at hl 2 rfl) ?_
  refine lv_iload hx hb dX4_bitsOfShare_20 (lv_at hl 0 rfl) ?_
  refine ro_S (As := [.int 16, .int 19]) (rest := []) ⟨hx, hb, hml, hown, hts⟩ (c_X4_bit l D cA _ 16 19) (cwS2 2 hts gX4_bitsOfShare_X4_bit rfl rfl rfl (by decide +kernel) ⟨Nat.le_of_ble_eq_true rfl, Nat.le_of_ble_eq_true rfl⟩) hKN rfl hl.1 rfl (lv_room (Nat.le_of_ble_eq_true rfl)) dX4_bitsOfShare_22 ⟨Nat.zero_le _, Nat.zero_le _⟩ ?_
  refine lz_top (v := 0) (by decide) ?_
  refine lv_iconst (v := 1) hx hb dX4_bitsOfShare_25 (by decide) ?_
  refine lv_icmp_ne (tgt := 33) hx hb dX4_bitsOfShare_26 (by decide) (fun _ => ?_) (fun h => absurd h (by decide))
  refine lv_iinc (v := 20) (lv' := [(5, .int 20), (4, .int 4), (0, .int 16), (1, .int 4), (2, .int 52), (3, .int 1023)]) hx hb dX4_bitsOfShare_33 hl (k := 0) rfl (by decide) (by decide) rfl (fun ls hl => ?_)
  refine lv_goto (tgt := 12) hx hb dX4_bitsOfShare_36 (by decide) ?_
  refine lv_iload hx hb dX4_bitsOfShare_12 (lv_at hl 0 rfl) ?_
  refine lv_bipush (v := 31) hx hb dX4_bitsOfShare_14 (by decide) ?_
  refine lv_icmp_ge (tgt := 39) hx hb dX4_bitsOfShare_16 (by decide) (fun h => absurd h (by decide)) (fun _ => ?_)
  refine lv_iload_n hx hb dX4_bitsOfShare_19 rfl (lv_at hl 2 rfl) ?_
  refine lv_iload hx hb dX4_bitsOfShare_20 (lv_at hl 0 rfl) ?_
  refine ro_S (As := [.int 16, .int 20]) (rest := []) ⟨hx, hb, hml, hown, hts⟩ (c_X4_bit l D cA _ 16 20) (cwS2 2 hts gX4_bitsOfShare_X4_bit rfl rfl rfl (by decide +kernel) ⟨Nat.le_of_ble_eq_true rfl, Nat.le_of_ble_eq_true rfl⟩) hKN rfl hl.1 rfl (lv_room (Nat.le_of_ble_eq_true rfl)) dX4_bitsOfShare_22 ⟨Nat.zero_le _, Nat.zero_le _⟩ ?_
  refine lz_top (v := 0) (by decide) ?_
  refine lv_iconst (v := 1) hx hb dX4_bitsOfShare_25 (by decide) ?_
  refine lv_icmp_ne (tgt := 33) hx hb dX4_bitsOfShare_26 (by decide) (fun _ => ?_) (fun h => absurd h (by decide))
  refine lv_iinc (v := 21) (lv' := [(5, .int 21), (4, .int 4), (0, .int 16), (1, .int 4), (2, .int 52), (3, .int 1023)]) hx hb dX4_bitsOfShare_33 hl (k := 0) rfl (by decide) (by decide) rfl (fun ls hl => ?_)
  refine lv_goto (tgt := 12) hx hb dX4_bitsOfShare_36 (by decide) ?_
  refine lv_iload hx hb dX4_bitsOfShare_12 (lv_at hl 0 rfl) ?_
  refine lv_bipush (v := 31) hx hb dX4_bitsOfShare_14 (by decide) ?_
  refine lv_icmp_ge (tgt := 39) hx hb dX4_bitsOfShare_16 (by decide) (fun h => absurd h (by decide)) (fun _ => ?_)
  refine lv_iload_n hx hb dX4_bitsOfShare_19 rfl (lv_at hl 2 rfl) ?_
  refine lv_iload hx hb dX4_bitsOfShare_20 (lv_at hl 0 rfl) ?_
  refine ro_S (As := [.int 16, .int 21]) (rest := []) ⟨hx, hb, hml, hown, hts⟩ (c_X4_bit l D cA _ 16 21) (cwS2 2 hts gX4_bitsOfShare_X4_bit rfl rfl rfl (by decide +kernel) ⟨Nat.le_of_ble_eq_true rfl, Nat.le_of_ble_eq_true rfl⟩) hKN rfl hl.1 rfl (lv_room (Nat.le_of_ble_eq_true rfl)) dX4_bitsOfShare_22 ⟨Nat.zero_le _, Nat.zero_le _⟩ ?_
  refine lz_top (v := 0) (by decide) ?_
  refine lv_iconst (v := 1) hx hb dX4_bitsOfShare_25 (by decide) ?_
  refine lv_icmp_ne (tgt := 33) hx hb dX4_bitsOfShare_26 (by decide) (fun _ => ?_) (fun h => absurd h (by decide))
  refine lv_iinc (v := 22) (lv' := [(5, .int 22), (4, .int 4), (0, .int 16), (1, .int 4), (2, .int 52), (3, .int 1023)]) hx hb dX4_bitsOfShare_33 hl (k := 0) rfl (by decide) (by decide) rfl (fun ls hl => ?_)
  refine lv_goto (tgt := 12) hx hb dX4_bitsOfShare_36 (by decide) ?_
  refine lv_iload hx hb dX4_bitsOfShare_12 (lv_at hl 0 rfl) ?_
  refine lv_bipush (v := 31) hx hb dX4_bitsOfShare_14 (by decide) ?_
  refine lv_icmp_ge (tgt := 39) hx hb dX4_bitsOfShare_16 (by decide) (fun h => absurd h (by decide)) (fun _ => ?_)
  refine lv_iload_n hx hb dX4_bitsOfShare_19 rfl (lv_at hl 2 rfl) ?_
  refine lv_iload hx hb dX4_bitsOfShare_20 (lv_at hl 0 rfl) ?_
  refine ro_S (As := [.int 16, .int 22]) (rest := []) ⟨hx, hb, hml, hown, hts⟩ (c_X4_bit l D cA _ 16 22) (cwS2 2 hts gX4_bitsOfShare_X4_bit rfl rfl rfl (by decide +kernel) ⟨Nat.le_of_ble_eq_true rfl, Nat.le_of_ble_eq_true rfl⟩) hKN rfl hl.1 rfl (lv_room (Nat.le_of_ble_eq_true rfl)) dX4_bitsOfShare_22 ⟨Nat.zero_le _, Nat.zero_le _⟩ ?_
  refine lz_top (v := 0) (by decide) ?_
  refine lv_iconst (v := 1) hx hb dX4_bitsOfShare_25 (by decide) ?_
  refine lv_icmp_ne (tgt := 33) hx hb dX4_bitsOfShare_26 (by decide) (fun _ => ?_) (fun h => absurd h (by decide))
  refine lv_iinc (v := 23) (lv' := [(5, .int 23), (4, .int 4), (0, .int 16), (1, .int 4), (2, .int 52), (3, .int 1023)]) hx hb dX4_bitsOfShare_33 hl (k := 0) rfl (by decide) (by decide) rfl (fun ls hl => ?_)
  refine lv_goto (tgt := 12) hx hb dX4_bitsOfShare_36 (by decide) ?_
  refine lv_iload hx hb dX4_bitsOfShare_12 (lv_at hl 0 rfl) ?_
  refine lv_bipush (v := 31) hx hb dX4_bitsOfShare_14 (by decide) ?_
  refine lv_icmp_ge (tgt := 39) hx hb dX4_bitsOfShare_16 (by decide) (fun h => absurd h (by decide)) (fun _ => ?_)
  refine lv_iload_n hx hb dX4_bitsOfShare_19 rfl (lv_at hl 2 rfl) ?_
  refine lv_iload hx hb dX4_bitsOfShare_20 (lv_at hl 0 rfl) ?_
  refine ro_S (As := [.int 16, .int 23]) (rest := []) ⟨hx, hb, hml, hown, hts⟩ (c_X4_bit l D cA _ 16 23) (cwS2 2 hts gX4_bitsOfShare_X4_bit rfl rfl rfl (by decide +kernel) ⟨Nat.le_of_ble_eq_true rfl, Nat.le_of_ble_eq_true rfl⟩) hKN rfl hl.1 rfl (lv_room (Nat.le_of_ble_eq_true rfl)) dX4_bitsOfShare_22 ⟨Nat.zero_le _, Nat.zero_le _⟩ ?_
  refine lz_top (v := 0) (by decide) ?_
  refine lv_iconst (v := 1) hx hb dX4_bitsOfShare_25 (by decide) ?_
  refine lv_icmp_ne (tgt := 33) hx hb dX4_bitsOfShare_26 (by decide) (fun _ => ?_) (fun h => absurd h (by decide))
  refine lv_iinc (v := 24) (lv' := [(5, .int 24), (4, .int 4), (0, .int 16), (1, .int 4), (2, .int 52), (3, .int 1023)]) hx hb dX4_bitsOfShare_33 hl (k := 0) rfl (by decide) (by decide) rfl (fun ls hl => ?_)
  refine lv_goto (tgt := 12) hx hb dX4_bitsOfShare_36 (by decide) ?_
  refine lv_iload hx hb dX4_bitsOfShare_12 (lv_at hl 0 rfl) ?_
  refine lv_bipush (v := 31) hx hb dX4_bitsOfShare_14 (by decide) ?_
  refine lv_icmp_ge (tgt := 39) hx hb dX4_bitsOfShare_16 (by decide) (fun h => absurd h (by decide)) (fun _ => ?_)
  refine lv_iload_n hx hb dX4_bitsOfShare_19 rfl (lv_at hl 2 rfl) ?_
  refine lv_iload hx hb dX4_bitsOfShare_20 (lv_at hl 0 rfl) ?_
  refine ro_S (As := [.int 16, .int 24]) (rest := []) ⟨hx, hb, hml, hown, hts⟩ (c_X4_bit l D cA _ 16 24) (cwS2 2 hts gX4_bitsOfShare_X4_bit rfl rfl rfl (by decide +kernel) ⟨Nat.le_of_ble_eq_true rfl, Nat.le_of_ble_eq_true rfl⟩) hKN rfl hl.1 rfl (lv_room (Nat.le_of_ble_eq_true rfl)) dX4_bitsOfShare_22 ⟨Nat.zero_le _, Nat.zero_le _⟩ ?_
  refine lz_top (v := 0) (by decide) ?_
  refine lv_iconst (v := 1) hx hb dX4_bitsOfShare_25 (by decide) ?_
  refine lv_icmp_ne (tgt := 33) hx hb dX4_bitsOfShare_26 (by decide) (fun _ => ?_) (fun h => absurd h (by decide))
  refine lv_iinc (v := 25) (lv' := [(5, .int 25), (4, .int 4), (0, .int 16), (1, .int 4), (2, .int 52), (3, .int 1023)]) hx hb dX4_bitsOfShare_33 hl (k := 0) rfl (by decide) (by decide) rfl (fun ls hl => ?_)
  refine lv_goto (tgt := 12) hx hb dX4_bitsOfShare_36 (by decide) ?_
  refine lv_iload hx hb dX4_bitsOfShare_12 (lv_at hl 0 rfl) ?_
  refine lv_bipush (v := 31) hx hb dX4_bitsOfShare_14 (by decide) ?_
  refine lv_icmp_ge (tgt := 39) hx hb dX4_bitsOfShare_16 (by decide) (fun h => absurd h (by decide)) (fun _ => ?_)
  refine lv_iload_n hx hb dX4_bitsOfShare_19 rfl (lv_at hl 2 rfl) ?_
  refine lv_iload hx hb dX4_bitsOfShare_20 (lv_at hl 0 rfl) ?_
  refine ro_S (As := [.int 16, .int 25]) (rest := []) ⟨hx, hb, hml, hown, hts⟩ (c_X4_bit l D cA _ 16 25) (cwS2 2 hts gX4_bitsOfShare_X4_bit rfl rfl rfl (by decide +kernel) ⟨Nat.le_of_ble_eq_true rfl, Nat.le_of_ble_eq_true rfl⟩) hKN rfl hl.1 rfl (lv_room (Nat.le_of_ble_eq_true rfl)) dX4_bitsOfShare_22 ⟨Nat.zero_le _, Nat.zero_le _⟩ ?_
  refine lz_top (v := 0) (by decide) ?_
  refine lv_iconst (v := 1) hx hb dX4_bitsOfShare_25 (by decide) ?_
  refine lv_icmp_ne (tgt := 33) hx hb dX4_bitsOfShare_26 (by decide) (fun _ => ?_) (fun h => absurd h (by decide))
  refine lv_iinc (v := 26) (lv' := [(5, .int 26), (4, .int 4), (0, .int 16), (1, .int 4), (2, .int 52), (3, .int 1023)]) hx hb dX4_bitsOfShare_33 hl (k := 0) rfl (by decide) (by decide) rfl (fun ls hl => ?_)
  refine lv_goto (tgt := 12) hx hb dX4_bitsOfShare_36 (by decide) ?_
  refine lv_iload hx hb dX4_bitsOfShare_12 (lv_at hl 0 rfl) ?_
  refine lv_bipush (v := 31) hx hb dX4_bitsOfShare_14 (by decide) ?_
  refine lv_icmp_ge (tgt := 39) hx hb dX4_bitsOfShare_16 (by decide) (fun h => absurd h (by decide)) (fun _ => ?_)
  refine lv_iload_n hx hb dX4_bitsOfShare_19 rfl (lv_at hl 2 rfl) ?_
  refine lv_iload hx hb dX4_bitsOfShare_20 (lv_at hl 0 rfl) ?_
  refine ro_S (As := [.int 16, .int 26]) (rest := []) ⟨hx, hb, hml, hown, hts⟩ (c_X4_bit l D cA _ 16 26) (cwS2 2 hts gX4_bitsOfShare_X4_bit rfl rfl rfl (by decide +kernel) ⟨Nat.le_of_ble_eq_true rfl, Nat.le_of_ble_eq_true rfl⟩) hKN rfl hl.1 rfl (lv_room (Nat.le_of_ble_eq_true rfl)) dX4_bitsOfShare_22 ⟨Nat.zero_le _, Nat.zero_le _⟩ ?_
  refine lz_top (v := 0) (by decide) ?_
  refine lv_iconst (v := 1) hx hb dX4_bitsOfShare_25 (by decide) ?_
  refine lv_icmp_ne (tgt := 33) hx hb dX4_bitsOfShare_26 (by decide) (fun _ => ?_) (fun h => absurd h (by decide))
  refine lv_iinc (v := 27) (lv' := [(5, .int 27), (4, .int 4), (0, .int 16), (1, .int 4), (2, .int 52), (3, .int 1023)]) hx hb dX4_bitsOfShare_33 hl (k := 0) rfl (by decide) (by decide) rfl (fun ls hl => ?_)
  refine lv_goto (tgt := 12) hx hb dX4_bitsOfShare_36 (by decide) ?_
  refine lv_iload hx hb dX4_bitsOfShare_12 (lv_at hl 0 rfl) ?_
  refine lv_bipush (v := 31) hx hb dX4_bitsOfShare_14 (by decide) ?_
  refine lv_icmp_ge (tgt := 39) hx hb dX4_bitsOfShare_16 (by decide) (fun h => absurd h (by decide)) (fun _ => ?_)
  refine lv_iload_n hx hb dX4_bitsOfShare_19 rfl (lv_at hl 2 rfl) ?_
  refine lv_iload hx hb dX4_bitsOfShare_20 (lv_at hl 0 rfl) ?_
  refine ro_S (As := [.int 16, .int 27]) (rest := []) ⟨hx, hb, hml, hown, hts⟩ (c_X4_bit l D cA _ 16 27) (cwS2 2 hts gX4_bitsOfShare_X4_bit rfl rfl rfl (by decide +kernel) ⟨Nat.le_of_ble_eq_true rfl, Nat.le_of_ble_eq_true rfl⟩) hKN rfl hl.1 rfl (lv_room (Nat.le_of_ble_eq_true rfl)) dX4_bitsOfShare_22 ⟨Nat.zero_le _, Nat.zero_le _⟩ ?_
  refine lz_top (v := 0) (by decide) ?_
  refine lv_iconst (v := 1) hx hb dX4_bitsOfShare_25 (by decide) ?_
  refine lv_icmp_ne (tgt := 33) hx hb dX4_bitsOfShare_26 (by decide) (fun _ => ?_) (fun h => absurd h (by decide))
  refine lv_iinc (v := 28) (lv' := [(5, .int 28), (4, .int 4), (0, .int 16), (1, .int 4), (2, .int 52), (3, .int 1023)]) hx hb dX4_bitsOfShare_33 hl (k := 0) rfl (by decide) (by decide) rfl (fun ls hl => ?_)
  refine lv_goto (tgt := 12) hx hb dX4_bitsOfShare_36 (by decide) ?_
  refine lv_iload hx hb dX4_bitsOfShare_12 (lv_at hl 0 rfl) ?_
  refine lv_bipush (v := 31) hx hb dX4_bitsOfShare_14 (by decide) ?_
  refine lv_icmp_ge (tgt := 39) hx hb dX4_bitsOfShare_16 (by decide) (fun h => absurd h (by decide)) (fun _ => ?_)
  refine lv_iload_n hx hb dX4_bitsOfShare_19 rfl (lv_at hl 2 rfl) ?_
  refine lv_iload hx hb dX4_bitsOfShare_20 (lv_at hl 0 rfl) ?_
  refine ro_S (As := [.int 16, .int 28]) (rest := []) ⟨hx, hb, hml, hown, hts⟩ (c_X4_bit l D cA _ 16 28) (cwS2 2 hts gX4_bitsOfShare_X4_bit rfl rfl rfl (by decide +kernel) ⟨Nat.le_of_ble_eq_true rfl, Nat.le_of_ble_eq_true rfl⟩) hKN rfl hl.1 rfl (lv_room (Nat.le_of_ble_eq_true rfl)) dX4_bitsOfShare_22 ⟨Nat.zero_le _, Nat.zero_le _⟩ ?_
  refine lz_top (v := 0) (by decide) ?_
  refine lv_iconst (v := 1) hx hb dX4_bitsOfShare_25 (by decide) ?_
  refine lv_icmp_ne (tgt := 33) hx hb dX4_bitsOfShare_26 (by decide) (fun _ => ?_) (fun h => absurd h (by decide))
  refine lv_iinc (v := 29) (lv' := [(5, .int 29), (4, .int 4), (0, .int 16), (1, .int 4), (2, .int 52), (3, .int 1023)]) hx hb dX4_bitsOfShare_33 hl (k := 0) rfl (by decide) (by decide) rfl (fun ls hl => ?_)
  refine lv_goto (tgt := 12) hx hb dX4_bitsOfShare_36 (by decide) ?_
  refine lv_iload hx hb dX4_bitsOfShare_12 (lv_at hl 0 rfl) ?_
  refine lv_bipush (v := 31) hx hb dX4_bitsOfShare_14 (by decide) ?_
  refine lv_icmp_ge (tgt := 39) hx hb dX4_bitsOfShare_16 (by decide) (fun h => absurd h (by decide)) (fun _ => ?_)
  refine lv_iload_n hx hb dX4_bitsOfShare_19 rfl (lv_at hl 2 rfl) ?_
  refine lv_iload hx hb dX4_bitsOfShare_20 (lv_at hl 0 rfl) ?_
  refine ro_S (As := [.int 16, .int 29]) (rest := []) ⟨hx, hb, hml, hown, hts⟩ (c_X4_bit l D cA _ 16 29) (cwS2 2 hts gX4_bitsOfShare_X4_bit rfl rfl rfl (by decide +kernel) ⟨Nat.le_of_ble_eq_true rfl, Nat.le_of_ble_eq_true rfl⟩) hKN rfl hl.1 rfl (lv_room (Nat.le_of_ble_eq_true rfl)) dX4_bitsOfShare_22 ⟨Nat.zero_le _, Nat.zero_le _⟩ ?_
  refine lz_top (v := 0) (by decide) ?_
  refine lv_iconst (v := 1) hx hb dX4_bitsOfShare_25 (by decide) ?_
  refine lv_icmp_ne (tgt := 33) hx hb dX4_bitsOfShare_26 (by decide) (fun _ => ?_) (fun h => absurd h (by decide))
  refine lv_iinc (v := 30) (lv' := [(5, .int 30), (4, .int 4), (0, .int 16), (1, .int 4), (2, .int 52), (3, .int 1023)]) hx hb dX4_bitsOfShare_33 hl (k := 0) rfl (by decide) (by decide) rfl (fun ls hl => ?_)
  refine lv_goto (tgt := 12) hx hb dX4_bitsOfShare_36 (by decide) ?_
  refine lv_iload hx hb dX4_bitsOfShare_12 (lv_at hl 0 rfl) ?_
  refine lv_bipush (v := 31) hx hb dX4_bitsOfShare_14 (by decide) ?_
  refine lv_icmp_ge (tgt := 39) hx hb dX4_bitsOfShare_16 (by decide) (fun h => absurd h (by decide)) (fun _ => ?_)
  refine lv_iload_n hx hb dX4_bitsOfShare_19 rfl (lv_at hl 2 rfl) ?_
  refine lv_iload hx hb dX4_bitsOfShare_20 (lv_at hl 0 rfl) ?_
  refine ro_S (As := [.int 16, .int 30]) (rest := []) ⟨hx, hb, hml, hown, hts⟩ (c_X4_bit l D cA _ 16 30) (cwS2 2 hts gX4_bitsOfShare_X4_bit rfl rfl rfl (by decide +kernel) ⟨Nat.le_of_ble_eq_true rfl, Nat.le_of_ble_eq_true rfl⟩) hKN rfl hl.1 rfl (lv_room (Nat.le_of_ble_eq_true rfl)) dX4_bitsOfShare_22 ⟨Nat.zero_le _, Nat.zero_le _⟩ ?_
  refine lz_top (v := 0) (by decide) ?_
  refine lv_iconst (v := 1) hx hb dX4_bitsOfShare_25 (by decide) ?_
  refine lv_icmp_ne (tgt := 33) hx hb dX4_bitsOfShare_26 (by decide) (fun _ => ?_) (fun h => absurd h (by decide))
  refine lv_iinc (v := 31) (lv' := [(5, .int 31), (4, .int 4), (0, .int 16), (1, .int 4), (2, .int 52), (3, .int 1023)]) hx hb dX4_bitsOfShare_33 hl (k := 0) rfl (by decide) (by decide) rfl (fun ls hl => ?_)
  refine lv_goto (tgt := 12) hx hb dX4_bitsOfShare_36 (by decide) ?_
  refine lv_iload hx hb dX4_bitsOfShare_12 (lv_at hl 0 rfl) ?_
  refine lv_bipush (v := 31) hx hb dX4_bitsOfShare_14 (by decide) ?_
  refine lv_icmp_ge (tgt := 39) hx hb dX4_bitsOfShare_16 (by decide) (fun _ => ?_) (fun h => absurd (by decide) h)
  refine lv_iload_n hx hb dX4_bitsOfShare_39 rfl (lv_at hl 5 rfl) ?_
  refine lv_iload hx hb dX4_bitsOfShare_40 (lv_at hl 1 rfl) ?_
  refine lz_iadd (v := 1027) hx hb dX4_bitsOfShare_42 (by decide) ?_
  refine lv_iload_n hx hb dX4_bitsOfShare_43 rfl (lv_at hl 3 rfl) ?_
  refine lz_isub (v := 1023) hx hb dX4_bitsOfShare_44 (by decide) ?_
  refine lv_i2l (v := (i2lF 1023)) hx hb dX4_bitsOfShare_45 rfl ?_
  refine lv_lstore (lv' := [(5, .long (i2lF 1023)), (4, .int 4), (0, .int 16), (1, .int 4), (2, .int 52), (3, .int 1023)]) hx hb dX4_bitsOfShare_46 hl (by decide) rfl (fun ls hl => ?_)
  refine lv_iload_n hx hb dX4_bitsOfShare_48 rfl (lv_at hl 2 rfl) ?_
  refine lv_iconst (v := 1) hx hb dX4_bitsOfShare_49 (by decide) ?_
  refine lv_iload hx hb dX4_bitsOfShare_50 (lv_at hl 1 rfl) ?_
  refine lv_ishl hx hb dX4_bitsOfShare_52 ?_
  refine lv_isub hx hb dX4_bitsOfShare_53 ?_
  refine lv_i2l (v := (i2lF ((16 : Int32) - ((1 : Int32) <<< (4 &&& 31))))) hx hb dX4_bitsOfShare_54 rfl ?_
  refine lv_lstore (lv' := [(7, .long (i2lF ((16 : Int32) - ((1 : Int32) <<< (4 &&& 31))))), (5, .long (i2lF 1023)), (4, .int 4), (0, .int 16), (1, .int 4), (2, .int 52), (3, .int 1023)]) hx hb dX4_bitsOfShare_55 hl (by decide) rfl (fun ls hl => ?_)
  refine lv_lload hx hb dX4_bitsOfShare_57 (lv_at hl 1 rfl) ?_
  refine lv_iload_n hx hb dX4_bitsOfShare_59 rfl (lv_at hl 5 rfl) ?_
  refine lv_lshl (v := (lshlF (i2lF 1023) 52)) hx hb dX4_bitsOfShare_60 rfl ?_
  refine lv_lload hx hb dX4_bitsOfShare_61 (lv_at hl 0 rfl) ?_
  refine lv_iload_n hx hb dX4_bitsOfShare_63 rfl (lv_at hl 5 rfl) ?_
  refine lv_iload hx hb dX4_bitsOfShare_64 (lv_at hl 2 rfl) ?_
  refine lz_isub (v := 48) hx hb dX4_bitsOfShare_66 (by decide) ?_
  refine lv_lshl (v := (lshlF (i2lF ((16 : Int32) - ((1 : Int32) <<< (4 &&& 31)))) 48)) hx hb dX4_bitsOfShare_67 rfl ?_
  refine lv_ladd hx hb dX4_bitsOfShare_68 ?_
  exact ro_lret hx hb hr hlocks hH dX4_bitsOfShare_69 (by decide +kernel)
set_option maxHeartbeats 4000000 in
set_option maxRecDepth 100000 in
theorem c_X4_bitsOfShare0 (l : Launch) (D : va_G) (cA : Nat → ClassId) (H : Heap) : RO l yX4_bitsOfShare wsX4_bitsOfShare ({ frames := 0, cells := 0, slots := 0, locals := 0 } : Room) D cA [.int 0, .int 3, .int 23, .int 127] H (some (.long 0)) := by
  refine Met.ofW (cc := cX4_bitsOfShare) (maxL := 9) (ret := (some .long)) (by decide) rfl ?_
  intro p e s m args below meth c s₁ B hml hv
  obtain ⟨rfl, hH, hKN⟩ := hv
  have hK := hKN.1
  have hx := B.exec
  have hb := B.bytes
  have hr := B.returns
  have hts := atoms_spec (ws := wsX4_bitsOfShare) B.pre
  have hown : s.vm.findClass RX4 = some m.cls := findClass_of_methodNamed B.named
  have hlocks := B.notSynchronized
  subst hH
  have hH : s.heap = s.heap := rfl
  have hl := lv_entry ([.int 0, .int 3, .int 23, .int 127] : List Value) (n := 9) (Nat.le_of_ble_eq_true rfl)
  rw [lg_entry_eq]
  generalize (lg_sl ([.int 0, .int 3, .int 23, .int 127] : List Value) ++ List.replicate (9 - (lg_sl ([.int 0, .int 3, .int 23, .int 127] : List Value)).length) Slot.unset).toArray = ls at hl ⊢
  have hl : lv_has ls 9 [(0, .int 0), (1, .int 3), (2, .int 23), (3, .int 127)] := hl
  refine lv_iload_n hx hb dX4_bitsOfShare_0 rfl (lv_at hl 0 rfl) ?_
  refine lv_if_gt (tgt := 6) hx hb dX4_bitsOfShare_1 (by decide) (fun h => absurd h (by decide)) (fun _ => ?_)
  refine lv_lconst (v := 0) hx hb dX4_bitsOfShare_4 (by decide) ?_
  exact ro_lret hx hb hr hlocks hH dX4_bitsOfShare_5 rfl
def digV (f : Nat → SV) (z : Nat) (rt : (Nat → Int32) × (Nat → Int32)) : Int64 := (31 * ((31 * ((31 * ((31 * ((31 * ((31 * ((31 * ((31 * ((31 * ((31 * ((31 * ((31 * (dlI (f 0) (dmI (f 0) (dsI (f 0) 1 (dsI (f 0) 0 (drT (f 0) (dgT (f 0) ((31 * ((31 * ((31 * ((31 * ((31 * ((31 * ((31 * ((31 * ((31 * ((31 * ((31 * ((31 * 3371) + (i2lF (countS (f 0) z rt.2 0)))) + (i2lF (countS (f 0) z rt.2 1)))) + (i2lF (countS (f 0) z rt.2 2)))) + (i2lF (countS (f 0) z rt.2 3)))) + (i2lF (countS (f 0) z rt.2 4)))) + (i2lF (countS (f 0) z rt.2 5)))) + (i2lF (countS (f 0) z rt.2 6)))) + (i2lF (countS (f 0) z rt.2 7)))) + (i2lF (countS (f 0) z (wtT (f 0) rt.2 16) 8)))) + (i2lF (countS (f 0) z (wtT (f 0) rt.2 16) 9)))) + (i2lF (((f 0).2.2.2.1) 0)))) + (i2lF (((f 0).2.2.2.1) 1))) 16) 8) 8) 8) 9) 8)) + (i2lF (goneS (f 0) 20 0)))) + (i2lF (goneS (f 0) 20 1)))) + (i2lF (goneS (f 0) 20 2)))) + (i2lF (goneS (f 0) 20 3)))) + (i2lF (-1)))) + (i2lF (-1)))) + (i2lF ((bgT (f 0) 16).1)))) + 4607182418800017408)) + 0)) + (i2lF 0))) + (i2lF 0)) + i2lF 0)
theorem mX4_digest_k284 : Cond.constantLong RX4 284 (3371) ∈ wsX4_digest := by decide +kernel
theorem mX4_digest_k286 : Cond.constantLong RX4 286 (31) ∈ wsX4_digest := by decide +kernel
theorem mX4_digest_f10 : Cond.fieldLink RX4 10 "WireLoom" "now" "LWireLoom$State;" ∈ wsX4_digest := by decide +kernel
theorem mX4_digest_f104 : Cond.fieldLink RX4 104 "WireLoom$State" "settings" "[I" ∈ wsX4_digest := by decide +kernel
theorem mX4_digest_f30 : Cond.fieldLink RX4 30 "WireLoom" "kept" "[Z" ∈ wsX4_digest := by decide +kernel
set_option maxRecDepth 20000 in
theorem iX4_digest_X2 : ∀ w ∈ wsX20, w ∈ wsX4_digest := by decide +kernel
set_option maxRecDepth 20000 in
theorem iX4_digest_X4 : ∀ w ∈ wsX40, w ∈ wsX4_digest := by decide +kernel
set_option maxHeartbeats 4000000 in
set_option maxRecDepth 100000 in
/-- of a loom whose buffer and slots are empty, all of whose threads are right, unworn -/
theorem c_X4_digest (l : Launch) (D : va_G) (cA : Nat → ClassId) (H : Heap) (Ad : Nat → Nat → Nat) (f : Nat → SV) (o z : Nat) (cd wd : Nat → Int32) (wc ph : Int32) (rt : (Nat → Int32) × (Nat → Int32)) (hz : (f 0).2.2.2.2.2.2.2.2.2.2.2.1 = 0 ∨ (f 0).2.2.2.2.2.2.2.2.2.2.2.1 = 1) (hpo : PlOk (f 0)) (hrt : rightT (f 0) 16 = 16) (h0 : woaT (f 0) 8 = 0) (hk0 : rt.1 0 = 0) (hk1 : rt.1 1 = 0) (hP0 : va_P D vwCl (all cA Ad (f, ((nI o), (nI z)), (cd, wd, 0, wc, ph), rt)) H) (hD0 : va_D (fun _ => True) (all cA Ad (f, ((nI o), (nI z)), (cd, wd, 0, wc, ph), rt))) : MU l yX4_digest wsX4_digest ({ frames := 7, cells := 0, slots := 0, locals := 162 } : Room) D cA [.ref (Ad 10 0)] H (all cA Ad (f, ((nI o), (nI z)), (cd, wd, 0, wc, ph), rt)) (all cA Ad ((upS (upS (upS (upS (upS f 1 (runS 20 (f 0)).2) 1 (runS 20 (f 0)).2) 1 (runS 20 (f 0)).2) 1 (runS 20 (f 0)).2) 1 (setGd (f 0) (bgT (f 0) 16).2.2)), ((nI o), (nI z)), (cd, wd, 0, 0, 0), (rt.1, (wtT (f 0) rt.2 16)))) (some (.long (digV f z rt))) := by
  refine Met.ofW (cc := cX4_digest) (maxL := 4) (ret := (some .long)) (by decide) rfl ?_
  intro p e s m args below meth c s₁ B hml hv
  obtain ⟨rfl, hH, hKN⟩ := hv
  have hK := hKN.1
  have hx := B.exec
  have hb := B.bytes
  have hr := B.returns
  have hts := atoms_spec (ws := wsX4_digest) B.pre
  have hown : s.vm.findClass RX4 = some m.cls := findClass_of_methodNamed B.named
  have hlocks := B.notSynchronized
  subst hH
  have hWD := hD0.self (sz := s.heap.size)
  generalize hAe : va_A (all cA Ad (f, ((nI o), (nI z)), (cd, wd, 0, wc, ph), rt)) s.heap.size = A at hWD ⊢
  have hA : ∀ q : Nat, s.heap.size ≤ q → A q := fun q h => by rw [← hAe]; exact Or.inr h
  have hS : va_S A s.heap s.heap [] := va_S.rf
  have hWP : va_P D vwCl (all cA Ad (f, ((nI o), (nI z)), (cd, wd, 0, wc, ph), rt)) s.heap := hP0
  have hl := lv_entry ([.ref (Ad 10 0)] : List Value) (n := 4) (Nat.le_of_ble_eq_true rfl)
  rw [lg_entry_eq]
  generalize (lg_sl ([.ref (Ad 10 0)] : List Value) ++ List.replicate (4 - (lg_sl ([.ref (Ad 10 0)] : List Value)).length) Slot.unset).toArray = ls at hl ⊢
  have hl : lv_has ls 4 [(0, .ref (Ad 10 0))] := hl
  refine lv_ldc2 (v := 3371) hx hb hown (hts _ mX4_digest_k284) dX4_digest_0 ?_
  refine lv_lstore_n (lv' := [(1, .long 3371), (0, .ref (Ad 10 0))]) hx hb dX4_digest_3 rfl hl (by decide) rfl (fun ls hl => ?_)
  refine lv_iconst (v := 0) hx hb dX4_digest_4 (by decide) ?_
  refine lv_istore_n (lv' := [(3, .int 0), (1, .long 3371), (0, .ref (Ad 10 0))]) hx hb dX4_digest_5 rfl hl (by decide) rfl (fun ls hl => ?_)
  refine lv_iload_n hx hb dX4_digest_6 rfl (lv_at hl 0 rfl) ?_
  refine lv_bipush (v := 9) hx hb dX4_digest_7 (by decide) ?_
  refine lv_icmp_gt (tgt := 31) hx hb dX4_digest_9 (by decide) (fun h => absurd h (by decide)) (fun _ => ?_)
  refine lv_ldc2 (v := 31) hx hb hown (hts _ mX4_digest_k286) dX4_digest_12 ?_
  refine lv_lload_n hx hb dX4_digest_15 rfl (lv_at hl 1 rfl) ?_
  refine lv_lmul hx hb dX4_digest_16 ?_
  refine lv_aload_n hx hb dX4_digest_17 rfl (lv_at hl 2 rfl) ?_
  refine lv_iload_n hx hb dX4_digest_18 rfl (lv_at hl 0 rfl) ?_
  refine mu_Vw (ci := 4) (q0 := 0) (As := [.int 0]) (rest := [.long (31 * 3371)]) ⟨hx, hb, hml, hown, hts⟩ (c_X4_count l D cA _ Ad f o z (cd, wd, 0, wc, ph) rt 0 (by decide) hWP (hWD.weaken (fun _ _ _ _ => trivial))) (cwV 1 hts gX4_digest_X4_count rfl rfl rfl (by decide +kernel) ⟨Nat.le_of_ble_eq_true rfl, Nat.le_of_ble_eq_true rfl⟩) hKN hWP hWD hS hA (lw_fP 10 (by decide) hWP : va_P D vwCl ((wLm cA Ad rt) ++ (rst cA Ad (f, ((nI o), (nI z)), (cd, wd, 0, wc, ph), rt) 10)) s.heap) rfl rfl (all_fst _ _ _ _) rfl hl.1 rfl (lv_room (Nat.le_of_ble_eq_true rfl)) dX4_digest_19 ⟨Nat.zero_le _, Nat.zero_le _⟩ (fun H locs hWP hWD hS => ?_)
  have hWP : va_P D vwCl (all cA Ad (f, ((nI o), (nI z)), (cd, wd, 0, wc, ph), rt)) H := hWP
  have hWD : va_D A (all cA Ad (f, ((nI o), (nI z)), (cd, wd, 0, wc, ph), rt)) := hWD
  refine lz_top (v := (countS (f 0) z rt.2 0)) rfl ?_
  refine lv_i2l (v := (i2lF (countS (f 0) z rt.2 0))) hx hb dX4_digest_22 rfl ?_
  refine lv_ladd hx hb dX4_digest_23 ?_
  refine lv_lstore_n (lv' := [(1, .long ((31 * 3371) + (i2lF (countS (f 0) z rt.2 0)))), (3, .int 0), (0, .ref (Ad 10 0))]) hx hb dX4_digest_24 rfl hl (by decide) rfl (fun ls hl => ?_)
  refine lv_iinc (v := 1) (lv' := [(3, .int 1), (1, .long ((31 * 3371) + (i2lF (countS (f 0) z rt.2 0)))), (0, .ref (Ad 10 0))]) hx hb dX4_digest_25 hl (k := 1) rfl (by decide) (by decide) rfl (fun ls hl => ?_)
  refine lv_goto (tgt := 6) hx hb dX4_digest_28 (by decide) ?_
  refine lv_iload_n hx hb dX4_digest_6 rfl (lv_at hl 0 rfl) ?_
  refine lv_bipush (v := 9) hx hb dX4_digest_7 (by decide) ?_
  refine lv_icmp_gt (tgt := 31) hx hb dX4_digest_9 (by decide) (fun h => absurd h (by decide)) (fun _ => ?_)
  refine lv_ldc2 (v := 31) hx hb hown (hts _ mX4_digest_k286) dX4_digest_12 ?_
  refine lv_lload_n hx hb dX4_digest_15 rfl (lv_at hl 1 rfl) ?_
  refine lv_lmul hx hb dX4_digest_16 ?_
  refine lv_aload_n hx hb dX4_digest_17 rfl (lv_at hl 2 rfl) ?_
  refine lv_iload_n hx hb dX4_digest_18 rfl (lv_at hl 0 rfl) ?_
  refine mu_Vw (ci := 4) (q0 := 0) (As := [.int 1]) (rest := [.long (31 * ((31 * 3371) + (i2lF (countS (f 0) z rt.2 0))))]) ⟨hx, hb, hml, hown, hts⟩ (c_X4_count l D cA _ Ad f o z (cd, wd, 0, wc, ph) rt 1 (by decide) hWP (hWD.weaken (fun _ _ _ _ => trivial))) (cwV 1 hts gX4_digest_X4_count rfl rfl rfl (by decide +kernel) ⟨Nat.le_of_ble_eq_true rfl, Nat.le_of_ble_eq_true rfl⟩) hKN hWP hWD hS hA (lw_fP 10 (by decide) hWP : va_P D vwCl ((wLm cA Ad rt) ++ (rst cA Ad (f, ((nI o), (nI z)), (cd, wd, 0, wc, ph), rt) 10)) H) rfl rfl (all_fst _ _ _ _) rfl hl.1 rfl (lv_room (Nat.le_of_ble_eq_true rfl)) dX4_digest_19 ⟨Nat.zero_le _, Nat.zero_le _⟩ (fun H locs hWP hWD hS => ?_)
  have hWP : va_P D vwCl (all cA Ad (f, ((nI o), (nI z)), (cd, wd, 0, wc, ph), rt)) H := hWP
  have hWD : va_D A (all cA Ad (f, ((nI o), (nI z)), (cd, wd, 0, wc, ph), rt)) := hWD
  refine lz_top (v := (countS (f 0) z rt.2 1)) rfl ?_
  refine lv_i2l (v := (i2lF (countS (f 0) z rt.2 1))) hx hb dX4_digest_22 rfl ?_
  refine lv_ladd hx hb dX4_digest_23 ?_
  refine lv_lstore_n (lv' := [(1, .long ((31 * ((31 * 3371) + (i2lF (countS (f 0) z rt.2 0)))) + (i2lF (countS (f 0) z rt.2 1)))), (3, .int 1), (0, .ref (Ad 10 0))]) hx hb dX4_digest_24 rfl hl (by decide) rfl (fun ls hl => ?_)
  refine lv_iinc (v := 2) (lv' := [(3, .int 2), (1, .long ((31 * ((31 * 3371) + (i2lF (countS (f 0) z rt.2 0)))) + (i2lF (countS (f 0) z rt.2 1)))), (0, .ref (Ad 10 0))]) hx hb dX4_digest_25 hl (k := 1) rfl (by decide) (by decide) rfl (fun ls hl => ?_)
  refine lv_goto (tgt := 6) hx hb dX4_digest_28 (by decide) ?_
  refine lv_iload_n hx hb dX4_digest_6 rfl (lv_at hl 0 rfl) ?_
  refine lv_bipush (v := 9) hx hb dX4_digest_7 (by decide) ?_
  refine lv_icmp_gt (tgt := 31) hx hb dX4_digest_9 (by decide) (fun h => absurd h (by decide)) (fun _ => ?_)
  refine lv_ldc2 (v := 31) hx hb hown (hts _ mX4_digest_k286) dX4_digest_12 ?_
  refine lv_lload_n hx hb dX4_digest_15 rfl (lv_at hl 1 rfl) ?_
  refine lv_lmul hx hb dX4_digest_16 ?_
  refine lv_aload_n hx hb dX4_digest_17 rfl (lv_at hl 2 rfl) ?_
  refine lv_iload_n hx hb dX4_digest_18 rfl (lv_at hl 0 rfl) ?_
  refine mu_Vw (ci := 4) (q0 := 0) (As := [.int 2]) (rest := [.long (31 * ((31 * ((31 * 3371) + (i2lF (countS (f 0) z rt.2 0)))) + (i2lF (countS (f 0) z rt.2 1))))]) ⟨hx, hb, hml, hown, hts⟩ (c_X4_count l D cA _ Ad f o z (cd, wd, 0, wc, ph) rt 2 (by decide) hWP (hWD.weaken (fun _ _ _ _ => trivial))) (cwV 1 hts gX4_digest_X4_count rfl rfl rfl (by decide +kernel) ⟨Nat.le_of_ble_eq_true rfl, Nat.le_of_ble_eq_true rfl⟩) hKN hWP hWD hS hA (lw_fP 10 (by decide) hWP : va_P D vwCl ((wLm cA Ad rt) ++ (rst cA Ad (f, ((nI o), (nI z)), (cd, wd, 0, wc, ph), rt) 10)) H) rfl rfl (all_fst _ _ _ _) rfl hl.1 rfl (lv_room (Nat.le_of_ble_eq_true rfl)) dX4_digest_19 ⟨Nat.zero_le _, Nat.zero_le _⟩ (fun H locs hWP hWD hS => ?_)
  have hWP : va_P D vwCl (all cA Ad (f, ((nI o), (nI z)), (cd, wd, 0, wc, ph), rt)) H := hWP
  have hWD : va_D A (all cA Ad (f, ((nI o), (nI z)), (cd, wd, 0, wc, ph), rt)) := hWD
  refine lz_top (v := (countS (f 0) z rt.2 2)) rfl ?_
  refine lv_i2l (v := (i2lF (countS (f 0) z rt.2 2))) hx hb dX4_digest_22 rfl ?_
  refine lv_ladd hx hb dX4_digest_23 ?_
  refine lv_lstore_n (lv' := [(1, .long ((31 * ((31 * ((31 * 3371) + (i2lF (countS (f 0) z rt.2 0)))) + (i2lF (countS (f 0) z rt.2 1)))) + (i2lF (countS (f 0) z rt.2 2)))), (3, .int 2), (0, .ref (Ad 10 0))]) hx hb dX4_digest_24 rfl hl (by decide) rfl (fun ls hl => ?_)
  refine lv_iinc (v := 3) (lv' := [(3, .int 3), (1, .long ((31 * ((31 * ((31 * 3371) + (i2lF (countS (f 0) z rt.2 0)))) + (i2lF (countS (f 0) z rt.2 1)))) + (i2lF (countS (f 0) z rt.2 2)))), (0, .ref (Ad 10 0))]) hx hb dX4_digest_25 hl (k := 1) rfl (by decide) (by decide) rfl (fun ls hl => ?_)
  refine lv_goto (tgt := 6) hx hb dX4_digest_28 (by decide) ?_
  refine lv_iload_n hx hb dX4_digest_6 rfl (lv_at hl 0 rfl) ?_
  refine lv_bipush (v := 9) hx hb dX4_digest_7 (by decide) ?_
  refine lv_icmp_gt (tgt := 31) hx hb dX4_digest_9 (by decide) (fun h => absurd h (by decide)) (fun _ => ?_)
  refine lv_ldc2 (v := 31) hx hb hown (hts _ mX4_digest_k286) dX4_digest_12 ?_
  refine lv_lload_n hx hb dX4_digest_15 rfl (lv_at hl 1 rfl) ?_
  refine lv_lmul hx hb dX4_digest_16 ?_
  refine lv_aload_n hx hb dX4_digest_17 rfl (lv_at hl 2 rfl) ?_
  refine lv_iload_n hx hb dX4_digest_18 rfl (lv_at hl 0 rfl) ?_
  refine mu_Vw (ci := 4) (q0 := 0) (As := [.int 3]) (rest := [.long (31 * ((31 * ((31 * ((31 * 3371) + (i2lF (countS (f 0) z rt.2 0)))) + (i2lF (countS (f 0) z rt.2 1)))) + (i2lF (countS (f 0) z rt.2 2))))]) ⟨hx, hb, hml, hown, hts⟩ (c_X4_count l D cA _ Ad f o z (cd, wd, 0, wc, ph) rt 3 (by decide) hWP (hWD.weaken (fun _ _ _ _ => trivial))) (cwV 1 hts gX4_digest_X4_count rfl rfl rfl (by decide +kernel) ⟨Nat.le_of_ble_eq_true rfl, Nat.le_of_ble_eq_true rfl⟩) hKN hWP hWD hS hA (lw_fP 10 (by decide) hWP : va_P D vwCl ((wLm cA Ad rt) ++ (rst cA Ad (f, ((nI o), (nI z)), (cd, wd, 0, wc, ph), rt) 10)) H) rfl rfl (all_fst _ _ _ _) rfl hl.1 rfl (lv_room (Nat.le_of_ble_eq_true rfl)) dX4_digest_19 ⟨Nat.zero_le _, Nat.zero_le _⟩ (fun H locs hWP hWD hS => ?_)
  have hWP : va_P D vwCl (all cA Ad (f, ((nI o), (nI z)), (cd, wd, 0, wc, ph), rt)) H := hWP
  have hWD : va_D A (all cA Ad (f, ((nI o), (nI z)), (cd, wd, 0, wc, ph), rt)) := hWD
  refine lz_top (v := (countS (f 0) z rt.2 3)) rfl ?_
  refine lv_i2l (v := (i2lF (countS (f 0) z rt.2 3))) hx hb dX4_digest_22 rfl ?_
  refine lv_ladd hx hb dX4_digest_23 ?_
  refine lv_lstore_n (lv' := [(1, .long ((31 * ((31 * ((31 * ((31 * 3371) + (i2lF (countS (f 0) z rt.2 0)))) + (i2lF (countS (f 0) z rt.2 1)))) + (i2lF (countS (f 0) z rt.2 2)))) + (i2lF (countS (f 0) z rt.2 3)))), (3, .int 3), (0, .ref (Ad 10 0))]) hx hb dX4_digest_24 rfl hl (by decide) rfl (fun ls hl => ?_)
  refine lv_iinc (v := 4) (lv' := [(3, .int 4), (1, .long ((31 * ((31 * ((31 * ((31 * 3371) + (i2lF (countS (f 0) z rt.2 0)))) + (i2lF (countS (f 0) z rt.2 1)))) + (i2lF (countS (f 0) z rt.2 2)))) + (i2lF (countS (f 0) z rt.2 3)))), (0, .ref (Ad 10 0))]) hx hb dX4_digest_25 hl (k := 1) rfl (by decide) (by decide) rfl (fun ls hl => ?_)
  refine lv_goto (tgt := 6) hx hb dX4_digest_28 (by decide) ?_
  refine lv_iload_n hx hb dX4_digest_6 rfl (lv_at hl 0 rfl) ?_
  refine lv_bipush (v := 9) hx hb dX4_digest_7 (by decide) ?_
  refine lv_icmp_gt (tgt := 31) hx hb dX4_digest_9 (by decide) (fun h => absurd h (by decide)) (fun _ => ?_)
  refine lv_ldc2 (v := 31) hx hb hown (hts _ mX4_digest_k286) dX4_digest_12 ?_
  refine lv_lload_n hx hb dX4_digest_15 rfl (lv_at hl 1 rfl) ?_
  refine lv_lmul hx hb dX4_digest_16 ?_
  refine lv_aload_n hx hb dX4_digest_17 rfl (lv_at hl 2 rfl) ?_
  refine lv_iload_n hx hb dX4_digest_18 rfl (lv_at hl 0 rfl) ?_
  refine mu_Vw (ci := 4) (q0 := 0) (As := [.int 4]) (rest := [.long (31 * ((31 * ((31 * ((31 * ((31 * 3371) + (i2lF (countS (f 0) z rt.2 0)))) + (i2lF (countS (f 0) z rt.2 1)))) + (i2lF (countS (f 0) z rt.2 2)))) + (i2lF (countS (f 0) z rt.2 3))))]) ⟨hx, hb, hml, hown, hts⟩ (c_X4_count l D cA _ Ad f o z (cd, wd, 0, wc, ph) rt 4 (by decide) hWP (hWD.weaken (fun _ _ _ _ => trivial))) (cwV 1 hts gX4_digest_X4_count rfl rfl rfl (by decide +kernel) ⟨Nat.le_of_ble_eq_true rfl, Nat.le_of_ble_eq_true rfl⟩) hKN hWP hWD hS hA (lw_fP 10 (by decide) hWP : va_P D vwCl ((wLm cA Ad rt) ++ (rst cA Ad (f, ((nI o), (nI z)), (cd, wd, 0, wc, ph), rt) 10)) H) rfl rfl (all_fst _ _ _ _) rfl hl.1 rfl (lv_room (Nat.le_of_ble_eq_true rfl)) dX4_digest_19 ⟨Nat.zero_le _, Nat.zero_le _⟩ (fun H locs hWP hWD hS => ?_)
  have hWP : va_P D vwCl (all cA Ad (f, ((nI o), (nI z)), (cd, wd, 0, wc, ph), rt)) H := hWP
  have hWD : va_D A (all cA Ad (f, ((nI o), (nI z)), (cd, wd, 0, wc, ph), rt)) := hWD
  refine lz_top (v := (countS (f 0) z rt.2 4)) rfl ?_
  refine lv_i2l (v := (i2lF (countS (f 0) z rt.2 4))) hx hb dX4_digest_22 rfl ?_
  refine lv_ladd hx hb dX4_digest_23 ?_
  refine lv_lstore_n (lv' := [(1, .long ((31 * ((31 * ((31 * ((31 * ((31 * 3371) + (i2lF (countS (f 0) z rt.2 0)))) + (i2lF (countS (f 0) z rt.2 1)))) + (i2lF (countS (f 0) z rt.2 2)))) + (i2lF (countS (f 0) z rt.2 3)))) + (i2lF (countS (f 0) z rt.2 4)))), (3, .int 4), (0, .ref (Ad 10 0))]) hx hb dX4_digest_24 rfl hl (by decide) rfl (fun ls hl => ?_)
  refine lv_iinc (v := 5) (lv' := [(3, .int 5), (1, .long ((31 * ((31 * ((31 * ((31 * ((31 * 3371) + (i2lF (countS (f 0) z rt.2 0)))) + (i2lF (countS (f 0) z rt.2 1)))) + (i2lF (countS (f 0) z rt.2 2)))) + (i2lF (countS (f 0) z rt.2 3)))) + (i2lF (countS (f 0) z rt.2 4)))), (0, .ref (Ad 10 0))]) hx hb dX4_digest_25 hl (k := 1) rfl (by decide) (by decide) rfl (fun ls hl => ?_)
  refine lv_goto (tgt := 6) hx hb dX4_digest_28 (by decide) ?_
  refine lv_iload_n hx hb dX4_digest_6 rfl (lv_at hl 0 rfl) ?_
  refine lv_bipush (v := 9) hx hb dX4_digest_7 (by decide) ?_
  refine lv_icmp_gt (tgt := 31) hx hb dX4_digest_9 (by decide) (fun h => absurd h (by decide)) (fun _ => ?_)
  refine lv_ldc2 (v := 31) hx hb hown (hts _ mX4_digest_k286) dX4_digest_12 ?_
  refine lv_lload_n hx hb dX4_digest_15 rfl (lv_at hl 1 rfl) ?_
  refine lv_lmul hx hb dX4_digest_16 ?_
  refine lv_aload_n hx hb dX4_digest_17 rfl (lv_at hl 2 rfl) ?_
  refine lv_iload_n hx hb dX4_digest_18 rfl (lv_at hl 0 rfl) ?_
  refine mu_Vw (ci := 4) (q0 := 0) (As := [.int 5]) (rest := [.long (31 * ((31 * ((31 * ((31 * ((31 * ((31 * 3371) + (i2lF (countS (f 0) z rt.2 0)))) + (i2lF (countS (f 0) z rt.2 1)))) + (i2lF (countS (f 0) z rt.2 2)))) + (i2lF (countS (f 0) z rt.2 3)))) + (i2lF (countS (f 0) z rt.2 4))))]) ⟨hx, hb, hml, hown, hts⟩ (c_X4_count l D cA _ Ad f o z (cd, wd, 0, wc, ph) rt 5 (by decide) hWP (hWD.weaken (fun _ _ _ _ => trivial))) (cwV 1 hts gX4_digest_X4_count rfl rfl rfl (by decide +kernel) ⟨Nat.le_of_ble_eq_true rfl, Nat.le_of_ble_eq_true rfl⟩) hKN hWP hWD hS hA (lw_fP 10 (by decide) hWP : va_P D vwCl ((wLm cA Ad rt) ++ (rst cA Ad (f, ((nI o), (nI z)), (cd, wd, 0, wc, ph), rt) 10)) H) rfl rfl (all_fst _ _ _ _) rfl hl.1 rfl (lv_room (Nat.le_of_ble_eq_true rfl)) dX4_digest_19 ⟨Nat.zero_le _, Nat.zero_le _⟩ (fun H locs hWP hWD hS => ?_)
  have hWP : va_P D vwCl (all cA Ad (f, ((nI o), (nI z)), (cd, wd, 0, wc, ph), rt)) H := hWP
  have hWD : va_D A (all cA Ad (f, ((nI o), (nI z)), (cd, wd, 0, wc, ph), rt)) := hWD
  refine lz_top (v := (countS (f 0) z rt.2 5)) rfl ?_
  refine lv_i2l (v := (i2lF (countS (f 0) z rt.2 5))) hx hb dX4_digest_22 rfl ?_
  refine lv_ladd hx hb dX4_digest_23 ?_
  refine lv_lstore_n (lv' := [(1, .long ((31 * ((31 * ((31 * ((31 * ((31 * ((31 * 3371) + (i2lF (countS (f 0) z rt.2 0)))) + (i2lF (countS (f 0) z rt.2 1)))) + (i2lF (countS (f 0) z rt.2 2)))) + (i2lF (countS (f 0) z rt.2 3)))) + (i2lF (countS (f 0) z rt.2 4)))) + (i2lF (countS (f 0) z rt.2 5)))), (3, .int 5), (0, .ref (Ad 10 0))]) hx hb dX4_digest_24 rfl hl (by decide) rfl (fun ls hl => ?_)
  refine lv_iinc (v := 6) (lv' := [(3, .int 6), (1, .long ((31 * ((31 * ((31 * ((31 * ((31 * ((31 * 3371) + (i2lF (countS (f 0) z rt.2 0)))) + (i2lF (countS (f 0) z rt.2 1)))) + (i2lF (countS (f 0) z rt.2 2)))) + (i2lF (countS (f 0) z rt.2 3)))) + (i2lF (countS (f 0) z rt.2 4)))) + (i2lF (countS (f 0) z rt.2 5)))), (0, .ref (Ad 10 0))]) hx hb dX4_digest_25 hl (k := 1) rfl (by decide) (by decide) rfl (fun ls hl => ?_)
  refine lv_goto (tgt := 6) hx hb dX4_digest_28 (by decide) ?_
  refine lv_iload_n hx hb dX4_digest_6 rfl (lv_at hl 0 rfl) ?_
  refine lv_bipush (v := 9) hx hb dX4_digest_7 (by decide) ?_
  refine lv_icmp_gt (tgt := 31) hx hb dX4_digest_9 (by decide) (fun h => absurd h (by decide)) (fun _ => ?_)
  refine lv_ldc2 (v := 31) hx hb hown (hts _ mX4_digest_k286) dX4_digest_12 ?_
  refine lv_lload_n hx hb dX4_digest_15 rfl (lv_at hl 1 rfl) ?_
  refine lv_lmul hx hb dX4_digest_16 ?_
  refine lv_aload_n hx hb dX4_digest_17 rfl (lv_at hl 2 rfl) ?_
  refine lv_iload_n hx hb dX4_digest_18 rfl (lv_at hl 0 rfl) ?_
  refine mu_Vw (ci := 4) (q0 := 0) (As := [.int 6]) (rest := [.long (31 * ((31 * ((31 * ((31 * ((31 * ((31 * ((31 * 3371) + (i2lF (countS (f 0) z rt.2 0)))) + (i2lF (countS (f 0) z rt.2 1)))) + (i2lF (countS (f 0) z rt.2 2)))) + (i2lF (countS (f 0) z rt.2 3)))) + (i2lF (countS (f 0) z rt.2 4)))) + (i2lF (countS (f 0) z rt.2 5))))]) ⟨hx, hb, hml, hown, hts⟩ (c_X4_count l D cA _ Ad f o z (cd, wd, 0, wc, ph) rt 6 (by decide) hWP (hWD.weaken (fun _ _ _ _ => trivial))) (cwV 1 hts gX4_digest_X4_count rfl rfl rfl (by decide +kernel) ⟨Nat.le_of_ble_eq_true rfl, Nat.le_of_ble_eq_true rfl⟩) hKN hWP hWD hS hA (lw_fP 10 (by decide) hWP : va_P D vwCl ((wLm cA Ad rt) ++ (rst cA Ad (f, ((nI o), (nI z)), (cd, wd, 0, wc, ph), rt) 10)) H) rfl rfl (all_fst _ _ _ _) rfl hl.1 rfl (lv_room (Nat.le_of_ble_eq_true rfl)) dX4_digest_19 ⟨Nat.zero_le _, Nat.zero_le _⟩ (fun H locs hWP hWD hS => ?_)
  have hWP : va_P D vwCl (all cA Ad (f, ((nI o), (nI z)), (cd, wd, 0, wc, ph), rt)) H := hWP
  have hWD : va_D A (all cA Ad (f, ((nI o), (nI z)), (cd, wd, 0, wc, ph), rt)) := hWD
  refine lz_top (v := (countS (f 0) z rt.2 6)) rfl ?_
  refine lv_i2l (v := (i2lF (countS (f 0) z rt.2 6))) hx hb dX4_digest_22 rfl ?_
  refine lv_ladd hx hb dX4_digest_23 ?_
  refine lv_lstore_n (lv' := [(1, .long ((31 * ((31 * ((31 * ((31 * ((31 * ((31 * ((31 * 3371) + (i2lF (countS (f 0) z rt.2 0)))) + (i2lF (countS (f 0) z rt.2 1)))) + (i2lF (countS (f 0) z rt.2 2)))) + (i2lF (countS (f 0) z rt.2 3)))) + (i2lF (countS (f 0) z rt.2 4)))) + (i2lF (countS (f 0) z rt.2 5)))) + (i2lF (countS (f 0) z rt.2 6)))), (3, .int 6), (0, .ref (Ad 10 0))]) hx hb dX4_digest_24 rfl hl (by decide) rfl (fun ls hl => ?_)
  refine lv_iinc (v := 7) (lv' := [(3, .int 7), (1, .long ((31 * ((31 * ((31 * ((31 * ((31 * ((31 * ((31 * 3371) + (i2lF (countS (f 0) z rt.2 0)))) + (i2lF (countS (f 0) z rt.2 1)))) + (i2lF (countS (f 0) z rt.2 2)))) + (i2lF (countS (f 0) z rt.2 3)))) + (i2lF (countS (f 0) z rt.2 4)))) + (i2lF (countS (f 0) z rt.2 5)))) + (i2lF (countS (f 0) z rt.2 6)))), (0, .ref (Ad 10 0))]) hx hb dX4_digest_25 hl (k := 1) rfl (by decide) (by decide) rfl (fun ls hl => ?_)
  refine lv_goto (tgt := 6) hx hb dX4_digest_28 (by decide) ?_
  refine lv_iload_n hx hb dX4_digest_6 rfl (lv_at hl 0 rfl) ?_
  refine lv_bipush (v := 9) hx hb dX4_digest_7 (by decide) ?_
  refine lv_icmp_gt (tgt := 31) hx hb dX4_digest_9 (by decide) (fun h => absurd h (by decide)) (fun _ => ?_)
  refine lv_ldc2 (v := 31) hx hb hown (hts _ mX4_digest_k286) dX4_digest_12 ?_
  refine lv_lload_n hx hb dX4_digest_15 rfl (lv_at hl 1 rfl) ?_
  refine lv_lmul hx hb dX4_digest_16 ?_
  refine lv_aload_n hx hb dX4_digest_17 rfl (lv_at hl 2 rfl) ?_
  refine lv_iload_n hx hb dX4_digest_18 rfl (lv_at hl 0 rfl) ?_
  refine mu_Vw (ci := 4) (q0 := 0) (As := [.int 7]) (rest := [.long (31 * ((31 * ((31 * ((31 * ((31 * ((31 * ((31 * ((31 * 3371) + (i2lF (countS (f 0) z rt.2 0)))) + (i2lF (countS (f 0) z rt.2 1)))) + (i2lF (countS (f 0) z rt.2 2)))) + (i2lF (countS (f 0) z rt.2 3)))) + (i2lF (countS (f 0) z rt.2 4)))) + (i2lF (countS (f 0) z rt.2 5)))) + (i2lF (countS (f 0) z rt.2 6))))]) ⟨hx, hb, hml, hown, hts⟩ (c_X4_count l D cA _ Ad f o z (cd, wd, 0, wc, ph) rt 7 (by decide) hWP (hWD.weaken (fun _ _ _ _ => trivial))) (cwV 1 hts gX4_digest_X4_count rfl rfl rfl (by decide +kernel) ⟨Nat.le_of_ble_eq_true rfl, Nat.le_of_ble_eq_true rfl⟩) hKN hWP hWD hS hA (lw_fP 10 (by decide) hWP : va_P D vwCl ((wLm cA Ad rt) ++ (rst cA Ad (f, ((nI o), (nI z)), (cd, wd, 0, wc, ph), rt) 10)) H) rfl rfl (all_fst _ _ _ _) rfl hl.1 rfl (lv_room (Nat.le_of_ble_eq_true rfl)) dX4_digest_19 ⟨Nat.zero_le _, Nat.zero_le _⟩ (fun H locs hWP hWD hS => ?_)
  have hWP : va_P D vwCl (all cA Ad (f, ((nI o), (nI z)), (cd, wd, 0, wc, ph), (rt.1, (wtT (f 0) rt.2 16)))) H := hWP
  have hWD : va_D A (all cA Ad (f, ((nI o), (nI z)), (cd, wd, 0, wc, ph), (rt.1, (wtT (f 0) rt.2 16)))) := hWD
  refine lz_top (v := (countS (f 0) z rt.2 7)) rfl ?_
  refine lv_i2l (v := (i2lF (countS (f 0) z rt.2 7))) hx hb dX4_digest_22 rfl ?_
  refine lv_ladd hx hb dX4_digest_23 ?_
  refine lv_lstore_n (lv' := [(1, .long ((31 * ((31 * ((31 * ((31 * ((31 * ((31 * ((31 * ((31 * 3371) + (i2lF (countS (f 0) z rt.2 0)))) + (i2lF (countS (f 0) z rt.2 1)))) + (i2lF (countS (f 0) z rt.2 2)))) + (i2lF (countS (f 0) z rt.2 3)))) + (i2lF (countS (f 0) z rt.2 4)))) + (i2lF (countS (f 0) z rt.2 5)))) + (i2lF (countS (f 0) z rt.2 6)))) + (i2lF (countS (f 0) z rt.2 7)))), (3, .int 7), (0, .ref (Ad 10 0))]) hx hb dX4_digest_24 rfl hl (by decide) rfl (fun ls hl => ?_)
  refine lv_iinc (v := 8) (lv' := [(3, .int 8), (1, .long ((31 * ((31 * ((31 * ((31 * ((31 * ((31 * ((31 * ((31 * 3371) + (i2lF (countS (f 0) z rt.2 0)))) + (i2lF (countS (f 0) z rt.2 1)))) + (i2lF (countS (f 0) z rt.2 2)))) + (i2lF (countS (f 0) z rt.2 3)))) + (i2lF (countS (f 0) z rt.2 4)))) + (i2lF (countS (f 0) z rt.2 5)))) + (i2lF (countS (f 0) z rt.2 6)))) + (i2lF (countS (f 0) z rt.2 7)))), (0, .ref (Ad 10 0))]) hx hb dX4_digest_25 hl (k := 1) rfl (by decide) (by decide) rfl (fun ls hl => ?_)
  refine lv_goto (tgt := 6) hx hb dX4_digest_28 (by decide) ?_
  refine lv_iload_n hx hb dX4_digest_6 rfl (lv_at hl 0 rfl) ?_
  refine lv_bipush (v := 9) hx hb dX4_digest_7 (by decide) ?_
  refine lv_icmp_gt (tgt := 31) hx hb dX4_digest_9 (by decide) (fun h => absurd h (by decide)) (fun _ => ?_)
  refine lv_ldc2 (v := 31) hx hb hown (hts _ mX4_digest_k286) dX4_digest_12 ?_
  refine lv_lload_n hx hb dX4_digest_15 rfl (lv_at hl 1 rfl) ?_
  refine lv_lmul hx hb dX4_digest_16 ?_
  refine lv_aload_n hx hb dX4_digest_17 rfl (lv_at hl 2 rfl) ?_
  refine lv_iload_n hx hb dX4_digest_18 rfl (lv_at hl 0 rfl) ?_
  refine mu_Vw (ci := 4) (q0 := 0) (As := [.int 8]) (rest := [.long (31 * ((31 * ((31 * ((31 * ((31 * ((31 * ((31 * ((31 * ((31 * 3371) + (i2lF (countS (f 0) z rt.2 0)))) + (i2lF (countS (f 0) z rt.2 1)))) + (i2lF (countS (f 0) z rt.2 2)))) + (i2lF (countS (f 0) z rt.2 3)))) + (i2lF (countS (f 0) z rt.2 4)))) + (i2lF (countS (f 0) z rt.2 5)))) + (i2lF (countS (f 0) z rt.2 6)))) + (i2lF (countS (f 0) z rt.2 7))))]) ⟨hx, hb, hml, hown, hts⟩ (c_X4_count l D cA _ Ad f o z (cd, wd, 0, wc, ph) (rt.1, (wtT (f 0) rt.2 16)) 8 (by decide) hWP (hWD.weaken (fun _ _ _ _ => trivial))) (cwV 1 hts gX4_digest_X4_count rfl rfl rfl (by decide +kernel) ⟨Nat.le_of_ble_eq_true rfl, Nat.le_of_ble_eq_true rfl⟩) hKN hWP hWD hS hA (lw_fP 10 (by decide) hWP : va_P D vwCl ((wLm cA Ad (rt.1, (wtT (f 0) rt.2 16))) ++ (rst cA Ad (f, ((nI o), (nI z)), (cd, wd, 0, wc, ph), (rt.1, (wtT (f 0) rt.2 16))) 10)) H) rfl rfl (all_fst _ _ _ _) rfl hl.1 rfl (lv_room (Nat.le_of_ble_eq_true rfl)) dX4_digest_19 ⟨Nat.zero_le _, Nat.zero_le _⟩ (fun H locs hWP hWD hS => ?_)
  have hWP : va_P D vwCl (all cA Ad (f, ((nI o), (nI z)), (cd, wd, 0, wc, ph), (rt.1, (wtT (f 0) rt.2 16)))) H := hWP
  have hWD : va_D A (all cA Ad (f, ((nI o), (nI z)), (cd, wd, 0, wc, ph), (rt.1, (wtT (f 0) rt.2 16)))) := hWD
  refine lz_top (v := (countS (f 0) z (wtT (f 0) rt.2 16) 8)) rfl ?_
  refine lv_i2l (v := (i2lF (countS (f 0) z (wtT (f 0) rt.2 16) 8))) hx hb dX4_digest_22 rfl ?_
  refine lv_ladd hx hb dX4_digest_23 ?_
  refine lv_lstore_n (lv' := [(1, .long ((31 * ((31 * ((31 * ((31 * ((31 * ((31 * ((31 * ((31 * ((31 * 3371) + (i2lF (countS (f 0) z rt.2 0)))) + (i2lF (countS (f 0) z rt.2 1)))) + (i2lF (countS (f 0) z rt.2 2)))) + (i2lF (countS (f 0) z rt.2 3)))) + (i2lF (countS (f 0) z rt.2 4)))) + (i2lF (countS (f 0) z rt.2 5)))) + (i2lF (countS (f 0) z rt.2 6)))) + (i2lF (countS (f 0) z rt.2 7)))) + (i2lF (countS (f 0) z (wtT (f 0) rt.2 16) 8)))), (3, .int 8), (0, .ref (Ad 10 0))]) hx hb dX4_digest_24 rfl hl (by decide) rfl (fun ls hl => ?_)
  refine lv_iinc (v := 9) (lv' := [(3, .int 9), (1, .long ((31 * ((31 * ((31 * ((31 * ((31 * ((31 * ((31 * ((31 * ((31 * 3371) + (i2lF (countS (f 0) z rt.2 0)))) + (i2lF (countS (f 0) z rt.2 1)))) + (i2lF (countS (f 0) z rt.2 2)))) + (i2lF (countS (f 0) z rt.2 3)))) + (i2lF (countS (f 0) z rt.2 4)))) + (i2lF (countS (f 0) z rt.2 5)))) + (i2lF (countS (f 0) z rt.2 6)))) + (i2lF (countS (f 0) z rt.2 7)))) + (i2lF (countS (f 0) z (wtT (f 0) rt.2 16) 8)))), (0, .ref (Ad 10 0))]) hx hb dX4_digest_25 hl (k := 1) rfl (by decide) (by decide) rfl (fun ls hl => ?_)
  refine lv_goto (tgt := 6) hx hb dX4_digest_28 (by decide) ?_
  refine lv_iload_n hx hb dX4_digest_6 rfl (lv_at hl 0 rfl) ?_
  refine lv_bipush (v := 9) hx hb dX4_digest_7 (by decide) ?_
  refine lv_icmp_gt (tgt := 31) hx hb dX4_digest_9 (by decide) (fun h => absurd h (by decide)) (fun _ => ?_)
  refine lv_ldc2 (v := 31) hx hb hown (hts _ mX4_digest_k286) dX4_digest_12 ?_
  refine lv_lload_n hx hb dX4_digest_15 rfl (lv_at hl 1 rfl) ?_
  refine lv_lmul hx hb dX4_digest_16 ?_
  refine lv_aload_n hx hb dX4_digest_17 rfl (lv_at hl 2 rfl) ?_
  refine lv_iload_n hx hb dX4_digest_18 rfl (lv_at hl 0 rfl) ?_
  refine mu_Vw (ci := 4) (q0 := 0) (As := [.int 9]) (rest := [.long (31 * ((31 * ((31 * ((31 * ((31 * ((31 * ((31 * ((31 * ((31 * ((31 * 3371) + (i2lF (countS (f 0) z rt.2 0)))) + (i2lF (countS (f 0) z rt.2 1)))) + (i2lF (countS (f 0) z rt.2 2)))) + (i2lF (countS (f 0) z rt.2 3)))) + (i2lF (countS (f 0) z rt.2 4)))) + (i2lF (countS (f 0) z rt.2 5)))) + (i2lF (countS (f 0) z rt.2 6)))) + (i2lF (countS (f 0) z rt.2 7)))) + (i2lF (countS (f 0) z (wtT (f 0) rt.2 16) 8))))]) ⟨hx, hb, hml, hown, hts⟩ (c_X4_count l D cA _ Ad f o z (cd, wd, 0, wc, ph) (rt.1, (wtT (f 0) rt.2 16)) 9 (by decide) hWP (hWD.weaken (fun _ _ _ _ => trivial))) (cwV 1 hts gX4_digest_X4_count rfl rfl rfl (by decide +kernel) ⟨Nat.le_of_ble_eq_true rfl, Nat.le_of_ble_eq_true rfl⟩) hKN hWP hWD hS hA (lw_fP 10 (by decide) hWP : va_P D vwCl ((wLm cA Ad (rt.1, (wtT (f 0) rt.2 16))) ++ (rst cA Ad (f, ((nI o), (nI z)), (cd, wd, 0, wc, ph), (rt.1, (wtT (f 0) rt.2 16))) 10)) H) rfl rfl (all_fst _ _ _ _) rfl hl.1 rfl (lv_room (Nat.le_of_ble_eq_true rfl)) dX4_digest_19 ⟨Nat.zero_le _, Nat.zero_le _⟩ (fun H locs hWP hWD hS => ?_)
  have hWP : va_P D vwCl (all cA Ad (f, ((nI o), (nI z)), (cd, wd, 0, wc, ph), (rt.1, (wtT (f 0) rt.2 16)))) H := hWP
  have hWD : va_D A (all cA Ad (f, ((nI o), (nI z)), (cd, wd, 0, wc, ph), (rt.1, (wtT (f 0) rt.2 16)))) := hWD
  refine lz_top (v := (countS (f 0) z (wtT (f 0) rt.2 16) 9)) rfl ?_
  refine lv_i2l (v := (i2lF (countS (f 0) z (wtT (f 0) rt.2 16) 9))) hx hb dX4_digest_22 rfl ?_
  refine lv_ladd hx hb dX4_digest_23 ?_
  refine lv_lstore_n (lv' := [(1, .long ((31 * ((31 * ((31 * ((31 * ((31 * ((31 * ((31 * ((31 * ((31 * ((31 * 3371) + (i2lF (countS (f 0) z rt.2 0)))) + (i2lF (countS (f 0) z rt.2 1)))) + (i2lF (countS (f 0) z rt.2 2)))) + (i2lF (countS (f 0) z rt.2 3)))) + (i2lF (countS (f 0) z rt.2 4)))) + (i2lF (countS (f 0) z rt.2 5)))) + (i2lF (countS (f 0) z rt.2 6)))) + (i2lF (countS (f 0) z rt.2 7)))) + (i2lF (countS (f 0) z (wtT (f 0) rt.2 16) 8)))) + (i2lF (countS (f 0) z (wtT (f 0) rt.2 16) 9)))), (3, .int 9), (0, .ref (Ad 10 0))]) hx hb dX4_digest_24 rfl hl (by decide) rfl (fun ls hl => ?_)
  refine lv_iinc (v := 10) (lv' := [(3, .int 10), (1, .long ((31 * ((31 * ((31 * ((31 * ((31 * ((31 * ((31 * ((31 * ((31 * ((31 * 3371) + (i2lF (countS (f 0) z rt.2 0)))) + (i2lF (countS (f 0) z rt.2 1)))) + (i2lF (countS (f 0) z rt.2 2)))) + (i2lF (countS (f 0) z rt.2 3)))) + (i2lF (countS (f 0) z rt.2 4)))) + (i2lF (countS (f 0) z rt.2 5)))) + (i2lF (countS (f 0) z rt.2 6)))) + (i2lF (countS (f 0) z rt.2 7)))) + (i2lF (countS (f 0) z (wtT (f 0) rt.2 16) 8)))) + (i2lF (countS (f 0) z (wtT (f 0) rt.2 16) 9)))), (0, .ref (Ad 10 0))]) hx hb dX4_digest_25 hl (k := 1) rfl (by decide) (by decide) rfl (fun ls hl => ?_)
  refine lv_goto (tgt := 6) hx hb dX4_digest_28 (by decide) ?_
  refine lv_iload_n hx hb dX4_digest_6 rfl (lv_at hl 0 rfl) ?_
  refine lv_bipush (v := 9) hx hb dX4_digest_7 (by decide) ?_
  refine lv_icmp_gt (tgt := 31) hx hb dX4_digest_9 (by decide) (fun _ => ?_) (fun h => absurd (by decide) h)
  refine lv_iconst (v := 0) hx hb dX4_digest_31 (by decide) ?_
  refine lv_istore_n (lv' := [(3, .int 0), (1, .long ((31 * ((31 * ((31 * ((31 * ((31 * ((31 * ((31 * ((31 * ((31 * ((31 * 3371) + (i2lF (countS (f 0) z rt.2 0)))) + (i2lF (countS (f 0) z rt.2 1)))) + (i2lF (countS (f 0) z rt.2 2)))) + (i2lF (countS (f 0) z rt.2 3)))) + (i2lF (countS (f 0) z rt.2 4)))) + (i2lF (countS (f 0) z rt.2 5)))) + (i2lF (countS (f 0) z rt.2 6)))) + (i2lF (countS (f 0) z rt.2 7)))) + (i2lF (countS (f 0) z (wtT (f 0) rt.2 16) 8)))) + (i2lF (countS (f 0) z (wtT (f 0) rt.2 16) 9)))), (0, .ref (Ad 10 0))]) hx hb dX4_digest_32 rfl hl (by decide) rfl (fun ls hl => ?_)
  refine lv_iload_n hx hb dX4_digest_33 rfl (lv_at hl 0 rfl) ?_
  refine lv_iconst (v := 2) hx hb dX4_digest_34 (by decide) ?_
  refine lv_icmp_ge (tgt := 61) hx hb dX4_digest_35 (by decide) (fun h => absurd h (by decide)) (fun _ => ?_)
  refine lv_ldc2 (v := 31) hx hb hown (hts _ mX4_digest_k286) dX4_digest_38 ?_
  refine lv_lload_n hx hb dX4_digest_41 rfl (lv_at hl 1 rfl) ?_
  refine lv_lmul hx hb dX4_digest_42 ?_
  refine lv_aload_n hx hb dX4_digest_43 rfl (lv_at hl 2 rfl) ?_
  have hP : va_P D vwCl ((wLm cA Ad (rt.1, (wtT (f 0) rt.2 16))) ++ (rst cA Ad (f, ((nI o), (nI z)), (cd, wd, 0, wc, ph), (rt.1, (wtT (f 0) rt.2 16))) 10)) H := lw_fP 10 (by decide) hWP
  have hD : va_D A ((wLm cA Ad (rt.1, (wtT (f 0) rt.2 16))) ++ (rst cA Ad (f, ((nI o), (nI z)), (cd, wd, 0, wc, ph), (rt.1, (wtT (f 0) rt.2 16))) 10)) := lw_fD 10 (by decide) hWD
  refine va_get (D := D) (ci := 4) (v := .ref (Ad 0 0)) (C := RX4) (T := TX4) (N := 7) hx hb hts iX4_digest_X4 hown hK hP 0 rfl rfl 0 (by decide) (hts _ mX4_digest_f10) (fun _ h9 => h9) rfl dX4_digest_44 ?_
  have hP : va_P D vwCl ((wSt cA (Ad 0) (f 0)) ++ (rst cA Ad (f, ((nI o), (nI z)), (cd, wd, 0, wc, ph), (rt.1, (wtT (f 0) rt.2 16))) 0)) H := lw_fP 0 (by decide) hWP
  have hD : va_D A ((wSt cA (Ad 0) (f 0)) ++ (rst cA Ad (f, ((nI o), (nI z)), (cd, wd, 0, wc, ph), (rt.1, (wtT (f 0) rt.2 16))) 0)) := lw_fD 0 (by decide) hWD
  refine va_get (D := D) (ci := 2) (v := .ref ((Ad 0) 4)) (C := RX2) (T := TX2) (N := 8) hx hb hts iX4_digest_X2 hown hK hP 0 rfl rfl 3 (by decide) (hts _ mX4_digest_f104) (fun _ h9 => h9) rfl dX4_digest_47 ?_
  refine lv_iload_n hx hb dX4_digest_50 rfl (lv_at hl 0 rfl) ?_
  refine lz_iald (k := 0) (f := (f 0).2.2.2.1) hx hb hK hP 4 0 rfl rfl ⟨by decide, by decide⟩ dX4_digest_51 ?_
  refine lv_i2l (v := (i2lF (((f 0).2.2.2.1) 0))) hx hb dX4_digest_52 rfl ?_
  refine lv_ladd hx hb dX4_digest_53 ?_
  refine lv_lstore_n (lv' := [(1, .long ((31 * ((31 * ((31 * ((31 * ((31 * ((31 * ((31 * ((31 * ((31 * ((31 * ((31 * 3371) + (i2lF (countS (f 0) z rt.2 0)))) + (i2lF (countS (f 0) z rt.2 1)))) + (i2lF (countS (f 0) z rt.2 2)))) + (i2lF (countS (f 0) z rt.2 3)))) + (i2lF (countS (f 0) z rt.2 4)))) + (i2lF (countS (f 0) z rt.2 5)))) + (i2lF (countS (f 0) z rt.2 6)))) + (i2lF (countS (f 0) z rt.2 7)))) + (i2lF (countS (f 0) z (wtT (f 0) rt.2 16) 8)))) + (i2lF (countS (f 0) z (wtT (f 0) rt.2 16) 9)))) + (i2lF (((f 0).2.2.2.1) 0)))), (3, .int 0), (0, .ref (Ad 10 0))]) hx hb dX4_digest_54 rfl hl (by decide) rfl (fun ls hl => ?_)
  refine lv_iinc (v := 1) (lv' := [(3, .int 1), (1, .long ((31 * ((31 * ((31 * ((31 * ((31 * ((31 * ((31 * ((31 * ((31 * ((31 * ((31 * 3371) + (i2lF (countS (f 0) z rt.2 0)))) + (i2lF (countS (f 0) z rt.2 1)))) + (i2lF (countS (f 0) z rt.2 2)))) + (i2lF (countS (f 0) z rt.2 3)))) + (i2lF (countS (f 0) z rt.2 4)))) + (i2lF (countS (f 0) z rt.2 5)))) + (i2lF (countS (f 0) z rt.2 6)))) + (i2lF (countS (f 0) z rt.2 7)))) + (i2lF (countS (f 0) z (wtT (f 0) rt.2 16) 8)))) + (i2lF (countS (f 0) z (wtT (f 0) rt.2 16) 9)))) + (i2lF (((f 0).2.2.2.1) 0)))), (0, .ref (Ad 10 0))]) hx hb dX4_digest_55 hl (k := 1) rfl (by decide) (by decide) rfl (fun ls hl => ?_)
  refine lv_goto (tgt := 33) hx hb dX4_digest_58 (by decide) ?_
  refine lv_iload_n hx hb dX4_digest_33 rfl (lv_at hl 0 rfl) ?_
  refine lv_iconst (v := 2) hx hb dX4_digest_34 (by decide) ?_
  refine lv_icmp_ge (tgt := 61) hx hb dX4_digest_35 (by decide) (fun h => absurd h (by decide)) (fun _ => ?_)
  refine lv_ldc2 (v := 31) hx hb hown (hts _ mX4_digest_k286) dX4_digest_38 ?_
  refine lv_lload_n hx hb dX4_digest_41 rfl (lv_at hl 1 rfl) ?_
  refine lv_lmul hx hb dX4_digest_42 ?_
  refine lv_aload_n hx hb dX4_digest_43 rfl (lv_at hl 2 rfl) ?_
  have hP : va_P D vwCl ((wLm cA Ad (rt.1, (wtT (f 0) rt.2 16))) ++ (rst cA Ad (f, ((nI o), (nI z)), (cd, wd, 0, wc, ph), (rt.1, (wtT (f 0) rt.2 16))) 10)) H := lw_fP 10 (by decide) hWP
  have hD : va_D A ((wLm cA Ad (rt.1, (wtT (f 0) rt.2 16))) ++ (rst cA Ad (f, ((nI o), (nI z)), (cd, wd, 0, wc, ph), (rt.1, (wtT (f 0) rt.2 16))) 10)) := lw_fD 10 (by decide) hWD
  refine va_get (D := D) (ci := 4) (v := .ref (Ad 0 0)) (C := RX4) (T := TX4) (N := 7) hx hb hts iX4_digest_X4 hown hK hP 0 rfl rfl 0 (by decide) (hts _ mX4_digest_f10) (fun _ h9 => h9) rfl dX4_digest_44 ?_
  have hP : va_P D vwCl ((wSt cA (Ad 0) (f 0)) ++ (rst cA Ad (f, ((nI o), (nI z)), (cd, wd, 0, wc, ph), (rt.1, (wtT (f 0) rt.2 16))) 0)) H := lw_fP 0 (by decide) hWP
  have hD : va_D A ((wSt cA (Ad 0) (f 0)) ++ (rst cA Ad (f, ((nI o), (nI z)), (cd, wd, 0, wc, ph), (rt.1, (wtT (f 0) rt.2 16))) 0)) := lw_fD 0 (by decide) hWD
  refine va_get (D := D) (ci := 2) (v := .ref ((Ad 0) 4)) (C := RX2) (T := TX2) (N := 8) hx hb hts iX4_digest_X2 hown hK hP 0 rfl rfl 3 (by decide) (hts _ mX4_digest_f104) (fun _ h9 => h9) rfl dX4_digest_47 ?_
  refine lv_iload_n hx hb dX4_digest_50 rfl (lv_at hl 0 rfl) ?_
  refine lz_iald (k := 1) (f := (f 0).2.2.2.1) hx hb hK hP 4 0 rfl rfl ⟨by decide, by decide⟩ dX4_digest_51 ?_
  refine lv_i2l (v := (i2lF (((f 0).2.2.2.1) 1))) hx hb dX4_digest_52 rfl ?_
  refine lv_ladd hx hb dX4_digest_53 ?_
  refine lv_lstore_n (lv' := [(1, .long ((31 * ((31 * ((31 * ((31 * ((31 * ((31 * ((31 * ((31 * ((31 * ((31 * ((31 * ((31 * 3371) + (i2lF (countS (f 0) z rt.2 0)))) + (i2lF (countS (f 0) z rt.2 1)))) + (i2lF (countS (f 0) z rt.2 2)))) + (i2lF (countS (f 0) z rt.2 3)))) + (i2lF (countS (f 0) z rt.2 4)))) + (i2lF (countS (f 0) z rt.2 5)))) + (i2lF (countS (f 0) z rt.2 6)))) + (i2lF (countS (f 0) z rt.2 7)))) + (i2lF (countS (f 0) z (wtT (f 0) rt.2 16) 8)))) + (i2lF (countS (f 0) z (wtT (f 0) rt.2 16) 9)))) + (i2lF (((f 0).2.2.2.1) 0)))) + (i2lF (((f 0).2.2.2.1) 1)))), (3, .int 1), (0, .ref (Ad 10 0))]) hx hb dX4_digest_54 rfl hl (by decide) rfl (fun ls hl => ?_)
  refine lv_iinc (v := 2) (lv' := [(3, .int 2), (1, .long ((31 * ((31 * ((31 * ((31 * ((31 * ((31 * ((31 * ((31 * ((31 * ((31 * ((31 * ((31 * 3371) + (i2lF (countS (f 0) z rt.2 0)))) + (i2lF (countS (f 0) z rt.2 1)))) + (i2lF (countS (f 0) z rt.2 2)))) + (i2lF (countS (f 0) z rt.2 3)))) + (i2lF (countS (f 0) z rt.2 4)))) + (i2lF (countS (f 0) z rt.2 5)))) + (i2lF (countS (f 0) z rt.2 6)))) + (i2lF (countS (f 0) z rt.2 7)))) + (i2lF (countS (f 0) z (wtT (f 0) rt.2 16) 8)))) + (i2lF (countS (f 0) z (wtT (f 0) rt.2 16) 9)))) + (i2lF (((f 0).2.2.2.1) 0)))) + (i2lF (((f 0).2.2.2.1) 1)))), (0, .ref (Ad 10 0))]) hx hb dX4_digest_55 hl (k := 1) rfl (by decide) (by decide) rfl (fun ls hl => ?_)
  refine lv_goto (tgt := 33) hx hb dX4_digest_58 (by decide) ?_
  refine lv_iload_n hx hb dX4_digest_33 rfl (lv_at hl 0 rfl) ?_
  refine lv_iconst (v := 2) hx hb dX4_digest_34 (by decide) ?_
  refine lv_icmp_ge (tgt := 61) hx hb dX4_digest_35 (by decide) (fun _ => ?_) (fun h => absurd (by decide) h)
  refine lv_aload_n hx hb dX4_digest_61 rfl (lv_at hl 2 rfl) ?_
  refine lv_aload_n hx hb dX4_digest_62 rfl (lv_at hl 2 rfl) ?_
  refine lv_aload_n hx hb dX4_digest_63 rfl (lv_at hl 2 rfl) ?_
  refine lv_lload_n hx hb dX4_digest_64 rfl (lv_at hl 1 rfl) ?_
  refine ro_V (ci := 4) (q0 := 0) (As := [.long ((31 * ((31 * ((31 * ((31 * ((31 * ((31 * ((31 * ((31 * ((31 * ((31 * ((31 * ((31 * 3371) + (i2lF (countS (f 0) z rt.2 0)))) + (i2lF (countS (f 0) z rt.2 1)))) + (i2lF (countS (f 0) z rt.2 2)))) + (i2lF (countS (f 0) z rt.2 3)))) + (i2lF (countS (f 0) z rt.2 4)))) + (i2lF (countS (f 0) z rt.2 5)))) + (i2lF (countS (f 0) z rt.2 6)))) + (i2lF (countS (f 0) z rt.2 7)))) + (i2lF (countS (f 0) z (wtT (f 0) rt.2 16) 8)))) + (i2lF (countS (f 0) z (wtT (f 0) rt.2 16) 9)))) + (i2lF (((f 0).2.2.2.1) 0)))) + (i2lF (((f 0).2.2.2.1) 1)))]) (rest := [.ref (Ad 10 0), .ref (Ad 10 0)]) ⟨hx, hb, hml, hown, hts⟩ (c_X4_digestThreads l D cA _ Ad f o z (cd, wd, 0, wc, ph) (rt.1, (wtT (f 0) rt.2 16)) ((31 * ((31 * ((31 * ((31 * ((31 * ((31 * ((31 * ((31 * ((31 * ((31 * ((31 * ((31 * 3371) + (i2lF (countS (f 0) z rt.2 0)))) + (i2lF (countS (f 0) z rt.2 1)))) + (i2lF (countS (f 0) z rt.2 2)))) + (i2lF (countS (f 0) z rt.2 3)))) + (i2lF (countS (f 0) z rt.2 4)))) + (i2lF (countS (f 0) z rt.2 5)))) + (i2lF (countS (f 0) z rt.2 6)))) + (i2lF (countS (f 0) z rt.2 7)))) + (i2lF (countS (f 0) z (wtT (f 0) rt.2 16) 8)))) + (i2lF (countS (f 0) z (wtT (f 0) rt.2 16) 9)))) + (i2lF (((f 0).2.2.2.1) 0)))) + (i2lF (((f 0).2.2.2.1) 1))) hWP) (cwV 1 hts gX4_digest_X4_digestThreads rfl rfl rfl (by decide +kernel) ⟨Nat.le_of_ble_eq_true rfl, Nat.le_of_ble_eq_true rfl⟩) hKN (lw_fP 10 (by decide) hWP : va_P D vwCl ((wLm cA Ad (rt.1, (wtT (f 0) rt.2 16))) ++ (rst cA Ad (f, ((nI o), (nI z)), (cd, wd, 0, wc, ph), (rt.1, (wtT (f 0) rt.2 16))) 10)) H) rfl rfl rfl hl.1 rfl (lv_room (Nat.le_of_ble_eq_true rfl)) dX4_digest_65 ⟨Nat.zero_le _, Nat.zero_le _⟩ ?_
  refine ro_V (ci := 4) (q0 := 0) (As := [.long (dgT (f 0) ((31 * ((31 * ((31 * ((31 * ((31 * ((31 * ((31 * ((31 * ((31 * ((31 * ((31 * ((31 * 3371) + (i2lF (countS (f 0) z rt.2 0)))) + (i2lF (countS (f 0) z rt.2 1)))) + (i2lF (countS (f 0) z rt.2 2)))) + (i2lF (countS (f 0) z rt.2 3)))) + (i2lF (countS (f 0) z rt.2 4)))) + (i2lF (countS (f 0) z rt.2 5)))) + (i2lF (countS (f 0) z rt.2 6)))) + (i2lF (countS (f 0) z rt.2 7)))) + (i2lF (countS (f 0) z (wtT (f 0) rt.2 16) 8)))) + (i2lF (countS (f 0) z (wtT (f 0) rt.2 16) 9)))) + (i2lF (((f 0).2.2.2.1) 0)))) + (i2lF (((f 0).2.2.2.1) 1))) 16)]) (rest := [.ref (Ad 10 0)]) ⟨hx, hb, hml, hown, hts⟩ (c_X4_digestRings l D cA _ Ad f o z (cd, wd, 0, wc, ph) (rt.1, (wtT (f 0) rt.2 16)) (dgT (f 0) ((31 * ((31 * ((31 * ((31 * ((31 * ((31 * ((31 * ((31 * ((31 * ((31 * ((31 * ((31 * 3371) + (i2lF (countS (f 0) z rt.2 0)))) + (i2lF (countS (f 0) z rt.2 1)))) + (i2lF (countS (f 0) z rt.2 2)))) + (i2lF (countS (f 0) z rt.2 3)))) + (i2lF (countS (f 0) z rt.2 4)))) + (i2lF (countS (f 0) z rt.2 5)))) + (i2lF (countS (f 0) z rt.2 6)))) + (i2lF (countS (f 0) z rt.2 7)))) + (i2lF (countS (f 0) z (wtT (f 0) rt.2 16) 8)))) + (i2lF (countS (f 0) z (wtT (f 0) rt.2 16) 9)))) + (i2lF (((f 0).2.2.2.1) 0)))) + (i2lF (((f 0).2.2.2.1) 1))) 16) hWP) (cwV 1 hts gX4_digest_X4_digestRings rfl rfl rfl (by decide +kernel) ⟨Nat.le_of_ble_eq_true rfl, Nat.le_of_ble_eq_true rfl⟩) hKN (lw_fP 10 (by decide) hWP : va_P D vwCl ((wLm cA Ad (rt.1, (wtT (f 0) rt.2 16))) ++ (rst cA Ad (f, ((nI o), (nI z)), (cd, wd, 0, wc, ph), (rt.1, (wtT (f 0) rt.2 16))) 10)) H) rfl rfl rfl hl.1 rfl (lv_room (Nat.le_of_ble_eq_true rfl)) dX4_digest_68 ⟨Nat.zero_le _, Nat.zero_le _⟩ ?_
  refine ro_V (ci := 4) (q0 := 0) (As := [.long (dsI (f 0) 1 (dsI (f 0) 0 (drT (f 0) (dgT (f 0) ((31 * ((31 * ((31 * ((31 * ((31 * ((31 * ((31 * ((31 * ((31 * ((31 * ((31 * ((31 * 3371) + (i2lF (countS (f 0) z rt.2 0)))) + (i2lF (countS (f 0) z rt.2 1)))) + (i2lF (countS (f 0) z rt.2 2)))) + (i2lF (countS (f 0) z rt.2 3)))) + (i2lF (countS (f 0) z rt.2 4)))) + (i2lF (countS (f 0) z rt.2 5)))) + (i2lF (countS (f 0) z rt.2 6)))) + (i2lF (countS (f 0) z rt.2 7)))) + (i2lF (countS (f 0) z (wtT (f 0) rt.2 16) 8)))) + (i2lF (countS (f 0) z (wtT (f 0) rt.2 16) 9)))) + (i2lF (((f 0).2.2.2.1) 0)))) + (i2lF (((f 0).2.2.2.1) 1))) 16) 8) 8) 8)]) (rest := []) ⟨hx, hb, hml, hown, hts⟩ (c_X4_digestMachine l D cA _ Ad f o z (cd, wd, 0, wc, ph) (rt.1, (wtT (f 0) rt.2 16)) (dsI (f 0) 1 (dsI (f 0) 0 (drT (f 0) (dgT (f 0) ((31 * ((31 * ((31 * ((31 * ((31 * ((31 * ((31 * ((31 * ((31 * ((31 * ((31 * ((31 * 3371) + (i2lF (countS (f 0) z rt.2 0)))) + (i2lF (countS (f 0) z rt.2 1)))) + (i2lF (countS (f 0) z rt.2 2)))) + (i2lF (countS (f 0) z rt.2 3)))) + (i2lF (countS (f 0) z rt.2 4)))) + (i2lF (countS (f 0) z rt.2 5)))) + (i2lF (countS (f 0) z rt.2 6)))) + (i2lF (countS (f 0) z rt.2 7)))) + (i2lF (countS (f 0) z (wtT (f 0) rt.2 16) 8)))) + (i2lF (countS (f 0) z (wtT (f 0) rt.2 16) 9)))) + (i2lF (((f 0).2.2.2.1) 0)))) + (i2lF (((f 0).2.2.2.1) 1))) 16) 8) 8) 8) hWP) (cwV 1 hts gX4_digest_X4_digestMachine rfl rfl rfl (by decide +kernel) ⟨Nat.le_of_ble_eq_true rfl, Nat.le_of_ble_eq_true rfl⟩) hKN (lw_fP 10 (by decide) hWP : va_P D vwCl ((wLm cA Ad (rt.1, (wtT (f 0) rt.2 16))) ++ (rst cA Ad (f, ((nI o), (nI z)), (cd, wd, 0, wc, ph), (rt.1, (wtT (f 0) rt.2 16))) 10)) H) rfl rfl rfl hl.1 rfl (lv_room (Nat.le_of_ble_eq_true rfl)) dX4_digest_71 ⟨Nat.zero_le _, Nat.zero_le _⟩ ?_
  refine lv_lstore_n (lv' := [(1, .long (dlI (f 0) (dmI (f 0) (dsI (f 0) 1 (dsI (f 0) 0 (drT (f 0) (dgT (f 0) ((31 * ((31 * ((31 * ((31 * ((31 * ((31 * ((31 * ((31 * ((31 * ((31 * ((31 * ((31 * 3371) + (i2lF (countS (f 0) z rt.2 0)))) + (i2lF (countS (f 0) z rt.2 1)))) + (i2lF (countS (f 0) z rt.2 2)))) + (i2lF (countS (f 0) z rt.2 3)))) + (i2lF (countS (f 0) z rt.2 4)))) + (i2lF (countS (f 0) z rt.2 5)))) + (i2lF (countS (f 0) z rt.2 6)))) + (i2lF (countS (f 0) z rt.2 7)))) + (i2lF (countS (f 0) z (wtT (f 0) rt.2 16) 8)))) + (i2lF (countS (f 0) z (wtT (f 0) rt.2 16) 9)))) + (i2lF (((f 0).2.2.2.1) 0)))) + (i2lF (((f 0).2.2.2.1) 1))) 16) 8) 8) 8) 9) 8)), (3, .int 2), (0, .ref (Ad 10 0))]) hx hb dX4_digest_74 rfl hl (by decide) rfl (fun ls hl => ?_)
  refine lv_iconst (v := 0) hx hb dX4_digest_75 (by decide) ?_
  refine lv_istore_n (lv' := [(3, .int 0), (1, .long (dlI (f 0) (dmI (f 0) (dsI (f 0) 1 (dsI (f 0) 0 (drT (f 0) (dgT (f 0) ((31 * ((31 * ((31 * ((31 * ((31 * ((31 * ((31 * ((31 * ((31 * ((31 * ((31 * ((31 * 3371) + (i2lF (countS (f 0) z rt.2 0)))) + (i2lF (countS (f 0) z rt.2 1)))) + (i2lF (countS (f 0) z rt.2 2)))) + (i2lF (countS (f 0) z rt.2 3)))) + (i2lF (countS (f 0) z rt.2 4)))) + (i2lF (countS (f 0) z rt.2 5)))) + (i2lF (countS (f 0) z rt.2 6)))) + (i2lF (countS (f 0) z rt.2 7)))) + (i2lF (countS (f 0) z (wtT (f 0) rt.2 16) 8)))) + (i2lF (countS (f 0) z (wtT (f 0) rt.2 16) 9)))) + (i2lF (((f 0).2.2.2.1) 0)))) + (i2lF (((f 0).2.2.2.1) 1))) 16) 8) 8) 8) 9) 8)), (0, .ref (Ad 10 0))]) hx hb dX4_digest_76 rfl hl (by decide) rfl (fun ls hl => ?_)
  refine lv_iload_n hx hb dX4_digest_77 rfl (lv_at hl 0 rfl) ?_
  refine lv_iconst (v := 3) hx hb dX4_digest_78 (by decide) ?_
  refine lv_icmp_gt (tgt := 103) hx hb dX4_digest_79 (by decide) (fun h => absurd h (by decide)) (fun _ => ?_)
  refine lv_ldc2 (v := 31) hx hb hown (hts _ mX4_digest_k286) dX4_digest_82 ?_
  refine lv_lload_n hx hb dX4_digest_85 rfl (lv_at hl 1 rfl) ?_
  refine lv_lmul hx hb dX4_digest_86 ?_
  refine lv_aload_n hx hb dX4_digest_87 rfl (lv_at hl 2 rfl) ?_
  refine lv_bipush (v := 20) hx hb dX4_digest_88 (by decide) ?_
  refine lv_iload_n hx hb dX4_digest_90 rfl (lv_at hl 0 rfl) ?_
  refine mu_Vw (ci := 4) (q0 := 0) (As := [.int 20, .int 0]) (rest := [.long (31 * (dlI (f 0) (dmI (f 0) (dsI (f 0) 1 (dsI (f 0) 0 (drT (f 0) (dgT (f 0) ((31 * ((31 * ((31 * ((31 * ((31 * ((31 * ((31 * ((31 * ((31 * ((31 * ((31 * ((31 * 3371) + (i2lF (countS (f 0) z rt.2 0)))) + (i2lF (countS (f 0) z rt.2 1)))) + (i2lF (countS (f 0) z rt.2 2)))) + (i2lF (countS (f 0) z rt.2 3)))) + (i2lF (countS (f 0) z rt.2 4)))) + (i2lF (countS (f 0) z rt.2 5)))) + (i2lF (countS (f 0) z rt.2 6)))) + (i2lF (countS (f 0) z rt.2 7)))) + (i2lF (countS (f 0) z (wtT (f 0) rt.2 16) 8)))) + (i2lF (countS (f 0) z (wtT (f 0) rt.2 16) 9)))) + (i2lF (((f 0).2.2.2.1) 0)))) + (i2lF (((f 0).2.2.2.1) 1))) 16) 8) 8) 8) 9) 8))]) ⟨hx, hb, hml, hown, hts⟩ (c_X4_ifGone0 l D cA _ Ad f o z (cd, wd, 0, wc, ph) (rt.1, (wtT (f 0) rt.2 16)) hz hpo 20 (by decide) (by decide) hWP (hWD.weaken (fun _ _ _ _ => trivial))) (cwV 2 hts gX4_digest_X4_ifGone rfl rfl rfl (by decide +kernel) ⟨Nat.le_of_ble_eq_true rfl, Nat.le_of_ble_eq_true rfl⟩) hKN hWP hWD hS hA (lw_fP 10 (by decide) hWP : va_P D vwCl ((wLm cA Ad (rt.1, (wtT (f 0) rt.2 16))) ++ (rst cA Ad (f, ((nI o), (nI z)), (cd, wd, 0, wc, ph), (rt.1, (wtT (f 0) rt.2 16))) 10)) H) rfl rfl (all_fst _ _ _ _) rfl hl.1 rfl (lv_room (Nat.le_of_ble_eq_true rfl)) dX4_digest_91 ⟨Nat.zero_le _, Nat.zero_le _⟩ (fun H locs hWP hWD hS => ?_)
  have hWP : va_P D vwCl (all cA Ad ((upS f 1 (runS 20 (f 0)).2), ((nI o), (nI z)), (cd, wd, 0, wc, ph), (rt.1, (wtT (f 0) rt.2 16)))) H := hWP
  have hWD : va_D A (all cA Ad ((upS f 1 (runS 20 (f 0)).2), ((nI o), (nI z)), (cd, wd, 0, wc, ph), (rt.1, (wtT (f 0) rt.2 16)))) := hWD
  refine lz_top (v := (goneS (f 0) 20 0)) rfl ?_
  refine lv_i2l (v := (i2lF (goneS (f 0) 20 0))) hx hb dX4_digest_94 rfl ?_
  refine lv_ladd hx hb dX4_digest_95 ?_
  refine lv_lstore_n (lv' := [(1, .long ((31 * (dlI (f 0) (dmI (f 0) (dsI (f 0) 1 (dsI (f 0) 0 (drT (f 0) (dgT (f 0) ((31 * ((31 * ((31 * ((31 * ((31 * ((31 * ((31 * ((31 * ((31 * ((31 * ((31 * ((31 * 3371) + (i2lF (countS (f 0) z rt.2 0)))) + (i2lF (countS (f 0) z rt.2 1)))) + (i2lF (countS (f 0) z rt.2 2)))) + (i2lF (countS (f 0) z rt.2 3)))) + (i2lF (countS (f 0) z rt.2 4)))) + (i2lF (countS (f 0) z rt.2 5)))) + (i2lF (countS (f 0) z rt.2 6)))) + (i2lF (countS (f 0) z rt.2 7)))) + (i2lF (countS (f 0) z (wtT (f 0) rt.2 16) 8)))) + (i2lF (countS (f 0) z (wtT (f 0) rt.2 16) 9)))) + (i2lF (((f 0).2.2.2.1) 0)))) + (i2lF (((f 0).2.2.2.1) 1))) 16) 8) 8) 8) 9) 8)) + (i2lF (goneS (f 0) 20 0)))), (3, .int 0), (0, .ref (Ad 10 0))]) hx hb dX4_digest_96 rfl hl (by decide) rfl (fun ls hl => ?_)
  refine lv_iinc (v := 1) (lv' := [(3, .int 1), (1, .long ((31 * (dlI (f 0) (dmI (f 0) (dsI (f 0) 1 (dsI (f 0) 0 (drT (f 0) (dgT (f 0) ((31 * ((31 * ((31 * ((31 * ((31 * ((31 * ((31 * ((31 * ((31 * ((31 * ((31 * ((31 * 3371) + (i2lF (countS (f 0) z rt.2 0)))) + (i2lF (countS (f 0) z rt.2 1)))) + (i2lF (countS (f 0) z rt.2 2)))) + (i2lF (countS (f 0) z rt.2 3)))) + (i2lF (countS (f 0) z rt.2 4)))) + (i2lF (countS (f 0) z rt.2 5)))) + (i2lF (countS (f 0) z rt.2 6)))) + (i2lF (countS (f 0) z rt.2 7)))) + (i2lF (countS (f 0) z (wtT (f 0) rt.2 16) 8)))) + (i2lF (countS (f 0) z (wtT (f 0) rt.2 16) 9)))) + (i2lF (((f 0).2.2.2.1) 0)))) + (i2lF (((f 0).2.2.2.1) 1))) 16) 8) 8) 8) 9) 8)) + (i2lF (goneS (f 0) 20 0)))), (0, .ref (Ad 10 0))]) hx hb dX4_digest_97 hl (k := 1) rfl (by decide) (by decide) rfl (fun ls hl => ?_)
  refine lv_goto (tgt := 77) hx hb dX4_digest_100 (by decide) ?_
  refine lv_iload_n hx hb dX4_digest_77 rfl (lv_at hl 0 rfl) ?_
  refine lv_iconst (v := 3) hx hb dX4_digest_78 (by decide) ?_
  refine lv_icmp_gt (tgt := 103) hx hb dX4_digest_79 (by decide) (fun h => absurd h (by decide)) (fun _ => ?_)
  refine lv_ldc2 (v := 31) hx hb hown (hts _ mX4_digest_k286) dX4_digest_82 ?_
  refine lv_lload_n hx hb dX4_digest_85 rfl (lv_at hl 1 rfl) ?_
  refine lv_lmul hx hb dX4_digest_86 ?_
  refine lv_aload_n hx hb dX4_digest_87 rfl (lv_at hl 2 rfl) ?_
  refine lv_bipush (v := 20) hx hb dX4_digest_88 (by decide) ?_
  refine lv_iload_n hx hb dX4_digest_90 rfl (lv_at hl 0 rfl) ?_
  refine mu_Vw (ci := 4) (q0 := 0) (As := [.int 20, .int 1]) (rest := [.long (31 * ((31 * (dlI (f 0) (dmI (f 0) (dsI (f 0) 1 (dsI (f 0) 0 (drT (f 0) (dgT (f 0) ((31 * ((31 * ((31 * ((31 * ((31 * ((31 * ((31 * ((31 * ((31 * ((31 * ((31 * ((31 * 3371) + (i2lF (countS (f 0) z rt.2 0)))) + (i2lF (countS (f 0) z rt.2 1)))) + (i2lF (countS (f 0) z rt.2 2)))) + (i2lF (countS (f 0) z rt.2 3)))) + (i2lF (countS (f 0) z rt.2 4)))) + (i2lF (countS (f 0) z rt.2 5)))) + (i2lF (countS (f 0) z rt.2 6)))) + (i2lF (countS (f 0) z rt.2 7)))) + (i2lF (countS (f 0) z (wtT (f 0) rt.2 16) 8)))) + (i2lF (countS (f 0) z (wtT (f 0) rt.2 16) 9)))) + (i2lF (((f 0).2.2.2.1) 0)))) + (i2lF (((f 0).2.2.2.1) 1))) 16) 8) 8) 8) 9) 8)) + (i2lF (goneS (f 0) 20 0))))]) ⟨hx, hb, hml, hown, hts⟩ (c_X4_ifGone1 l D cA _ Ad (upS f 1 (runS 20 (f 0)).2) o z (cd, wd, 0, wc, ph) (rt.1, (wtT (f 0) rt.2 16)) hz hpo 20 (by decide) (by decide) hWP (hWD.weaken (fun _ _ _ _ => trivial))) (cwV 2 hts gX4_digest_X4_ifGone rfl rfl rfl (by decide +kernel) ⟨Nat.le_of_ble_eq_true rfl, Nat.le_of_ble_eq_true rfl⟩) hKN hWP hWD hS hA (lw_fP 10 (by decide) hWP : va_P D vwCl ((wLm cA Ad (rt.1, (wtT (f 0) rt.2 16))) ++ (rst cA Ad ((upS f 1 (runS 20 (f 0)).2), ((nI o), (nI z)), (cd, wd, 0, wc, ph), (rt.1, (wtT (f 0) rt.2 16))) 10)) H) rfl rfl (all_fst _ _ _ _) rfl hl.1 rfl (lv_room (Nat.le_of_ble_eq_true rfl)) dX4_digest_91 ⟨Nat.zero_le _, Nat.zero_le _⟩ (fun H locs hWP hWD hS => ?_)
  have hWP : va_P D vwCl (all cA Ad ((upS (upS f 1 (runS 20 (f 0)).2) 1 (runS 20 (f 0)).2), ((nI o), (nI z)), (cd, wd, 0, wc, ph), (rt.1, (wtT (f 0) rt.2 16)))) H := hWP
  have hWD : va_D A (all cA Ad ((upS (upS f 1 (runS 20 (f 0)).2) 1 (runS 20 (f 0)).2), ((nI o), (nI z)), (cd, wd, 0, wc, ph), (rt.1, (wtT (f 0) rt.2 16)))) := hWD
  refine lz_top (v := (goneS (f 0) 20 1)) rfl ?_
  refine lv_i2l (v := (i2lF (goneS (f 0) 20 1))) hx hb dX4_digest_94 rfl ?_
  refine lv_ladd hx hb dX4_digest_95 ?_
  refine lv_lstore_n (lv' := [(1, .long ((31 * ((31 * (dlI (f 0) (dmI (f 0) (dsI (f 0) 1 (dsI (f 0) 0 (drT (f 0) (dgT (f 0) ((31 * ((31 * ((31 * ((31 * ((31 * ((31 * ((31 * ((31 * ((31 * ((31 * ((31 * ((31 * 3371) + (i2lF (countS (f 0) z rt.2 0)))) + (i2lF (countS (f 0) z rt.2 1)))) + (i2lF (countS (f 0) z rt.2 2)))) + (i2lF (countS (f 0) z rt.2 3)))) + (i2lF (countS (f 0) z rt.2 4)))) + (i2lF (countS (f 0) z rt.2 5)))) + (i2lF (countS (f 0) z rt.2 6)))) + (i2lF (countS (f 0) z rt.2 7)))) + (i2lF (countS (f 0) z (wtT (f 0) rt.2 16) 8)))) + (i2lF (countS (f 0) z (wtT (f 0) rt.2 16) 9)))) + (i2lF (((f 0).2.2.2.1) 0)))) + (i2lF (((f 0).2.2.2.1) 1))) 16) 8) 8) 8) 9) 8)) + (i2lF (goneS (f 0) 20 0)))) + (i2lF (goneS (f 0) 20 1)))), (3, .int 1), (0, .ref (Ad 10 0))]) hx hb dX4_digest_96 rfl hl (by decide) rfl (fun ls hl => ?_)
  refine lv_iinc (v := 2) (lv' := [(3, .int 2), (1, .long ((31 * ((31 * (dlI (f 0) (dmI (f 0) (dsI (f 0) 1 (dsI (f 0) 0 (drT (f 0) (dgT (f 0) ((31 * ((31 * ((31 * ((31 * ((31 * ((31 * ((31 * ((31 * ((31 * ((31 * ((31 * ((31 * 3371) + (i2lF (countS (f 0) z rt.2 0)))) + (i2lF (countS (f 0) z rt.2 1)))) + (i2lF (countS (f 0) z rt.2 2)))) + (i2lF (countS (f 0) z rt.2 3)))) + (i2lF (countS (f 0) z rt.2 4)))) + (i2lF (countS (f 0) z rt.2 5)))) + (i2lF (countS (f 0) z rt.2 6)))) + (i2lF (countS (f 0) z rt.2 7)))) + (i2lF (countS (f 0) z (wtT (f 0) rt.2 16) 8)))) + (i2lF (countS (f 0) z (wtT (f 0) rt.2 16) 9)))) + (i2lF (((f 0).2.2.2.1) 0)))) + (i2lF (((f 0).2.2.2.1) 1))) 16) 8) 8) 8) 9) 8)) + (i2lF (goneS (f 0) 20 0)))) + (i2lF (goneS (f 0) 20 1)))), (0, .ref (Ad 10 0))]) hx hb dX4_digest_97 hl (k := 1) rfl (by decide) (by decide) rfl (fun ls hl => ?_)
  refine lv_goto (tgt := 77) hx hb dX4_digest_100 (by decide) ?_
  refine lv_iload_n hx hb dX4_digest_77 rfl (lv_at hl 0 rfl) ?_
  refine lv_iconst (v := 3) hx hb dX4_digest_78 (by decide) ?_
  refine lv_icmp_gt (tgt := 103) hx hb dX4_digest_79 (by decide) (fun h => absurd h (by decide)) (fun _ => ?_)
  refine lv_ldc2 (v := 31) hx hb hown (hts _ mX4_digest_k286) dX4_digest_82 ?_
  refine lv_lload_n hx hb dX4_digest_85 rfl (lv_at hl 1 rfl) ?_
  refine lv_lmul hx hb dX4_digest_86 ?_
  refine lv_aload_n hx hb dX4_digest_87 rfl (lv_at hl 2 rfl) ?_
  refine lv_bipush (v := 20) hx hb dX4_digest_88 (by decide) ?_
  refine lv_iload_n hx hb dX4_digest_90 rfl (lv_at hl 0 rfl) ?_
  refine mu_Vw (ci := 4) (q0 := 0) (As := [.int 20, .int 2]) (rest := [.long (31 * ((31 * ((31 * (dlI (f 0) (dmI (f 0) (dsI (f 0) 1 (dsI (f 0) 0 (drT (f 0) (dgT (f 0) ((31 * ((31 * ((31 * ((31 * ((31 * ((31 * ((31 * ((31 * ((31 * ((31 * ((31 * ((31 * 3371) + (i2lF (countS (f 0) z rt.2 0)))) + (i2lF (countS (f 0) z rt.2 1)))) + (i2lF (countS (f 0) z rt.2 2)))) + (i2lF (countS (f 0) z rt.2 3)))) + (i2lF (countS (f 0) z rt.2 4)))) + (i2lF (countS (f 0) z rt.2 5)))) + (i2lF (countS (f 0) z rt.2 6)))) + (i2lF (countS (f 0) z rt.2 7)))) + (i2lF (countS (f 0) z (wtT (f 0) rt.2 16) 8)))) + (i2lF (countS (f 0) z (wtT (f 0) rt.2 16) 9)))) + (i2lF (((f 0).2.2.2.1) 0)))) + (i2lF (((f 0).2.2.2.1) 1))) 16) 8) 8) 8) 9) 8)) + (i2lF (goneS (f 0) 20 0)))) + (i2lF (goneS (f 0) 20 1))))]) ⟨hx, hb, hml, hown, hts⟩ (c_X4_ifGone2 l D cA _ Ad (upS (upS f 1 (runS 20 (f 0)).2) 1 (runS 20 (f 0)).2) o z (cd, wd, 0, wc, ph) (rt.1, (wtT (f 0) rt.2 16)) hz hpo 20 (by decide) (by decide) hWP (hWD.weaken (fun _ _ _ _ => trivial))) (cwV 2 hts gX4_digest_X4_ifGone rfl rfl rfl (by decide +kernel) ⟨Nat.le_of_ble_eq_true rfl, Nat.le_of_ble_eq_true rfl⟩) hKN hWP hWD hS hA (lw_fP 10 (by decide) hWP : va_P D vwCl ((wLm cA Ad (rt.1, (wtT (f 0) rt.2 16))) ++ (rst cA Ad ((upS (upS f 1 (runS 20 (f 0)).2) 1 (runS 20 (f 0)).2), ((nI o), (nI z)), (cd, wd, 0, wc, ph), (rt.1, (wtT (f 0) rt.2 16))) 10)) H) rfl rfl (all_fst _ _ _ _) rfl hl.1 rfl (lv_room (Nat.le_of_ble_eq_true rfl)) dX4_digest_91 ⟨Nat.zero_le _, Nat.zero_le _⟩ (fun H locs hWP hWD hS => ?_)
  have hWP : va_P D vwCl (all cA Ad ((upS (upS (upS f 1 (runS 20 (f 0)).2) 1 (runS 20 (f 0)).2) 1 (runS 20 (f 0)).2), ((nI o), (nI z)), (cd, wd, 0, wc, ph), (rt.1, (wtT (f 0) rt.2 16)))) H := hWP
  have hWD : va_D A (all cA Ad ((upS (upS (upS f 1 (runS 20 (f 0)).2) 1 (runS 20 (f 0)).2) 1 (runS 20 (f 0)).2), ((nI o), (nI z)), (cd, wd, 0, wc, ph), (rt.1, (wtT (f 0) rt.2 16)))) := hWD
  refine lz_top (v := (goneS (f 0) 20 2)) rfl ?_
  refine lv_i2l (v := (i2lF (goneS (f 0) 20 2))) hx hb dX4_digest_94 rfl ?_
  refine lv_ladd hx hb dX4_digest_95 ?_
  refine lv_lstore_n (lv' := [(1, .long ((31 * ((31 * ((31 * (dlI (f 0) (dmI (f 0) (dsI (f 0) 1 (dsI (f 0) 0 (drT (f 0) (dgT (f 0) ((31 * ((31 * ((31 * ((31 * ((31 * ((31 * ((31 * ((31 * ((31 * ((31 * ((31 * ((31 * 3371) + (i2lF (countS (f 0) z rt.2 0)))) + (i2lF (countS (f 0) z rt.2 1)))) + (i2lF (countS (f 0) z rt.2 2)))) + (i2lF (countS (f 0) z rt.2 3)))) + (i2lF (countS (f 0) z rt.2 4)))) + (i2lF (countS (f 0) z rt.2 5)))) + (i2lF (countS (f 0) z rt.2 6)))) + (i2lF (countS (f 0) z rt.2 7)))) + (i2lF (countS (f 0) z (wtT (f 0) rt.2 16) 8)))) + (i2lF (countS (f 0) z (wtT (f 0) rt.2 16) 9)))) + (i2lF (((f 0).2.2.2.1) 0)))) + (i2lF (((f 0).2.2.2.1) 1))) 16) 8) 8) 8) 9) 8)) + (i2lF (goneS (f 0) 20 0)))) + (i2lF (goneS (f 0) 20 1)))) + (i2lF (goneS (f 0) 20 2)))), (3, .int 2), (0, .ref (Ad 10 0))]) hx hb dX4_digest_96 rfl hl (by decide) rfl (fun ls hl => ?_)
  refine lv_iinc (v := 3) (lv' := [(3, .int 3), (1, .long ((31 * ((31 * ((31 * (dlI (f 0) (dmI (f 0) (dsI (f 0) 1 (dsI (f 0) 0 (drT (f 0) (dgT (f 0) ((31 * ((31 * ((31 * ((31 * ((31 * ((31 * ((31 * ((31 * ((31 * ((31 * ((31 * ((31 * 3371) + (i2lF (countS (f 0) z rt.2 0)))) + (i2lF (countS (f 0) z rt.2 1)))) + (i2lF (countS (f 0) z rt.2 2)))) + (i2lF (countS (f 0) z rt.2 3)))) + (i2lF (countS (f 0) z rt.2 4)))) + (i2lF (countS (f 0) z rt.2 5)))) + (i2lF (countS (f 0) z rt.2 6)))) + (i2lF (countS (f 0) z rt.2 7)))) + (i2lF (countS (f 0) z (wtT (f 0) rt.2 16) 8)))) + (i2lF (countS (f 0) z (wtT (f 0) rt.2 16) 9)))) + (i2lF (((f 0).2.2.2.1) 0)))) + (i2lF (((f 0).2.2.2.1) 1))) 16) 8) 8) 8) 9) 8)) + (i2lF (goneS (f 0) 20 0)))) + (i2lF (goneS (f 0) 20 1)))) + (i2lF (goneS (f 0) 20 2)))), (0, .ref (Ad 10 0))]) hx hb dX4_digest_97 hl (k := 1) rfl (by decide) (by decide) rfl (fun ls hl => ?_)
  refine lv_goto (tgt := 77) hx hb dX4_digest_100 (by decide) ?_
  refine lv_iload_n hx hb dX4_digest_77 rfl (lv_at hl 0 rfl) ?_
  refine lv_iconst (v := 3) hx hb dX4_digest_78 (by decide) ?_
  refine lv_icmp_gt (tgt := 103) hx hb dX4_digest_79 (by decide) (fun h => absurd h (by decide)) (fun _ => ?_)
  refine lv_ldc2 (v := 31) hx hb hown (hts _ mX4_digest_k286) dX4_digest_82 ?_
  refine lv_lload_n hx hb dX4_digest_85 rfl (lv_at hl 1 rfl) ?_
  refine lv_lmul hx hb dX4_digest_86 ?_
  refine lv_aload_n hx hb dX4_digest_87 rfl (lv_at hl 2 rfl) ?_
  refine lv_bipush (v := 20) hx hb dX4_digest_88 (by decide) ?_
  refine lv_iload_n hx hb dX4_digest_90 rfl (lv_at hl 0 rfl) ?_
  refine mu_Vw (ci := 4) (q0 := 0) (As := [.int 20, .int 3]) (rest := [.long (31 * ((31 * ((31 * ((31 * (dlI (f 0) (dmI (f 0) (dsI (f 0) 1 (dsI (f 0) 0 (drT (f 0) (dgT (f 0) ((31 * ((31 * ((31 * ((31 * ((31 * ((31 * ((31 * ((31 * ((31 * ((31 * ((31 * ((31 * 3371) + (i2lF (countS (f 0) z rt.2 0)))) + (i2lF (countS (f 0) z rt.2 1)))) + (i2lF (countS (f 0) z rt.2 2)))) + (i2lF (countS (f 0) z rt.2 3)))) + (i2lF (countS (f 0) z rt.2 4)))) + (i2lF (countS (f 0) z rt.2 5)))) + (i2lF (countS (f 0) z rt.2 6)))) + (i2lF (countS (f 0) z rt.2 7)))) + (i2lF (countS (f 0) z (wtT (f 0) rt.2 16) 8)))) + (i2lF (countS (f 0) z (wtT (f 0) rt.2 16) 9)))) + (i2lF (((f 0).2.2.2.1) 0)))) + (i2lF (((f 0).2.2.2.1) 1))) 16) 8) 8) 8) 9) 8)) + (i2lF (goneS (f 0) 20 0)))) + (i2lF (goneS (f 0) 20 1)))) + (i2lF (goneS (f 0) 20 2))))]) ⟨hx, hb, hml, hown, hts⟩ (c_X4_ifGone3 l D cA _ Ad (upS (upS (upS f 1 (runS 20 (f 0)).2) 1 (runS 20 (f 0)).2) 1 (runS 20 (f 0)).2) o z (cd, wd, 0, wc, ph) (rt.1, (wtT (f 0) rt.2 16)) hz hpo 20 (by decide) (by decide) hWP (hWD.weaken (fun _ _ _ _ => trivial))) (cwV 2 hts gX4_digest_X4_ifGone rfl rfl rfl (by decide +kernel) ⟨Nat.le_of_ble_eq_true rfl, Nat.le_of_ble_eq_true rfl⟩) hKN hWP hWD hS hA (lw_fP 10 (by decide) hWP : va_P D vwCl ((wLm cA Ad (rt.1, (wtT (f 0) rt.2 16))) ++ (rst cA Ad ((upS (upS (upS f 1 (runS 20 (f 0)).2) 1 (runS 20 (f 0)).2) 1 (runS 20 (f 0)).2), ((nI o), (nI z)), (cd, wd, 0, wc, ph), (rt.1, (wtT (f 0) rt.2 16))) 10)) H) rfl rfl (all_fst _ _ _ _) rfl hl.1 rfl (lv_room (Nat.le_of_ble_eq_true rfl)) dX4_digest_91 ⟨Nat.zero_le _, Nat.zero_le _⟩ (fun H locs hWP hWD hS => ?_)
  have hWP : va_P D vwCl (all cA Ad ((upS (upS (upS (upS f 1 (runS 20 (f 0)).2) 1 (runS 20 (f 0)).2) 1 (runS 20 (f 0)).2) 1 (runS 20 (f 0)).2), ((nI o), (nI z)), (cd, wd, 0, wc, ph), (rt.1, (wtT (f 0) rt.2 16)))) H := hWP
  have hWD : va_D A (all cA Ad ((upS (upS (upS (upS f 1 (runS 20 (f 0)).2) 1 (runS 20 (f 0)).2) 1 (runS 20 (f 0)).2) 1 (runS 20 (f 0)).2), ((nI o), (nI z)), (cd, wd, 0, wc, ph), (rt.1, (wtT (f 0) rt.2 16)))) := hWD
  refine lz_top (v := (goneS (f 0) 20 3)) rfl ?_
  refine lv_i2l (v := (i2lF (goneS (f 0) 20 3))) hx hb dX4_digest_94 rfl ?_
  refine lv_ladd hx hb dX4_digest_95 ?_
  refine lv_lstore_n (lv' := [(1, .long ((31 * ((31 * ((31 * ((31 * (dlI (f 0) (dmI (f 0) (dsI (f 0) 1 (dsI (f 0) 0 (drT (f 0) (dgT (f 0) ((31 * ((31 * ((31 * ((31 * ((31 * ((31 * ((31 * ((31 * ((31 * ((31 * ((31 * ((31 * 3371) + (i2lF (countS (f 0) z rt.2 0)))) + (i2lF (countS (f 0) z rt.2 1)))) + (i2lF (countS (f 0) z rt.2 2)))) + (i2lF (countS (f 0) z rt.2 3)))) + (i2lF (countS (f 0) z rt.2 4)))) + (i2lF (countS (f 0) z rt.2 5)))) + (i2lF (countS (f 0) z rt.2 6)))) + (i2lF (countS (f 0) z rt.2 7)))) + (i2lF (countS (f 0) z (wtT (f 0) rt.2 16) 8)))) + (i2lF (countS (f 0) z (wtT (f 0) rt.2 16) 9)))) + (i2lF (((f 0).2.2.2.1) 0)))) + (i2lF (((f 0).2.2.2.1) 1))) 16) 8) 8) 8) 9) 8)) + (i2lF (goneS (f 0) 20 0)))) + (i2lF (goneS (f 0) 20 1)))) + (i2lF (goneS (f 0) 20 2)))) + (i2lF (goneS (f 0) 20 3)))), (3, .int 3), (0, .ref (Ad 10 0))]) hx hb dX4_digest_96 rfl hl (by decide) rfl (fun ls hl => ?_)
  refine lv_iinc (v := 4) (lv' := [(3, .int 4), (1, .long ((31 * ((31 * ((31 * ((31 * (dlI (f 0) (dmI (f 0) (dsI (f 0) 1 (dsI (f 0) 0 (drT (f 0) (dgT (f 0) ((31 * ((31 * ((31 * ((31 * ((31 * ((31 * ((31 * ((31 * ((31 * ((31 * ((31 * ((31 * 3371) + (i2lF (countS (f 0) z rt.2 0)))) + (i2lF (countS (f 0) z rt.2 1)))) + (i2lF (countS (f 0) z rt.2 2)))) + (i2lF (countS (f 0) z rt.2 3)))) + (i2lF (countS (f 0) z rt.2 4)))) + (i2lF (countS (f 0) z rt.2 5)))) + (i2lF (countS (f 0) z rt.2 6)))) + (i2lF (countS (f 0) z rt.2 7)))) + (i2lF (countS (f 0) z (wtT (f 0) rt.2 16) 8)))) + (i2lF (countS (f 0) z (wtT (f 0) rt.2 16) 9)))) + (i2lF (((f 0).2.2.2.1) 0)))) + (i2lF (((f 0).2.2.2.1) 1))) 16) 8) 8) 8) 9) 8)) + (i2lF (goneS (f 0) 20 0)))) + (i2lF (goneS (f 0) 20 1)))) + (i2lF (goneS (f 0) 20 2)))) + (i2lF (goneS (f 0) 20 3)))), (0, .ref (Ad 10 0))]) hx hb dX4_digest_97 hl (k := 1) rfl (by decide) (by decide) rfl (fun ls hl => ?_)
  refine lv_goto (tgt := 77) hx hb dX4_digest_100 (by decide) ?_
  refine lv_iload_n hx hb dX4_digest_77 rfl (lv_at hl 0 rfl) ?_
  refine lv_iconst (v := 3) hx hb dX4_digest_78 (by decide) ?_
  refine lv_icmp_gt (tgt := 103) hx hb dX4_digest_79 (by decide) (fun _ => ?_) (fun h => absurd (by decide) h)
  refine lv_ldc2 (v := 31) hx hb hown (hts _ mX4_digest_k286) dX4_digest_103 ?_
  refine lv_lload_n hx hb dX4_digest_106 rfl (lv_at hl 1 rfl) ?_
  refine lv_lmul hx hb dX4_digest_107 ?_
  refine lv_aload_n hx hb dX4_digest_108 rfl (lv_at hl 2 rfl) ?_
  refine lv_iconst (v := 0) hx hb dX4_digest_109 (by decide) ?_
  refine mu_Vw (ci := 4) (q0 := 0) (As := [.int 0]) (rest := [.long (31 * ((31 * ((31 * ((31 * ((31 * (dlI (f 0) (dmI (f 0) (dsI (f 0) 1 (dsI (f 0) 0 (drT (f 0) (dgT (f 0) ((31 * ((31 * ((31 * ((31 * ((31 * ((31 * ((31 * ((31 * ((31 * ((31 * ((31 * ((31 * 3371) + (i2lF (countS (f 0) z rt.2 0)))) + (i2lF (countS (f 0) z rt.2 1)))) + (i2lF (countS (f 0) z rt.2 2)))) + (i2lF (countS (f 0) z rt.2 3)))) + (i2lF (countS (f 0) z rt.2 4)))) + (i2lF (countS (f 0) z rt.2 5)))) + (i2lF (countS (f 0) z rt.2 6)))) + (i2lF (countS (f 0) z rt.2 7)))) + (i2lF (countS (f 0) z (wtT (f 0) rt.2 16) 8)))) + (i2lF (countS (f 0) z (wtT (f 0) rt.2 16) 9)))) + (i2lF (((f 0).2.2.2.1) 0)))) + (i2lF (((f 0).2.2.2.1) 1))) 16) 8) 8) 8) 9) 8)) + (i2lF (goneS (f 0) 20 0)))) + (i2lF (goneS (f 0) 20 1)))) + (i2lF (goneS (f 0) 20 2)))) + (i2lF (goneS (f 0) 20 3))))]) ⟨hx, hb, hml, hown, hts⟩ (c_X4_ifLoaded l D cA _ Ad (upS (upS (upS (upS f 1 (runS 20 (f 0)).2) 1 (runS 20 (f 0)).2) 1 (runS 20 (f 0)).2) 1 (runS 20 (f 0)).2) o z cd wd wc ph (rt.1, (wtT (f 0) rt.2 16)) 0 (by decide) hWP (hWD.weaken (fun _ _ _ _ => trivial))) (cwV 1 hts gX4_digest_X4_ifLoaded rfl rfl rfl (by decide +kernel) ⟨Nat.le_of_ble_eq_true rfl, Nat.le_of_ble_eq_true rfl⟩) hKN hWP hWD hS hA (lw_fP 10 (by decide) hWP : va_P D vwCl ((wLm cA Ad (rt.1, (wtT (f 0) rt.2 16))) ++ (rst cA Ad ((upS (upS (upS (upS f 1 (runS 20 (f 0)).2) 1 (runS 20 (f 0)).2) 1 (runS 20 (f 0)).2) 1 (runS 20 (f 0)).2), ((nI o), (nI z)), (cd, wd, 0, wc, ph), (rt.1, (wtT (f 0) rt.2 16))) 10)) H) rfl rfl (all_fst _ _ _ _) rfl hl.1 rfl (lv_room (Nat.le_of_ble_eq_true rfl)) dX4_digest_110 ⟨Nat.zero_le _, Nat.zero_le _⟩ (fun H locs hWP hWD hS => ?_)
  have hWP : va_P D vwCl (all cA Ad ((upS (upS (upS (upS f 1 (runS 20 (f 0)).2) 1 (runS 20 (f 0)).2) 1 (runS 20 (f 0)).2) 1 (runS 20 (f 0)).2), ((nI o), (nI z)), (cd, wd, 0, 0, 0), (rt.1, (wtT (f 0) rt.2 16)))) H := hWP
  have hWD : va_D A (all cA Ad ((upS (upS (upS (upS f 1 (runS 20 (f 0)).2) 1 (runS 20 (f 0)).2) 1 (runS 20 (f 0)).2) 1 (runS 20 (f 0)).2), ((nI o), (nI z)), (cd, wd, 0, 0, 0), (rt.1, (wtT (f 0) rt.2 16)))) := hWD
  refine lz_top (v := (-1)) rfl ?_
  refine lv_i2l (v := (i2lF (-1))) hx hb dX4_digest_113 rfl ?_
  refine lv_ladd hx hb dX4_digest_114 ?_
  refine lv_lstore_n (lv' := [(1, .long ((31 * ((31 * ((31 * ((31 * ((31 * (dlI (f 0) (dmI (f 0) (dsI (f 0) 1 (dsI (f 0) 0 (drT (f 0) (dgT (f 0) ((31 * ((31 * ((31 * ((31 * ((31 * ((31 * ((31 * ((31 * ((31 * ((31 * ((31 * ((31 * 3371) + (i2lF (countS (f 0) z rt.2 0)))) + (i2lF (countS (f 0) z rt.2 1)))) + (i2lF (countS (f 0) z rt.2 2)))) + (i2lF (countS (f 0) z rt.2 3)))) + (i2lF (countS (f 0) z rt.2 4)))) + (i2lF (countS (f 0) z rt.2 5)))) + (i2lF (countS (f 0) z rt.2 6)))) + (i2lF (countS (f 0) z rt.2 7)))) + (i2lF (countS (f 0) z (wtT (f 0) rt.2 16) 8)))) + (i2lF (countS (f 0) z (wtT (f 0) rt.2 16) 9)))) + (i2lF (((f 0).2.2.2.1) 0)))) + (i2lF (((f 0).2.2.2.1) 1))) 16) 8) 8) 8) 9) 8)) + (i2lF (goneS (f 0) 20 0)))) + (i2lF (goneS (f 0) 20 1)))) + (i2lF (goneS (f 0) 20 2)))) + (i2lF (goneS (f 0) 20 3)))) + (i2lF (-1)))), (3, .int 4), (0, .ref (Ad 10 0))]) hx hb dX4_digest_115 rfl hl (by decide) rfl (fun ls hl => ?_)
  refine lv_ldc2 (v := 31) hx hb hown (hts _ mX4_digest_k286) dX4_digest_116 ?_
  refine lv_lload_n hx hb dX4_digest_119 rfl (lv_at hl 0 rfl) ?_
  refine lv_lmul hx hb dX4_digest_120 ?_
  refine lv_aload_n hx hb dX4_digest_121 rfl (lv_at hl 2 rfl) ?_
  refine mu_Vw (ci := 4) (q0 := 0) (As := []) (rest := [.long (31 * ((31 * ((31 * ((31 * ((31 * ((31 * (dlI (f 0) (dmI (f 0) (dsI (f 0) 1 (dsI (f 0) 0 (drT (f 0) (dgT (f 0) ((31 * ((31 * ((31 * ((31 * ((31 * ((31 * ((31 * ((31 * ((31 * ((31 * ((31 * ((31 * 3371) + (i2lF (countS (f 0) z rt.2 0)))) + (i2lF (countS (f 0) z rt.2 1)))) + (i2lF (countS (f 0) z rt.2 2)))) + (i2lF (countS (f 0) z rt.2 3)))) + (i2lF (countS (f 0) z rt.2 4)))) + (i2lF (countS (f 0) z rt.2 5)))) + (i2lF (countS (f 0) z rt.2 6)))) + (i2lF (countS (f 0) z rt.2 7)))) + (i2lF (countS (f 0) z (wtT (f 0) rt.2 16) 8)))) + (i2lF (countS (f 0) z (wtT (f 0) rt.2 16) 9)))) + (i2lF (((f 0).2.2.2.1) 0)))) + (i2lF (((f 0).2.2.2.1) 1))) 16) 8) 8) 8) 9) 8)) + (i2lF (goneS (f 0) 20 0)))) + (i2lF (goneS (f 0) 20 1)))) + (i2lF (goneS (f 0) 20 2)))) + (i2lF (goneS (f 0) 20 3)))) + (i2lF (-1))))]) ⟨hx, hb, hml, hown, hts⟩ (c_X4_bestPlace l D cA _ Ad (upS (upS (upS (upS f 1 (runS 20 (f 0)).2) 1 (runS 20 (f 0)).2) 1 (runS 20 (f 0)).2) 1 (runS 20 (f 0)).2) o z cd wd 0 0 (rt.1, (wtT (f 0) rt.2 16)) hWP (hWD.weaken (fun _ _ _ _ => trivial))) (cwV 0 hts gX4_digest_X4_bestPlace rfl rfl rfl (by decide +kernel) ⟨Nat.le_of_ble_eq_true rfl, Nat.le_of_ble_eq_true rfl⟩) hKN hWP hWD hS hA (lw_fP 10 (by decide) hWP : va_P D vwCl ((wLm cA Ad (rt.1, (wtT (f 0) rt.2 16))) ++ (rst cA Ad ((upS (upS (upS (upS f 1 (runS 20 (f 0)).2) 1 (runS 20 (f 0)).2) 1 (runS 20 (f 0)).2) 1 (runS 20 (f 0)).2), ((nI o), (nI z)), (cd, wd, 0, 0, 0), (rt.1, (wtT (f 0) rt.2 16))) 10)) H) rfl rfl (all_fst _ _ _ _) rfl hl.1 rfl (lv_room (Nat.le_of_ble_eq_true rfl)) dX4_digest_122 ⟨Nat.zero_le _, Nat.zero_le _⟩ (fun H locs hWP hWD hS => ?_)
  have hWP : va_P D vwCl (all cA Ad ((upS (upS (upS (upS f 1 (runS 20 (f 0)).2) 1 (runS 20 (f 0)).2) 1 (runS 20 (f 0)).2) 1 (runS 20 (f 0)).2), ((nI o), (nI z)), (cd, wd, 0, 0, 0), (rt.1, (wtT (f 0) rt.2 16)))) H := hWP
  have hWD : va_D A (all cA Ad ((upS (upS (upS (upS f 1 (runS 20 (f 0)).2) 1 (runS 20 (f 0)).2) 1 (runS 20 (f 0)).2) 1 (runS 20 (f 0)).2), ((nI o), (nI z)), (cd, wd, 0, 0, 0), (rt.1, (wtT (f 0) rt.2 16)))) := hWD
  refine lz_top (v := (-1)) rfl ?_
  refine lv_i2l (v := (i2lF (-1))) hx hb dX4_digest_125 rfl ?_
  refine lv_ladd hx hb dX4_digest_126 ?_
  refine lv_lstore_n (lv' := [(1, .long ((31 * ((31 * ((31 * ((31 * ((31 * ((31 * (dlI (f 0) (dmI (f 0) (dsI (f 0) 1 (dsI (f 0) 0 (drT (f 0) (dgT (f 0) ((31 * ((31 * ((31 * ((31 * ((31 * ((31 * ((31 * ((31 * ((31 * ((31 * ((31 * ((31 * 3371) + (i2lF (countS (f 0) z rt.2 0)))) + (i2lF (countS (f 0) z rt.2 1)))) + (i2lF (countS (f 0) z rt.2 2)))) + (i2lF (countS (f 0) z rt.2 3)))) + (i2lF (countS (f 0) z rt.2 4)))) + (i2lF (countS (f 0) z rt.2 5)))) + (i2lF (countS (f 0) z rt.2 6)))) + (i2lF (countS (f 0) z rt.2 7)))) + (i2lF (countS (f 0) z (wtT (f 0) rt.2 16) 8)))) + (i2lF (countS (f 0) z (wtT (f 0) rt.2 16) 9)))) + (i2lF (((f 0).2.2.2.1) 0)))) + (i2lF (((f 0).2.2.2.1) 1))) 16) 8) 8) 8) 9) 8)) + (i2lF (goneS (f 0) 20 0)))) + (i2lF (goneS (f 0) 20 1)))) + (i2lF (goneS (f 0) 20 2)))) + (i2lF (goneS (f 0) 20 3)))) + (i2lF (-1)))) + (i2lF (-1)))), (3, .int 4), (0, .ref (Ad 10 0))]) hx hb dX4_digest_127 rfl hl (by decide) rfl (fun ls hl => ?_)
  refine lv_ldc2 (v := 31) hx hb hown (hts _ mX4_digest_k286) dX4_digest_128 ?_
  refine lv_lload_n hx hb dX4_digest_131 rfl (lv_at hl 0 rfl) ?_
  refine lv_lmul hx hb dX4_digest_132 ?_
  refine lv_aload_n hx hb dX4_digest_133 rfl (lv_at hl 2 rfl) ?_
  refine mu_Vw (ci := 4) (q0 := 0) (As := []) (rest := [.long (31 * ((31 * ((31 * ((31 * ((31 * ((31 * ((31 * (dlI (f 0) (dmI (f 0) (dsI (f 0) 1 (dsI (f 0) 0 (drT (f 0) (dgT (f 0) ((31 * ((31 * ((31 * ((31 * ((31 * ((31 * ((31 * ((31 * ((31 * ((31 * ((31 * ((31 * 3371) + (i2lF (countS (f 0) z rt.2 0)))) + (i2lF (countS (f 0) z rt.2 1)))) + (i2lF (countS (f 0) z rt.2 2)))) + (i2lF (countS (f 0) z rt.2 3)))) + (i2lF (countS (f 0) z rt.2 4)))) + (i2lF (countS (f 0) z rt.2 5)))) + (i2lF (countS (f 0) z rt.2 6)))) + (i2lF (countS (f 0) z rt.2 7)))) + (i2lF (countS (f 0) z (wtT (f 0) rt.2 16) 8)))) + (i2lF (countS (f 0) z (wtT (f 0) rt.2 16) 9)))) + (i2lF (((f 0).2.2.2.1) 0)))) + (i2lF (((f 0).2.2.2.1) 1))) 16) 8) 8) 8) 9) 8)) + (i2lF (goneS (f 0) 20 0)))) + (i2lF (goneS (f 0) 20 1)))) + (i2lF (goneS (f 0) 20 2)))) + (i2lF (goneS (f 0) 20 3)))) + (i2lF (-1)))) + (i2lF (-1))))]) ⟨hx, hb, hml, hown, hts⟩ (c_X4_bestGuard l D cA _ Ad (upS (upS (upS (upS f 1 (runS 20 (f 0)).2) 1 (runS 20 (f 0)).2) 1 (runS 20 (f 0)).2) 1 (runS 20 (f 0)).2) o z (cd, wd, 0, 0, 0) (rt.1, (wtT (f 0) rt.2 16)) hz hWP (hWD.weaken (fun _ _ _ _ => trivial))) (cwV 0 hts gX4_digest_X4_bestGuard rfl rfl rfl (by decide +kernel) ⟨Nat.le_of_ble_eq_true rfl, Nat.le_of_ble_eq_true rfl⟩) hKN hWP hWD hS hA (lw_fP 10 (by decide) hWP : va_P D vwCl ((wLm cA Ad (rt.1, (wtT (f 0) rt.2 16))) ++ (rst cA Ad ((upS (upS (upS (upS f 1 (runS 20 (f 0)).2) 1 (runS 20 (f 0)).2) 1 (runS 20 (f 0)).2) 1 (runS 20 (f 0)).2), ((nI o), (nI z)), (cd, wd, 0, 0, 0), (rt.1, (wtT (f 0) rt.2 16))) 10)) H) rfl rfl (all_fst _ _ _ _) rfl hl.1 rfl (lv_room (Nat.le_of_ble_eq_true rfl)) dX4_digest_134 ⟨Nat.zero_le _, Nat.zero_le _⟩ (fun H locs hWP hWD hS => ?_)
  have hWP : va_P D vwCl (all cA Ad ((upS (upS (upS (upS (upS f 1 (runS 20 (f 0)).2) 1 (runS 20 (f 0)).2) 1 (runS 20 (f 0)).2) 1 (runS 20 (f 0)).2) 1 (setGd (f 0) (bgT (f 0) 16).2.2)), ((nI o), (nI z)), (cd, wd, 0, 0, 0), (rt.1, (wtT (f 0) rt.2 16)))) H := hWP
  have hWD : va_D A (all cA Ad ((upS (upS (upS (upS (upS f 1 (runS 20 (f 0)).2) 1 (runS 20 (f 0)).2) 1 (runS 20 (f 0)).2) 1 (runS 20 (f 0)).2) 1 (setGd (f 0) (bgT (f 0) 16).2.2)), ((nI o), (nI z)), (cd, wd, 0, 0, 0), (rt.1, (wtT (f 0) rt.2 16)))) := hWD
  refine lz_top (v := (bgT (f 0) 16).1) rfl ?_
  refine lv_i2l (v := (i2lF ((bgT (f 0) 16).1))) hx hb dX4_digest_137 rfl ?_
  refine lv_ladd hx hb dX4_digest_138 ?_
  refine lv_lstore_n (lv' := [(1, .long ((31 * ((31 * ((31 * ((31 * ((31 * ((31 * ((31 * (dlI (f 0) (dmI (f 0) (dsI (f 0) 1 (dsI (f 0) 0 (drT (f 0) (dgT (f 0) ((31 * ((31 * ((31 * ((31 * ((31 * ((31 * ((31 * ((31 * ((31 * ((31 * ((31 * ((31 * 3371) + (i2lF (countS (f 0) z rt.2 0)))) + (i2lF (countS (f 0) z rt.2 1)))) + (i2lF (countS (f 0) z rt.2 2)))) + (i2lF (countS (f 0) z rt.2 3)))) + (i2lF (countS (f 0) z rt.2 4)))) + (i2lF (countS (f 0) z rt.2 5)))) + (i2lF (countS (f 0) z rt.2 6)))) + (i2lF (countS (f 0) z rt.2 7)))) + (i2lF (countS (f 0) z (wtT (f 0) rt.2 16) 8)))) + (i2lF (countS (f 0) z (wtT (f 0) rt.2 16) 9)))) + (i2lF (((f 0).2.2.2.1) 0)))) + (i2lF (((f 0).2.2.2.1) 1))) 16) 8) 8) 8) 9) 8)) + (i2lF (goneS (f 0) 20 0)))) + (i2lF (goneS (f 0) 20 1)))) + (i2lF (goneS (f 0) 20 2)))) + (i2lF (goneS (f 0) 20 3)))) + (i2lF (-1)))) + (i2lF (-1)))) + (i2lF ((bgT (f 0) 16).1)))), (3, .int 4), (0, .ref (Ad 10 0))]) hx hb dX4_digest_139 rfl hl (by decide) rfl (fun ls hl => ?_)
  refine lv_ldc2 (v := 31) hx hb hown (hts _ mX4_digest_k286) dX4_digest_140 ?_
  refine lv_lload_n hx hb dX4_digest_143 rfl (lv_at hl 0 rfl) ?_
  refine lv_lmul hx hb dX4_digest_144 ?_
  refine lv_aload_n hx hb dX4_digest_145 rfl (lv_at hl 2 rfl) ?_
  have hP : va_P D vwCl ((wLm cA Ad (rt.1, (wtT (f 0) rt.2 16))) ++ (rst cA Ad ((upS (upS (upS (upS (upS f 1 (runS 20 (f 0)).2) 1 (runS 20 (f 0)).2) 1 (runS 20 (f 0)).2) 1 (runS 20 (f 0)).2) 1 (setGd (f 0) (bgT (f 0) 16).2.2)), ((nI o), (nI z)), (cd, wd, 0, 0, 0), (rt.1, (wtT (f 0) rt.2 16))) 10)) H := lw_fP 10 (by decide) hWP
  have hD : va_D A ((wLm cA Ad (rt.1, (wtT (f 0) rt.2 16))) ++ (rst cA Ad ((upS (upS (upS (upS (upS f 1 (runS 20 (f 0)).2) 1 (runS 20 (f 0)).2) 1 (runS 20 (f 0)).2) 1 (runS 20 (f 0)).2) 1 (setGd (f 0) (bgT (f 0) 16).2.2)), ((nI o), (nI z)), (cd, wd, 0, 0, 0), (rt.1, (wtT (f 0) rt.2 16))) 10)) := lw_fD 10 (by decide) hWD
  refine va_get (D := D) (ci := 4) (v := .ref (Ad 0 0)) (C := RX4) (T := TX4) (N := 7) hx hb hts iX4_digest_X4 hown hK hP 0 rfl rfl 0 (by decide) (hts _ mX4_digest_f10) (fun _ h9 => h9) rfl dX4_digest_146 ?_
  have hP : va_P D vwCl ((wSt cA (Ad 0) (f 0)) ++ (rst cA Ad ((upS (upS (upS (upS (upS f 1 (runS 20 (f 0)).2) 1 (runS 20 (f 0)).2) 1 (runS 20 (f 0)).2) 1 (runS 20 (f 0)).2) 1 (setGd (f 0) (bgT (f 0) 16).2.2)), ((nI o), (nI z)), (cd, wd, 0, 0, 0), (rt.1, (wtT (f 0) rt.2 16))) 0)) H := lw_fP 0 (by decide) hWP
  have hD : va_D A ((wSt cA (Ad 0) (f 0)) ++ (rst cA Ad ((upS (upS (upS (upS (upS f 1 (runS 20 (f 0)).2) 1 (runS 20 (f 0)).2) 1 (runS 20 (f 0)).2) 1 (runS 20 (f 0)).2) 1 (setGd (f 0) (bgT (f 0) 16).2.2)), ((nI o), (nI z)), (cd, wd, 0, 0, 0), (rt.1, (wtT (f 0) rt.2 16))) 0)) := lw_fD 0 (by decide) hWD
  refine ro_V (ci := 2) (q0 := 0) (As := []) (rest := [.long (31 * ((31 * ((31 * ((31 * ((31 * ((31 * ((31 * ((31 * (dlI (f 0) (dmI (f 0) (dsI (f 0) 1 (dsI (f 0) 0 (drT (f 0) (dgT (f 0) ((31 * ((31 * ((31 * ((31 * ((31 * ((31 * ((31 * ((31 * ((31 * ((31 * ((31 * ((31 * 3371) + (i2lF (countS (f 0) z rt.2 0)))) + (i2lF (countS (f 0) z rt.2 1)))) + (i2lF (countS (f 0) z rt.2 2)))) + (i2lF (countS (f 0) z rt.2 3)))) + (i2lF (countS (f 0) z rt.2 4)))) + (i2lF (countS (f 0) z rt.2 5)))) + (i2lF (countS (f 0) z rt.2 6)))) + (i2lF (countS (f 0) z rt.2 7)))) + (i2lF (countS (f 0) z (wtT (f 0) rt.2 16) 8)))) + (i2lF (countS (f 0) z (wtT (f 0) rt.2 16) 9)))) + (i2lF (((f 0).2.2.2.1) 0)))) + (i2lF (((f 0).2.2.2.1) 1))) 16) 8) 8) 8) 9) 8)) + (i2lF (goneS (f 0) 20 0)))) + (i2lF (goneS (f 0) 20 1)))) + (i2lF (goneS (f 0) 20 2)))) + (i2lF (goneS (f 0) 20 3)))) + (i2lF (-1)))) + (i2lF (-1)))) + (i2lF ((bgT (f 0) 16).1))))]) ⟨hx, hb, hml, hown, hts⟩ (c_X2_threadsRight l D cA _ (Ad 0) (f 0) (va_P_l hP) ) (cwV 0 hts gX4_digest_X2_threadsRight rfl rfl rfl (by decide +kernel) ⟨Nat.le_of_ble_eq_true rfl, Nat.le_of_ble_eq_true rfl⟩) hKN hP rfl rfl rfl hl.1 rfl (lv_room (Nat.le_of_ble_eq_true rfl)) dX4_digest_149 ⟨Nat.zero_le _, Nat.zero_le _⟩ ?_
  refine lz_top (v := 16) hrt ?_
  refine lv_iconst (v := 4) hx hb dX4_digest_152 (by decide) ?_
  refine lv_bipush (v := 52) hx hb dX4_digest_153 (by decide) ?_
  refine lv_sipush (v := 1023) hx hb dX4_digest_155 (by decide) ?_
  refine ro_S (As := [.int 16, .int 4, .int 52, .int 1023]) (rest := [.long (31 * ((31 * ((31 * ((31 * ((31 * ((31 * ((31 * ((31 * (dlI (f 0) (dmI (f 0) (dsI (f 0) 1 (dsI (f 0) 0 (drT (f 0) (dgT (f 0) ((31 * ((31 * ((31 * ((31 * ((31 * ((31 * ((31 * ((31 * ((31 * ((31 * ((31 * ((31 * 3371) + (i2lF (countS (f 0) z rt.2 0)))) + (i2lF (countS (f 0) z rt.2 1)))) + (i2lF (countS (f 0) z rt.2 2)))) + (i2lF (countS (f 0) z rt.2 3)))) + (i2lF (countS (f 0) z rt.2 4)))) + (i2lF (countS (f 0) z rt.2 5)))) + (i2lF (countS (f 0) z rt.2 6)))) + (i2lF (countS (f 0) z rt.2 7)))) + (i2lF (countS (f 0) z (wtT (f 0) rt.2 16) 8)))) + (i2lF (countS (f 0) z (wtT (f 0) rt.2 16) 9)))) + (i2lF (((f 0).2.2.2.1) 0)))) + (i2lF (((f 0).2.2.2.1) 1))) 16) 8) 8) 8) 9) 8)) + (i2lF (goneS (f 0) 20 0)))) + (i2lF (goneS (f 0) 20 1)))) + (i2lF (goneS (f 0) 20 2)))) + (i2lF (goneS (f 0) 20 3)))) + (i2lF (-1)))) + (i2lF (-1)))) + (i2lF ((bgT (f 0) 16).1))))]) ⟨hx, hb, hml, hown, hts⟩ (c_X4_bitsOfShare1 l D cA _) (cwS2 4 hts gX4_digest_X4_bitsOfShare rfl rfl rfl (by decide +kernel) ⟨Nat.le_of_ble_eq_true rfl, Nat.le_of_ble_eq_true rfl⟩) hKN rfl hl.1 rfl (lv_room (Nat.le_of_ble_eq_true rfl)) dX4_digest_158 ⟨Nat.zero_le _, Nat.zero_le _⟩ ?_
  refine lv_ladd hx hb dX4_digest_161 ?_
  refine lv_lstore_n (lv' := [(1, .long ((31 * ((31 * ((31 * ((31 * ((31 * ((31 * ((31 * ((31 * (dlI (f 0) (dmI (f 0) (dsI (f 0) 1 (dsI (f 0) 0 (drT (f 0) (dgT (f 0) ((31 * ((31 * ((31 * ((31 * ((31 * ((31 * ((31 * ((31 * ((31 * ((31 * ((31 * ((31 * 3371) + (i2lF (countS (f 0) z rt.2 0)))) + (i2lF (countS (f 0) z rt.2 1)))) + (i2lF (countS (f 0) z rt.2 2)))) + (i2lF (countS (f 0) z rt.2 3)))) + (i2lF (countS (f 0) z rt.2 4)))) + (i2lF (countS (f 0) z rt.2 5)))) + (i2lF (countS (f 0) z rt.2 6)))) + (i2lF (countS (f 0) z rt.2 7)))) + (i2lF (countS (f 0) z (wtT (f 0) rt.2 16) 8)))) + (i2lF (countS (f 0) z (wtT (f 0) rt.2 16) 9)))) + (i2lF (((f 0).2.2.2.1) 0)))) + (i2lF (((f 0).2.2.2.1) 1))) 16) 8) 8) 8) 9) 8)) + (i2lF (goneS (f 0) 20 0)))) + (i2lF (goneS (f 0) 20 1)))) + (i2lF (goneS (f 0) 20 2)))) + (i2lF (goneS (f 0) 20 3)))) + (i2lF (-1)))) + (i2lF (-1)))) + (i2lF ((bgT (f 0) 16).1)))) + 4607182418800017408)), (3, .int 4), (0, .ref (Ad 10 0))]) hx hb dX4_digest_162 rfl hl (by decide) rfl (fun ls hl => ?_)
  refine lv_ldc2 (v := 31) hx hb hown (hts _ mX4_digest_k286) dX4_digest_163 ?_
  refine lv_lload_n hx hb dX4_digest_166 rfl (lv_at hl 0 rfl) ?_
  refine lv_lmul hx hb dX4_digest_167 ?_
  refine lv_aload_n hx hb dX4_digest_168 rfl (lv_at hl 2 rfl) ?_
  have hP : va_P D vwCl ((wLm cA Ad (rt.1, (wtT (f 0) rt.2 16))) ++ (rst cA Ad ((upS (upS (upS (upS (upS f 1 (runS 20 (f 0)).2) 1 (runS 20 (f 0)).2) 1 (runS 20 (f 0)).2) 1 (runS 20 (f 0)).2) 1 (setGd (f 0) (bgT (f 0) 16).2.2)), ((nI o), (nI z)), (cd, wd, 0, 0, 0), (rt.1, (wtT (f 0) rt.2 16))) 10)) H := lw_fP 10 (by decide) hWP
  have hD : va_D A ((wLm cA Ad (rt.1, (wtT (f 0) rt.2 16))) ++ (rst cA Ad ((upS (upS (upS (upS (upS f 1 (runS 20 (f 0)).2) 1 (runS 20 (f 0)).2) 1 (runS 20 (f 0)).2) 1 (runS 20 (f 0)).2) 1 (setGd (f 0) (bgT (f 0) 16).2.2)), ((nI o), (nI z)), (cd, wd, 0, 0, 0), (rt.1, (wtT (f 0) rt.2 16))) 10)) := lw_fD 10 (by decide) hWD
  refine va_get (D := D) (ci := 4) (v := .ref (Ad 0 0)) (C := RX4) (T := TX4) (N := 7) hx hb hts iX4_digest_X4 hown hK hP 0 rfl rfl 0 (by decide) (hts _ mX4_digest_f10) (fun _ h9 => h9) rfl dX4_digest_169 ?_
  have hP : va_P D vwCl ((wSt cA (Ad 0) (f 0)) ++ (rst cA Ad ((upS (upS (upS (upS (upS f 1 (runS 20 (f 0)).2) 1 (runS 20 (f 0)).2) 1 (runS 20 (f 0)).2) 1 (runS 20 (f 0)).2) 1 (setGd (f 0) (bgT (f 0) 16).2.2)), ((nI o), (nI z)), (cd, wd, 0, 0, 0), (rt.1, (wtT (f 0) rt.2 16))) 0)) H := lw_fP 0 (by decide) hWP
  have hD : va_D A ((wSt cA (Ad 0) (f 0)) ++ (rst cA Ad ((upS (upS (upS (upS (upS f 1 (runS 20 (f 0)).2) 1 (runS 20 (f 0)).2) 1 (runS 20 (f 0)).2) 1 (runS 20 (f 0)).2) 1 (setGd (f 0) (bgT (f 0) 16).2.2)), ((nI o), (nI z)), (cd, wd, 0, 0, 0), (rt.1, (wtT (f 0) rt.2 16))) 0)) := lw_fD 0 (by decide) hWD
  refine ro_V (ci := 2) (q0 := 0) (As := []) (rest := [.long (31 * ((31 * ((31 * ((31 * ((31 * ((31 * ((31 * ((31 * ((31 * (dlI (f 0) (dmI (f 0) (dsI (f 0) 1 (dsI (f 0) 0 (drT (f 0) (dgT (f 0) ((31 * ((31 * ((31 * ((31 * ((31 * ((31 * ((31 * ((31 * ((31 * ((31 * ((31 * ((31 * 3371) + (i2lF (countS (f 0) z rt.2 0)))) + (i2lF (countS (f 0) z rt.2 1)))) + (i2lF (countS (f 0) z rt.2 2)))) + (i2lF (countS (f 0) z rt.2 3)))) + (i2lF (countS (f 0) z rt.2 4)))) + (i2lF (countS (f 0) z rt.2 5)))) + (i2lF (countS (f 0) z rt.2 6)))) + (i2lF (countS (f 0) z rt.2 7)))) + (i2lF (countS (f 0) z (wtT (f 0) rt.2 16) 8)))) + (i2lF (countS (f 0) z (wtT (f 0) rt.2 16) 9)))) + (i2lF (((f 0).2.2.2.1) 0)))) + (i2lF (((f 0).2.2.2.1) 1))) 16) 8) 8) 8) 9) 8)) + (i2lF (goneS (f 0) 20 0)))) + (i2lF (goneS (f 0) 20 1)))) + (i2lF (goneS (f 0) 20 2)))) + (i2lF (goneS (f 0) 20 3)))) + (i2lF (-1)))) + (i2lF (-1)))) + (i2lF ((bgT (f 0) 16).1)))) + 4607182418800017408))]) ⟨hx, hb, hml, hown, hts⟩ (c_X2_wearOfAll l D cA _ (Ad 0) (f 0) (va_P_l hP) ) (cwV 0 hts gX4_digest_X2_wearOfAll rfl rfl rfl (by decide +kernel) ⟨Nat.le_of_ble_eq_true rfl, Nat.le_of_ble_eq_true rfl⟩) hKN hP rfl rfl rfl hl.1 rfl (lv_room (Nat.le_of_ble_eq_true rfl)) dX4_digest_172 ⟨Nat.zero_le _, Nat.zero_le _⟩ ?_
  refine lz_top (v := 0) h0 ?_
  refine lv_iconst (v := 3) hx hb dX4_digest_175 (by decide) ?_
  refine lv_bipush (v := 23) hx hb dX4_digest_176 (by decide) ?_
  refine lv_bipush (v := 127) hx hb dX4_digest_178 (by decide) ?_
  refine ro_S (As := [.int 0, .int 3, .int 23, .int 127]) (rest := [.long (31 * ((31 * ((31 * ((31 * ((31 * ((31 * ((31 * ((31 * ((31 * (dlI (f 0) (dmI (f 0) (dsI (f 0) 1 (dsI (f 0) 0 (drT (f 0) (dgT (f 0) ((31 * ((31 * ((31 * ((31 * ((31 * ((31 * ((31 * ((31 * ((31 * ((31 * ((31 * ((31 * 3371) + (i2lF (countS (f 0) z rt.2 0)))) + (i2lF (countS (f 0) z rt.2 1)))) + (i2lF (countS (f 0) z rt.2 2)))) + (i2lF (countS (f 0) z rt.2 3)))) + (i2lF (countS (f 0) z rt.2 4)))) + (i2lF (countS (f 0) z rt.2 5)))) + (i2lF (countS (f 0) z rt.2 6)))) + (i2lF (countS (f 0) z rt.2 7)))) + (i2lF (countS (f 0) z (wtT (f 0) rt.2 16) 8)))) + (i2lF (countS (f 0) z (wtT (f 0) rt.2 16) 9)))) + (i2lF (((f 0).2.2.2.1) 0)))) + (i2lF (((f 0).2.2.2.1) 1))) 16) 8) 8) 8) 9) 8)) + (i2lF (goneS (f 0) 20 0)))) + (i2lF (goneS (f 0) 20 1)))) + (i2lF (goneS (f 0) 20 2)))) + (i2lF (goneS (f 0) 20 3)))) + (i2lF (-1)))) + (i2lF (-1)))) + (i2lF ((bgT (f 0) 16).1)))) + 4607182418800017408))]) ⟨hx, hb, hml, hown, hts⟩ (c_X4_bitsOfShare0 l D cA _) (cwS2 4 hts gX4_digest_X4_bitsOfShare rfl rfl rfl (by decide +kernel) ⟨Nat.le_of_ble_eq_true rfl, Nat.le_of_ble_eq_true rfl⟩) hKN rfl hl.1 rfl (lv_room (Nat.le_of_ble_eq_true rfl)) dX4_digest_180 ⟨Nat.zero_le _, Nat.zero_le _⟩ ?_
  refine lv_ladd hx hb dX4_digest_183 ?_
  refine lv_lstore_n (lv' := [(1, .long ((31 * ((31 * ((31 * ((31 * ((31 * ((31 * ((31 * ((31 * ((31 * (dlI (f 0) (dmI (f 0) (dsI (f 0) 1 (dsI (f 0) 0 (drT (f 0) (dgT (f 0) ((31 * ((31 * ((31 * ((31 * ((31 * ((31 * ((31 * ((31 * ((31 * ((31 * ((31 * ((31 * 3371) + (i2lF (countS (f 0) z rt.2 0)))) + (i2lF (countS (f 0) z rt.2 1)))) + (i2lF (countS (f 0) z rt.2 2)))) + (i2lF (countS (f 0) z rt.2 3)))) + (i2lF (countS (f 0) z rt.2 4)))) + (i2lF (countS (f 0) z rt.2 5)))) + (i2lF (countS (f 0) z rt.2 6)))) + (i2lF (countS (f 0) z rt.2 7)))) + (i2lF (countS (f 0) z (wtT (f 0) rt.2 16) 8)))) + (i2lF (countS (f 0) z (wtT (f 0) rt.2 16) 9)))) + (i2lF (((f 0).2.2.2.1) 0)))) + (i2lF (((f 0).2.2.2.1) 1))) 16) 8) 8) 8) 9) 8)) + (i2lF (goneS (f 0) 20 0)))) + (i2lF (goneS (f 0) 20 1)))) + (i2lF (goneS (f 0) 20 2)))) + (i2lF (goneS (f 0) 20 3)))) + (i2lF (-1)))) + (i2lF (-1)))) + (i2lF ((bgT (f 0) 16).1)))) + 4607182418800017408)) + 0)), (3, .int 4), (0, .ref (Ad 10 0))]) hx hb dX4_digest_184 rfl hl (by decide) rfl (fun ls hl => ?_)
  refine lv_iconst (v := 0) hx hb dX4_digest_185 (by decide) ?_
  refine lv_istore_n (lv' := [(3, .int 0), (1, .long ((31 * ((31 * ((31 * ((31 * ((31 * ((31 * ((31 * ((31 * ((31 * (dlI (f 0) (dmI (f 0) (dsI (f 0) 1 (dsI (f 0) 0 (drT (f 0) (dgT (f 0) ((31 * ((31 * ((31 * ((31 * ((31 * ((31 * ((31 * ((31 * ((31 * ((31 * ((31 * ((31 * 3371) + (i2lF (countS (f 0) z rt.2 0)))) + (i2lF (countS (f 0) z rt.2 1)))) + (i2lF (countS (f 0) z rt.2 2)))) + (i2lF (countS (f 0) z rt.2 3)))) + (i2lF (countS (f 0) z rt.2 4)))) + (i2lF (countS (f 0) z rt.2 5)))) + (i2lF (countS (f 0) z rt.2 6)))) + (i2lF (countS (f 0) z rt.2 7)))) + (i2lF (countS (f 0) z (wtT (f 0) rt.2 16) 8)))) + (i2lF (countS (f 0) z (wtT (f 0) rt.2 16) 9)))) + (i2lF (((f 0).2.2.2.1) 0)))) + (i2lF (((f 0).2.2.2.1) 1))) 16) 8) 8) 8) 9) 8)) + (i2lF (goneS (f 0) 20 0)))) + (i2lF (goneS (f 0) 20 1)))) + (i2lF (goneS (f 0) 20 2)))) + (i2lF (goneS (f 0) 20 3)))) + (i2lF (-1)))) + (i2lF (-1)))) + (i2lF ((bgT (f 0) 16).1)))) + 4607182418800017408)) + 0)), (0, .ref (Ad 10 0))]) hx hb dX4_digest_186 rfl hl (by decide) rfl (fun ls hl => ?_)
  refine lv_iload_n hx hb dX4_digest_187 rfl (lv_at hl 0 rfl) ?_
  refine lv_iconst (v := 2) hx hb dX4_digest_188 (by decide) ?_
  refine lv_icmp_ge (tgt := 220) hx hb dX4_digest_189 (by decide) (fun h => absurd h (by decide)) (fun _ => ?_)
  refine lv_ldc2 (v := 31) hx hb hown (hts _ mX4_digest_k286) dX4_digest_192 ?_
  refine lv_lload_n hx hb dX4_digest_195 rfl (lv_at hl 1 rfl) ?_
  refine lv_lmul hx hb dX4_digest_196 ?_
  refine lv_aload_n hx hb dX4_digest_197 rfl (lv_at hl 2 rfl) ?_
  have hP : va_P D vwCl ((wLm cA Ad (rt.1, (wtT (f 0) rt.2 16))) ++ (rst cA Ad ((upS (upS (upS (upS (upS f 1 (runS 20 (f 0)).2) 1 (runS 20 (f 0)).2) 1 (runS 20 (f 0)).2) 1 (runS 20 (f 0)).2) 1 (setGd (f 0) (bgT (f 0) 16).2.2)), ((nI o), (nI z)), (cd, wd, 0, 0, 0), (rt.1, (wtT (f 0) rt.2 16))) 10)) H := lw_fP 10 (by decide) hWP
  have hD : va_D A ((wLm cA Ad (rt.1, (wtT (f 0) rt.2 16))) ++ (rst cA Ad ((upS (upS (upS (upS (upS f 1 (runS 20 (f 0)).2) 1 (runS 20 (f 0)).2) 1 (runS 20 (f 0)).2) 1 (runS 20 (f 0)).2) 1 (setGd (f 0) (bgT (f 0) 16).2.2)), ((nI o), (nI z)), (cd, wd, 0, 0, 0), (rt.1, (wtT (f 0) rt.2 16))) 10)) := lw_fD 10 (by decide) hWD
  refine va_get (D := D) (ci := 4) (v := .ref (Ad 10 2)) (C := RX4) (T := TX4) (N := 7) hx hb hts iX4_digest_X4 hown hK hP 0 rfl rfl 4 (by decide) (hts _ mX4_digest_f30) (fun _ h9 => h9) rfl dX4_digest_198 ?_
  refine lv_iload_n hx hb dX4_digest_201 rfl (lv_at hl 0 rfl) ?_
  refine lz_zald (k := 0) (f := rt.1) hx hb hK hP 2 1 rfl rfl ⟨by decide, by decide⟩ dX4_digest_202 ?_
  refine lz_top (v := 0) hk0 ?_
  refine lv_if_eq (tgt := 210) hx hb dX4_digest_203 (by decide) (fun _ => ?_) (fun h => absurd (by decide) h)
  refine lv_iconst (v := 0) hx hb dX4_digest_210 (by decide) ?_
  refine lv_i2l (v := (i2lF 0)) hx hb dX4_digest_211 rfl ?_
  refine lv_ladd hx hb dX4_digest_212 ?_
  refine lv_lstore_n (lv' := [(1, .long ((31 * ((31 * ((31 * ((31 * ((31 * ((31 * ((31 * ((31 * ((31 * ((31 * (dlI (f 0) (dmI (f 0) (dsI (f 0) 1 (dsI (f 0) 0 (drT (f 0) (dgT (f 0) ((31 * ((31 * ((31 * ((31 * ((31 * ((31 * ((31 * ((31 * ((31 * ((31 * ((31 * ((31 * 3371) + (i2lF (countS (f 0) z rt.2 0)))) + (i2lF (countS (f 0) z rt.2 1)))) + (i2lF (countS (f 0) z rt.2 2)))) + (i2lF (countS (f 0) z rt.2 3)))) + (i2lF (countS (f 0) z rt.2 4)))) + (i2lF (countS (f 0) z rt.2 5)))) + (i2lF (countS (f 0) z rt.2 6)))) + (i2lF (countS (f 0) z rt.2 7)))) + (i2lF (countS (f 0) z (wtT (f 0) rt.2 16) 8)))) + (i2lF (countS (f 0) z (wtT (f 0) rt.2 16) 9)))) + (i2lF (((f 0).2.2.2.1) 0)))) + (i2lF (((f 0).2.2.2.1) 1))) 16) 8) 8) 8) 9) 8)) + (i2lF (goneS (f 0) 20 0)))) + (i2lF (goneS (f 0) 20 1)))) + (i2lF (goneS (f 0) 20 2)))) + (i2lF (goneS (f 0) 20 3)))) + (i2lF (-1)))) + (i2lF (-1)))) + (i2lF ((bgT (f 0) 16).1)))) + 4607182418800017408)) + 0)) + (i2lF 0))), (3, .int 0), (0, .ref (Ad 10 0))]) hx hb dX4_digest_213 rfl hl (by decide) rfl (fun ls hl => ?_)
  refine lv_iinc (v := 1) (lv' := [(3, .int 1), (1, .long ((31 * ((31 * ((31 * ((31 * ((31 * ((31 * ((31 * ((31 * ((31 * ((31 * (dlI (f 0) (dmI (f 0) (dsI (f 0) 1 (dsI (f 0) 0 (drT (f 0) (dgT (f 0) ((31 * ((31 * ((31 * ((31 * ((31 * ((31 * ((31 * ((31 * ((31 * ((31 * ((31 * ((31 * 3371) + (i2lF (countS (f 0) z rt.2 0)))) + (i2lF (countS (f 0) z rt.2 1)))) + (i2lF (countS (f 0) z rt.2 2)))) + (i2lF (countS (f 0) z rt.2 3)))) + (i2lF (countS (f 0) z rt.2 4)))) + (i2lF (countS (f 0) z rt.2 5)))) + (i2lF (countS (f 0) z rt.2 6)))) + (i2lF (countS (f 0) z rt.2 7)))) + (i2lF (countS (f 0) z (wtT (f 0) rt.2 16) 8)))) + (i2lF (countS (f 0) z (wtT (f 0) rt.2 16) 9)))) + (i2lF (((f 0).2.2.2.1) 0)))) + (i2lF (((f 0).2.2.2.1) 1))) 16) 8) 8) 8) 9) 8)) + (i2lF (goneS (f 0) 20 0)))) + (i2lF (goneS (f 0) 20 1)))) + (i2lF (goneS (f 0) 20 2)))) + (i2lF (goneS (f 0) 20 3)))) + (i2lF (-1)))) + (i2lF (-1)))) + (i2lF ((bgT (f 0) 16).1)))) + 4607182418800017408)) + 0)) + (i2lF 0))), (0, .ref (Ad 10 0))]) hx hb dX4_digest_214 hl (k := 1) rfl (by decide) (by decide) rfl (fun ls hl => ?_)
  refine lv_goto (tgt := 187) hx hb dX4_digest_217 (by decide) ?_
  refine lv_iload_n hx hb dX4_digest_187 rfl (lv_at hl 0 rfl) ?_
  refine lv_iconst (v := 2) hx hb dX4_digest_188 (by decide) ?_
  refine lv_icmp_ge (tgt := 220) hx hb dX4_digest_189 (by decide) (fun h => absurd h (by decide)) (fun _ => ?_)
  refine lv_ldc2 (v := 31) hx hb hown (hts _ mX4_digest_k286) dX4_digest_192 ?_
  refine lv_lload_n hx hb dX4_digest_195 rfl (lv_at hl 1 rfl) ?_
  refine lv_lmul hx hb dX4_digest_196 ?_
  refine lv_aload_n hx hb dX4_digest_197 rfl (lv_at hl 2 rfl) ?_
  refine va_get (D := D) (ci := 4) (v := .ref (Ad 10 2)) (C := RX4) (T := TX4) (N := 7) hx hb hts iX4_digest_X4 hown hK hP 0 rfl rfl 4 (by decide) (hts _ mX4_digest_f30) (fun _ h9 => h9) rfl dX4_digest_198 ?_
  refine lv_iload_n hx hb dX4_digest_201 rfl (lv_at hl 0 rfl) ?_
  refine lz_zald (k := 1) (f := rt.1) hx hb hK hP 2 1 rfl rfl ⟨by decide, by decide⟩ dX4_digest_202 ?_
  refine lz_top (v := 0) hk1 ?_
  refine lv_if_eq (tgt := 210) hx hb dX4_digest_203 (by decide) (fun _ => ?_) (fun h => absurd (by decide) h)
  refine lv_iconst (v := 0) hx hb dX4_digest_210 (by decide) ?_
  refine lv_i2l (v := (i2lF 0)) hx hb dX4_digest_211 rfl ?_
  refine lv_ladd hx hb dX4_digest_212 ?_
  refine lv_lstore_n (lv' := [(1, .long ((31 * ((31 * ((31 * ((31 * ((31 * ((31 * ((31 * ((31 * ((31 * ((31 * ((31 * (dlI (f 0) (dmI (f 0) (dsI (f 0) 1 (dsI (f 0) 0 (drT (f 0) (dgT (f 0) ((31 * ((31 * ((31 * ((31 * ((31 * ((31 * ((31 * ((31 * ((31 * ((31 * ((31 * ((31 * 3371) + (i2lF (countS (f 0) z rt.2 0)))) + (i2lF (countS (f 0) z rt.2 1)))) + (i2lF (countS (f 0) z rt.2 2)))) + (i2lF (countS (f 0) z rt.2 3)))) + (i2lF (countS (f 0) z rt.2 4)))) + (i2lF (countS (f 0) z rt.2 5)))) + (i2lF (countS (f 0) z rt.2 6)))) + (i2lF (countS (f 0) z rt.2 7)))) + (i2lF (countS (f 0) z (wtT (f 0) rt.2 16) 8)))) + (i2lF (countS (f 0) z (wtT (f 0) rt.2 16) 9)))) + (i2lF (((f 0).2.2.2.1) 0)))) + (i2lF (((f 0).2.2.2.1) 1))) 16) 8) 8) 8) 9) 8)) + (i2lF (goneS (f 0) 20 0)))) + (i2lF (goneS (f 0) 20 1)))) + (i2lF (goneS (f 0) 20 2)))) + (i2lF (goneS (f 0) 20 3)))) + (i2lF (-1)))) + (i2lF (-1)))) + (i2lF ((bgT (f 0) 16).1)))) + 4607182418800017408)) + 0)) + (i2lF 0))) + (i2lF 0))), (3, .int 1), (0, .ref (Ad 10 0))]) hx hb dX4_digest_213 rfl hl (by decide) rfl (fun ls hl => ?_)
  refine lv_iinc (v := 2) (lv' := [(3, .int 2), (1, .long ((31 * ((31 * ((31 * ((31 * ((31 * ((31 * ((31 * ((31 * ((31 * ((31 * ((31 * (dlI (f 0) (dmI (f 0) (dsI (f 0) 1 (dsI (f 0) 0 (drT (f 0) (dgT (f 0) ((31 * ((31 * ((31 * ((31 * ((31 * ((31 * ((31 * ((31 * ((31 * ((31 * ((31 * ((31 * 3371) + (i2lF (countS (f 0) z rt.2 0)))) + (i2lF (countS (f 0) z rt.2 1)))) + (i2lF (countS (f 0) z rt.2 2)))) + (i2lF (countS (f 0) z rt.2 3)))) + (i2lF (countS (f 0) z rt.2 4)))) + (i2lF (countS (f 0) z rt.2 5)))) + (i2lF (countS (f 0) z rt.2 6)))) + (i2lF (countS (f 0) z rt.2 7)))) + (i2lF (countS (f 0) z (wtT (f 0) rt.2 16) 8)))) + (i2lF (countS (f 0) z (wtT (f 0) rt.2 16) 9)))) + (i2lF (((f 0).2.2.2.1) 0)))) + (i2lF (((f 0).2.2.2.1) 1))) 16) 8) 8) 8) 9) 8)) + (i2lF (goneS (f 0) 20 0)))) + (i2lF (goneS (f 0) 20 1)))) + (i2lF (goneS (f 0) 20 2)))) + (i2lF (goneS (f 0) 20 3)))) + (i2lF (-1)))) + (i2lF (-1)))) + (i2lF ((bgT (f 0) 16).1)))) + 4607182418800017408)) + 0)) + (i2lF 0))) + (i2lF 0))), (0, .ref (Ad 10 0))]) hx hb dX4_digest_214 hl (k := 1) rfl (by decide) (by decide) rfl (fun ls hl => ?_)
  refine lv_goto (tgt := 187) hx hb dX4_digest_217 (by decide) ?_
  refine lv_iload_n hx hb dX4_digest_187 rfl (lv_at hl 0 rfl) ?_
  refine lv_iconst (v := 2) hx hb dX4_digest_188 (by decide) ?_
  refine lv_icmp_ge (tgt := 220) hx hb dX4_digest_189 (by decide) (fun _ => ?_) (fun h => absurd (by decide) h)
  refine lv_aload_n hx hb dX4_digest_220 rfl (lv_at hl 2 rfl) ?_
  refine lv_lload_n hx hb dX4_digest_221 rfl (lv_at hl 1 rfl) ?_
  refine ro_V (ci := 4) (q0 := 0) (As := [.long ((31 * ((31 * ((31 * ((31 * ((31 * ((31 * ((31 * ((31 * ((31 * ((31 * ((31 * (dlI (f 0) (dmI (f 0) (dsI (f 0) 1 (dsI (f 0) 0 (drT (f 0) (dgT (f 0) ((31 * ((31 * ((31 * ((31 * ((31 * ((31 * ((31 * ((31 * ((31 * ((31 * ((31 * ((31 * 3371) + (i2lF (countS (f 0) z rt.2 0)))) + (i2lF (countS (f 0) z rt.2 1)))) + (i2lF (countS (f 0) z rt.2 2)))) + (i2lF (countS (f 0) z rt.2 3)))) + (i2lF (countS (f 0) z rt.2 4)))) + (i2lF (countS (f 0) z rt.2 5)))) + (i2lF (countS (f 0) z rt.2 6)))) + (i2lF (countS (f 0) z rt.2 7)))) + (i2lF (countS (f 0) z (wtT (f 0) rt.2 16) 8)))) + (i2lF (countS (f 0) z (wtT (f 0) rt.2 16) 9)))) + (i2lF (((f 0).2.2.2.1) 0)))) + (i2lF (((f 0).2.2.2.1) 1))) 16) 8) 8) 8) 9) 8)) + (i2lF (goneS (f 0) 20 0)))) + (i2lF (goneS (f 0) 20 1)))) + (i2lF (goneS (f 0) 20 2)))) + (i2lF (goneS (f 0) 20 3)))) + (i2lF (-1)))) + (i2lF (-1)))) + (i2lF ((bgT (f 0) 16).1)))) + 4607182418800017408)) + 0)) + (i2lF 0))) + (i2lF 0))]) (rest := []) ⟨hx, hb, hml, hown, hts⟩ (c_X4_digestBuffer l D cA _ Ad (upS (upS (upS (upS (upS f 1 (runS 20 (f 0)).2) 1 (runS 20 (f 0)).2) 1 (runS 20 (f 0)).2) 1 (runS 20 (f 0)).2) 1 (setGd (f 0) (bgT (f 0) 16).2.2)) o z cd wd 0 0 (rt.1, (wtT (f 0) rt.2 16)) ((31 * ((31 * ((31 * ((31 * ((31 * ((31 * ((31 * ((31 * ((31 * ((31 * ((31 * (dlI (f 0) (dmI (f 0) (dsI (f 0) 1 (dsI (f 0) 0 (drT (f 0) (dgT (f 0) ((31 * ((31 * ((31 * ((31 * ((31 * ((31 * ((31 * ((31 * ((31 * ((31 * ((31 * ((31 * 3371) + (i2lF (countS (f 0) z rt.2 0)))) + (i2lF (countS (f 0) z rt.2 1)))) + (i2lF (countS (f 0) z rt.2 2)))) + (i2lF (countS (f 0) z rt.2 3)))) + (i2lF (countS (f 0) z rt.2 4)))) + (i2lF (countS (f 0) z rt.2 5)))) + (i2lF (countS (f 0) z rt.2 6)))) + (i2lF (countS (f 0) z rt.2 7)))) + (i2lF (countS (f 0) z (wtT (f 0) rt.2 16) 8)))) + (i2lF (countS (f 0) z (wtT (f 0) rt.2 16) 9)))) + (i2lF (((f 0).2.2.2.1) 0)))) + (i2lF (((f 0).2.2.2.1) 1))) 16) 8) 8) 8) 9) 8)) + (i2lF (goneS (f 0) 20 0)))) + (i2lF (goneS (f 0) 20 1)))) + (i2lF (goneS (f 0) 20 2)))) + (i2lF (goneS (f 0) 20 3)))) + (i2lF (-1)))) + (i2lF (-1)))) + (i2lF ((bgT (f 0) 16).1)))) + 4607182418800017408)) + 0)) + (i2lF 0))) + (i2lF 0)) hWP) (cwV 1 hts gX4_digest_X4_digestBuffer rfl rfl rfl (by decide +kernel) ⟨Nat.le_of_ble_eq_true rfl, Nat.le_of_ble_eq_true rfl⟩) hKN (lw_fP 10 (by decide) hWP : va_P D vwCl ((wLm cA Ad (rt.1, (wtT (f 0) rt.2 16))) ++ (rst cA Ad ((upS (upS (upS (upS (upS f 1 (runS 20 (f 0)).2) 1 (runS 20 (f 0)).2) 1 (runS 20 (f 0)).2) 1 (runS 20 (f 0)).2) 1 (setGd (f 0) (bgT (f 0) 16).2.2)), ((nI o), (nI z)), (cd, wd, 0, 0, 0), (rt.1, (wtT (f 0) rt.2 16))) 10)) H) rfl rfl rfl hl.1 rfl (lv_room (Nat.le_of_ble_eq_true rfl)) dX4_digest_222 ⟨Nat.zero_le _, Nat.zero_le _⟩ ?_
  exact mu_lret hx hb hr hlocks dX4_digest_225 hAe hS hWP rfl
