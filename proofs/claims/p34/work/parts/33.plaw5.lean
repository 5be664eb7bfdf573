-- the law's isAhead
set_option maxHeartbeats 8000000 in
set_option maxRecDepth 100000 in
theorem c_L_isAhead (l : Launch) (D : va_G) (cA : Nat → ClassId) (H : Heap) (Ad : Nat → Nat → Nat) (f : Nat → SV) (o z : Nat) (tx : TV) (rt : (Nat → Int32) × (Nat → Int32)) (ho : o < 6) (hz6 : z ≤ 6) (K : Nat) (u s2 : SV) (hf0 : f 0 = u) (hf2 : f 2 = s2) (hGu : GD K u) (hk : rt.1 0 = 1) (t : Nat) (ht : t < 16) (N : Nat) (hN1 : 1 ≤ N) (hN : N ≤ 99) (hP0 : va_P D vwCl (all cA Ad (f, ((nI o), (nI z)), tx, rt)) H) (hD0 : va_D (fun _ => True) (all cA Ad (f, ((nI o), (nI z)), tx, rt))) : ME l yL_isAhead wsL_isAhead ({ frames := 7, cells := 0, slots := 0, locals := 162 } : Room) D cA Ad [.ref (Ad 10 0), .int (nI t), .int (nI N)] H (all cA Ad (f, ((nI o), (nI z)), tx, rt)) (LKp u s2 tx 1) (some (.int 1)) := by
  refine Met.ofW (cc := cL_isAhead) (maxL := 16) (ret := (some .boolean)) (by decide) rfl ?_
  intro p e s m args below meth c s₁ B hml hv
  obtain ⟨rfl, hH, hKN⟩ := hv
  have hK := hKN.1
  have hx := B.exec
  have hb := B.bytes
  have hr := B.returns
  have hts := atoms_spec (ws := wsL_isAhead) B.pre
  have hown : s.vm.findClass RL = some m.cls := findClass_of_methodNamed B.named
  have hlocks := B.notSynchronized
  subst hH
  have hWD := hD0.self (sz := s.heap.size)
  generalize hAe : va_A (all cA Ad (f, ((nI o), (nI z)), tx, rt)) s.heap.size = A at hWD ⊢
  have hA : ∀ q : Nat, s.heap.size ≤ q → A q := fun q h => by rw [← hAe]; exact Or.inr h
  have hS : va_S A s.heap s.heap [] := va_S.rf
  have hWP : va_P D vwCl (all cA Ad (f, ((nI o), (nI z)), tx, rt)) s.heap := hP0
  have hG : GD K (f 0) := by rw [hf0]; exact hGu
  clear hP0 hD0
  generalize hw0 : (all cA Ad (f, ((nI o), (nI z)), tx, rt)) = w0 at hAe ⊢
  have hl := lv_entry ([.ref (Ad 10 0), .int (nI t), .int (nI N)] : List Value) (n := 16) (Nat.le_of_ble_eq_true rfl)
  rw [lg_entry_eq]
  generalize (lg_sl ([.ref (Ad 10 0), .int (nI t), .int (nI N)] : List Value) ++ List.replicate (16 - (lg_sl ([.ref (Ad 10 0), .int (nI t), .int (nI N)] : List Value)).length) Slot.unset).toArray = ls at hl ⊢
  have hl : lv_has ls 16 [(0, .ref (Ad 10 0)), (1, .int (nI t)), (2, .int (nI N))] := hl
  refine lv_aload_n hx hb dL_isAhead_0 rfl (lv_at hl 0 rfl) ?_
  refine mu_Sw (As := [.ref (Ad 10 0)]) (rest := []) ⟨hx, hb, hml, hown, hts⟩ (c_L_looks l D cA _ Ad f o z tx rt hWP (hWD.weaken (fun _ _ _ _ => trivial))) (cwS2 1 hts gL_isAhead_L_looks rfl rfl rfl (by decide +kernel) ⟨Nat.le_of_ble_eq_true rfl, Nat.le_of_ble_eq_true rfl⟩) hKN hWP hWD hS hA (all_fst _ _ _ _) rfl hl.1 rfl (lv_room (Nat.le_of_ble_eq_true rfl)) dL_isAhead_1 ⟨Nat.zero_le _, Nat.zero_le _⟩ (fun H locs hWP hWD hS => ?_)
  have hWP : va_P D vwCl (all cA Ad (f, ((nI o), (nI z)), tx, (rt.1, (lkW (f 0) rt.2 9)))) H := hWP
  have hWD : va_D A (all cA Ad (f, ((nI o), (nI z)), tx, (rt.1, (lkW (f 0) rt.2 9)))) := hWD
  refine lz_topL (v := (looksV u)) (by rw [hf0]) ?_
  obtain ⟨rt, er, gr⟩ := gR rt (lkW (f 0) rt.2 9)
  rw [er] at hWP hWD
  have hk : rt.1 0 = 1 := by rw [gr]; exact hk
  clear er gr
  have hWP : va_P D vwCl (all cA Ad (f, ((nI o), (nI z)), tx, rt)) H := hWP
  have hWD : va_D A (all cA Ad (f, ((nI o), (nI z)), tx, rt)) := hWD
  refine lv_lstore_n (lv' := [(3, .long (looksV u)), (0, .ref (Ad 10 0)), (1, .int (nI t)), (2, .int (nI N))]) hx hb dL_isAhead_4 rfl hl (by decide) rfl (fun ls hl => ?_)
  refine lv_aload_n hx hb dL_isAhead_5 rfl (lv_at hl 1 rfl) ?_
  refine lv_iconst (v := 1) hx hb dL_isAhead_6 (by decide) ?_
  refine mu_Vw (ci := 4) (q0 := 0) (As := [.int 1]) (rest := []) ⟨hx, hb, hml, hown, hts⟩ (c_X4_keep1 l D cA _ Ad f o z tx rt hG.ru hWP (hWD.weaken (fun _ _ _ _ => trivial))) (cwV 1 hts gL_isAhead_X4_keep rfl rfl rfl (by decide +kernel) ⟨Nat.le_of_ble_eq_true rfl, Nat.le_of_ble_eq_true rfl⟩) hKN hWP hWD hS hA (lw_fP 10 (by decide) hWP : va_P D vwCl ((wLm cA Ad rt) ++ (rst cA Ad (f, ((nI o), (nI z)), tx, rt) 10)) H) rfl rfl (all_fst _ _ _ _) rfl hl.1 rfl (lv_room (Nat.le_of_ble_eq_true rfl)) dL_isAhead_7 ⟨Nat.zero_le _, Nat.zero_le _⟩ (fun H locs hWP hWD hS => ?_)
  have hWP : va_P D vwCl (all cA Ad ((upS f 3 (f 0)), ((nI o), (nI z)), tx, ((upd rt.1 1 1), rt.2))) H := hWP
  have hWD : va_D A (all cA Ad ((upS f 3 (f 0)), ((nI o), (nI z)), tx, ((upd rt.1 1 1), rt.2))) := hWD
  refine lz_top (v := (cbtT (f 0) 16)) rfl ?_
  refine lz_top (v := (cbtT u 16)) (by rw [hf0]) ?_
  obtain ⟨f, ef, g0, g2, g3⟩ := gS3 f
  obtain ⟨rt, er, gr1, gr0⟩ := gK rt 1
  rw [ef, er] at hWP hWD
  have hG : GD K (f 0) := by rw [g0]; exact hG
  have hf3 : f 3 = u := g3.trans hf0
  have hf0 : f 0 = u := g0.trans hf0
  have hf2 : f 2 = s2 := g2.trans hf2
  have hk : rt.1 0 = 1 := (gr0 0 (by decide)).trans hk
  have hk1 := gr1
  clear ef er g0 g2 g3 gr0 gr1
  have hWP : va_P D vwCl (all cA Ad (f, ((nI o), (nI z)), tx, rt)) H := hWP
  have hWD : va_D A (all cA Ad (f, ((nI o), (nI z)), tx, rt)) := hWD
  refine lv_istore (lv' := [(5, .int (cbtT u 16)), (3, .long (looksV u)), (0, .ref (Ad 10 0)), (1, .int (nI t)), (2, .int (nI N))]) hx hb dL_isAhead_10 hl (by decide) rfl (fun ls hl => ?_)
  refine lv_aload_n hx hb dL_isAhead_12 rfl (lv_at hl 2 rfl) ?_
  refine lv_iload_n hx hb dL_isAhead_13 rfl (lv_at hl 3 rfl) ?_
  refine lv_iconst (v := 3) hx hb dL_isAhead_14 (by decide) ?_
  refine ro_V (ci := 4) (q0 := 0) (As := [.int (nI t), .int 3]) (rest := []) ⟨hx, hb, hml, hown, hts⟩ (c_X4_threadOf l D cA _ Ad f o z tx rt t (by omega) 3 (by decide) hWP) (cwV 2 hts gL_isAhead_X4_threadOf rfl rfl rfl (by decide +kernel) ⟨Nat.le_of_ble_eq_true rfl, Nat.le_of_ble_eq_true rfl⟩) hKN (lw_fP 10 (by decide) hWP : va_P D vwCl ((wLm cA Ad rt) ++ (rst cA Ad (f, ((nI o), (nI z)), tx, rt) 10)) H) rfl rfl rfl hl.1 rfl (lv_room (Nat.le_of_ble_eq_true rfl)) dL_isAhead_15 ⟨Nat.zero_le _, Nat.zero_le _⟩ ?_
  refine lz_top (v := (tellsS (f 0) t)) rfl ?_
  refine lz_top (v := (tellsS u t)) (by rw [hf0]) ?_
  refine lv_istore (lv' := [(6, .int (tellsS u t)), (5, .int (cbtT u 16)), (3, .long (looksV u)), (0, .ref (Ad 10 0)), (1, .int (nI t)), (2, .int (nI N))]) hx hb dL_isAhead_18 hl (by decide) rfl (fun ls hl => ?_)
  refine lv_aload_n hx hb dL_isAhead_20 rfl (lv_at hl 3 rfl) ?_
  refine lv_iload_n hx hb dL_isAhead_21 rfl (lv_at hl 4 rfl) ?_
  refine ro_V (ci := 4) (q0 := 0) (As := [.int (nI t)]) (rest := []) ⟨hx, hb, hml, hown, hts⟩ (c_X4_lastsFor l D cA _ Ad f o z tx rt t (by omega) hWP) (cwV 1 hts gL_isAhead_X4_lastsFor rfl rfl rfl (by decide +kernel) ⟨Nat.le_of_ble_eq_true rfl, Nat.le_of_ble_eq_true rfl⟩) hKN (lw_fP 10 (by decide) hWP : va_P D vwCl ((wLm cA Ad rt) ++ (rst cA Ad (f, ((nI o), (nI z)), tx, rt) 10)) H) rfl rfl rfl hl.1 rfl (lv_room (Nat.le_of_ble_eq_true rfl)) dL_isAhead_22 ⟨Nat.zero_le _, Nat.zero_le _⟩ ?_
  refine lz_top (v := (rucS (f 0) t)) rfl ?_
  refine lz_top (v := (rucS u t)) (by rw [hf0]) ?_
  refine lv_istore (lv' := [(7, .int (rucS u t)), (6, .int (tellsS u t)), (5, .int (cbtT u 16)), (3, .long (looksV u)), (0, .ref (Ad 10 0)), (1, .int (nI t)), (2, .int (nI N))]) hx hb dL_isAhead_25 hl (by decide) rfl (fun ls hl => ?_)
  refine lv_iconst (v := 0) hx hb dL_isAhead_27 (by decide) ?_
  refine lv_istore (lv' := [(8, .int 0), (7, .int (rucS u t)), (6, .int (tellsS u t)), (5, .int (cbtT u 16)), (3, .long (looksV u)), (0, .ref (Ad 10 0)), (1, .int (nI t)), (2, .int (nI N))]) hx hb dL_isAhead_28 hl (by decide) rfl (fun ls hl => ?_)
  refine lv_iload hx hb dL_isAhead_30 (lv_at hl 3 rfl) ?_
  refine lv_aload_n hx hb dL_isAhead_32 rfl (lv_at hl 5 rfl) ?_
  refine lv_iconst (v := 0) hx hb dL_isAhead_33 (by decide) ?_
  refine mu_Vw (ci := 4) (q0 := 0) (As := [.int 0]) (rest := [.int (cbtT u 16)]) ⟨hx, hb, hml, hown, hts⟩ (c_X4_count l D cA _ Ad f o z tx rt 0 (by decide) hWP (hWD.weaken (fun _ _ _ _ => trivial))) (cwV 1 hts gL_isAhead_X4_count rfl rfl rfl (by decide +kernel) ⟨Nat.le_of_ble_eq_true rfl, Nat.le_of_ble_eq_true rfl⟩) hKN hWP hWD hS hA (lw_fP 10 (by decide) hWP : va_P D vwCl ((wLm cA Ad rt) ++ (rst cA Ad (f, ((nI o), (nI z)), tx, rt) 10)) H) rfl rfl (all_fst _ _ _ _) rfl hl.1 rfl (lv_room (Nat.le_of_ble_eq_true rfl)) dL_isAhead_34 ⟨Nat.zero_le _, Nat.zero_le _⟩ (fun H locs hWP hWD hS => ?_)
  have hWP : va_P D vwCl (all cA Ad (f, ((nI o), (nI z)), tx, rt)) H := hWP
  have hWD : va_D A (all cA Ad (f, ((nI o), (nI z)), tx, rt)) := hWD
  refine lz_top (v := (cbtT (f 0) 16)) rfl ?_
  refine lz_top (v := (cbtT u 16)) (by rw [hf0]) ?_
  refine lv_icmp_ne (tgt := 44) hx hb dL_isAhead_37 (by decide) (fun h => absurd rfl h) (fun _ => ?_)
  refine lv_iconst (v := 1) hx hb dL_isAhead_40 (by decide) ?_
  refine lv_goto (tgt := 45) hx hb dL_isAhead_41 (by decide) ?_
  refine lv_istore (lv' := [(9, .int 1), (8, .int 0), (7, .int (rucS u t)), (6, .int (tellsS u t)), (5, .int (cbtT u 16)), (3, .long (looksV u)), (0, .ref (Ad 10 0)), (1, .int (nI t)), (2, .int (nI N))]) hx hb dL_isAhead_45 hl (by decide) rfl (fun ls hl => ?_)
  obtain ⟨nS, hS99, hsame, hend⟩ := ahead_stop hGu ht
  have hj_47 : (∀ (f : Nat → SV) (o z : Nat) (H : Heap) (locs : List Loc), f 0 = readN u t nS → f 2 = s2 → f 3 = u → o < 6 → z ≤ 6 → va_P D vwCl (all cA Ad (f, ((nI o), (nI z)), tx, rt)) H → va_D A (all cA Ad (f, ((nI o), (nI z)), tx, rt)) → va_S A s.heap H locs → ∀ (ls : Array Slot), lv_has ls 16 [(9, .int 1), (8, .int (nI nS)), (7, .int (rucS u t)), (6, .int (tellsS u t)), (5, .int (cbtT u 16)), (3, .long (looksV u)), (0, .ref (Ad 10 0)), (1, .int (nI t)), (2, .int (nI N))] → W p l e ({ frames := 7, cells := 0, slots := 0, locals := 162 } : Room) s m ([.ref (Ad 10 0), .int (nI t), .int (nI N)] : List Value).toArray below meth c H locs 0 0 (MQ below (meQ D cA Ad s.heap w0 (LKp u s2 tx 1) (some (.int 1))) ([.ref (Ad 10 0), .int (nI t), .int (nI N)] : List Value).toArray s 0 0 A) (F0 m 93 ls [])) → W p l e ({ frames := 7, cells := 0, slots := 0, locals := 162 } : Room) s m ([.ref (Ad 10 0), .int (nI t), .int (nI N)] : List Value).toArray below meth c H locs 0 0 (MQ below (meQ D cA Ad s.heap w0 (LKp u s2 tx 1) (some (.int 1))) ([.ref (Ad 10 0), .int (nI t), .int (nI N)] : List Value).toArray s 0 0 A) (F0 m 47 ls []) := by
    intro hJ
    have loop47 : ∀ (n k : Nat), k + n = nS → ∀ (f : Nat → SV) (o z : Nat) (H : Heap) (locs : List Loc), f 0 = readN u t k → f 2 = s2 → f 3 = u → o < 6 → z ≤ 6 → va_P D vwCl (all cA Ad (f, ((nI o), (nI z)), tx, rt)) H → va_D A (all cA Ad (f, ((nI o), (nI z)), tx, rt)) → va_S A s.heap H locs → ∀ (ls : Array Slot), lv_has ls 16 [(9, .int 1), (8, .int (nI k)), (7, .int (rucS u t)), (6, .int (tellsS u t)), (5, .int (cbtT u 16)), (3, .long (looksV u)), (0, .ref (Ad 10 0)), (1, .int (nI t)), (2, .int (nI N))] → W p l e ({ frames := 7, cells := 0, slots := 0, locals := 162 } : Room) s m ([.ref (Ad 10 0), .int (nI t), .int (nI N)] : List Value).toArray below meth c H locs 0 0 (MQ below (meQ D cA Ad s.heap w0 (LKp u s2 tx 1) (some (.int 1))) ([.ref (Ad 10 0), .int (nI t), .int (nI N)] : List Value).toArray s 0 0 A) (F0 m 47 ls []) := by
      intro n
      induction n with
      | zero =>
        intro k hkk f o z H locs hf0 hf2 hf3 ho hz6 hWP hWD hS ls hl
        have ek : k = nS := by omega
        rw [ek] at hf0 hl
        have hG : GD (K + nS) (f 0) := by rw [hf0]; exact GD_readN hGu ht nS
        refine lv_iload hx hb dL_isAhead_47 (lv_at hl 1 rfl) ?_
        refine lv_bipush (v := 99) hx hb dL_isAhead_49 (by decide) ?_
        rcases id hend with ⟨e1, e2, e3⟩ | ⟨e1, e2, e3⟩
        · refine lv_icmp_ge (tgt := 93) hx hb dL_isAhead_51 (by decide) (fun _ => ?_) (fun h => absurd (show (99 : Int32) ≤ nI nS from nI_le (a := 99) (by omega) (by omega)) h)
          exact hJ f o z H locs hf0 hf2 hf3 ho hz6 hWP hWD hS ls hl
        · refine lv_icmp_ge (tgt := 93) hx hb dL_isAhead_51 (by decide) (fun h => absurd h (show ¬ (99 : Int32) ≤ nI nS from nI_ge (b := 99) e1 (by decide))) (fun _ => ?_)
          refine lv_aload_n hx hb dL_isAhead_54 rfl (lv_at hl 6 rfl) ?_
          refine lv_iload_n hx hb dL_isAhead_55 rfl (lv_at hl 7 rfl) ?_
          refine lv_iconst (v := 3) hx hb dL_isAhead_56 (by decide) ?_
          refine ro_V (ci := 4) (q0 := 0) (As := [.int (nI t), .int 3]) (rest := []) ⟨hx, hb, hml, hown, hts⟩ (c_X4_threadOf l D cA _ Ad f o z tx rt t (by omega) 3 (by decide) hWP) (cwV 2 hts gL_isAhead_X4_threadOf rfl rfl rfl (by decide +kernel) ⟨Nat.le_of_ble_eq_true rfl, Nat.le_of_ble_eq_true rfl⟩) hKN (lw_fP 10 (by decide) hWP : va_P D vwCl ((wLm cA Ad rt) ++ (rst cA Ad (f, ((nI o), (nI z)), tx, rt) 10)) H) rfl rfl rfl hl.1 rfl (lv_room (Nat.le_of_ble_eq_true rfl)) dL_isAhead_57 ⟨Nat.zero_le _, Nat.zero_le _⟩ ?_
          refine lz_top (v := (tellsS (f 0) t)) rfl ?_
          refine lz_top (v := (tellsS (readN u t nS) t)) (by rw [hf0]) ?_
          refine lv_iload hx hb dL_isAhead_60 (lv_at hl 3 rfl) ?_
          refine lv_icmp_ne (tgt := 93) hx hb dL_isAhead_62 (by decide) (fun _ => ?_) (fun h => absurd h e3)
          exact hJ f o z H locs hf0 hf2 hf3 ho hz6 hWP hWD hS ls hl
      | succ n ih =>
        intro k hkk f o z H locs hf0 hf2 hf3 ho hz6 hWP hWD hS ls hl
        have hlt : k < nS := by omega
        have hG : GD (K + k) (f 0) := by rw [hf0]; exact GD_readN hGu ht k
        refine lv_iload hx hb dL_isAhead_47 (lv_at hl 1 rfl) ?_
        refine lv_bipush (v := 99) hx hb dL_isAhead_49 (by decide) ?_
        refine lv_icmp_ge (tgt := 93) hx hb dL_isAhead_51 (by decide) (fun h => absurd h (show ¬ (99 : Int32) ≤ nI k from nI_ge (b := 99) (by omega) (by decide))) (fun _ => ?_)
        refine lv_aload_n hx hb dL_isAhead_54 rfl (lv_at hl 6 rfl) ?_
        refine lv_iload_n hx hb dL_isAhead_55 rfl (lv_at hl 7 rfl) ?_
        refine lv_iconst (v := 3) hx hb dL_isAhead_56 (by decide) ?_
        refine ro_V (ci := 4) (q0 := 0) (As := [.int (nI t), .int 3]) (rest := []) ⟨hx, hb, hml, hown, hts⟩ (c_X4_threadOf l D cA _ Ad f o z tx rt t (by omega) 3 (by decide) hWP) (cwV 2 hts gL_isAhead_X4_threadOf rfl rfl rfl (by decide +kernel) ⟨Nat.le_of_ble_eq_true rfl, Nat.le_of_ble_eq_true rfl⟩) hKN (lw_fP 10 (by decide) hWP : va_P D vwCl ((wLm cA Ad rt) ++ (rst cA Ad (f, ((nI o), (nI z)), tx, rt) 10)) H) rfl rfl rfl hl.1 rfl (lv_room (Nat.le_of_ble_eq_true rfl)) dL_isAhead_57 ⟨Nat.zero_le _, Nat.zero_le _⟩ ?_
        refine lz_top (v := (tellsS (f 0) t)) rfl ?_
        refine lz_top (v := (tellsS u t)) (by rw [hf0]; exact hsame k hlt) ?_
        refine lv_iload hx hb dL_isAhead_60 (lv_at hl 3 rfl) ?_
        refine lv_icmp_ne (tgt := 93) hx hb dL_isAhead_62 (by decide) (fun h => absurd rfl h) (fun _ => ?_)
        refine lv_iload hx hb dL_isAhead_65 (lv_at hl 0 rfl) ?_
        refine lv_if_eq (tgt := 93) hx hb dL_isAhead_67 (by decide) (fun h => absurd h (by decide)) (fun _ => ?_)
        refine lv_aload_n hx hb dL_isAhead_70 rfl (lv_at hl 6 rfl) ?_
        refine lv_iload_n hx hb dL_isAhead_71 rfl (lv_at hl 7 rfl) ?_
        refine mu_Vw (ci := 4) (q0 := 0) (As := [.int (nI t)]) (rest := []) ⟨hx, hb, hml, hown, hts⟩ (c_X4_read l D cA _ Ad f o z tx rt ho hz6 hG.ru t (by omega) hWP (hWD.weaken (fun _ _ _ _ => trivial))) (cwV 1 hts gL_isAhead_X4_read rfl rfl rfl (by decide +kernel) ⟨Nat.le_of_ble_eq_true rfl, Nat.le_of_ble_eq_true rfl⟩) hKN hWP hWD hS hA (lw_fP 10 (by decide) hWP : va_P D vwCl ((wLm cA Ad rt) ++ (rst cA Ad (f, ((nI o), (nI z)), tx, rt) 10)) H) rfl rfl (all_fst _ _ _ _) rfl hl.1 rfl (lv_room (Nat.le_of_ble_eq_true rfl)) dL_isAhead_72 ⟨Nat.zero_le _, Nat.zero_le _⟩ (fun H locs hWP hWD hS => ?_)
        have hWP : va_P D vwCl (all cA Ad ((upS (pushF f ((o + z) % 6)) 0 (readS (f 0) t)), ((nI (if z < 6 then o else (o + 1) % 6)), (nI (if z < 6 then z + 1 else z))), tx, rt)) H := hWP
        have hWD : va_D A (all cA Ad ((upS (pushF f ((o + z) % 6)) 0 (readS (f 0) t)), ((nI (if z < 6 then o else (o + 1) % 6)), (nI (if z < 6 then z + 1 else z))), tx, rt)) := hWD
        refine lz_top (v := (tellsS (f 0) t)) rfl ?_
        refine lz_top (v := (tellsS u t)) (by rw [hf0]; exact hsame k hlt) ?_
        obtain ⟨f, o, z, ef, eo, ez, g0, g2, g3, go, gz, hz1, gt, gq⟩ := gpush f ho hz6 (readS (f 0) t)
        rw [ef, eo, ez] at hWP hWD
        have htop := gt.trans hf0
        have hf0 : f 0 = readN u t (k + 1) := g0.trans (by rw [hf0]; rfl)
        have hf2 : f 2 = s2 := g2.trans hf2
        have hf3 : f 3 = u := g3.trans hf3
        have ho := go
        have hz6 := gz
        clear ef eo ez g0 g2 g3 go gz gt
        have hWP : va_P D vwCl (all cA Ad (f, ((nI o), (nI z)), tx, rt)) H := hWP
        have hWD : va_D A (all cA Ad (f, ((nI o), (nI z)), tx, rt)) := hWD
        refine lv_iload hx hb dL_isAhead_75 (lv_at hl 3 rfl) ?_
        refine lv_icmp_ne (tgt := 84) hx hb dL_isAhead_77 (by decide) (fun h => absurd rfl h) (fun _ => ?_)
        refine lv_iconst (v := 1) hx hb dL_isAhead_80 (by decide) ?_
        refine lv_goto (tgt := 85) hx hb dL_isAhead_81 (by decide) ?_
        refine lv_istore (lv' := [(9, .int 1), (8, .int (nI k)), (7, .int (rucS u t)), (6, .int (tellsS u t)), (5, .int (cbtT u 16)), (3, .long (looksV u)), (0, .ref (Ad 10 0)), (1, .int (nI t)), (2, .int (nI N))]) hx hb dL_isAhead_85 hl (by decide) rfl (fun ls hl => ?_)
        refine lv_iinc (v := (nI (k + 1))) (lv' := [(8, .int (nI (k + 1))), (9, .int 1), (7, .int (rucS u t)), (6, .int (tellsS u t)), (5, .int (cbtT u 16)), (3, .long (looksV u)), (0, .ref (Ad 10 0)), (1, .int (nI t)), (2, .int (nI N))]) hx hb dL_isAhead_87 hl (k := 1) rfl (nI_1 _) (by decide) rfl (fun ls hl => ?_)
        refine lv_goto (tgt := 47) hx hb dL_isAhead_90 (by decide) ?_
        exact ih (k + 1) (by omega) f o z H locs hf0 hf2 hf3 ho hz6 hWP hWD hS ls (lv_sub hl [1, 0, 2, 3, 4, 5, 6, 7, 8] rfl)
    exact loop47 nS 0 (by omega) f o z _ _ hf0 hf2 hf3 ho hz6 hWP hWD hS ls (lv_sub hl [0, 1, 2, 3, 4, 5, 6, 7, 8] rfl)
  refine hj_47 (fun f o z H locs hf0 hf2 hf3 ho hz6 hWP hWD hS ls hl => ?_)
  have hG : GD (K + nS) (f 0) := by rw [hf0]; exact GD_readN hGu ht nS
  refine lv_iload hx hb dL_isAhead_93 (lv_at hl 0 rfl) ?_
  refine lv_if_eq (tgt := 148) hx hb dL_isAhead_95 (by decide) (fun h => absurd h (by decide)) (fun _ => ?_)
  refine lv_aload_n hx hb dL_isAhead_98 rfl (lv_at hl 6 rfl) ?_
  refine lv_iload_n hx hb dL_isAhead_99 rfl (lv_at hl 7 rfl) ?_
  refine lv_iconst (v := 3) hx hb dL_isAhead_100 (by decide) ?_
  refine ro_V (ci := 4) (q0 := 0) (As := [.int (nI t), .int 3]) (rest := []) ⟨hx, hb, hml, hown, hts⟩ (c_X4_threadOf l D cA _ Ad f o z tx rt t (by omega) 3 (by decide) hWP) (cwV 2 hts gL_isAhead_X4_threadOf rfl rfl rfl (by decide +kernel) ⟨Nat.le_of_ble_eq_true rfl, Nat.le_of_ble_eq_true rfl⟩) hKN (lw_fP 10 (by decide) hWP : va_P D vwCl ((wLm cA Ad rt) ++ (rst cA Ad (f, ((nI o), (nI z)), tx, rt) 10)) H) rfl rfl rfl hl.1 rfl (lv_room (Nat.le_of_ble_eq_true rfl)) dL_isAhead_101 ⟨Nat.zero_le _, Nat.zero_le _⟩ ?_
  refine lz_top (v := (tellsS (f 0) t)) rfl ?_
  refine lz_top (v := (tellsS (readN u t nS) t)) (by rw [hf0]) ?_
  refine lv_iload hx hb dL_isAhead_104 (lv_at hl 3 rfl) ?_
  have hj_106 : W p l e ({ frames := 7, cells := 0, slots := 0, locals := 162 } : Room) s m ([.ref (Ad 10 0), .int (nI t), .int (nI N)] : List Value).toArray below meth c H locs 0 0 (MQ below (meQ D cA Ad s.heap w0 (LKp u s2 tx 1) (some (.int 1))) ([.ref (Ad 10 0), .int (nI t), .int (nI N)] : List Value).toArray s 0 0 A) (F0 m 125 ls []) → W p l e ({ frames := 7, cells := 0, slots := 0, locals := 162 } : Room) s m ([.ref (Ad 10 0), .int (nI t), .int (nI N)] : List Value).toArray below meth c H locs 0 0 (MQ below (meQ D cA Ad s.heap w0 (LKp u s2 tx 1) (some (.int 1))) ([.ref (Ad 10 0), .int (nI t), .int (nI N)] : List Value).toArray s 0 0 A) (F0 m 106 ls [.int (tellsS u t), .int (tellsS (readN u t nS) t)]) := by
    intro hJ
    refine lv_icmp_ne (tgt := 118) hx hb dL_isAhead_106 (by decide) (fun c_106 => ?_) (fun c_106 => ?_)
    · refine lv_iload hx hb dL_isAhead_118 (lv_at hl 2 rfl) ?_
      refine lv_iload hx hb dL_isAhead_120 (lv_at hl 1 rfl) ?_
      refine lv_icmp_ne (tgt := 148) hx hb dL_isAhead_122 (by decide) (fun h => absurd (ahead_b hend c_106) h) (fun _ => ?_)
      exact hJ
    · refine lv_iload hx hb dL_isAhead_109 (lv_at hl 2 rfl) ?_
      refine lv_iconst (v := (-1)) hx hb dL_isAhead_111 (by decide) ?_
      refine lv_icmp_ne (tgt := 148) hx hb dL_isAhead_112 (by decide) (fun h => absurd (ahead_a hend c_106) h) (fun _ => ?_)
      refine lv_goto (tgt := 125) hx hb dL_isAhead_115 (by decide) ?_
      exact hJ
  refine hj_106 ?_
  refine lv_aload_n hx hb dL_isAhead_125 rfl (lv_at hl 6 rfl) ?_
  refine lv_iconst (v := 1) hx hb dL_isAhead_126 (by decide) ?_
  have hG3 : GD K (f 3) := by rw [hf3]; exact hGu
  refine mu_Vw (ci := 4) (q0 := 0) (As := [.int 1]) (rest := []) ⟨hx, hb, hml, hown, hts⟩ (c_X4_goBack1 l D cA _ Ad f o z tx rt ho hz6 hG.ru hG3.ru hk1 hWP (hWD.weaken (fun _ _ _ _ => trivial))) (cwV 1 hts gL_isAhead_X4_goBack rfl rfl rfl (by decide +kernel) ⟨Nat.le_of_ble_eq_true rfl, Nat.le_of_ble_eq_true rfl⟩) hKN hWP hWD hS hA (lw_fP 10 (by decide) hWP : va_P D vwCl ((wLm cA Ad rt) ++ (rst cA Ad (f, ((nI o), (nI z)), tx, rt) 10)) H) rfl rfl (all_fst _ _ _ _) rfl hl.1 rfl (lv_room (Nat.le_of_ble_eq_true rfl)) dL_isAhead_127 ⟨Nat.zero_le _, Nat.zero_le _⟩ (fun H locs hWP hWD hS => ?_)
  have hWP : va_P D vwCl (all cA Ad ((upS (pushF f ((o + z) % 6)) 0 (f 3)), ((nI (if z < 6 then o else (o + 1) % 6)), (nI (if z < 6 then z + 1 else z))), tx, rt)) H := hWP
  have hWD : va_D A (all cA Ad ((upS (pushF f ((o + z) % 6)) 0 (f 3)), ((nI (if z < 6 then o else (o + 1) % 6)), (nI (if z < 6 then z + 1 else z))), tx, rt)) := hWD
  refine lz_top (v := (cbtT (f 3) 16)) rfl ?_
  refine lz_top (v := (cbtT u 16)) (by rw [hf3]) ?_
  obtain ⟨f, o, z, ef, eo, ez, g0, g2, g3, go, gz, hz1, gt, gq⟩ := gpush f ho hz6 (f 3)
  rw [ef, eo, ez] at hWP hWD
  have htop := gt.trans hf0
  have hf0 : f 0 = u := g0.trans hf3
  have hf2 : f 2 = s2 := g2.trans hf2
  have hf3 : f 3 = u := g3.trans hf3
  have ho := go
  have hz6 := gz
  clear ef eo ez g0 g2 g3 go gz gt
  have hWP : va_P D vwCl (all cA Ad (f, ((nI o), (nI z)), tx, rt)) H := hWP
  have hWD : va_D A (all cA Ad (f, ((nI o), (nI z)), tx, rt)) := hWD
  have hG : GD K (f 0) := by rw [hf0]; exact hGu
  refine lv_iload hx hb dL_isAhead_130 (lv_at hl 4 rfl) ?_
  refine lv_icmp_ne (tgt := 148) hx hb dL_isAhead_132 (by decide) (fun h => absurd rfl h) (fun _ => ?_)
  refine lv_aload_n hx hb dL_isAhead_135 rfl (lv_at hl 6 rfl) ?_
  refine mu_Sw (As := [.ref (Ad 10 0)]) (rest := []) ⟨hx, hb, hml, hown, hts⟩ (c_L_looks l D cA _ Ad f o z tx rt hWP (hWD.weaken (fun _ _ _ _ => trivial))) (cwS2 1 hts gL_isAhead_L_looks rfl rfl rfl (by decide +kernel) ⟨Nat.le_of_ble_eq_true rfl, Nat.le_of_ble_eq_true rfl⟩) hKN hWP hWD hS hA (all_fst _ _ _ _) rfl hl.1 rfl (lv_room (Nat.le_of_ble_eq_true rfl)) dL_isAhead_136 ⟨Nat.zero_le _, Nat.zero_le _⟩ (fun H locs hWP hWD hS => ?_)
  have hWP : va_P D vwCl (all cA Ad (f, ((nI o), (nI z)), tx, (rt.1, (lkW (f 0) rt.2 9)))) H := hWP
  have hWD : va_D A (all cA Ad (f, ((nI o), (nI z)), tx, (rt.1, (lkW (f 0) rt.2 9)))) := hWD
  refine lz_topL (v := (looksV u)) (by rw [hf0]) ?_
  obtain ⟨rt, er, gr⟩ := gR rt (lkW (f 0) rt.2 9)
  rw [er] at hWP hWD
  have hk : rt.1 0 = 1 := by rw [gr]; exact hk
  have hk1 : rt.1 1 = 1 := by rw [gr]; exact hk1
  clear er gr
  have hWP : va_P D vwCl (all cA Ad (f, ((nI o), (nI z)), tx, rt)) H := hWP
  have hWD : va_D A (all cA Ad (f, ((nI o), (nI z)), tx, rt)) := hWD
  refine lv_lload_n hx hb dL_isAhead_139 rfl (lv_at hl 5 rfl) ?_
  refine W.lcmp hx hb dL_isAhead_140 ?_
  refine lz_top (v := 0) (lg_cmp_self _) ?_
  refine lv_if_ne (tgt := 148) hx hb dL_isAhead_141 (by decide) (fun h => absurd (by decide) h) (fun _ => ?_)
  refine lv_iconst (v := 1) hx hb dL_isAhead_144 (by decide) ?_
  refine lv_goto (tgt := 149) hx hb dL_isAhead_145 (by decide) ?_
  refine lv_istore (lv' := [(9, .int 1), (8, .int (nI nS)), (7, .int (rucS u t)), (6, .int (tellsS u t)), (5, .int (cbtT u 16)), (3, .long (looksV u)), (0, .ref (Ad 10 0)), (1, .int (nI t)), (2, .int (nI N))]) hx hb dL_isAhead_149 hl (by decide) rfl (fun ls hl => ?_)
  refine lv_aload_n hx hb dL_isAhead_151 rfl (lv_at hl 6 rfl) ?_
  refine mu_Vw (ci := 4) (q0 := 0) (As := []) (rest := []) ⟨hx, hb, hml, hown, hts⟩ (c_X4_bestGuard l D cA _ Ad f o z tx rt hG.ru hWP (hWD.weaken (fun _ _ _ _ => trivial))) (cwV 0 hts gL_isAhead_X4_bestGuard rfl rfl rfl (by decide +kernel) ⟨Nat.le_of_ble_eq_true rfl, Nat.le_of_ble_eq_true rfl⟩) hKN hWP hWD hS hA (lw_fP 10 (by decide) hWP : va_P D vwCl ((wLm cA Ad rt) ++ (rst cA Ad (f, ((nI o), (nI z)), tx, rt) 10)) H) rfl rfl (all_fst _ _ _ _) rfl hl.1 rfl (lv_room (Nat.le_of_ble_eq_true rfl)) dL_isAhead_152 ⟨Nat.zero_le _, Nat.zero_le _⟩ (fun H locs hWP hWD hS => ?_)
  have hWP : va_P D vwCl (all cA Ad ((upS f 1 (setGd (f 0) (bgT (f 0) 16).2.2)), ((nI o), (nI z)), tx, rt)) H := hWP
  have hWD : va_D A (all cA Ad ((upS f 1 (setGd (f 0) (bgT (f 0) 16).2.2)), ((nI o), (nI z)), tx, rt)) := hWD
  refine lz_top (v := (bgT (f 0) 16).1) rfl ?_
  refine lz_top (v := (bgT u 16).1) (by rw [hf0]) ?_
  obtain ⟨f, ef, g0, g2, g3⟩ := gS1 f (setGd (f 0) (bgT (f 0) 16).2.2)
  rw [ef] at hWP hWD
  have hG := hG
  rw [← g0] at hG
  have hf0 := g0.trans hf0
  have hf2 := g2.trans hf2
  have hf3 := g3.trans hf3
  clear ef g0 g2 g3
  have hWP : va_P D vwCl (all cA Ad (f, ((nI o), (nI z)), tx, rt)) H := hWP
  have hWD : va_D A (all cA Ad (f, ((nI o), (nI z)), tx, rt)) := hWD
  refine lv_istore (lv' := [(10, .int ((bgT u 16).1)), (9, .int 1), (8, .int (nI nS)), (7, .int (rucS u t)), (6, .int (tellsS u t)), (5, .int (cbtT u 16)), (3, .long (looksV u)), (0, .ref (Ad 10 0)), (1, .int (nI t)), (2, .int (nI N))]) hx hb dL_isAhead_155 hl (by decide) rfl (fun ls hl => ?_)
  refine lv_aload_n hx hb dL_isAhead_157 rfl (lv_at hl 7 rfl) ?_
  refine lv_iconst (v := 5) hx hb dL_isAhead_158 (by decide) ?_
  refine mu_Vw (ci := 4) (q0 := 0) (As := [.int 5]) (rest := []) ⟨hx, hb, hml, hown, hts⟩ (c_X4_count l D cA _ Ad f o z tx rt 5 (by decide) hWP (hWD.weaken (fun _ _ _ _ => trivial))) (cwV 1 hts gL_isAhead_X4_count rfl rfl rfl (by decide +kernel) ⟨Nat.le_of_ble_eq_true rfl, Nat.le_of_ble_eq_true rfl⟩) hKN hWP hWD hS hA (lw_fP 10 (by decide) hWP : va_P D vwCl ((wLm cA Ad rt) ++ (rst cA Ad (f, ((nI o), (nI z)), tx, rt) 10)) H) rfl rfl (all_fst _ _ _ _) rfl hl.1 rfl (lv_room (Nat.le_of_ble_eq_true rfl)) dL_isAhead_159 ⟨Nat.zero_le _, Nat.zero_le _⟩ (fun H locs hWP hWD hS => ?_)
  have hWP : va_P D vwCl (all cA Ad (f, ((nI o), (nI z)), tx, rt)) H := hWP
  have hWD : va_D A (all cA Ad (f, ((nI o), (nI z)), tx, rt)) := hWD
  refine lz_top (v := (bcF (f 0).2.2.2.2.1)) rfl ?_
  refine lz_top (v := (bcF u.2.2.2.2.1)) (by rw [hf0]) ?_
  refine lv_istore (lv' := [(11, .int (bcF u.2.2.2.2.1)), (10, .int ((bgT u 16).1)), (9, .int 1), (8, .int (nI nS)), (7, .int (rucS u t)), (6, .int (tellsS u t)), (5, .int (cbtT u 16)), (3, .long (looksV u)), (0, .ref (Ad 10 0)), (1, .int (nI t)), (2, .int (nI N))]) hx hb dL_isAhead_162 hl (by decide) rfl (fun ls hl => ?_)
  rcases ahead_guard hGu.2.2.2.2.1 with ⟨e1, e2⟩ | ⟨b, hb16, e1, e2, e3, e4⟩
  · rw [e1] at hl
    refine lv_iload hx hb dL_isAhead_164 (lv_at hl 1 rfl) ?_
    refine lv_if_ge (tgt := 173) hx hb dL_isAhead_166 (by decide) (fun h => absurd h (by decide)) (fun _ => ?_)
    refine lv_iconst (v := 0) hx hb dL_isAhead_169 (by decide) ?_
    refine lv_goto (tgt := 185) hx hb dL_isAhead_170 (by decide) ?_
    refine lv_istore (lv' := [(12, .int 0), (11, .int (bcF u.2.2.2.2.1)), (10, .int (-1)), (9, .int 1), (8, .int (nI nS)), (7, .int (rucS u t)), (6, .int (tellsS u t)), (5, .int (cbtT u 16)), (3, .long (looksV u)), (0, .ref (Ad 10 0)), (1, .int (nI t)), (2, .int (nI N))]) hx hb dL_isAhead_185 hl (by decide) rfl (fun ls hl => ?_)
    refine lv_iload hx hb dL_isAhead_187 (lv_at hl 3 rfl) ?_
    refine lv_if_eq (tgt := 231) hx hb dL_isAhead_189 (by decide) (fun h => absurd h (by decide)) (fun _ => ?_)
    refine lv_iload hx hb dL_isAhead_192 (lv_at hl 2 rfl) ?_
    refine lv_if_ge (tgt := 201) hx hb dL_isAhead_194 (by decide) (fun h => absurd h (by decide)) (fun _ => ?_)
    refine lv_iconst (v := 1) hx hb dL_isAhead_197 (by decide) ?_
    refine lv_goto (tgt := 202) hx hb dL_isAhead_198 (by decide) ?_
    refine lv_iload hx hb dL_isAhead_202 (lv_at hl 1 rfl) ?_
    refine lv_bipush (v := 16) hx hb dL_isAhead_204 (by decide) ?_
    refine lv_icmp_ne (tgt := 213) hx hb dL_isAhead_206 (by decide) (fun h => absurd e2 h) (fun _ => ?_)
    refine lv_iconst (v := 1) hx hb dL_isAhead_209 (by decide) ?_
    refine lv_goto (tgt := 214) hx hb dL_isAhead_210 (by decide) ?_
    refine lv_icmp_ne (tgt := 231) hx hb dL_isAhead_214 (by decide) (fun h => absurd rfl h) (fun _ => ?_)
    refine lv_aload_n hx hb dL_isAhead_217 rfl (lv_at hl 9 rfl) ?_
    refine lv_iconst (v := 1) hx hb dL_isAhead_218 (by decide) ?_
    have hG3 : GD K (f 3) := by rw [hf3]; exact hGu
    refine mu_Vw (ci := 4) (q0 := 0) (As := [.int 1]) (rest := []) ⟨hx, hb, hml, hown, hts⟩ (c_X4_goBack1 l D cA _ Ad f o z tx rt ho hz6 hG.ru hG3.ru hk1 hWP (hWD.weaken (fun _ _ _ _ => trivial))) (cwV 1 hts gL_isAhead_X4_goBack rfl rfl rfl (by decide +kernel) ⟨Nat.le_of_ble_eq_true rfl, Nat.le_of_ble_eq_true rfl⟩) hKN hWP hWD hS hA (lw_fP 10 (by decide) hWP : va_P D vwCl ((wLm cA Ad rt) ++ (rst cA Ad (f, ((nI o), (nI z)), tx, rt) 10)) H) rfl rfl (all_fst _ _ _ _) rfl hl.1 rfl (lv_room (Nat.le_of_ble_eq_true rfl)) dL_isAhead_219 ⟨Nat.zero_le _, Nat.zero_le _⟩ (fun H locs hWP hWD hS => ?_)
    have hWP : va_P D vwCl (all cA Ad ((upS (pushF f ((o + z) % 6)) 0 (f 3)), ((nI (if z < 6 then o else (o + 1) % 6)), (nI (if z < 6 then z + 1 else z))), tx, rt)) H := hWP
    have hWD : va_D A (all cA Ad ((upS (pushF f ((o + z) % 6)) 0 (f 3)), ((nI (if z < 6 then o else (o + 1) % 6)), (nI (if z < 6 then z + 1 else z))), tx, rt)) := hWD
    refine lz_top (v := (cbtT (f 3) 16)) rfl ?_
    refine lz_top (v := (cbtT u 16)) (by rw [hf3]) ?_
    obtain ⟨f, o, z, ef, eo, ez, g0, g2, g3, go, gz, hz1, gt, gq⟩ := gpush f ho hz6 (f 3)
    rw [ef, eo, ez] at hWP hWD
    have htop := gt.trans hf0
    have hf0 : f 0 = u := g0.trans hf3
    have hf2 : f 2 = s2 := g2.trans hf2
    have hf3 : f 3 = u := g3.trans hf3
    have ho := go
    have hz6 := gz
    clear ef eo ez g0 g2 g3 go gz gt
    have hWP : va_P D vwCl (all cA Ad (f, ((nI o), (nI z)), tx, rt)) H := hWP
    have hWD : va_D A (all cA Ad (f, ((nI o), (nI z)), tx, rt)) := hWD
    have hG : GD K (f 0) := by rw [hf0]; exact hGu
    refine lv_iload hx hb dL_isAhead_222 (lv_at hl 7 rfl) ?_
    refine lv_icmp_ne (tgt := 231) hx hb dL_isAhead_224 (by decide) (fun h => absurd rfl h) (fun _ => ?_)
    refine lv_iconst (v := 1) hx hb dL_isAhead_227 (by decide) ?_
    refine lv_goto (tgt := 232) hx hb dL_isAhead_228 (by decide) ?_
    refine lv_istore (lv' := [(9, .int 1), (12, .int 0), (11, .int (bcF u.2.2.2.2.1)), (10, .int (-1)), (8, .int (nI nS)), (7, .int (rucS u t)), (6, .int (tellsS u t)), (5, .int (cbtT u 16)), (3, .long (looksV u)), (0, .ref (Ad 10 0)), (1, .int (nI t)), (2, .int (nI N))]) hx hb dL_isAhead_232 hl (by decide) rfl (fun ls hl => ?_)
    refine lv_iconst (v := 0) hx hb dL_isAhead_234 (by decide) ?_
    refine lv_istore (lv' := [(13, .int 0), (9, .int 1), (12, .int 0), (11, .int (bcF u.2.2.2.2.1)), (10, .int (-1)), (8, .int (nI nS)), (7, .int (rucS u t)), (6, .int (tellsS u t)), (5, .int (cbtT u 16)), (3, .long (looksV u)), (0, .ref (Ad 10 0)), (1, .int (nI t)), (2, .int (nI N))]) hx hb dL_isAhead_235 hl (by decide) rfl (fun ls hl => ?_)
    refine lv_iload hx hb dL_isAhead_237 (lv_at hl 0 rfl) ?_
    refine lv_bipush (v := 16) hx hb dL_isAhead_239 (by decide) ?_
    refine lv_icmp_ge (tgt := 327) hx hb dL_isAhead_241 (by decide) (fun h => absurd h (by decide)) (fun _ => ?_)
    refine lv_iload hx hb dL_isAhead_244 (lv_at hl 1 rfl) ?_
    refine lv_if_eq (tgt := 327) hx hb dL_isAhead_246 (by decide) (fun h => absurd h (by decide)) (fun _ => ?_)
    refine lv_iload hx hb dL_isAhead_249 (lv_at hl 4 rfl) ?_
    refine lv_if_lt (tgt := 327) hx hb dL_isAhead_251 (by decide) (fun _ => ?_) (fun h => absurd (by decide) h)
    refine lv_aload_n hx hb dL_isAhead_327 rfl (lv_at hl 10 rfl) ?_
    refine lv_iload_n hx hb dL_isAhead_328 rfl (lv_at hl 12 rfl) ?_
    refine lv_iconst (v := 0) hx hb dL_isAhead_329 (by decide) ?_
    refine mu_Vw (ci := 4) (q0 := 0) (As := [.int (nI N), .int 0]) (rest := []) ⟨hx, hb, hml, hown, hts⟩ (c_X4_ifGone0 l D cA _ Ad f o z tx rt hG.ru hG.pl N hN1 hN hWP (hWD.weaken (fun _ _ _ _ => trivial))) (cwV 2 hts gL_isAhead_X4_ifGone rfl rfl rfl (by decide +kernel) ⟨Nat.le_of_ble_eq_true rfl, Nat.le_of_ble_eq_true rfl⟩) hKN hWP hWD hS hA (lw_fP 10 (by decide) hWP : va_P D vwCl ((wLm cA Ad rt) ++ (rst cA Ad (f, ((nI o), (nI z)), tx, rt) 10)) H) rfl rfl (all_fst _ _ _ _) rfl hl.1 rfl (lv_room (Nat.le_of_ble_eq_true rfl)) dL_isAhead_330 ⟨Nat.zero_le _, Nat.zero_le _⟩ (fun H locs hWP hWD hS => ?_)
    have hWP : va_P D vwCl (all cA Ad ((upS f 1 (runS N (f 0)).2), ((nI o), (nI z)), tx, rt)) H := hWP
    have hWD : va_D A (all cA Ad ((upS f 1 (runS N (f 0)).2), ((nI o), (nI z)), tx, rt)) := hWD
    refine lz_top (v := (goneS (f 0) N 0)) rfl ?_
    refine lz_top (v := (nI (runS N u).1)) (by rw [hf0]; rfl) ?_
    obtain ⟨f, ef, g0, g2, g3⟩ := gS1 f ((runS N (f 0)).2)
    rw [ef] at hWP hWD
    have hG := hG
    rw [← g0] at hG
    have hf0 := g0.trans hf0
    have hf2 := g2.trans hf2
    have hf3 := g3.trans hf3
    clear ef g0 g2 g3
    have hWP : va_P D vwCl (all cA Ad (f, ((nI o), (nI z)), tx, rt)) H := hWP
    have hWD : va_D A (all cA Ad (f, ((nI o), (nI z)), tx, rt)) := hWD
    refine lv_istore (lv' := [(13, .int (nI (runS N u).1)), (9, .int 1), (12, .int 0), (11, .int (bcF u.2.2.2.2.1)), (10, .int (-1)), (8, .int (nI nS)), (7, .int (rucS u t)), (6, .int (tellsS u t)), (5, .int (cbtT u 16)), (3, .long (looksV u)), (0, .ref (Ad 10 0)), (1, .int (nI t)), (2, .int (nI N))]) hx hb dL_isAhead_333 hl (by decide) rfl (fun ls hl => ?_)
    refine lv_aload_n hx hb dL_isAhead_335 rfl (lv_at hl 10 rfl) ?_
    refine lv_iload_n hx hb dL_isAhead_336 rfl (lv_at hl 12 rfl) ?_
    refine lv_iconst (v := 1) hx hb dL_isAhead_337 (by decide) ?_
    refine mu_Vw (ci := 4) (q0 := 0) (As := [.int (nI N), .int 1]) (rest := []) ⟨hx, hb, hml, hown, hts⟩ (c_X4_ifGone1 l D cA _ Ad f o z tx rt hG.ru hG.pl N hN1 hN hWP (hWD.weaken (fun _ _ _ _ => trivial))) (cwV 2 hts gL_isAhead_X4_ifGone rfl rfl rfl (by decide +kernel) ⟨Nat.le_of_ble_eq_true rfl, Nat.le_of_ble_eq_true rfl⟩) hKN hWP hWD hS hA (lw_fP 10 (by decide) hWP : va_P D vwCl ((wLm cA Ad rt) ++ (rst cA Ad (f, ((nI o), (nI z)), tx, rt) 10)) H) rfl rfl (all_fst _ _ _ _) rfl hl.1 rfl (lv_room (Nat.le_of_ble_eq_true rfl)) dL_isAhead_338 ⟨Nat.zero_le _, Nat.zero_le _⟩ (fun H locs hWP hWD hS => ?_)
    have hWP : va_P D vwCl (all cA Ad ((upS f 1 (runS N (f 0)).2), ((nI o), (nI z)), tx, rt)) H := hWP
    have hWD : va_D A (all cA Ad ((upS f 1 (runS N (f 0)).2), ((nI o), (nI z)), tx, rt)) := hWD
    refine lz_top (v := (goneS (f 0) N 1)) rfl ?_
    refine lz_top (v := ((runS N u).2.2.2.2.2.2.2.2.2.2.2.1)) (by rw [hf0]; rfl) ?_
    obtain ⟨f, ef, g0, g2, g3⟩ := gS1 f ((runS N (f 0)).2)
    rw [ef] at hWP hWD
    have hG := hG
    rw [← g0] at hG
    have hf0 := g0.trans hf0
    have hf2 := g2.trans hf2
    have hf3 := g3.trans hf3
    clear ef g0 g2 g3
    have hWP : va_P D vwCl (all cA Ad (f, ((nI o), (nI z)), tx, rt)) H := hWP
    have hWD : va_D A (all cA Ad (f, ((nI o), (nI z)), tx, rt)) := hWD
    refine lv_istore (lv' := [(14, .int ((runS N u).2.2.2.2.2.2.2.2.2.2.2.1)), (13, .int (nI (runS N u).1)), (9, .int 1), (12, .int 0), (11, .int (bcF u.2.2.2.2.1)), (10, .int (-1)), (8, .int (nI nS)), (7, .int (rucS u t)), (6, .int (tellsS u t)), (5, .int (cbtT u 16)), (3, .long (looksV u)), (0, .ref (Ad 10 0)), (1, .int (nI t)), (2, .int (nI N))]) hx hb dL_isAhead_341 hl (by decide) rfl (fun ls hl => ?_)
    refine lv_aload_n hx hb dL_isAhead_343 rfl (lv_at hl 11 rfl) ?_
    refine lv_iload_n hx hb dL_isAhead_344 rfl (lv_at hl 13 rfl) ?_
    refine lv_iconst (v := 2) hx hb dL_isAhead_345 (by decide) ?_
    refine mu_Vw (ci := 4) (q0 := 0) (As := [.int (nI N), .int 2]) (rest := []) ⟨hx, hb, hml, hown, hts⟩ (c_X4_ifGone2 l D cA _ Ad f o z tx rt hG.ru hG.pl N hN1 hN hWP (hWD.weaken (fun _ _ _ _ => trivial))) (cwV 2 hts gL_isAhead_X4_ifGone rfl rfl rfl (by decide +kernel) ⟨Nat.le_of_ble_eq_true rfl, Nat.le_of_ble_eq_true rfl⟩) hKN hWP hWD hS hA (lw_fP 10 (by decide) hWP : va_P D vwCl ((wLm cA Ad rt) ++ (rst cA Ad (f, ((nI o), (nI z)), tx, rt) 10)) H) rfl rfl (all_fst _ _ _ _) rfl hl.1 rfl (lv_room (Nat.le_of_ble_eq_true rfl)) dL_isAhead_346 ⟨Nat.zero_le _, Nat.zero_le _⟩ (fun H locs hWP hWD hS => ?_)
    have hWP : va_P D vwCl (all cA Ad ((upS f 1 (runS N (f 0)).2), ((nI o), (nI z)), tx, rt)) H := hWP
    have hWD : va_D A (all cA Ad ((upS f 1 (runS N (f 0)).2), ((nI o), (nI z)), tx, rt)) := hWD
    refine lz_top (v := (goneS (f 0) N 2)) rfl ?_
    refine lz_top (v := ((runS N u).2.2.2.2.2.2.2.2.2.2.1)) (by rw [hf0]; rfl) ?_
    obtain ⟨f, ef, g0, g2, g3⟩ := gS1 f ((runS N (f 0)).2)
    rw [ef] at hWP hWD
    have hG := hG
    rw [← g0] at hG
    have hf0 := g0.trans hf0
    have hf2 := g2.trans hf2
    have hf3 := g3.trans hf3
    clear ef g0 g2 g3
    have hWP : va_P D vwCl (all cA Ad (f, ((nI o), (nI z)), tx, rt)) H := hWP
    have hWD : va_D A (all cA Ad (f, ((nI o), (nI z)), tx, rt)) := hWD
    refine lv_istore (lv' := [(15, .int ((runS N u).2.2.2.2.2.2.2.2.2.2.1)), (14, .int ((runS N u).2.2.2.2.2.2.2.2.2.2.2.1)), (13, .int (nI (runS N u).1)), (9, .int 1), (12, .int 0), (11, .int (bcF u.2.2.2.2.1)), (10, .int (-1)), (8, .int (nI nS)), (7, .int (rucS u t)), (6, .int (tellsS u t)), (5, .int (cbtT u 16)), (3, .long (looksV u)), (0, .ref (Ad 10 0)), (1, .int (nI t)), (2, .int (nI N))]) hx hb dL_isAhead_349 hl (by decide) rfl (fun ls hl => ?_)
    refine lv_iload hx hb dL_isAhead_351 (lv_at hl 3 rfl) ?_
    refine lv_if_eq (tgt := 421) hx hb dL_isAhead_353 (by decide) (fun h => absurd h (by decide)) (fun _ => ?_)
    refine lv_aload_n hx hb dL_isAhead_356 rfl (lv_at hl 12 rfl) ?_
    refine lv_iload_n hx hb dL_isAhead_357 rfl (lv_at hl 14 rfl) ?_
    refine mu_Vw (ci := 4) (q0 := 0) (As := [.int (nI N)]) (rest := []) ⟨hx, hb, hml, hown, hts⟩ (c_X4_go l D cA _ Ad f o z tx rt ho hz6 hG.ru hG.pl N (by omega) (by omega) hWP (hWD.weaken (fun _ _ _ _ => trivial))) (cwV 1 hts gL_isAhead_X4_go rfl rfl rfl (by decide +kernel) ⟨Nat.le_of_ble_eq_true rfl, Nat.le_of_ble_eq_true rfl⟩) hKN hWP hWD hS hA (lw_fP 10 (by decide) hWP : va_P D vwCl ((wLm cA Ad rt) ++ (rst cA Ad (f, ((nI o), (nI z)), tx, rt) 10)) H) rfl rfl (all_fst _ _ _ _) rfl hl.1 rfl (lv_room (Nat.le_of_ble_eq_true rfl)) dL_isAhead_358 ⟨Nat.zero_le _, Nat.zero_le _⟩ (fun H locs hWP hWD hS => ?_)
    have hWP : va_P D vwCl (all cA Ad ((upS (pushF f ((o + z) % 6)) 0 ((runS N (f 0)).2)), ((nI (if z < 6 then o else (o + 1) % 6)), (nI (if z < 6 then z + 1 else z))), tx, rt)) H := hWP
    have hWD : va_D A (all cA Ad ((upS (pushF f ((o + z) % 6)) 0 ((runS N (f 0)).2)), ((nI (if z < 6 then o else (o + 1) % 6)), (nI (if z < 6 then z + 1 else z))), tx, rt)) := hWD
    refine lz_top (v := (nI (runS N (f 0)).1)) rfl ?_
    refine lz_top (v := (nI (runS N u).1)) (by rw [hf0]) ?_
    obtain ⟨f, o, z, ef, eo, ez, g0, g2, g3, go, gz, hz1, gt, gq⟩ := gpush f ho hz6 ((runS N (f 0)).2)
    rw [ef, eo, ez] at hWP hWD
    have htop := gt.trans hf0
    have hf0 : f 0 = (runS N u).2 := g0.trans (by rw [hf0])
    have hf2 : f 2 = s2 := g2.trans hf2
    have hf3 : f 3 = u := g3.trans hf3
    have ho := go
    have hz6 := gz
    clear ef eo ez g0 g2 g3 go gz gt
    have hWP : va_P D vwCl (all cA Ad (f, ((nI o), (nI z)), tx, rt)) H := hWP
    have hWD : va_D A (all cA Ad (f, ((nI o), (nI z)), tx, rt)) := hWD
    have hG : GD (K + N) (f 0) := by rw [hf0]; exact (GD_run N hGu)
    refine lv_iload hx hb dL_isAhead_361 (lv_at hl 2 rfl) ?_
    refine lv_icmp_ne (tgt := 421) hx hb dL_isAhead_363 (by decide) (fun h => absurd rfl h) (fun _ => ?_)
    refine lv_aload_n hx hb dL_isAhead_366 rfl (lv_at hl 12 rfl) ?_
    refine lv_iconst (v := 1) hx hb dL_isAhead_367 (by decide) ?_
    refine ro_V (ci := 4) (q0 := 0) (As := [.int 1]) (rest := []) ⟨hx, hb, hml, hown, hts⟩ (c_X4_machine l D cA _ Ad f o z tx rt 1 (by decide) hWP) (cwV 1 hts gL_isAhead_X4_machine rfl rfl rfl (by decide +kernel) ⟨Nat.le_of_ble_eq_true rfl, Nat.le_of_ble_eq_true rfl⟩) hKN (lw_fP 10 (by decide) hWP : va_P D vwCl ((wLm cA Ad rt) ++ (rst cA Ad (f, ((nI o), (nI z)), tx, rt) 10)) H) rfl rfl rfl hl.1 rfl (lv_room (Nat.le_of_ble_eq_true rfl)) dL_isAhead_368 ⟨Nat.zero_le _, Nat.zero_le _⟩ ?_
    refine lz_top (v := (f 0).2.2.2.2.2.2.2.2.2.2.1) rfl ?_
    refine lz_top (v := ((runS N u).2.2.2.2.2.2.2.2.2.2.2.1)) (by rw [hf0]) ?_
    refine lv_iload hx hb dL_isAhead_371 (lv_at hl 1 rfl) ?_
    refine lv_icmp_ne (tgt := 421) hx hb dL_isAhead_373 (by decide) (fun h => absurd rfl h) (fun _ => ?_)
    refine lv_aload_n hx hb dL_isAhead_376 rfl (lv_at hl 12 rfl) ?_
    refine lv_iconst (v := 0) hx hb dL_isAhead_377 (by decide) ?_
    refine ro_V (ci := 4) (q0 := 0) (As := [.int 0]) (rest := []) ⟨hx, hb, hml, hown, hts⟩ (c_X4_machine l D cA _ Ad f o z tx rt 0 (by decide) hWP) (cwV 1 hts gL_isAhead_X4_machine rfl rfl rfl (by decide +kernel) ⟨Nat.le_of_ble_eq_true rfl, Nat.le_of_ble_eq_true rfl⟩) hKN (lw_fP 10 (by decide) hWP : va_P D vwCl ((wLm cA Ad rt) ++ (rst cA Ad (f, ((nI o), (nI z)), tx, rt) 10)) H) rfl rfl rfl hl.1 rfl (lv_room (Nat.le_of_ble_eq_true rfl)) dL_isAhead_378 ⟨Nat.zero_le _, Nat.zero_le _⟩ ?_
    refine lz_top (v := (f 0).2.2.2.2.2.2.2.2.2.1) rfl ?_
    refine lz_top (v := ((runS N u).2.2.2.2.2.2.2.2.2.2.1)) (by rw [hf0]) ?_
    refine lv_iload hx hb dL_isAhead_381 (lv_at hl 0 rfl) ?_
    refine lv_icmp_ne (tgt := 421) hx hb dL_isAhead_383 (by decide) (fun h => absurd rfl h) (fun _ => ?_)
    refine lv_iload hx hb dL_isAhead_386 (lv_at hl 2 rfl) ?_
    refine lv_iload_n hx hb dL_isAhead_388 rfl (lv_at hl 14 rfl) ?_
    have hj_389 : W p l e ({ frames := 7, cells := 0, slots := 0, locals := 162 } : Room) s m ([.ref (Ad 10 0), .int (nI t), .int (nI N)] : List Value).toArray below meth c H locs 0 0 (MQ below (meQ D cA Ad s.heap w0 (LKp u s2 tx 1) (some (.int 1))) ([.ref (Ad 10 0), .int (nI t), .int (nI N)] : List Value).toArray s 0 0 A) (F0 m 401 ls []) → W p l e ({ frames := 7, cells := 0, slots := 0, locals := 162 } : Room) s m ([.ref (Ad 10 0), .int (nI t), .int (nI N)] : List Value).toArray below meth c H locs 0 0 (MQ below (meQ D cA Ad s.heap w0 (LKp u s2 tx 1) (some (.int 1))) ([.ref (Ad 10 0), .int (nI t), .int (nI N)] : List Value).toArray s 0 0 A) (F0 m 389 ls [.int (nI N), .int (nI (runS N u).1)]) := by
      intro hJ
      refine lv_icmp_eq (tgt := 401) hx hb dL_isAhead_389 (by decide) (fun c_389 => ?_) (fun c_389 => ?_)
      · exact hJ
      · refine lv_aload_n hx hb dL_isAhead_392 rfl (lv_at hl 12 rfl) ?_
        refine lv_bipush (v := 6) hx hb dL_isAhead_393 (by decide) ?_
        refine ro_V (ci := 4) (q0 := 0) (As := [.int 6]) (rest := []) ⟨hx, hb, hml, hown, hts⟩ (c_X4_machine l D cA _ Ad f o z tx rt 6 (by decide) hWP) (cwV 1 hts gL_isAhead_X4_machine rfl rfl rfl (by decide +kernel) ⟨Nat.le_of_ble_eq_true rfl, Nat.le_of_ble_eq_true rfl⟩) hKN (lw_fP 10 (by decide) hWP : va_P D vwCl ((wLm cA Ad rt) ++ (rst cA Ad (f, ((nI o), (nI z)), tx, rt) 10)) H) rfl rfl rfl hl.1 rfl (lv_room (Nat.le_of_ble_eq_true rfl)) dL_isAhead_395 ⟨Nat.zero_le _, Nat.zero_le _⟩ ?_
        refine lz_top (v := (machS (f 0) 6)) rfl ?_
        refine lz_top (v := (machS (runS N u).2 6)) (by rw [hf0]) ?_
        refine lv_if_ne (tgt := 421) hx hb dL_isAhead_398 (by decide) (fun h => absurd (run_ne hN c_389) h) (fun _ => ?_)
        exact hJ
    refine hj_389 ?_
    refine lv_aload_n hx hb dL_isAhead_401 rfl (lv_at hl 12 rfl) ?_
    obtain ⟨z, rfl⟩ : ∃ w, z = w + 1 := ⟨z - 1, by omega⟩
    rw [Nat.add_sub_cancel] at htop
    have hWP : va_P D vwCl (all cA Ad (f, ((nI o), (nI (z + 1))), tx, rt)) H := hWP
    have hWD : va_D A (all cA Ad (f, ((nI o), (nI (z + 1))), tx, rt)) := hWD
    refine mu_Vw (ci := 4) (q0 := 0) (As := []) (rest := []) ⟨hx, hb, hml, hown, hts⟩ (c_X4_undo l D cA _ Ad f o z tx rt ho (by omega) (by rw [htop]; exact hGu.ru) hWP (hWD.weaken (fun _ _ _ _ => trivial))) (cwV 0 hts gL_isAhead_X4_undo rfl rfl rfl (by decide +kernel) ⟨Nat.le_of_ble_eq_true rfl, Nat.le_of_ble_eq_true rfl⟩) hKN hWP hWD hS hA (lw_fP 10 (by decide) hWP : va_P D vwCl ((wLm cA Ad rt) ++ (rst cA Ad (f, ((nI o), (nI (z + 1))), tx, rt) 10)) H) rfl rfl (all_fst _ _ _ _) rfl hl.1 rfl (lv_room (Nat.le_of_ble_eq_true rfl)) dL_isAhead_402 ⟨Nat.zero_le _, Nat.zero_le _⟩ (fun H locs hWP hWD hS => ?_)
    have hWP : va_P D vwCl (all cA Ad ((upS f 0 (f (4 + (o + z) % 6))), ((nI o), (nI z)), tx, rt)) H := hWP
    have hWD : va_D A (all cA Ad ((upS f 0 (f (4 + (o + z) % 6))), ((nI o), (nI z)), tx, rt)) := hWD
    refine lz_top (v := (nI z)) rfl ?_
    obtain ⟨f, ef, g0, g2, g3⟩ := gU f (4 + (o + z) % 6)
    rw [ef] at hWP hWD
    have hf0 : f 0 = u := g0.trans htop
    have hf2 : f 2 = s2 := g2.trans hf2
    have hf3 : f 3 = u := g3.trans hf3
    have hz6 : z ≤ 6 := by omega
    have hG : GD K (f 0) := by rw [hf0]; exact hGu
    clear ef g0 g2 g3
    have hWP : va_P D vwCl (all cA Ad (f, ((nI o), (nI z)), tx, rt)) H := hWP
    have hWD : va_D A (all cA Ad (f, ((nI o), (nI z)), tx, rt)) := hWD
    refine lv_if_lt (tgt := 421) hx hb dL_isAhead_405 (by decide) (fun h => absurd h (nI_pos (by omega))) (fun _ => ?_)
    refine lv_aload_n hx hb dL_isAhead_408 rfl (lv_at hl 12 rfl) ?_
    refine mu_Sw (As := [.ref (Ad 10 0)]) (rest := []) ⟨hx, hb, hml, hown, hts⟩ (c_L_looks l D cA _ Ad f o z tx rt hWP (hWD.weaken (fun _ _ _ _ => trivial))) (cwS2 1 hts gL_isAhead_L_looks rfl rfl rfl (by decide +kernel) ⟨Nat.le_of_ble_eq_true rfl, Nat.le_of_ble_eq_true rfl⟩) hKN hWP hWD hS hA (all_fst _ _ _ _) rfl hl.1 rfl (lv_room (Nat.le_of_ble_eq_true rfl)) dL_isAhead_409 ⟨Nat.zero_le _, Nat.zero_le _⟩ (fun H locs hWP hWD hS => ?_)
    have hWP : va_P D vwCl (all cA Ad (f, ((nI o), (nI z)), tx, (rt.1, (lkW (f 0) rt.2 9)))) H := hWP
    have hWD : va_D A (all cA Ad (f, ((nI o), (nI z)), tx, (rt.1, (lkW (f 0) rt.2 9)))) := hWD
    refine lz_topL (v := (looksV u)) (by rw [hf0]) ?_
    obtain ⟨rt, er, gr⟩ := gR rt (lkW (f 0) rt.2 9)
    rw [er] at hWP hWD
    have hk : rt.1 0 = 1 := by rw [gr]; exact hk
    have hk1 : rt.1 1 = 1 := by rw [gr]; exact hk1
    clear er gr
    have hWP : va_P D vwCl (all cA Ad (f, ((nI o), (nI z)), tx, rt)) H := hWP
    have hWD : va_D A (all cA Ad (f, ((nI o), (nI z)), tx, rt)) := hWD
    refine lv_lload_n hx hb dL_isAhead_412 rfl (lv_at hl 11 rfl) ?_
    refine W.lcmp hx hb dL_isAhead_413 ?_
    refine lz_top (v := 0) (lg_cmp_self _) ?_
    refine lv_if_ne (tgt := 421) hx hb dL_isAhead_414 (by decide) (fun h => absurd (by decide) h) (fun _ => ?_)
    refine lv_iconst (v := 1) hx hb dL_isAhead_417 (by decide) ?_
    refine lv_goto (tgt := 422) hx hb dL_isAhead_418 (by decide) ?_
    exact me_zret hx hb hr hlocks dL_isAhead_422 hAe hS hWP ⟨f, o, z, rt, rfl, hf0, hf2, ho, hz6, hk⟩ rfl rfl
  · rw [e1] at hl
    refine lv_iload hx hb dL_isAhead_164 (lv_at hl 1 rfl) ?_
    refine lv_if_ge (tgt := 173) hx hb dL_isAhead_166 (by decide) (fun _ => ?_) (fun h => absurd (nI_le (a := 0) (Nat.zero_le b) (by omega)) h)
    refine lv_aload_n hx hb dL_isAhead_173 rfl (lv_at hl 8 rfl) ?_
    refine lv_iload hx hb dL_isAhead_174 (lv_at hl 1 rfl) ?_
    refine mu_Vw (ci := 4) (q0 := 0) (As := [.int (nI b)]) (rest := []) ⟨hx, hb, hml, hown, hts⟩ (c_X4_guard l D cA _ Ad f o z tx rt ho hz6 hG.ru b (by omega) hWP (hWD.weaken (fun _ _ _ _ => trivial))) (cwV 1 hts gL_isAhead_X4_guard rfl rfl rfl (by decide +kernel) ⟨Nat.le_of_ble_eq_true rfl, Nat.le_of_ble_eq_true rfl⟩) hKN hWP hWD hS hA (lw_fP 10 (by decide) hWP : va_P D vwCl ((wLm cA Ad rt) ++ (rst cA Ad (f, ((nI o), (nI z)), tx, rt) 10)) H) rfl rfl (all_fst _ _ _ _) rfl hl.1 rfl (lv_room (Nat.le_of_ble_eq_true rfl)) dL_isAhead_176 ⟨Nat.zero_le _, Nat.zero_le _⟩ (fun H locs hWP hWD hS => ?_)
    have hWP : va_P D vwCl (all cA Ad ((upS (pushF f ((o + z) % 6)) 0 (setGd (f 0) ((f 0).2.2.2.2.1 ^^^ ((1 : Int32) <<< (nI b &&& 31))))), ((nI (if z < 6 then o else (o + 1) % 6)), (nI (if z < 6 then z + 1 else z))), tx, rt)) H := hWP
    have hWD : va_D A (all cA Ad ((upS (pushF f ((o + z) % 6)) 0 (setGd (f 0) ((f 0).2.2.2.2.1 ^^^ ((1 : Int32) <<< (nI b &&& 31))))), ((nI (if z < 6 then o else (o + 1) % 6)), (nI (if z < 6 then z + 1 else z))), tx, rt)) := hWD
    refine lz_top (v := (bitF ((f 0).2.2.2.2.1 ^^^ ((1 : Int32) <<< (nI b &&& 31))) (nI b))) rfl ?_
    refine lz_top (v := 1) (by rw [hf0]; exact guard_1 (by omega) e2) ?_
    obtain ⟨f, o, z, ef, eo, ez, g0, g2, g3, go, gz, hz1, gt, gq⟩ := gpush f ho hz6 (setGd (f 0) ((f 0).2.2.2.2.1 ^^^ ((1 : Int32) <<< (nI b &&& 31))))
    rw [ef, eo, ez] at hWP hWD
    have htop := gt.trans hf0
    have hf0 : f 0 = setGd u (u.2.2.2.2.1 ^^^ ((1 : Int32) <<< (nI b &&& 31))) := g0.trans (by rw [hf0])
    have hf2 : f 2 = s2 := g2.trans hf2
    have hf3 : f 3 = u := g3.trans hf3
    have ho := go
    have hz6 := gz
    clear ef eo ez g0 g2 g3 go gz gt
    have hWP : va_P D vwCl (all cA Ad (f, ((nI o), (nI z)), tx, rt)) H := hWP
    have hWD : va_D A (all cA Ad (f, ((nI o), (nI z)), tx, rt)) := hWD
    have hG : GD K (f 0) := by rw [hf0]; exact (GD_gd hGu (M16_xor hGu.2.2.2.2.1 (M16_1shl (by omega))))
    refine lv_aload_n hx hb dL_isAhead_179 rfl (lv_at hl 8 rfl) ?_
    refine lv_iconst (v := 4) hx hb dL_isAhead_180 (by decide) ?_
    refine mu_Vw (ci := 4) (q0 := 0) (As := [.int 4]) (rest := [.int 1]) ⟨hx, hb, hml, hown, hts⟩ (c_X4_count l D cA _ Ad f o z tx rt 4 (by decide) hWP (hWD.weaken (fun _ _ _ _ => trivial))) (cwV 1 hts gL_isAhead_X4_count rfl rfl rfl (by decide +kernel) ⟨Nat.le_of_ble_eq_true rfl, Nat.le_of_ble_eq_true rfl⟩) hKN hWP hWD hS hA (lw_fP 10 (by decide) hWP : va_P D vwCl ((wLm cA Ad rt) ++ (rst cA Ad (f, ((nI o), (nI z)), tx, rt) 10)) H) rfl rfl (all_fst _ _ _ _) rfl hl.1 rfl (lv_room (Nat.le_of_ble_eq_true rfl)) dL_isAhead_181 ⟨Nat.zero_le _, Nat.zero_le _⟩ (fun H locs hWP hWD hS => ?_)
    have hWP : va_P D vwCl (all cA Ad (f, ((nI o), (nI z)), tx, rt)) H := hWP
    have hWD : va_D A (all cA Ad (f, ((nI o), (nI z)), tx, rt)) := hWD
    refine lz_top (v := (rightT (f 0) 16)) rfl ?_
    refine lz_top (v := (rhoS u b)) (by rw [hf0]; exact guard_rho (by omega) e2) ?_
    refine lv_imul hx hb dL_isAhead_184 ?_
    refine lz_top (v := (rhoS u b)) (Int32.one_mul _) ?_
    refine lv_istore (lv' := [(12, .int (rhoS u b)), (11, .int (bcF u.2.2.2.2.1)), (10, .int (nI b)), (9, .int 1), (8, .int (nI nS)), (7, .int (rucS u t)), (6, .int (tellsS u t)), (5, .int (cbtT u 16)), (3, .long (looksV u)), (0, .ref (Ad 10 0)), (1, .int (nI t)), (2, .int (nI N))]) hx hb dL_isAhead_185 hl (by decide) rfl (fun ls hl => ?_)
    refine lv_iload hx hb dL_isAhead_187 (lv_at hl 3 rfl) ?_
    refine lv_if_eq (tgt := 231) hx hb dL_isAhead_189 (by decide) (fun h => absurd h (by decide)) (fun _ => ?_)
    refine lv_iload hx hb dL_isAhead_192 (lv_at hl 2 rfl) ?_
    refine lv_if_ge (tgt := 201) hx hb dL_isAhead_194 (by decide) (fun _ => ?_) (fun h => absurd (nI_le (a := 0) (Nat.zero_le b) (by omega)) h)
    refine lv_iconst (v := 0) hx hb dL_isAhead_201 (by decide) ?_
    refine lv_iload hx hb dL_isAhead_202 (lv_at hl 1 rfl) ?_
    refine lv_bipush (v := 16) hx hb dL_isAhead_204 (by decide) ?_
    refine lv_icmp_ne (tgt := 213) hx hb dL_isAhead_206 (by decide) (fun _ => ?_) (fun h => absurd h e3)
    refine lv_iconst (v := 0) hx hb dL_isAhead_213 (by decide) ?_
    refine lv_icmp_ne (tgt := 231) hx hb dL_isAhead_214 (by decide) (fun h => absurd rfl h) (fun _ => ?_)
    refine lv_aload_n hx hb dL_isAhead_217 rfl (lv_at hl 9 rfl) ?_
    refine lv_iconst (v := 1) hx hb dL_isAhead_218 (by decide) ?_
    have hG3 : GD K (f 3) := by rw [hf3]; exact hGu
    refine mu_Vw (ci := 4) (q0 := 0) (As := [.int 1]) (rest := []) ⟨hx, hb, hml, hown, hts⟩ (c_X4_goBack1 l D cA _ Ad f o z tx rt ho hz6 hG.ru hG3.ru hk1 hWP (hWD.weaken (fun _ _ _ _ => trivial))) (cwV 1 hts gL_isAhead_X4_goBack rfl rfl rfl (by decide +kernel) ⟨Nat.le_of_ble_eq_true rfl, Nat.le_of_ble_eq_true rfl⟩) hKN hWP hWD hS hA (lw_fP 10 (by decide) hWP : va_P D vwCl ((wLm cA Ad rt) ++ (rst cA Ad (f, ((nI o), (nI z)), tx, rt) 10)) H) rfl rfl (all_fst _ _ _ _) rfl hl.1 rfl (lv_room (Nat.le_of_ble_eq_true rfl)) dL_isAhead_219 ⟨Nat.zero_le _, Nat.zero_le _⟩ (fun H locs hWP hWD hS => ?_)
    have hWP : va_P D vwCl (all cA Ad ((upS (pushF f ((o + z) % 6)) 0 (f 3)), ((nI (if z < 6 then o else (o + 1) % 6)), (nI (if z < 6 then z + 1 else z))), tx, rt)) H := hWP
    have hWD : va_D A (all cA Ad ((upS (pushF f ((o + z) % 6)) 0 (f 3)), ((nI (if z < 6 then o else (o + 1) % 6)), (nI (if z < 6 then z + 1 else z))), tx, rt)) := hWD
    refine lz_top (v := (cbtT (f 3) 16)) rfl ?_
    refine lz_top (v := (cbtT u 16)) (by rw [hf3]) ?_
    obtain ⟨f, o, z, ef, eo, ez, g0, g2, g3, go, gz, hz1, gt, gq⟩ := gpush f ho hz6 (f 3)
    rw [ef, eo, ez] at hWP hWD
    have htop := gt.trans hf0
    have hf0 : f 0 = u := g0.trans hf3
    have hf2 : f 2 = s2 := g2.trans hf2
    have hf3 : f 3 = u := g3.trans hf3
    have ho := go
    have hz6 := gz
    clear ef eo ez g0 g2 g3 go gz gt
    have hWP : va_P D vwCl (all cA Ad (f, ((nI o), (nI z)), tx, rt)) H := hWP
    have hWD : va_D A (all cA Ad (f, ((nI o), (nI z)), tx, rt)) := hWD
    have hG : GD K (f 0) := by rw [hf0]; exact hGu
    refine lv_iload hx hb dL_isAhead_222 (lv_at hl 7 rfl) ?_
    refine lv_icmp_ne (tgt := 231) hx hb dL_isAhead_224 (by decide) (fun h => absurd rfl h) (fun _ => ?_)
    refine lv_iconst (v := 1) hx hb dL_isAhead_227 (by decide) ?_
    refine lv_goto (tgt := 232) hx hb dL_isAhead_228 (by decide) ?_
    refine lv_istore (lv' := [(9, .int 1), (12, .int (rhoS u b)), (11, .int (bcF u.2.2.2.2.1)), (10, .int (nI b)), (8, .int (nI nS)), (7, .int (rucS u t)), (6, .int (tellsS u t)), (5, .int (cbtT u 16)), (3, .long (looksV u)), (0, .ref (Ad 10 0)), (1, .int (nI t)), (2, .int (nI N))]) hx hb dL_isAhead_232 hl (by decide) rfl (fun ls hl => ?_)
    refine lv_iconst (v := 0) hx hb dL_isAhead_234 (by decide) ?_
    refine lv_istore (lv' := [(13, .int 0), (9, .int 1), (12, .int (rhoS u b)), (11, .int (bcF u.2.2.2.2.1)), (10, .int (nI b)), (8, .int (nI nS)), (7, .int (rucS u t)), (6, .int (tellsS u t)), (5, .int (cbtT u 16)), (3, .long (looksV u)), (0, .ref (Ad 10 0)), (1, .int (nI t)), (2, .int (nI N))]) hx hb dL_isAhead_235 hl (by decide) rfl (fun ls hl => ?_)
    have loop237 : ∀ (n k : Nat), k + n = 16 → ∀ (f : Nat → SV) (o z : Nat) (H : Heap) (locs : List Loc), f 0 = u → f 2 = s2 → f 3 = u → o < 6 → z ≤ 6 → va_P D vwCl (all cA Ad (f, ((nI o), (nI z)), tx, rt)) H → va_D A (all cA Ad (f, ((nI o), (nI z)), tx, rt)) → va_S A s.heap H locs → ∀ (ls : Array Slot), lv_has ls 16 [(13, .int (nI k)), (9, .int 1), (12, .int (rhoS u b)), (11, .int (bcF u.2.2.2.2.1)), (10, .int (nI b)), (8, .int (nI nS)), (7, .int (rucS u t)), (6, .int (tellsS u t)), (5, .int (cbtT u 16)), (3, .long (looksV u)), (0, .ref (Ad 10 0)), (1, .int (nI t)), (2, .int (nI N))] → W p l e ({ frames := 7, cells := 0, slots := 0, locals := 162 } : Room) s m ([.ref (Ad 10 0), .int (nI t), .int (nI N)] : List Value).toArray below meth c H locs 0 0 (MQ below (meQ D cA Ad s.heap w0 (LKp u s2 tx 1) (some (.int 1))) ([.ref (Ad 10 0), .int (nI t), .int (nI N)] : List Value).toArray s 0 0 A) (F0 m 237 ls []) := by
      intro n
      induction n with
      | zero =>
        intro k hkk f o z H locs hf0 hf2 hf3 ho hz6 hWP hWD hS ls hl
        obtain rfl : 16 = k := by omega
        have hG : GD K (f 0) := by rw [hf0]; exact hGu
        refine lv_iload hx hb dL_isAhead_237 (lv_at hl 0 rfl) ?_
        refine lv_bipush (v := 16) hx hb dL_isAhead_239 (by decide) ?_
        refine lv_icmp_ge (tgt := 327) hx hb dL_isAhead_241 (by decide) (fun _ => ?_) (fun h => absurd (by decide) h)
        refine lv_aload_n hx hb dL_isAhead_327 rfl (lv_at hl 10 rfl) ?_
        refine lv_iload_n hx hb dL_isAhead_328 rfl (lv_at hl 12 rfl) ?_
        refine lv_iconst (v := 0) hx hb dL_isAhead_329 (by decide) ?_
        refine mu_Vw (ci := 4) (q0 := 0) (As := [.int (nI N), .int 0]) (rest := []) ⟨hx, hb, hml, hown, hts⟩ (c_X4_ifGone0 l D cA _ Ad f o z tx rt hG.ru hG.pl N hN1 hN hWP (hWD.weaken (fun _ _ _ _ => trivial))) (cwV 2 hts gL_isAhead_X4_ifGone rfl rfl rfl (by decide +kernel) ⟨Nat.le_of_ble_eq_true rfl, Nat.le_of_ble_eq_true rfl⟩) hKN hWP hWD hS hA (lw_fP 10 (by decide) hWP : va_P D vwCl ((wLm cA Ad rt) ++ (rst cA Ad (f, ((nI o), (nI z)), tx, rt) 10)) H) rfl rfl (all_fst _ _ _ _) rfl hl.1 rfl (lv_room (Nat.le_of_ble_eq_true rfl)) dL_isAhead_330 ⟨Nat.zero_le _, Nat.zero_le _⟩ (fun H locs hWP hWD hS => ?_)
        have hWP : va_P D vwCl (all cA Ad ((upS f 1 (runS N (f 0)).2), ((nI o), (nI z)), tx, rt)) H := hWP
        have hWD : va_D A (all cA Ad ((upS f 1 (runS N (f 0)).2), ((nI o), (nI z)), tx, rt)) := hWD
        refine lz_top (v := (goneS (f 0) N 0)) rfl ?_
        refine lz_top (v := (nI (runS N u).1)) (by rw [hf0]; rfl) ?_
        obtain ⟨f, ef, g0, g2, g3⟩ := gS1 f ((runS N (f 0)).2)
        rw [ef] at hWP hWD
        have hG := hG
        rw [← g0] at hG
        have hf0 := g0.trans hf0
        have hf2 := g2.trans hf2
        have hf3 := g3.trans hf3
        clear ef g0 g2 g3
        have hWP : va_P D vwCl (all cA Ad (f, ((nI o), (nI z)), tx, rt)) H := hWP
        have hWD : va_D A (all cA Ad (f, ((nI o), (nI z)), tx, rt)) := hWD
        refine lv_istore (lv' := [(13, .int (nI (runS N u).1)), (9, .int 1), (12, .int (rhoS u b)), (11, .int (bcF u.2.2.2.2.1)), (10, .int (nI b)), (8, .int (nI nS)), (7, .int (rucS u t)), (6, .int (tellsS u t)), (5, .int (cbtT u 16)), (3, .long (looksV u)), (0, .ref (Ad 10 0)), (1, .int (nI t)), (2, .int (nI N))]) hx hb dL_isAhead_333 hl (by decide) rfl (fun ls hl => ?_)
        refine lv_aload_n hx hb dL_isAhead_335 rfl (lv_at hl 10 rfl) ?_
        refine lv_iload_n hx hb dL_isAhead_336 rfl (lv_at hl 12 rfl) ?_
        refine lv_iconst (v := 1) hx hb dL_isAhead_337 (by decide) ?_
        refine mu_Vw (ci := 4) (q0 := 0) (As := [.int (nI N), .int 1]) (rest := []) ⟨hx, hb, hml, hown, hts⟩ (c_X4_ifGone1 l D cA _ Ad f o z tx rt hG.ru hG.pl N hN1 hN hWP (hWD.weaken (fun _ _ _ _ => trivial))) (cwV 2 hts gL_isAhead_X4_ifGone rfl rfl rfl (by decide +kernel) ⟨Nat.le_of_ble_eq_true rfl, Nat.le_of_ble_eq_true rfl⟩) hKN hWP hWD hS hA (lw_fP 10 (by decide) hWP : va_P D vwCl ((wLm cA Ad rt) ++ (rst cA Ad (f, ((nI o), (nI z)), tx, rt) 10)) H) rfl rfl (all_fst _ _ _ _) rfl hl.1 rfl (lv_room (Nat.le_of_ble_eq_true rfl)) dL_isAhead_338 ⟨Nat.zero_le _, Nat.zero_le _⟩ (fun H locs hWP hWD hS => ?_)
        have hWP : va_P D vwCl (all cA Ad ((upS f 1 (runS N (f 0)).2), ((nI o), (nI z)), tx, rt)) H := hWP
        have hWD : va_D A (all cA Ad ((upS f 1 (runS N (f 0)).2), ((nI o), (nI z)), tx, rt)) := hWD
        refine lz_top (v := (goneS (f 0) N 1)) rfl ?_
        refine lz_top (v := ((runS N u).2.2.2.2.2.2.2.2.2.2.2.1)) (by rw [hf0]; rfl) ?_
        obtain ⟨f, ef, g0, g2, g3⟩ := gS1 f ((runS N (f 0)).2)
        rw [ef] at hWP hWD
        have hG := hG
        rw [← g0] at hG
        have hf0 := g0.trans hf0
        have hf2 := g2.trans hf2
        have hf3 := g3.trans hf3
        clear ef g0 g2 g3
        have hWP : va_P D vwCl (all cA Ad (f, ((nI o), (nI z)), tx, rt)) H := hWP
        have hWD : va_D A (all cA Ad (f, ((nI o), (nI z)), tx, rt)) := hWD
        refine lv_istore (lv' := [(14, .int ((runS N u).2.2.2.2.2.2.2.2.2.2.2.1)), (13, .int (nI (runS N u).1)), (9, .int 1), (12, .int (rhoS u b)), (11, .int (bcF u.2.2.2.2.1)), (10, .int (nI b)), (8, .int (nI nS)), (7, .int (rucS u t)), (6, .int (tellsS u t)), (5, .int (cbtT u 16)), (3, .long (looksV u)), (0, .ref (Ad 10 0)), (1, .int (nI t)), (2, .int (nI N))]) hx hb dL_isAhead_341 hl (by decide) rfl (fun ls hl => ?_)
        refine lv_aload_n hx hb dL_isAhead_343 rfl (lv_at hl 11 rfl) ?_
        refine lv_iload_n hx hb dL_isAhead_344 rfl (lv_at hl 13 rfl) ?_
        refine lv_iconst (v := 2) hx hb dL_isAhead_345 (by decide) ?_
        refine mu_Vw (ci := 4) (q0 := 0) (As := [.int (nI N), .int 2]) (rest := []) ⟨hx, hb, hml, hown, hts⟩ (c_X4_ifGone2 l D cA _ Ad f o z tx rt hG.ru hG.pl N hN1 hN hWP (hWD.weaken (fun _ _ _ _ => trivial))) (cwV 2 hts gL_isAhead_X4_ifGone rfl rfl rfl (by decide +kernel) ⟨Nat.le_of_ble_eq_true rfl, Nat.le_of_ble_eq_true rfl⟩) hKN hWP hWD hS hA (lw_fP 10 (by decide) hWP : va_P D vwCl ((wLm cA Ad rt) ++ (rst cA Ad (f, ((nI o), (nI z)), tx, rt) 10)) H) rfl rfl (all_fst _ _ _ _) rfl hl.1 rfl (lv_room (Nat.le_of_ble_eq_true rfl)) dL_isAhead_346 ⟨Nat.zero_le _, Nat.zero_le _⟩ (fun H locs hWP hWD hS => ?_)
        have hWP : va_P D vwCl (all cA Ad ((upS f 1 (runS N (f 0)).2), ((nI o), (nI z)), tx, rt)) H := hWP
        have hWD : va_D A (all cA Ad ((upS f 1 (runS N (f 0)).2), ((nI o), (nI z)), tx, rt)) := hWD
        refine lz_top (v := (goneS (f 0) N 2)) rfl ?_
        refine lz_top (v := ((runS N u).2.2.2.2.2.2.2.2.2.2.1)) (by rw [hf0]; rfl) ?_
        obtain ⟨f, ef, g0, g2, g3⟩ := gS1 f ((runS N (f 0)).2)
        rw [ef] at hWP hWD
        have hG := hG
        rw [← g0] at hG
        have hf0 := g0.trans hf0
        have hf2 := g2.trans hf2
        have hf3 := g3.trans hf3
        clear ef g0 g2 g3
        have hWP : va_P D vwCl (all cA Ad (f, ((nI o), (nI z)), tx, rt)) H := hWP
        have hWD : va_D A (all cA Ad (f, ((nI o), (nI z)), tx, rt)) := hWD
        refine lv_istore (lv' := [(15, .int ((runS N u).2.2.2.2.2.2.2.2.2.2.1)), (14, .int ((runS N u).2.2.2.2.2.2.2.2.2.2.2.1)), (13, .int (nI (runS N u).1)), (9, .int 1), (12, .int (rhoS u b)), (11, .int (bcF u.2.2.2.2.1)), (10, .int (nI b)), (8, .int (nI nS)), (7, .int (rucS u t)), (6, .int (tellsS u t)), (5, .int (cbtT u 16)), (3, .long (looksV u)), (0, .ref (Ad 10 0)), (1, .int (nI t)), (2, .int (nI N))]) hx hb dL_isAhead_349 hl (by decide) rfl (fun ls hl => ?_)
        refine lv_iload hx hb dL_isAhead_351 (lv_at hl 3 rfl) ?_
        refine lv_if_eq (tgt := 421) hx hb dL_isAhead_353 (by decide) (fun h => absurd h (by decide)) (fun _ => ?_)
        refine lv_aload_n hx hb dL_isAhead_356 rfl (lv_at hl 12 rfl) ?_
        refine lv_iload_n hx hb dL_isAhead_357 rfl (lv_at hl 14 rfl) ?_
        refine mu_Vw (ci := 4) (q0 := 0) (As := [.int (nI N)]) (rest := []) ⟨hx, hb, hml, hown, hts⟩ (c_X4_go l D cA _ Ad f o z tx rt ho hz6 hG.ru hG.pl N (by omega) (by omega) hWP (hWD.weaken (fun _ _ _ _ => trivial))) (cwV 1 hts gL_isAhead_X4_go rfl rfl rfl (by decide +kernel) ⟨Nat.le_of_ble_eq_true rfl, Nat.le_of_ble_eq_true rfl⟩) hKN hWP hWD hS hA (lw_fP 10 (by decide) hWP : va_P D vwCl ((wLm cA Ad rt) ++ (rst cA Ad (f, ((nI o), (nI z)), tx, rt) 10)) H) rfl rfl (all_fst _ _ _ _) rfl hl.1 rfl (lv_room (Nat.le_of_ble_eq_true rfl)) dL_isAhead_358 ⟨Nat.zero_le _, Nat.zero_le _⟩ (fun H locs hWP hWD hS => ?_)
        have hWP : va_P D vwCl (all cA Ad ((upS (pushF f ((o + z) % 6)) 0 ((runS N (f 0)).2)), ((nI (if z < 6 then o else (o + 1) % 6)), (nI (if z < 6 then z + 1 else z))), tx, rt)) H := hWP
        have hWD : va_D A (all cA Ad ((upS (pushF f ((o + z) % 6)) 0 ((runS N (f 0)).2)), ((nI (if z < 6 then o else (o + 1) % 6)), (nI (if z < 6 then z + 1 else z))), tx, rt)) := hWD
        refine lz_top (v := (nI (runS N (f 0)).1)) rfl ?_
        refine lz_top (v := (nI (runS N u).1)) (by rw [hf0]) ?_
        obtain ⟨f, o, z, ef, eo, ez, g0, g2, g3, go, gz, hz1, gt, gq⟩ := gpush f ho hz6 ((runS N (f 0)).2)
        rw [ef, eo, ez] at hWP hWD
        have htop := gt.trans hf0
        have hf0 : f 0 = (runS N u).2 := g0.trans (by rw [hf0])
        have hf2 : f 2 = s2 := g2.trans hf2
        have hf3 : f 3 = u := g3.trans hf3
        have ho := go
        have hz6 := gz
        clear ef eo ez g0 g2 g3 go gz gt
        have hWP : va_P D vwCl (all cA Ad (f, ((nI o), (nI z)), tx, rt)) H := hWP
        have hWD : va_D A (all cA Ad (f, ((nI o), (nI z)), tx, rt)) := hWD
        have hG : GD (K + N) (f 0) := by rw [hf0]; exact (GD_run N hGu)
        refine lv_iload hx hb dL_isAhead_361 (lv_at hl 2 rfl) ?_
        refine lv_icmp_ne (tgt := 421) hx hb dL_isAhead_363 (by decide) (fun h => absurd rfl h) (fun _ => ?_)
        refine lv_aload_n hx hb dL_isAhead_366 rfl (lv_at hl 12 rfl) ?_
        refine lv_iconst (v := 1) hx hb dL_isAhead_367 (by decide) ?_
        refine ro_V (ci := 4) (q0 := 0) (As := [.int 1]) (rest := []) ⟨hx, hb, hml, hown, hts⟩ (c_X4_machine l D cA _ Ad f o z tx rt 1 (by decide) hWP) (cwV 1 hts gL_isAhead_X4_machine rfl rfl rfl (by decide +kernel) ⟨Nat.le_of_ble_eq_true rfl, Nat.le_of_ble_eq_true rfl⟩) hKN (lw_fP 10 (by decide) hWP : va_P D vwCl ((wLm cA Ad rt) ++ (rst cA Ad (f, ((nI o), (nI z)), tx, rt) 10)) H) rfl rfl rfl hl.1 rfl (lv_room (Nat.le_of_ble_eq_true rfl)) dL_isAhead_368 ⟨Nat.zero_le _, Nat.zero_le _⟩ ?_
        refine lz_top (v := (f 0).2.2.2.2.2.2.2.2.2.2.1) rfl ?_
        refine lz_top (v := ((runS N u).2.2.2.2.2.2.2.2.2.2.2.1)) (by rw [hf0]) ?_
        refine lv_iload hx hb dL_isAhead_371 (lv_at hl 1 rfl) ?_
        refine lv_icmp_ne (tgt := 421) hx hb dL_isAhead_373 (by decide) (fun h => absurd rfl h) (fun _ => ?_)
        refine lv_aload_n hx hb dL_isAhead_376 rfl (lv_at hl 12 rfl) ?_
        refine lv_iconst (v := 0) hx hb dL_isAhead_377 (by decide) ?_
        refine ro_V (ci := 4) (q0 := 0) (As := [.int 0]) (rest := []) ⟨hx, hb, hml, hown, hts⟩ (c_X4_machine l D cA _ Ad f o z tx rt 0 (by decide) hWP) (cwV 1 hts gL_isAhead_X4_machine rfl rfl rfl (by decide +kernel) ⟨Nat.le_of_ble_eq_true rfl, Nat.le_of_ble_eq_true rfl⟩) hKN (lw_fP 10 (by decide) hWP : va_P D vwCl ((wLm cA Ad rt) ++ (rst cA Ad (f, ((nI o), (nI z)), tx, rt) 10)) H) rfl rfl rfl hl.1 rfl (lv_room (Nat.le_of_ble_eq_true rfl)) dL_isAhead_378 ⟨Nat.zero_le _, Nat.zero_le _⟩ ?_
        refine lz_top (v := (f 0).2.2.2.2.2.2.2.2.2.1) rfl ?_
        refine lz_top (v := ((runS N u).2.2.2.2.2.2.2.2.2.2.1)) (by rw [hf0]) ?_
        refine lv_iload hx hb dL_isAhead_381 (lv_at hl 0 rfl) ?_
        refine lv_icmp_ne (tgt := 421) hx hb dL_isAhead_383 (by decide) (fun h => absurd rfl h) (fun _ => ?_)
        refine lv_iload hx hb dL_isAhead_386 (lv_at hl 2 rfl) ?_
        refine lv_iload_n hx hb dL_isAhead_388 rfl (lv_at hl 14 rfl) ?_
        have hj_389 : W p l e ({ frames := 7, cells := 0, slots := 0, locals := 162 } : Room) s m ([.ref (Ad 10 0), .int (nI t), .int (nI N)] : List Value).toArray below meth c H locs 0 0 (MQ below (meQ D cA Ad s.heap w0 (LKp u s2 tx 1) (some (.int 1))) ([.ref (Ad 10 0), .int (nI t), .int (nI N)] : List Value).toArray s 0 0 A) (F0 m 401 ls []) → W p l e ({ frames := 7, cells := 0, slots := 0, locals := 162 } : Room) s m ([.ref (Ad 10 0), .int (nI t), .int (nI N)] : List Value).toArray below meth c H locs 0 0 (MQ below (meQ D cA Ad s.heap w0 (LKp u s2 tx 1) (some (.int 1))) ([.ref (Ad 10 0), .int (nI t), .int (nI N)] : List Value).toArray s 0 0 A) (F0 m 389 ls [.int (nI N), .int (nI (runS N u).1)]) := by
          intro hJ
          refine lv_icmp_eq (tgt := 401) hx hb dL_isAhead_389 (by decide) (fun c_389 => ?_) (fun c_389 => ?_)
          · exact hJ
          · refine lv_aload_n hx hb dL_isAhead_392 rfl (lv_at hl 12 rfl) ?_
            refine lv_bipush (v := 6) hx hb dL_isAhead_393 (by decide) ?_
            refine ro_V (ci := 4) (q0 := 0) (As := [.int 6]) (rest := []) ⟨hx, hb, hml, hown, hts⟩ (c_X4_machine l D cA _ Ad f o z tx rt 6 (by decide) hWP) (cwV 1 hts gL_isAhead_X4_machine rfl rfl rfl (by decide +kernel) ⟨Nat.le_of_ble_eq_true rfl, Nat.le_of_ble_eq_true rfl⟩) hKN (lw_fP 10 (by decide) hWP : va_P D vwCl ((wLm cA Ad rt) ++ (rst cA Ad (f, ((nI o), (nI z)), tx, rt) 10)) H) rfl rfl rfl hl.1 rfl (lv_room (Nat.le_of_ble_eq_true rfl)) dL_isAhead_395 ⟨Nat.zero_le _, Nat.zero_le _⟩ ?_
            refine lz_top (v := (machS (f 0) 6)) rfl ?_
            refine lz_top (v := (machS (runS N u).2 6)) (by rw [hf0]) ?_
            refine lv_if_ne (tgt := 421) hx hb dL_isAhead_398 (by decide) (fun h => absurd (run_ne hN c_389) h) (fun _ => ?_)
            exact hJ
        refine hj_389 ?_
        refine lv_aload_n hx hb dL_isAhead_401 rfl (lv_at hl 12 rfl) ?_
        obtain ⟨z, rfl⟩ : ∃ w, z = w + 1 := ⟨z - 1, by omega⟩
        rw [Nat.add_sub_cancel] at htop
        have hWP : va_P D vwCl (all cA Ad (f, ((nI o), (nI (z + 1))), tx, rt)) H := hWP
        have hWD : va_D A (all cA Ad (f, ((nI o), (nI (z + 1))), tx, rt)) := hWD
        refine mu_Vw (ci := 4) (q0 := 0) (As := []) (rest := []) ⟨hx, hb, hml, hown, hts⟩ (c_X4_undo l D cA _ Ad f o z tx rt ho (by omega) (by rw [htop]; exact hGu.ru) hWP (hWD.weaken (fun _ _ _ _ => trivial))) (cwV 0 hts gL_isAhead_X4_undo rfl rfl rfl (by decide +kernel) ⟨Nat.le_of_ble_eq_true rfl, Nat.le_of_ble_eq_true rfl⟩) hKN hWP hWD hS hA (lw_fP 10 (by decide) hWP : va_P D vwCl ((wLm cA Ad rt) ++ (rst cA Ad (f, ((nI o), (nI (z + 1))), tx, rt) 10)) H) rfl rfl (all_fst _ _ _ _) rfl hl.1 rfl (lv_room (Nat.le_of_ble_eq_true rfl)) dL_isAhead_402 ⟨Nat.zero_le _, Nat.zero_le _⟩ (fun H locs hWP hWD hS => ?_)
        have hWP : va_P D vwCl (all cA Ad ((upS f 0 (f (4 + (o + z) % 6))), ((nI o), (nI z)), tx, rt)) H := hWP
        have hWD : va_D A (all cA Ad ((upS f 0 (f (4 + (o + z) % 6))), ((nI o), (nI z)), tx, rt)) := hWD
        refine lz_top (v := (nI z)) rfl ?_
        obtain ⟨f, ef, g0, g2, g3⟩ := gU f (4 + (o + z) % 6)
        rw [ef] at hWP hWD
        have hf0 : f 0 = u := g0.trans htop
        have hf2 : f 2 = s2 := g2.trans hf2
        have hf3 : f 3 = u := g3.trans hf3
        have hz6 : z ≤ 6 := by omega
        have hG : GD K (f 0) := by rw [hf0]; exact hGu
        clear ef g0 g2 g3
        have hWP : va_P D vwCl (all cA Ad (f, ((nI o), (nI z)), tx, rt)) H := hWP
        have hWD : va_D A (all cA Ad (f, ((nI o), (nI z)), tx, rt)) := hWD
        refine lv_if_lt (tgt := 421) hx hb dL_isAhead_405 (by decide) (fun h => absurd h (nI_pos (by omega))) (fun _ => ?_)
        refine lv_aload_n hx hb dL_isAhead_408 rfl (lv_at hl 12 rfl) ?_
        refine mu_Sw (As := [.ref (Ad 10 0)]) (rest := []) ⟨hx, hb, hml, hown, hts⟩ (c_L_looks l D cA _ Ad f o z tx rt hWP (hWD.weaken (fun _ _ _ _ => trivial))) (cwS2 1 hts gL_isAhead_L_looks rfl rfl rfl (by decide +kernel) ⟨Nat.le_of_ble_eq_true rfl, Nat.le_of_ble_eq_true rfl⟩) hKN hWP hWD hS hA (all_fst _ _ _ _) rfl hl.1 rfl (lv_room (Nat.le_of_ble_eq_true rfl)) dL_isAhead_409 ⟨Nat.zero_le _, Nat.zero_le _⟩ (fun H locs hWP hWD hS => ?_)
        have hWP : va_P D vwCl (all cA Ad (f, ((nI o), (nI z)), tx, (rt.1, (lkW (f 0) rt.2 9)))) H := hWP
        have hWD : va_D A (all cA Ad (f, ((nI o), (nI z)), tx, (rt.1, (lkW (f 0) rt.2 9)))) := hWD
        refine lz_topL (v := (looksV u)) (by rw [hf0]) ?_
        obtain ⟨rt, er, gr⟩ := gR rt (lkW (f 0) rt.2 9)
        rw [er] at hWP hWD
        have hk : rt.1 0 = 1 := by rw [gr]; exact hk
        have hk1 : rt.1 1 = 1 := by rw [gr]; exact hk1
        clear er gr
        have hWP : va_P D vwCl (all cA Ad (f, ((nI o), (nI z)), tx, rt)) H := hWP
        have hWD : va_D A (all cA Ad (f, ((nI o), (nI z)), tx, rt)) := hWD
        refine lv_lload_n hx hb dL_isAhead_412 rfl (lv_at hl 11 rfl) ?_
        refine W.lcmp hx hb dL_isAhead_413 ?_
        refine lz_top (v := 0) (lg_cmp_self _) ?_
        refine lv_if_ne (tgt := 421) hx hb dL_isAhead_414 (by decide) (fun h => absurd (by decide) h) (fun _ => ?_)
        refine lv_iconst (v := 1) hx hb dL_isAhead_417 (by decide) ?_
        refine lv_goto (tgt := 422) hx hb dL_isAhead_418 (by decide) ?_
        exact me_zret hx hb hr hlocks dL_isAhead_422 hAe hS hWP ⟨f, o, z, rt, rfl, hf0, hf2, ho, hz6, hk⟩ rfl rfl
      | succ n ih =>
        intro k hkk f o z H locs hf0 hf2 hf3 ho hz6 hWP hWD hS ls hl
        have hlt : k < 16 := by omega
        have hG : GD K (f 0) := by rw [hf0]; exact hGu
        refine lv_iload hx hb dL_isAhead_237 (lv_at hl 0 rfl) ?_
        refine lv_bipush (v := 16) hx hb dL_isAhead_239 (by decide) ?_
        refine lv_icmp_ge (tgt := 327) hx hb dL_isAhead_241 (by decide) (fun h => absurd h (show ¬ (16 : Int32) ≤ nI k from nI_ge (b := 16) hlt (by decide))) (fun _ => ?_)
        refine lv_iload hx hb dL_isAhead_244 (lv_at hl 1 rfl) ?_
        refine lv_if_eq (tgt := 327) hx hb dL_isAhead_246 (by decide) (fun h => absurd h (by decide)) (fun _ => ?_)
        refine lv_iload hx hb dL_isAhead_249 (lv_at hl 4 rfl) ?_
        refine lv_if_lt (tgt := 327) hx hb dL_isAhead_251 (by decide) (fun h => absurd h (nI_pos (by omega))) (fun _ => ?_)
        refine lv_aload_n hx hb dL_isAhead_254 rfl (lv_at hl 10 rfl) ?_
        refine lv_iload hx hb dL_isAhead_255 (lv_at hl 0 rfl) ?_
        refine lv_iconst (v := 1) hx hb dL_isAhead_257 (by decide) ?_
        refine ro_V (ci := 4) (q0 := 0) (As := [.int (nI k), .int 1]) (rest := []) ⟨hx, hb, hml, hown, hts⟩ (c_X4_threadOf l D cA _ Ad f o z tx rt k (by omega) 1 (by decide) hWP) (cwV 2 hts gL_isAhead_X4_threadOf rfl rfl rfl (by decide +kernel) ⟨Nat.le_of_ble_eq_true rfl, Nat.le_of_ble_eq_true rfl⟩) hKN (lw_fP 10 (by decide) hWP : va_P D vwCl ((wLm cA Ad rt) ++ (rst cA Ad (f, ((nI o), (nI z)), tx, rt) 10)) H) rfl rfl rfl hl.1 rfl (lv_room (Nat.le_of_ble_eq_true rfl)) dL_isAhead_258 ⟨Nat.zero_le _, Nat.zero_le _⟩ ?_
        refine lz_top (v := (bitF (f 0).2.2.2.2.1 (nI k))) rfl ?_
        refine lz_top (v := (bitF u.2.2.2.2.1 (nI k))) (by rw [hf0]) ?_
        refine lv_if_ne (tgt := 321) hx hb dL_isAhead_261 (by decide) (fun c_261 => ?_) (fun c_261 => ?_)
        · refine lv_iinc (v := (nI (k + 1))) (lv' := [(13, .int (nI (k + 1))), (9, .int 1), (12, .int (rhoS u b)), (11, .int (bcF u.2.2.2.2.1)), (10, .int (nI b)), (8, .int (nI nS)), (7, .int (rucS u t)), (6, .int (tellsS u t)), (5, .int (cbtT u 16)), (3, .long (looksV u)), (0, .ref (Ad 10 0)), (1, .int (nI t)), (2, .int (nI N))]) hx hb dL_isAhead_321 hl (k := 0) rfl (nI_1 _) (by decide) rfl (fun ls hl => ?_)
          refine lv_goto (tgt := 237) hx hb dL_isAhead_324 (by decide) ?_
          exact ih (k + 1) (by omega) f o z H locs hf0 hf2 hf3 ho hz6 hWP hWD hS ls (lv_sub hl [0, 1, 2, 3, 4, 5, 6, 7, 8, 9, 10, 11, 12] rfl)
        · have hfree : bt (gdS u) k = false := (bF0 _ (by omega)).mp c_261
          refine lv_aload_n hx hb dL_isAhead_264 rfl (lv_at hl 10 rfl) ?_
          refine lv_iload hx hb dL_isAhead_265 (lv_at hl 0 rfl) ?_
          refine mu_Vw (ci := 4) (q0 := 0) (As := [.int (nI k)]) (rest := []) ⟨hx, hb, hml, hown, hts⟩ (c_X4_guard l D cA _ Ad f o z tx rt ho hz6 hG.ru k (by omega) hWP (hWD.weaken (fun _ _ _ _ => trivial))) (cwV 1 hts gL_isAhead_X4_guard rfl rfl rfl (by decide +kernel) ⟨Nat.le_of_ble_eq_true rfl, Nat.le_of_ble_eq_true rfl⟩) hKN hWP hWD hS hA (lw_fP 10 (by decide) hWP : va_P D vwCl ((wLm cA Ad rt) ++ (rst cA Ad (f, ((nI o), (nI z)), tx, rt) 10)) H) rfl rfl (all_fst _ _ _ _) rfl hl.1 rfl (lv_room (Nat.le_of_ble_eq_true rfl)) dL_isAhead_267 ⟨Nat.zero_le _, Nat.zero_le _⟩ (fun H locs hWP hWD hS => ?_)
          have hWP : va_P D vwCl (all cA Ad ((upS (pushF f ((o + z) % 6)) 0 (setGd (f 0) ((f 0).2.2.2.2.1 ^^^ ((1 : Int32) <<< (nI k &&& 31))))), ((nI (if z < 6 then o else (o + 1) % 6)), (nI (if z < 6 then z + 1 else z))), tx, rt)) H := hWP
          have hWD : va_D A (all cA Ad ((upS (pushF f ((o + z) % 6)) 0 (setGd (f 0) ((f 0).2.2.2.2.1 ^^^ ((1 : Int32) <<< (nI k &&& 31))))), ((nI (if z < 6 then o else (o + 1) % 6)), (nI (if z < 6 then z + 1 else z))), tx, rt)) := hWD
          refine lz_top (v := (bitF ((f 0).2.2.2.2.1 ^^^ ((1 : Int32) <<< (nI k &&& 31))) (nI k))) rfl ?_
          refine lz_top (v := 1) (by rw [hf0]; exact guard_1 (by omega) hfree) ?_
          obtain ⟨f, o, z, ef, eo, ez, g0, g2, g3, go, gz, hz1, gt, gq⟩ := gpush f ho hz6 (setGd (f 0) ((f 0).2.2.2.2.1 ^^^ ((1 : Int32) <<< (nI k &&& 31))))
          rw [ef, eo, ez] at hWP hWD
          have htop := gt.trans hf0
          have hf0 : f 0 = setGd u (u.2.2.2.2.1 ^^^ ((1 : Int32) <<< (nI k &&& 31))) := g0.trans (by rw [hf0])
          have hf2 : f 2 = s2 := g2.trans hf2
          have hf3 : f 3 = u := g3.trans hf3
          have ho := go
          have hz6 := gz
          clear ef eo ez g0 g2 g3 go gz gt
          have hWP : va_P D vwCl (all cA Ad (f, ((nI o), (nI z)), tx, rt)) H := hWP
          have hWD : va_D A (all cA Ad (f, ((nI o), (nI z)), tx, rt)) := hWD
          have hG : GD K (f 0) := by rw [hf0]; exact (GD_gd hGu (M16_xor hGu.2.2.2.2.1 (M16_1shl (by omega))))
          refine lv_iconst (v := 1) hx hb dL_isAhead_270 (by decide) ?_
          refine lv_icmp_ne (tgt := 318) hx hb dL_isAhead_271 (by decide) (fun h => absurd rfl h) (fun _ => ?_)
          refine lv_iload hx hb dL_isAhead_274 (lv_at hl 0 rfl) ?_
          refine lv_iload hx hb dL_isAhead_276 (lv_at hl 4 rfl) ?_
          refine lv_icmp_ge (tgt := 294) hx hb dL_isAhead_278 (by decide) (fun c_278 => ?_) (fun c_278 => ?_)
          · refine lv_aload_n hx hb dL_isAhead_294 rfl (lv_at hl 10 rfl) ?_
            refine lv_iconst (v := 4) hx hb dL_isAhead_295 (by decide) ?_
            refine mu_Vw (ci := 4) (q0 := 0) (As := [.int 4]) (rest := []) ⟨hx, hb, hml, hown, hts⟩ (c_X4_count l D cA _ Ad f o z tx rt 4 (by decide) hWP (hWD.weaken (fun _ _ _ _ => trivial))) (cwV 1 hts gL_isAhead_X4_count rfl rfl rfl (by decide +kernel) ⟨Nat.le_of_ble_eq_true rfl, Nat.le_of_ble_eq_true rfl⟩) hKN hWP hWD hS hA (lw_fP 10 (by decide) hWP : va_P D vwCl ((wLm cA Ad rt) ++ (rst cA Ad (f, ((nI o), (nI z)), tx, rt) 10)) H) rfl rfl (all_fst _ _ _ _) rfl hl.1 rfl (lv_room (Nat.le_of_ble_eq_true rfl)) dL_isAhead_296 ⟨Nat.zero_le _, Nat.zero_le _⟩ (fun H locs hWP hWD hS => ?_)
            have hWP : va_P D vwCl (all cA Ad (f, ((nI o), (nI z)), tx, rt)) H := hWP
            have hWD : va_D A (all cA Ad (f, ((nI o), (nI z)), tx, rt)) := hWD
            refine lz_top (v := (rightT (f 0) 16)) rfl ?_
            refine lz_top (v := (rhoS u k)) (by rw [hf0]; exact guard_rho (by omega) hfree) ?_
            refine lv_iload hx hb dL_isAhead_299 (lv_at hl 2 rfl) ?_
            refine lv_icmp_gt (tgt := 318) hx hb dL_isAhead_301 (by decide) (fun h => absurd h (nlt_of_le (e4 k hlt hfree).1)) (fun _ => ?_)
            refine lv_aload_n hx hb dL_isAhead_304 rfl (lv_at hl 10 rfl) ?_
            refine lv_iconst (v := 1) hx hb dL_isAhead_305 (by decide) ?_
            have hG3 : GD K (f 3) := by rw [hf3]; exact hGu
            refine mu_Vw (ci := 4) (q0 := 0) (As := [.int 1]) (rest := []) ⟨hx, hb, hml, hown, hts⟩ (c_X4_goBack1 l D cA _ Ad f o z tx rt ho hz6 hG.ru hG3.ru hk1 hWP (hWD.weaken (fun _ _ _ _ => trivial))) (cwV 1 hts gL_isAhead_X4_goBack rfl rfl rfl (by decide +kernel) ⟨Nat.le_of_ble_eq_true rfl, Nat.le_of_ble_eq_true rfl⟩) hKN hWP hWD hS hA (lw_fP 10 (by decide) hWP : va_P D vwCl ((wLm cA Ad rt) ++ (rst cA Ad (f, ((nI o), (nI z)), tx, rt) 10)) H) rfl rfl (all_fst _ _ _ _) rfl hl.1 rfl (lv_room (Nat.le_of_ble_eq_true rfl)) dL_isAhead_306 ⟨Nat.zero_le _, Nat.zero_le _⟩ (fun H locs hWP hWD hS => ?_)
            have hWP : va_P D vwCl (all cA Ad ((upS (pushF f ((o + z) % 6)) 0 (f 3)), ((nI (if z < 6 then o else (o + 1) % 6)), (nI (if z < 6 then z + 1 else z))), tx, rt)) H := hWP
            have hWD : va_D A (all cA Ad ((upS (pushF f ((o + z) % 6)) 0 (f 3)), ((nI (if z < 6 then o else (o + 1) % 6)), (nI (if z < 6 then z + 1 else z))), tx, rt)) := hWD
            refine lz_top (v := (cbtT (f 3) 16)) rfl ?_
            refine lz_top (v := (cbtT u 16)) (by rw [hf3]) ?_
            obtain ⟨f, o, z, ef, eo, ez, g0, g2, g3, go, gz, hz1, gt, gq⟩ := gpush f ho hz6 (f 3)
            rw [ef, eo, ez] at hWP hWD
            have htop := gt.trans hf0
            have hf0 : f 0 = u := g0.trans hf3
            have hf2 : f 2 = s2 := g2.trans hf2
            have hf3 : f 3 = u := g3.trans hf3
            have ho := go
            have hz6 := gz
            clear ef eo ez g0 g2 g3 go gz gt
            have hWP : va_P D vwCl (all cA Ad (f, ((nI o), (nI z)), tx, rt)) H := hWP
            have hWD : va_D A (all cA Ad (f, ((nI o), (nI z)), tx, rt)) := hWD
            have hG : GD K (f 0) := by rw [hf0]; exact hGu
            refine lv_iload hx hb dL_isAhead_309 (lv_at hl 8 rfl) ?_
            refine lv_icmp_ne (tgt := 318) hx hb dL_isAhead_311 (by decide) (fun h => absurd rfl h) (fun _ => ?_)
            refine lv_iconst (v := 1) hx hb dL_isAhead_314 (by decide) ?_
            refine lv_goto (tgt := 319) hx hb dL_isAhead_315 (by decide) ?_
            refine lv_istore (lv' := [(9, .int 1), (13, .int (nI k)), (12, .int (rhoS u b)), (11, .int (bcF u.2.2.2.2.1)), (10, .int (nI b)), (8, .int (nI nS)), (7, .int (rucS u t)), (6, .int (tellsS u t)), (5, .int (cbtT u 16)), (3, .long (looksV u)), (0, .ref (Ad 10 0)), (1, .int (nI t)), (2, .int (nI N))]) hx hb dL_isAhead_319 hl (by decide) rfl (fun ls hl => ?_)
            refine lv_iinc (v := (nI (k + 1))) (lv' := [(13, .int (nI (k + 1))), (9, .int 1), (12, .int (rhoS u b)), (11, .int (bcF u.2.2.2.2.1)), (10, .int (nI b)), (8, .int (nI nS)), (7, .int (rucS u t)), (6, .int (tellsS u t)), (5, .int (cbtT u 16)), (3, .long (looksV u)), (0, .ref (Ad 10 0)), (1, .int (nI t)), (2, .int (nI N))]) hx hb dL_isAhead_321 hl (k := 1) rfl (nI_1 _) (by decide) rfl (fun ls hl => ?_)
            refine lv_goto (tgt := 237) hx hb dL_isAhead_324 (by decide) ?_
            exact ih (k + 1) (by omega) f o z H locs hf0 hf2 hf3 ho hz6 hWP hWD hS ls (lv_sub hl [0, 1, 2, 3, 4, 5, 6, 7, 8, 9, 10, 11, 12] rfl)
          · refine lv_aload_n hx hb dL_isAhead_281 rfl (lv_at hl 10 rfl) ?_
            refine lv_iconst (v := 4) hx hb dL_isAhead_282 (by decide) ?_
            refine mu_Vw (ci := 4) (q0 := 0) (As := [.int 4]) (rest := []) ⟨hx, hb, hml, hown, hts⟩ (c_X4_count l D cA _ Ad f o z tx rt 4 (by decide) hWP (hWD.weaken (fun _ _ _ _ => trivial))) (cwV 1 hts gL_isAhead_X4_count rfl rfl rfl (by decide +kernel) ⟨Nat.le_of_ble_eq_true rfl, Nat.le_of_ble_eq_true rfl⟩) hKN hWP hWD hS hA (lw_fP 10 (by decide) hWP : va_P D vwCl ((wLm cA Ad rt) ++ (rst cA Ad (f, ((nI o), (nI z)), tx, rt) 10)) H) rfl rfl (all_fst _ _ _ _) rfl hl.1 rfl (lv_room (Nat.le_of_ble_eq_true rfl)) dL_isAhead_283 ⟨Nat.zero_le _, Nat.zero_le _⟩ (fun H locs hWP hWD hS => ?_)
            have hWP : va_P D vwCl (all cA Ad (f, ((nI o), (nI z)), tx, rt)) H := hWP
            have hWD : va_D A (all cA Ad (f, ((nI o), (nI z)), tx, rt)) := hWD
            refine lz_top (v := (rightT (f 0) 16)) rfl ?_
            refine lz_top (v := (rhoS u k)) (by rw [hf0]; exact guard_rho (by omega) hfree) ?_
            refine lv_iload hx hb dL_isAhead_286 (lv_at hl 2 rfl) ?_
            refine lv_icmp_ge (tgt := 318) hx hb dL_isAhead_288 (by decide) (fun h => absurd h (nle_of_lt ((e4 k hlt hfree).2 (by have h9 := c_278; rw [nI_leI (by omega) (by omega)] at h9; omega)))) (fun _ => ?_)
            refine lv_goto (tgt := 304) hx hb dL_isAhead_291 (by decide) ?_
            refine lv_aload_n hx hb dL_isAhead_304 rfl (lv_at hl 10 rfl) ?_
            refine lv_iconst (v := 1) hx hb dL_isAhead_305 (by decide) ?_
            have hG3 : GD K (f 3) := by rw [hf3]; exact hGu
            refine mu_Vw (ci := 4) (q0 := 0) (As := [.int 1]) (rest := []) ⟨hx, hb, hml, hown, hts⟩ (c_X4_goBack1 l D cA _ Ad f o z tx rt ho hz6 hG.ru hG3.ru hk1 hWP (hWD.weaken (fun _ _ _ _ => trivial))) (cwV 1 hts gL_isAhead_X4_goBack rfl rfl rfl (by decide +kernel) ⟨Nat.le_of_ble_eq_true rfl, Nat.le_of_ble_eq_true rfl⟩) hKN hWP hWD hS hA (lw_fP 10 (by decide) hWP : va_P D vwCl ((wLm cA Ad rt) ++ (rst cA Ad (f, ((nI o), (nI z)), tx, rt) 10)) H) rfl rfl (all_fst _ _ _ _) rfl hl.1 rfl (lv_room (Nat.le_of_ble_eq_true rfl)) dL_isAhead_306 ⟨Nat.zero_le _, Nat.zero_le _⟩ (fun H locs hWP hWD hS => ?_)
            have hWP : va_P D vwCl (all cA Ad ((upS (pushF f ((o + z) % 6)) 0 (f 3)), ((nI (if z < 6 then o else (o + 1) % 6)), (nI (if z < 6 then z + 1 else z))), tx, rt)) H := hWP
            have hWD : va_D A (all cA Ad ((upS (pushF f ((o + z) % 6)) 0 (f 3)), ((nI (if z < 6 then o else (o + 1) % 6)), (nI (if z < 6 then z + 1 else z))), tx, rt)) := hWD
            refine lz_top (v := (cbtT (f 3) 16)) rfl ?_
            refine lz_top (v := (cbtT u 16)) (by rw [hf3]) ?_
            obtain ⟨f, o, z, ef, eo, ez, g0, g2, g3, go, gz, hz1, gt, gq⟩ := gpush f ho hz6 (f 3)
            rw [ef, eo, ez] at hWP hWD
            have htop := gt.trans hf0
            have hf0 : f 0 = u := g0.trans hf3
            have hf2 : f 2 = s2 := g2.trans hf2
            have hf3 : f 3 = u := g3.trans hf3
            have ho := go
            have hz6 := gz
            clear ef eo ez g0 g2 g3 go gz gt
            have hWP : va_P D vwCl (all cA Ad (f, ((nI o), (nI z)), tx, rt)) H := hWP
            have hWD : va_D A (all cA Ad (f, ((nI o), (nI z)), tx, rt)) := hWD
            have hG : GD K (f 0) := by rw [hf0]; exact hGu
            refine lv_iload hx hb dL_isAhead_309 (lv_at hl 8 rfl) ?_
            refine lv_icmp_ne (tgt := 318) hx hb dL_isAhead_311 (by decide) (fun h => absurd rfl h) (fun _ => ?_)
            refine lv_iconst (v := 1) hx hb dL_isAhead_314 (by decide) ?_
            refine lv_goto (tgt := 319) hx hb dL_isAhead_315 (by decide) ?_
            refine lv_istore (lv' := [(9, .int 1), (13, .int (nI k)), (12, .int (rhoS u b)), (11, .int (bcF u.2.2.2.2.1)), (10, .int (nI b)), (8, .int (nI nS)), (7, .int (rucS u t)), (6, .int (tellsS u t)), (5, .int (cbtT u 16)), (3, .long (looksV u)), (0, .ref (Ad 10 0)), (1, .int (nI t)), (2, .int (nI N))]) hx hb dL_isAhead_319 hl (by decide) rfl (fun ls hl => ?_)
            refine lv_iinc (v := (nI (k + 1))) (lv' := [(13, .int (nI (k + 1))), (9, .int 1), (12, .int (rhoS u b)), (11, .int (bcF u.2.2.2.2.1)), (10, .int (nI b)), (8, .int (nI nS)), (7, .int (rucS u t)), (6, .int (tellsS u t)), (5, .int (cbtT u 16)), (3, .long (looksV u)), (0, .ref (Ad 10 0)), (1, .int (nI t)), (2, .int (nI N))]) hx hb dL_isAhead_321 hl (k := 1) rfl (nI_1 _) (by decide) rfl (fun ls hl => ?_)
            refine lv_goto (tgt := 237) hx hb dL_isAhead_324 (by decide) ?_
            exact ih (k + 1) (by omega) f o z H locs hf0 hf2 hf3 ho hz6 hWP hWD hS ls (lv_sub hl [0, 1, 2, 3, 4, 5, 6, 7, 8, 9, 10, 11, 12] rfl)
    exact loop237 16 0 (by omega) f o z _ _ hf0 hf2 hf3 ho hz6 hWP hWD hS ls (lv_sub hl [0, 1, 2, 3, 4, 5, 6, 7, 8, 9, 10, 11, 12] rfl)
