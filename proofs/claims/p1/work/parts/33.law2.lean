set_option maxHeartbeats 4000000 in
set_option maxRecDepth 100000 in
theorem h_machine_v (l : Launch) (hl0 : l.stackTraces = false) (D : va_G) (cA : Nat → ClassId) (H : Heap) (Ad : Nat → Nat → Nat) (o9 : Nat) (w : Nat) (hw : w < 9) (hP0 : va_P D vwCl (all cA Ad L0 ++ oW cA o9 (fun _ => 0)) H) (hD0 : va_D (fun _ => True) (all cA Ad L0 ++ oW cA o9 (fun _ => 0))) : LH l yL_machine wsL_machine ({ frames := 7, cells := 1, slots := 6, locals := 103 } : Room) D cA [.ref (Ad 10 0), .int (nI w), .ref o9] H (va_A (all cA Ad L0 ++ oW cA o9 (fun _ => 0)) H.size) o9 0 (vp_updL (fun _ => 0) 0 (i2lF (f0J (27 + w)))) := by
  refine vx_ofWH (cc := cL_machine) (maxL := 4) (ret := some .int) (hh := [(0, 9, 12, 18)]) (by decide) rfl ?_
  intro p e s m args below meth c s₁ B hml hv
  obtain ⟨rfl, hH, hKN, hKY, hXZ⟩ := hv
  have hK := hKN.1
  have hx := B.exec
  have hb := B.bytes
  have hr := B.returns
  have hts := atoms_spec (ws := wsL_machine) B.pre
  have hown : s.vm.findClass RL = some m.cls := findClass_of_methodNamed B.named
  have hlocks := B.notSynchronized
  subst hH
  have hD := hD0.self (sz := s.heap.size)
  generalize hAe : va_A (all cA Ad L0 ++ oW cA o9 (fun _ => 0)) s.heap.size = A at hD hXZ ⊢
  have hA : ∀ q : Nat, s.heap.size ≤ q → A q := fun q h => by rw [← hAe]; exact Or.inr h
  have hS : va_S A s.heap s.heap [] := va_S.rf
  have hP : va_P D vwCl (all cA Ad L0 ++ oW cA o9 (fun _ => 0)) s.heap := hP0
  have hl := lv_entry ([.ref (Ad 10 0), .int (nI w), .ref o9] : List Value) (n := 4) (Nat.le_of_ble_eq_true rfl)
  rw [lg_entry_eq]
  generalize (lg_sl ([.ref (Ad 10 0), .int (nI w), .ref o9] : List Value) ++ List.replicate (4 - (lg_sl ([.ref (Ad 10 0), .int (nI w), .ref o9] : List Value)).length) Slot.unset).toArray = ls at hl ⊢
  have hl : lv_has ls 4 [(0, .ref (Ad 10 0)), (1, .int (nI w)), (2, .ref o9)] := hl
  refine lv_aload_n hx hb dL_machine_0 rfl (lv_at hl 2 rfl) ?_
  refine lv_iconst (v := 0) hx hb dL_machine_1 (by decide) ?_
  refine lv_aload_n hx hb dL_machine_2 rfl (lv_at hl 0 rfl) ?_
  refine lv_iload_n hx hb dL_machine_3 rfl (lv_at hl 1 rfl) ?_
  refine ro_V (ci := 4) (q0 := 0) (As := [.int (nI w)]) (rest := [.int 0, .ref o9]) ⟨hx, hb, hml, hown, hts⟩ (c_X4_machine l D cA _ Ad (fun _ => initS) 0 0 (fun _ => 0, fun _ => 0, 0, 0, 0) (fun _ => 0, fun _ => 0) w hw (va_P_l hP)) (cwV 1 hts gL_machine_X4_machine rfl rfl rfl (by decide +kernel) ⟨Nat.le_of_ble_eq_true rfl, Nat.le_of_ble_eq_true rfl⟩) hKN (lw_fP 10 (by decide) (va_P_l hP)) rfl rfl rfl hl.1 rfl (lv_room (Nat.le_of_ble_eq_true rfl)) dL_machine_4 ⟨Nat.zero_le _, Nat.zero_le _⟩ ?_
  have hP : va_P D vwCl (oW cA o9 (fun _ => 0)) s.heap := va_P_r hP
  have hD : va_D A (oW cA o9 (fun _ => 0)) := va_D_r hD
  refine lz_top (v := (f0J (27 + w))) (pv_machine w hw) ?_
  refine lv_i2l (v := (i2lF (f0J (27 + w)))) hx hb dL_machine_7 rfl ?_
  refine lz_last (k := 0) (f := fun _ => 0) hx hb hK hP hD hS 0 3 rfl rfl ⟨by decide, by decide⟩ dL_machine_8 (fun H locs hP hD hS => ?_)
  refine lv_goto (tgt := 15) hx hb dL_machine_9 (by decide) ?_
  refine lv_iconst (v := 0) hx hb dL_machine_15 (by decide) ?_
  exact lh_iret hx hb hr hlocks dL_machine_16 hP hS (Nat.le_of_ble_eq_true rfl) (Nat.le_of_ble_eq_true rfl) rfl
theorem mL_machine_cw : Cond.codeWith yL_machine cL_machine 4 (some .int) [(0, 9, 12, 18)] ∈ wsL_machine := by decide +kernel
theorem mL_machine_cl18 : Cond.classLink RL 18 "java/lang/IllegalArgumentException" ∈ wsL_machine := by decide +kernel
set_option maxHeartbeats 4000000 in
set_option maxRecDepth 100000 in
theorem h_machine_x1 (l : Launch) (hl0 : l.stackTraces = false) (D : va_G) (cA : Nat → ClassId) (H : Heap) (Ad : Nat → Nat → Nat) (o9 : Nat) (x : Int32) (hx0 : inF x 0 8 = 0) (hP0 : va_P D vwCl (all cA Ad L0 ++ oW cA o9 (fun _ => 0)) H) (hD0 : va_D (fun _ => True) (all cA Ad L0 ++ oW cA o9 (fun _ => 0))) : LH l yL_machine wsL_machine ({ frames := 7, cells := 1, slots := 6, locals := 103 } : Room) D cA [.ref (Ad 10 0), .int x, .ref o9] H (va_A (all cA Ad L0 ++ oW cA o9 (fun _ => 0)) H.size) o9 1 (fun _ => 0) := by
  refine vx_ofWH (cc := cL_machine) (maxL := 4) (ret := some .int) (hh := [(0, 9, 12, 18)]) (by decide) rfl ?_
  intro p e s m args below meth c s₁ B hml hv
  obtain ⟨rfl, hH, hKN, hKY, hXZ⟩ := hv
  have hK := hKN.1
  have hx := B.exec
  have hb := B.bytes
  have hr := B.returns
  have hts := atoms_spec (ws := wsL_machine) B.pre
  have hown : s.vm.findClass RL = some m.cls := findClass_of_methodNamed B.named
  have hlocks := B.notSynchronized
  subst hH
  have hD := hD0.self (sz := s.heap.size)
  generalize hAe : va_A (all cA Ad L0 ++ oW cA o9 (fun _ => 0)) s.heap.size = A at hD hXZ ⊢
  have hA : ∀ q : Nat, s.heap.size ≤ q → A q := fun q h => by rw [← hAe]; exact Or.inr h
  have hS : va_S A s.heap s.heap [] := va_S.rf
  have hP : va_P D vwCl (all cA Ad L0 ++ oW cA o9 (fun _ => 0)) s.heap := hP0
  have hl := lv_entry ([.ref (Ad 10 0), .int x, .ref o9] : List Value) (n := 4) (Nat.le_of_ble_eq_true rfl)
  rw [lg_entry_eq]
  generalize (lg_sl ([.ref (Ad 10 0), .int x, .ref o9] : List Value) ++ List.replicate (4 - (lg_sl ([.ref (Ad 10 0), .int x, .ref o9] : List Value)).length) Slot.unset).toArray = ls at hl ⊢
  have hl : lv_has ls 4 [(0, .ref (Ad 10 0)), (1, .int x), (2, .ref o9)] := hl
  refine lv_aload_n hx hb dL_machine_0 rfl (lv_at hl 2 rfl) ?_
  refine lv_iconst (v := 0) hx hb dL_machine_1 (by decide) ?_
  refine lv_aload_n hx hb dL_machine_2 rfl (lv_at hl 0 rfl) ?_
  refine lv_iload_n hx hb dL_machine_3 rfl (lv_at hl 1 rfl) ?_
  have hPo : va_P D vwCl (oW cA o9 (fun _ => 0)) s.heap := va_P_r hP
  refine xt_V (ci := 4) (q0 := 0) (As := [.int x]) (rest := [.int 0, .ref o9]) (cls := "java/lang/IllegalArgumentException") ⟨hx, hb, hml, hown, hts⟩ (x_machine l hl0 D cA _ (Ad 10 0) x hx0) (cwV 1 hts gL_machine_X4_machine rfl rfl rfl (by decide +kernel) ⟨Nat.le_of_ble_eq_true rfl, Nat.le_of_ble_eq_true rfl⟩) hKN hKY.1 (hXZ.narrow (fun _ h => h.elim)) hS hA (lw_fP 10 (by decide) (va_P_l hP)) rfl rfl rfl hl.1 rfl (lv_room (Nat.le_of_ble_eq_true rfl)) dL_machine_4 ⟨Nat.le_of_ble_eq_true rfl, Nat.le_of_ble_eq_true rfl⟩ (fun ce q9 H locs hk9 hS hce hcv hcl => ?_)
  have hP : va_P D vwCl (oW cA o9 (fun _ => 0)) H := fun k q hq => (hPo k q hq).kept (hk9 q.1 (hPo k q hq).lt)
  refine vx_catch (own := RL) (name := "java/lang/IllegalArgumentException") (E := "java/lang/IllegalArgumentException") (ce := ce) (q := q9) hown [] ⟨0, 9, 12, 18⟩ [] ((vx_table (x := yL_law) B (hts _ mL_machine_cw)).trans rfl) (fun z hz => nomatch hz) (by decide) (by decide) (hts _ mL_machine_cl18) (hKY.1.use _ (by decide)) hce hcv hcl ?_
  refine lv_astore_n (lv' := [(3, .ref q9), (0, .ref (Ad 10 0)), (1, .int x), (2, .ref o9)]) hx hb dL_machine_12 rfl hl (by decide) rfl (fun ls hl => ?_)
  refine lv_iconst (v := 1) hx hb dL_machine_13 (by decide) ?_
  exact lh_iret hx hb hr hlocks dL_machine_14 hP hS (Nat.le_of_ble_eq_true rfl) (Nat.le_of_ble_eq_true rfl) rfl
set_option maxHeartbeats 4000000 in
set_option maxRecDepth 100000 in
theorem h_told_v (l : Launch) (hl0 : l.stackTraces = false) (D : va_G) (cA : Nat → ClassId) (H : Heap) (Ad : Nat → Nat → Nat) (o9 : Nat) (w : Nat) (hw : w < 8) (hP0 : va_P D vwCl (all cA Ad L0 ++ oW cA o9 (fun _ => 0)) H) (hD0 : va_D (fun _ => True) (all cA Ad L0 ++ oW cA o9 (fun _ => 0))) : LH l yL_told wsL_told ({ frames := 7, cells := 1, slots := 6, locals := 103 } : Room) D cA [.ref (Ad 10 0), .int (nI w), .ref o9] H (va_A (all cA Ad L0 ++ oW cA o9 (fun _ => 0)) H.size) o9 0 (vp_updL (fun _ => 0) 0 (i2lF (-1))) := by
  refine vx_ofWH (cc := cL_told) (maxL := 4) (ret := some .int) (hh := [(0, 9, 12, 18)]) (by decide) rfl ?_
  intro p e s m args below meth c s₁ B hml hv
  obtain ⟨rfl, hH, hKN, hKY, hXZ⟩ := hv
  have hK := hKN.1
  have hx := B.exec
  have hb := B.bytes
  have hr := B.returns
  have hts := atoms_spec (ws := wsL_told) B.pre
  have hown : s.vm.findClass RL = some m.cls := findClass_of_methodNamed B.named
  have hlocks := B.notSynchronized
  subst hH
  have hD := hD0.self (sz := s.heap.size)
  generalize hAe : va_A (all cA Ad L0 ++ oW cA o9 (fun _ => 0)) s.heap.size = A at hD hXZ ⊢
  have hA : ∀ q : Nat, s.heap.size ≤ q → A q := fun q h => by rw [← hAe]; exact Or.inr h
  have hS : va_S A s.heap s.heap [] := va_S.rf
  have hP : va_P D vwCl (all cA Ad L0 ++ oW cA o9 (fun _ => 0)) s.heap := hP0
  have hl := lv_entry ([.ref (Ad 10 0), .int (nI w), .ref o9] : List Value) (n := 4) (Nat.le_of_ble_eq_true rfl)
  rw [lg_entry_eq]
  generalize (lg_sl ([.ref (Ad 10 0), .int (nI w), .ref o9] : List Value) ++ List.replicate (4 - (lg_sl ([.ref (Ad 10 0), .int (nI w), .ref o9] : List Value)).length) Slot.unset).toArray = ls at hl ⊢
  have hl : lv_has ls 4 [(0, .ref (Ad 10 0)), (1, .int (nI w)), (2, .ref o9)] := hl
  refine lv_aload_n hx hb dL_told_0 rfl (lv_at hl 2 rfl) ?_
  refine lv_iconst (v := 0) hx hb dL_told_1 (by decide) ?_
  refine lv_aload_n hx hb dL_told_2 rfl (lv_at hl 0 rfl) ?_
  refine lv_iload_n hx hb dL_told_3 rfl (lv_at hl 1 rfl) ?_
  refine ro_V (ci := 4) (q0 := 0) (As := [.int (nI w)]) (rest := [.int 0, .ref o9]) ⟨hx, hb, hml, hown, hts⟩ (c_X4_told l D cA _ Ad (fun _ => initS) 0 0 (fun _ => 0, fun _ => 0, 0, 0, 0) (fun _ => 0, fun _ => 0) w hw (va_P_l hP)) (cwV 1 hts gL_told_X4_told rfl rfl rfl (by decide +kernel) ⟨Nat.le_of_ble_eq_true rfl, Nat.le_of_ble_eq_true rfl⟩) hKN (lw_fP 10 (by decide) (va_P_l hP)) rfl rfl rfl hl.1 rfl (lv_room (Nat.le_of_ble_eq_true rfl)) dL_told_4 ⟨Nat.zero_le _, Nat.zero_le _⟩ ?_
  have hP : va_P D vwCl (oW cA o9 (fun _ => 0)) s.heap := va_P_r hP
  have hD : va_D A (oW cA o9 (fun _ => 0)) := va_D_r hD
  refine lz_top (v := (-1)) (pv_told w) ?_
  refine lv_i2l (v := (i2lF (-1))) hx hb dL_told_7 rfl ?_
  refine lz_last (k := 0) (f := fun _ => 0) hx hb hK hP hD hS 0 3 rfl rfl ⟨by decide, by decide⟩ dL_told_8 (fun H locs hP hD hS => ?_)
  refine lv_goto (tgt := 15) hx hb dL_told_9 (by decide) ?_
  refine lv_iconst (v := 0) hx hb dL_told_15 (by decide) ?_
  exact lh_iret hx hb hr hlocks dL_told_16 hP hS (Nat.le_of_ble_eq_true rfl) (Nat.le_of_ble_eq_true rfl) rfl
theorem mL_told_cw : Cond.codeWith yL_told cL_told 4 (some .int) [(0, 9, 12, 18)] ∈ wsL_told := by decide +kernel
theorem mL_told_cl18 : Cond.classLink RL 18 "java/lang/IllegalArgumentException" ∈ wsL_told := by decide +kernel
set_option maxHeartbeats 4000000 in
set_option maxRecDepth 100000 in
theorem h_told_x1 (l : Launch) (hl0 : l.stackTraces = false) (D : va_G) (cA : Nat → ClassId) (H : Heap) (Ad : Nat → Nat → Nat) (o9 : Nat) (x : Int32) (hx0 : inF x 0 7 = 0) (hP0 : va_P D vwCl (all cA Ad L0 ++ oW cA o9 (fun _ => 0)) H) (hD0 : va_D (fun _ => True) (all cA Ad L0 ++ oW cA o9 (fun _ => 0))) : LH l yL_told wsL_told ({ frames := 7, cells := 1, slots := 6, locals := 103 } : Room) D cA [.ref (Ad 10 0), .int x, .ref o9] H (va_A (all cA Ad L0 ++ oW cA o9 (fun _ => 0)) H.size) o9 1 (fun _ => 0) := by
  refine vx_ofWH (cc := cL_told) (maxL := 4) (ret := some .int) (hh := [(0, 9, 12, 18)]) (by decide) rfl ?_
  intro p e s m args below meth c s₁ B hml hv
  obtain ⟨rfl, hH, hKN, hKY, hXZ⟩ := hv
  have hK := hKN.1
  have hx := B.exec
  have hb := B.bytes
  have hr := B.returns
  have hts := atoms_spec (ws := wsL_told) B.pre
  have hown : s.vm.findClass RL = some m.cls := findClass_of_methodNamed B.named
  have hlocks := B.notSynchronized
  subst hH
  have hD := hD0.self (sz := s.heap.size)
  generalize hAe : va_A (all cA Ad L0 ++ oW cA o9 (fun _ => 0)) s.heap.size = A at hD hXZ ⊢
  have hA : ∀ q : Nat, s.heap.size ≤ q → A q := fun q h => by rw [← hAe]; exact Or.inr h
  have hS : va_S A s.heap s.heap [] := va_S.rf
  have hP : va_P D vwCl (all cA Ad L0 ++ oW cA o9 (fun _ => 0)) s.heap := hP0
  have hl := lv_entry ([.ref (Ad 10 0), .int x, .ref o9] : List Value) (n := 4) (Nat.le_of_ble_eq_true rfl)
  rw [lg_entry_eq]
  generalize (lg_sl ([.ref (Ad 10 0), .int x, .ref o9] : List Value) ++ List.replicate (4 - (lg_sl ([.ref (Ad 10 0), .int x, .ref o9] : List Value)).length) Slot.unset).toArray = ls at hl ⊢
  have hl : lv_has ls 4 [(0, .ref (Ad 10 0)), (1, .int x), (2, .ref o9)] := hl
  refine lv_aload_n hx hb dL_told_0 rfl (lv_at hl 2 rfl) ?_
  refine lv_iconst (v := 0) hx hb dL_told_1 (by decide) ?_
  refine lv_aload_n hx hb dL_told_2 rfl (lv_at hl 0 rfl) ?_
  refine lv_iload_n hx hb dL_told_3 rfl (lv_at hl 1 rfl) ?_
  have hPo : va_P D vwCl (oW cA o9 (fun _ => 0)) s.heap := va_P_r hP
  refine xt_V (ci := 4) (q0 := 0) (As := [.int x]) (rest := [.int 0, .ref o9]) (cls := "java/lang/IllegalArgumentException") ⟨hx, hb, hml, hown, hts⟩ (x_told l hl0 D cA _ (Ad 10 0) x hx0) (cwV 1 hts gL_told_X4_told rfl rfl rfl (by decide +kernel) ⟨Nat.le_of_ble_eq_true rfl, Nat.le_of_ble_eq_true rfl⟩) hKN hKY.1 (hXZ.narrow (fun _ h => h.elim)) hS hA (lw_fP 10 (by decide) (va_P_l hP)) rfl rfl rfl hl.1 rfl (lv_room (Nat.le_of_ble_eq_true rfl)) dL_told_4 ⟨Nat.le_of_ble_eq_true rfl, Nat.le_of_ble_eq_true rfl⟩ (fun ce q9 H locs hk9 hS hce hcv hcl => ?_)
  have hP : va_P D vwCl (oW cA o9 (fun _ => 0)) H := fun k q hq => (hPo k q hq).kept (hk9 q.1 (hPo k q hq).lt)
  refine vx_catch (own := RL) (name := "java/lang/IllegalArgumentException") (E := "java/lang/IllegalArgumentException") (ce := ce) (q := q9) hown [] ⟨0, 9, 12, 18⟩ [] ((vx_table (x := yL_law) B (hts _ mL_told_cw)).trans rfl) (fun z hz => nomatch hz) (by decide) (by decide) (hts _ mL_told_cl18) (hKY.1.use _ (by decide)) hce hcv hcl ?_
  refine lv_astore_n (lv' := [(3, .ref q9), (0, .ref (Ad 10 0)), (1, .int x), (2, .ref o9)]) hx hb dL_told_12 rfl hl (by decide) rfl (fun ls hl => ?_)
  refine lv_iconst (v := 1) hx hb dL_told_13 (by decide) ?_
  exact lh_iret hx hb hr hlocks dL_told_14 hP hS (Nat.le_of_ble_eq_true rfl) (Nat.le_of_ble_eq_true rfl) rfl
set_option maxHeartbeats 4000000 in
set_option maxRecDepth 100000 in
theorem h_count_v (l : Launch) (hl0 : l.stackTraces = false) (D : va_G) (cA : Nat → ClassId) (H : Heap) (Ad : Nat → Nat → Nat) (o9 : Nat) (w : Nat) (hw : w < 10) (hP0 : va_P D vwCl (all cA Ad L0 ++ oW cA o9 (fun _ => 0)) H) (hD0 : va_D (fun _ => True) (all cA Ad L0 ++ oW cA o9 (fun _ => 0))) : LH l yL_count wsL_count ({ frames := 7, cells := 1, slots := 6, locals := 138 } : Room) D cA [.ref (Ad 10 0), .int (nI w), .ref o9] H (va_A (all cA Ad L0 ++ oW cA o9 (fun _ => 0)) H.size) o9 0 (vp_updL (fun _ => 0) 0 (i2lF (countM 0 w))) := by
  refine vx_ofWH (cc := cL_count) (maxL := 4) (ret := some .int) (hh := [(0, 9, 12, 18)]) (by decide) rfl ?_
  intro p e s m args below meth c s₁ B hml hv
  obtain ⟨rfl, hH, hKN, hKY, hXZ⟩ := hv
  have hK := hKN.1
  have hx := B.exec
  have hb := B.bytes
  have hr := B.returns
  have hts := atoms_spec (ws := wsL_count) B.pre
  have hown : s.vm.findClass RL = some m.cls := findClass_of_methodNamed B.named
  have hlocks := B.notSynchronized
  subst hH
  have hD := hD0.self (sz := s.heap.size)
  generalize hAe : va_A (all cA Ad L0 ++ oW cA o9 (fun _ => 0)) s.heap.size = A at hD hXZ ⊢
  have hA : ∀ q : Nat, s.heap.size ≤ q → A q := fun q h => by rw [← hAe]; exact Or.inr h
  have hS : va_S A s.heap s.heap [] := va_S.rf
  have hP : va_P D vwCl (all cA Ad L0 ++ oW cA o9 (fun _ => 0)) s.heap := hP0
  have hl := lv_entry ([.ref (Ad 10 0), .int (nI w), .ref o9] : List Value) (n := 4) (Nat.le_of_ble_eq_true rfl)
  rw [lg_entry_eq]
  generalize (lg_sl ([.ref (Ad 10 0), .int (nI w), .ref o9] : List Value) ++ List.replicate (4 - (lg_sl ([.ref (Ad 10 0), .int (nI w), .ref o9] : List Value)).length) Slot.unset).toArray = ls at hl ⊢
  have hl : lv_has ls 4 [(0, .ref (Ad 10 0)), (1, .int (nI w)), (2, .ref o9)] := hl
  refine lv_aload_n hx hb dL_count_0 rfl (lv_at hl 2 rfl) ?_
  refine lv_iconst (v := 0) hx hb dL_count_1 (by decide) ?_
  refine lv_aload_n hx hb dL_count_2 rfl (lv_at hl 0 rfl) ?_
  refine lv_iload_n hx hb dL_count_3 rfl (lv_at hl 1 rfl) ?_
  refine mu_Vx (ci := 4) (q0 := 0) (As := [.int (nI w)]) (rest := [.int 0, .ref o9]) ⟨hx, hb, hml, hown, hts⟩ (c_X4_count l D cA _ Ad (fun _ => initS) 0 0 (fun _ => 0, fun _ => 0, 0, 0, 0) (fun _ => 0, fun _ => 0) w hw (va_P_l hP) (va_D_l hD)) (cwV 1 hts gL_count_X4_count rfl rfl rfl (by decide +kernel) ⟨Nat.le_of_ble_eq_true rfl, Nat.le_of_ble_eq_true rfl⟩) hKN hP hD hS hA (lw_fP 10 (by decide) (va_P_l hP)) rfl rfl (all_fst _ _ _ _) rfl hl.1 rfl (lv_room (Nat.le_of_ble_eq_true rfl)) dL_count_4 ⟨Nat.zero_le _, Nat.zero_le _⟩ (fun H locs hP hD hS => ?_)
  refine lz_top (v := (countM 0 w)) (pv_count w hw) ?_
  refine lv_i2l (v := (i2lF (countM 0 w))) hx hb dL_count_7 rfl ?_
  refine lz_last (k := 0) (f := fun _ => 0) hx hb hK hP hD hS 0 3 rfl rfl ⟨by decide, by decide⟩ dL_count_8 (fun H locs hP hD hS => ?_)
  refine lv_goto (tgt := 15) hx hb dL_count_9 (by decide) ?_
  refine lv_iconst (v := 0) hx hb dL_count_15 (by decide) ?_
  exact lh_iret hx hb hr hlocks dL_count_16 hP hS (Nat.le_of_ble_eq_true rfl) (Nat.le_of_ble_eq_true rfl) rfl
theorem mL_count_cw : Cond.codeWith yL_count cL_count 4 (some .int) [(0, 9, 12, 18)] ∈ wsL_count := by decide +kernel
theorem mL_count_cl18 : Cond.classLink RL 18 "java/lang/IllegalArgumentException" ∈ wsL_count := by decide +kernel
set_option maxHeartbeats 4000000 in
set_option maxRecDepth 100000 in
theorem h_count_x1 (l : Launch) (hl0 : l.stackTraces = false) (D : va_G) (cA : Nat → ClassId) (H : Heap) (Ad : Nat → Nat → Nat) (o9 : Nat) (x : Int32) (hx0 : inF x 0 9 = 0) (hP0 : va_P D vwCl (all cA Ad L0 ++ oW cA o9 (fun _ => 0)) H) (hD0 : va_D (fun _ => True) (all cA Ad L0 ++ oW cA o9 (fun _ => 0))) : LH l yL_count wsL_count ({ frames := 7, cells := 1, slots := 6, locals := 138 } : Room) D cA [.ref (Ad 10 0), .int x, .ref o9] H (va_A (all cA Ad L0 ++ oW cA o9 (fun _ => 0)) H.size) o9 1 (fun _ => 0) := by
  refine vx_ofWH (cc := cL_count) (maxL := 4) (ret := some .int) (hh := [(0, 9, 12, 18)]) (by decide) rfl ?_
  intro p e s m args below meth c s₁ B hml hv
  obtain ⟨rfl, hH, hKN, hKY, hXZ⟩ := hv
  have hK := hKN.1
  have hx := B.exec
  have hb := B.bytes
  have hr := B.returns
  have hts := atoms_spec (ws := wsL_count) B.pre
  have hown : s.vm.findClass RL = some m.cls := findClass_of_methodNamed B.named
  have hlocks := B.notSynchronized
  subst hH
  have hD := hD0.self (sz := s.heap.size)
  generalize hAe : va_A (all cA Ad L0 ++ oW cA o9 (fun _ => 0)) s.heap.size = A at hD hXZ ⊢
  have hA : ∀ q : Nat, s.heap.size ≤ q → A q := fun q h => by rw [← hAe]; exact Or.inr h
  have hS : va_S A s.heap s.heap [] := va_S.rf
  have hP : va_P D vwCl (all cA Ad L0 ++ oW cA o9 (fun _ => 0)) s.heap := hP0
  have hl := lv_entry ([.ref (Ad 10 0), .int x, .ref o9] : List Value) (n := 4) (Nat.le_of_ble_eq_true rfl)
  rw [lg_entry_eq]
  generalize (lg_sl ([.ref (Ad 10 0), .int x, .ref o9] : List Value) ++ List.replicate (4 - (lg_sl ([.ref (Ad 10 0), .int x, .ref o9] : List Value)).length) Slot.unset).toArray = ls at hl ⊢
  have hl : lv_has ls 4 [(0, .ref (Ad 10 0)), (1, .int x), (2, .ref o9)] := hl
  refine lv_aload_n hx hb dL_count_0 rfl (lv_at hl 2 rfl) ?_
  refine lv_iconst (v := 0) hx hb dL_count_1 (by decide) ?_
  refine lv_aload_n hx hb dL_count_2 rfl (lv_at hl 0 rfl) ?_
  refine lv_iload_n hx hb dL_count_3 rfl (lv_at hl 1 rfl) ?_
  have hPo : va_P D vwCl (oW cA o9 (fun _ => 0)) s.heap := va_P_r hP
  refine xt_V (ci := 4) (q0 := 0) (As := [.int x]) (rest := [.int 0, .ref o9]) (cls := "java/lang/IllegalArgumentException") ⟨hx, hb, hml, hown, hts⟩ (x_count l hl0 D cA _ (Ad 10 0) x hx0) (cwV 1 hts gL_count_X4_count rfl rfl rfl (by decide +kernel) ⟨Nat.le_of_ble_eq_true rfl, Nat.le_of_ble_eq_true rfl⟩) hKN hKY.1 (hXZ.narrow (fun _ h => h.elim)) hS hA (lw_fP 10 (by decide) (va_P_l hP)) rfl rfl rfl hl.1 rfl (lv_room (Nat.le_of_ble_eq_true rfl)) dL_count_4 ⟨Nat.le_of_ble_eq_true rfl, Nat.le_of_ble_eq_true rfl⟩ (fun ce q9 H locs hk9 hS hce hcv hcl => ?_)
  have hP : va_P D vwCl (oW cA o9 (fun _ => 0)) H := fun k q hq => (hPo k q hq).kept (hk9 q.1 (hPo k q hq).lt)
  refine vx_catch (own := RL) (name := "java/lang/IllegalArgumentException") (E := "java/lang/IllegalArgumentException") (ce := ce) (q := q9) hown [] ⟨0, 9, 12, 18⟩ [] ((vx_table (x := yL_law) B (hts _ mL_count_cw)).trans rfl) (fun z hz => nomatch hz) (by decide) (by decide) (hts _ mL_count_cl18) (hKY.1.use _ (by decide)) hce hcv hcl ?_
  refine lv_astore_n (lv' := [(3, .ref q9), (0, .ref (Ad 10 0)), (1, .int x), (2, .ref o9)]) hx hb dL_count_12 rfl hl (by decide) rfl (fun ls hl => ?_)
  refine lv_iconst (v := 1) hx hb dL_count_13 (by decide) ?_
  exact lh_iret hx hb hr hlocks dL_count_14 hP hS (Nat.le_of_ble_eq_true rfl) (Nat.le_of_ble_eq_true rfl) rfl
set_option maxHeartbeats 4000000 in
set_option maxRecDepth 100000 in
theorem h_setting_v0 (l : Launch) (hl0 : l.stackTraces = false) (D : va_G) (cA : Nat → ClassId) (H : Heap) (Ad : Nat → Nat → Nat) (o9 : Nat) (hP0 : va_P D vwCl (all cA Ad L0 ++ oW cA o9 (fun _ => 0)) H) (hD0 : va_D (fun _ => True) (all cA Ad L0 ++ oW cA o9 (fun _ => 0))) : LH l yL_setting wsL_setting ({ frames := 7, cells := 1, slots := 6, locals := 103 } : Room) D cA [.ref (Ad 10 0), .int 0, .ref o9] H (va_A (all cA Ad L0 ++ oW cA o9 (fun _ => 0)) H.size) o9 0 (vp_updL (fun _ => 0) 0 (i2lF 6)) := by
  refine vx_ofWH (cc := cL_setting) (maxL := 4) (ret := some .int) (hh := [(0, 9, 12, 13)]) (by decide) rfl ?_
  intro p e s m args below meth c s₁ B hml hv
  obtain ⟨rfl, hH, hKN, hKY, hXZ⟩ := hv
  have hK := hKN.1
  have hx := B.exec
  have hb := B.bytes
  have hr := B.returns
  have hts := atoms_spec (ws := wsL_setting) B.pre
  have hown : s.vm.findClass RL = some m.cls := findClass_of_methodNamed B.named
  have hlocks := B.notSynchronized
  subst hH
  have hD := hD0.self (sz := s.heap.size)
  generalize hAe : va_A (all cA Ad L0 ++ oW cA o9 (fun _ => 0)) s.heap.size = A at hD hXZ ⊢
  have hA : ∀ q : Nat, s.heap.size ≤ q → A q := fun q h => by rw [← hAe]; exact Or.inr h
  have hS : va_S A s.heap s.heap [] := va_S.rf
  have hP : va_P D vwCl (all cA Ad L0 ++ oW cA o9 (fun _ => 0)) s.heap := hP0
  have hl := lv_entry ([.ref (Ad 10 0), .int 0, .ref o9] : List Value) (n := 4) (Nat.le_of_ble_eq_true rfl)
  rw [lg_entry_eq]
  generalize (lg_sl ([.ref (Ad 10 0), .int 0, .ref o9] : List Value) ++ List.replicate (4 - (lg_sl ([.ref (Ad 10 0), .int 0, .ref o9] : List Value)).length) Slot.unset).toArray = ls at hl ⊢
  have hl : lv_has ls 4 [(0, .ref (Ad 10 0)), (1, .int 0), (2, .ref o9)] := hl
  refine lv_aload_n hx hb dL_setting_0 rfl (lv_at hl 2 rfl) ?_
  refine lv_iconst (v := 0) hx hb dL_setting_1 (by decide) ?_
  refine lv_aload_n hx hb dL_setting_2 rfl (lv_at hl 0 rfl) ?_
  refine lv_iload_n hx hb dL_setting_3 rfl (lv_at hl 1 rfl) ?_
  refine ro_V (ci := 4) (q0 := 0) (As := [.int 0]) (rest := [.int 0, .ref o9]) ⟨hx, hb, hml, hown, hts⟩ (c_X4_setting l D cA _ Ad (fun _ => initS) 0 0 (fun _ => 0, fun _ => 0, 0, 0, 0) (fun _ => 0, fun _ => 0) 0 (by decide) (va_P_l hP)) (cwV 1 hts gL_setting_X4_setting rfl rfl rfl (by decide +kernel) ⟨Nat.le_of_ble_eq_true rfl, Nat.le_of_ble_eq_true rfl⟩) hKN (lw_fP 10 (by decide) (va_P_l hP)) rfl rfl rfl hl.1 rfl (lv_room (Nat.le_of_ble_eq_true rfl)) dL_setting_4 ⟨Nat.zero_le _, Nat.zero_le _⟩ ?_
  have hP : va_P D vwCl (oW cA o9 (fun _ => 0)) s.heap := va_P_r hP
  have hD : va_D A (oW cA o9 (fun _ => 0)) := va_D_r hD
  refine lz_top (v := 6) pv_set0 ?_
  refine lv_i2l (v := (i2lF 6)) hx hb dL_setting_7 rfl ?_
  refine lz_last (k := 0) (f := fun _ => 0) hx hb hK hP hD hS 0 3 rfl rfl ⟨by decide, by decide⟩ dL_setting_8 (fun H locs hP hD hS => ?_)
  refine lv_goto (tgt := 15) hx hb dL_setting_9 (by decide) ?_
  refine lv_iconst (v := 0) hx hb dL_setting_15 (by decide) ?_
  exact lh_iret hx hb hr hlocks dL_setting_16 hP hS (Nat.le_of_ble_eq_true rfl) (Nat.le_of_ble_eq_true rfl) rfl
set_option maxHeartbeats 4000000 in
set_option maxRecDepth 100000 in
theorem h_setting_v1 (l : Launch) (hl0 : l.stackTraces = false) (D : va_G) (cA : Nat → ClassId) (H : Heap) (Ad : Nat → Nat → Nat) (o9 : Nat) (hP0 : va_P D vwCl (all cA Ad L0 ++ oW cA o9 (fun _ => 0)) H) (hD0 : va_D (fun _ => True) (all cA Ad L0 ++ oW cA o9 (fun _ => 0))) : LH l yL_setting wsL_setting ({ frames := 7, cells := 1, slots := 6, locals := 103 } : Room) D cA [.ref (Ad 10 0), .int 1, .ref o9] H (va_A (all cA Ad L0 ++ oW cA o9 (fun _ => 0)) H.size) o9 0 (vp_updL (fun _ => 0) 0 (i2lF 0)) := by
  refine vx_ofWH (cc := cL_setting) (maxL := 4) (ret := some .int) (hh := [(0, 9, 12, 13)]) (by decide) rfl ?_
  intro p e s m args below meth c s₁ B hml hv
  obtain ⟨rfl, hH, hKN, hKY, hXZ⟩ := hv
  have hK := hKN.1
  have hx := B.exec
  have hb := B.bytes
  have hr := B.returns
  have hts := atoms_spec (ws := wsL_setting) B.pre
  have hown : s.vm.findClass RL = some m.cls := findClass_of_methodNamed B.named
  have hlocks := B.notSynchronized
  subst hH
  have hD := hD0.self (sz := s.heap.size)
  generalize hAe : va_A (all cA Ad L0 ++ oW cA o9 (fun _ => 0)) s.heap.size = A at hD hXZ ⊢
  have hA : ∀ q : Nat, s.heap.size ≤ q → A q := fun q h => by rw [← hAe]; exact Or.inr h
  have hS : va_S A s.heap s.heap [] := va_S.rf
  have hP : va_P D vwCl (all cA Ad L0 ++ oW cA o9 (fun _ => 0)) s.heap := hP0
  have hl := lv_entry ([.ref (Ad 10 0), .int 1, .ref o9] : List Value) (n := 4) (Nat.le_of_ble_eq_true rfl)
  rw [lg_entry_eq]
  generalize (lg_sl ([.ref (Ad 10 0), .int 1, .ref o9] : List Value) ++ List.replicate (4 - (lg_sl ([.ref (Ad 10 0), .int 1, .ref o9] : List Value)).length) Slot.unset).toArray = ls at hl ⊢
  have hl : lv_has ls 4 [(0, .ref (Ad 10 0)), (1, .int 1), (2, .ref o9)] := hl
  refine lv_aload_n hx hb dL_setting_0 rfl (lv_at hl 2 rfl) ?_
  refine lv_iconst (v := 0) hx hb dL_setting_1 (by decide) ?_
  refine lv_aload_n hx hb dL_setting_2 rfl (lv_at hl 0 rfl) ?_
  refine lv_iload_n hx hb dL_setting_3 rfl (lv_at hl 1 rfl) ?_
  refine ro_V (ci := 4) (q0 := 0) (As := [.int 1]) (rest := [.int 0, .ref o9]) ⟨hx, hb, hml, hown, hts⟩ (c_X4_setting l D cA _ Ad (fun _ => initS) 0 0 (fun _ => 0, fun _ => 0, 0, 0, 0) (fun _ => 0, fun _ => 0) 1 (by decide) (va_P_l hP)) (cwV 1 hts gL_setting_X4_setting rfl rfl rfl (by decide +kernel) ⟨Nat.le_of_ble_eq_true rfl, Nat.le_of_ble_eq_true rfl⟩) hKN (lw_fP 10 (by decide) (va_P_l hP)) rfl rfl rfl hl.1 rfl (lv_room (Nat.le_of_ble_eq_true rfl)) dL_setting_4 ⟨Nat.zero_le _, Nat.zero_le _⟩ ?_
  have hP : va_P D vwCl (oW cA o9 (fun _ => 0)) s.heap := va_P_r hP
  have hD : va_D A (oW cA o9 (fun _ => 0)) := va_D_r hD
  refine lz_top (v := 0) pv_set1 ?_
  refine lv_i2l (v := (i2lF 0)) hx hb dL_setting_7 rfl ?_
  refine lz_last (k := 0) (f := fun _ => 0) hx hb hK hP hD hS 0 3 rfl rfl ⟨by decide, by decide⟩ dL_setting_8 (fun H locs hP hD hS => ?_)
  refine lv_goto (tgt := 15) hx hb dL_setting_9 (by decide) ?_
  refine lv_iconst (v := 0) hx hb dL_setting_15 (by decide) ?_
  exact lh_iret hx hb hr hlocks dL_setting_16 hP hS (Nat.le_of_ble_eq_true rfl) (Nat.le_of_ble_eq_true rfl) rfl
theorem mL_setting_cw : Cond.codeWith yL_setting cL_setting 4 (some .int) [(0, 9, 12, 13)] ∈ wsL_setting := by decide +kernel
theorem mL_setting_cl13 : Cond.classLink RL 13 "java/lang/IndexOutOfBoundsException" ∈ wsL_setting := by decide +kernel
set_option maxHeartbeats 4000000 in
set_option maxRecDepth 100000 in
theorem h_setting_x1 (l : Launch) (hl0 : l.stackTraces = false) (D : va_G) (cA : Nat → ClassId) (H : Heap) (Ad : Nat → Nat → Nat) (o9 : Nat) (x : Int32) (hx0 : inF x 0 1 = 0) (hP0 : va_P D vwCl (all cA Ad L0 ++ oW cA o9 (fun _ => 0)) H) (hD0 : va_D (fun _ => True) (all cA Ad L0 ++ oW cA o9 (fun _ => 0))) : LH l yL_setting wsL_setting ({ frames := 7, cells := 1, slots := 6, locals := 103 } : Room) D cA [.ref (Ad 10 0), .int x, .ref o9] H (va_A (all cA Ad L0 ++ oW cA o9 (fun _ => 0)) H.size) o9 1 (fun _ => 0) := by
  refine vx_ofWH (cc := cL_setting) (maxL := 4) (ret := some .int) (hh := [(0, 9, 12, 13)]) (by decide) rfl ?_
  intro p e s m args below meth c s₁ B hml hv
  obtain ⟨rfl, hH, hKN, hKY, hXZ⟩ := hv
  have hK := hKN.1
  have hx := B.exec
  have hb := B.bytes
  have hr := B.returns
  have hts := atoms_spec (ws := wsL_setting) B.pre
  have hown : s.vm.findClass RL = some m.cls := findClass_of_methodNamed B.named
  have hlocks := B.notSynchronized
  subst hH
  have hD := hD0.self (sz := s.heap.size)
  generalize hAe : va_A (all cA Ad L0 ++ oW cA o9 (fun _ => 0)) s.heap.size = A at hD hXZ ⊢
  have hA : ∀ q : Nat, s.heap.size ≤ q → A q := fun q h => by rw [← hAe]; exact Or.inr h
  have hS : va_S A s.heap s.heap [] := va_S.rf
  have hP : va_P D vwCl (all cA Ad L0 ++ oW cA o9 (fun _ => 0)) s.heap := hP0
  have hl := lv_entry ([.ref (Ad 10 0), .int x, .ref o9] : List Value) (n := 4) (Nat.le_of_ble_eq_true rfl)
  rw [lg_entry_eq]
  generalize (lg_sl ([.ref (Ad 10 0), .int x, .ref o9] : List Value) ++ List.replicate (4 - (lg_sl ([.ref (Ad 10 0), .int x, .ref o9] : List Value)).length) Slot.unset).toArray = ls at hl ⊢
  have hl : lv_has ls 4 [(0, .ref (Ad 10 0)), (1, .int x), (2, .ref o9)] := hl
  refine lv_aload_n hx hb dL_setting_0 rfl (lv_at hl 2 rfl) ?_
  refine lv_iconst (v := 0) hx hb dL_setting_1 (by decide) ?_
  refine lv_aload_n hx hb dL_setting_2 rfl (lv_at hl 0 rfl) ?_
  refine lv_iload_n hx hb dL_setting_3 rfl (lv_at hl 1 rfl) ?_
  have hPo : va_P D vwCl (oW cA o9 (fun _ => 0)) s.heap := va_P_r hP
  refine xt_V (ci := 4) (q0 := 0) (As := [.int x]) (rest := [.int 0, .ref o9]) (cls := "java/lang/IndexOutOfBoundsException") ⟨hx, hb, hml, hown, hts⟩ (x_setting l hl0 D cA _ (Ad 10 0) x hx0) (cwV 1 hts gL_setting_X4_setting rfl rfl rfl (by decide +kernel) ⟨Nat.le_of_ble_eq_true rfl, Nat.le_of_ble_eq_true rfl⟩) hKN hKY.1 (hXZ.narrow (fun _ h => h.elim)) hS hA (lw_fP 10 (by decide) (va_P_l hP)) rfl rfl rfl hl.1 rfl (lv_room (Nat.le_of_ble_eq_true rfl)) dL_setting_4 ⟨Nat.le_of_ble_eq_true rfl, Nat.le_of_ble_eq_true rfl⟩ (fun ce q9 H locs hk9 hS hce hcv hcl => ?_)
  have hP : va_P D vwCl (oW cA o9 (fun _ => 0)) H := fun k q hq => (hPo k q hq).kept (hk9 q.1 (hPo k q hq).lt)
  refine vx_catch (own := RL) (name := "java/lang/IndexOutOfBoundsException") (E := "java/lang/IndexOutOfBoundsException") (ce := ce) (q := q9) hown [] ⟨0, 9, 12, 13⟩ [] ((vx_table (x := yL_law) B (hts _ mL_setting_cw)).trans rfl) (fun z hz => nomatch hz) (by decide) (by decide) (hts _ mL_setting_cl13) (hKY.1.use _ (by decide)) hce hcv hcl ?_
  refine lv_astore_n (lv' := [(3, .ref q9), (0, .ref (Ad 10 0)), (1, .int x), (2, .ref o9)]) hx hb dL_setting_12 rfl hl (by decide) rfl (fun ls hl => ?_)
  refine lv_iconst (v := 1) hx hb dL_setting_13 (by decide) ?_
  exact lh_iret hx hb hr hlocks dL_setting_14 hP hS (Nat.le_of_ble_eq_true rfl) (Nat.le_of_ble_eq_true rfl) rfl
set_option maxHeartbeats 4000000 in
set_option maxRecDepth 100000 in
theorem h_ifLoaded_v (l : Launch) (hl0 : l.stackTraces = false) (D : va_G) (cA : Nat → ClassId) (H : Heap) (Ad : Nat → Nat → Nat) (o9 : Nat) (t : Nat) (ht : t < 16) (hP0 : va_P D vwCl (all cA Ad L0 ++ oW cA o9 (fun _ => 0)) H) (hD0 : va_D (fun _ => True) (all cA Ad L0 ++ oW cA o9 (fun _ => 0))) : LH l yL_ifLoaded wsL_ifLoaded ({ frames := 7, cells := 1, slots := 6, locals := 103 } : Room) D cA [.ref (Ad 10 0), .int (nI t), .ref o9] H (va_A (all cA Ad L0 ++ oW cA o9 (fun _ => 0)) H.size) o9 0 (vp_updL (fun _ => 0) 0 (i2lF (-1))) := by
  refine vx_ofWH (cc := cL_ifLoaded) (maxL := 4) (ret := some .int) (hh := [(0, 9, 12, 13)]) (by decide) rfl ?_
  intro p e s m args below meth c s₁ B hml hv
  obtain ⟨rfl, hH, hKN, hKY, hXZ⟩ := hv
  have hK := hKN.1
  have hx := B.exec
  have hb := B.bytes
  have hr := B.returns
  have hts := atoms_spec (ws := wsL_ifLoaded) B.pre
  have hown : s.vm.findClass RL = some m.cls := findClass_of_methodNamed B.named
  have hlocks := B.notSynchronized
  subst hH
  have hD := hD0.self (sz := s.heap.size)
  generalize hAe : va_A (all cA Ad L0 ++ oW cA o9 (fun _ => 0)) s.heap.size = A at hD hXZ ⊢
  have hA : ∀ q : Nat, s.heap.size ≤ q → A q := fun q h => by rw [← hAe]; exact Or.inr h
  have hS : va_S A s.heap s.heap [] := va_S.rf
  have hP : va_P D vwCl (all cA Ad L0 ++ oW cA o9 (fun _ => 0)) s.heap := hP0
  have hl := lv_entry ([.ref (Ad 10 0), .int (nI t), .ref o9] : List Value) (n := 4) (Nat.le_of_ble_eq_true rfl)
  rw [lg_entry_eq]
  generalize (lg_sl ([.ref (Ad 10 0), .int (nI t), .ref o9] : List Value) ++ List.replicate (4 - (lg_sl ([.ref (Ad 10 0), .int (nI t), .ref o9] : List Value)).length) Slot.unset).toArray = ls at hl ⊢
  have hl : lv_has ls 4 [(0, .ref (Ad 10 0)), (1, .int (nI t)), (2, .ref o9)] := hl
  refine lv_aload_n hx hb dL_ifLoaded_0 rfl (lv_at hl 2 rfl) ?_
  refine lv_iconst (v := 0) hx hb dL_ifLoaded_1 (by decide) ?_
  refine lv_aload_n hx hb dL_ifLoaded_2 rfl (lv_at hl 0 rfl) ?_
  refine lv_iload_n hx hb dL_ifLoaded_3 rfl (lv_at hl 1 rfl) ?_
  refine mu_Vx (ci := 4) (q0 := 0) (As := [.int (nI t)]) (rest := [.int 0, .ref o9]) ⟨hx, hb, hml, hown, hts⟩ (c_X4_ifLoaded l D cA _ Ad (fun _ => initS) 0 0 (fun _ => 0) (fun _ => 0) 0 0 (fun _ => 0, fun _ => 0) t ht (va_P_l hP) (va_D_l hD)) (cwV 1 hts gL_ifLoaded_X4_ifLoaded rfl rfl rfl (by decide +kernel) ⟨Nat.le_of_ble_eq_true rfl, Nat.le_of_ble_eq_true rfl⟩) hKN hP hD hS hA (lw_fP 10 (by decide) (va_P_l hP)) rfl rfl (all_fst _ _ _ _) rfl hl.1 rfl (lv_room (Nat.le_of_ble_eq_true rfl)) dL_ifLoaded_4 ⟨Nat.zero_le _, Nat.zero_le _⟩ (fun H locs hP hD hS => ?_)
  refine lz_top (v := (-1)) rfl ?_
  refine lv_i2l (v := (i2lF (-1))) hx hb dL_ifLoaded_7 rfl ?_
  refine lz_last (k := 0) (f := fun _ => 0) hx hb hK hP hD hS 0 3 rfl rfl ⟨by decide, by decide⟩ dL_ifLoaded_8 (fun H locs hP hD hS => ?_)
  refine lv_goto (tgt := 15) hx hb dL_ifLoaded_9 (by decide) ?_
  refine lv_iconst (v := 0) hx hb dL_ifLoaded_15 (by decide) ?_
  exact lh_iret hx hb hr hlocks dL_ifLoaded_16 hP hS (Nat.le_of_ble_eq_true rfl) (Nat.le_of_ble_eq_true rfl) rfl
theorem mL_ifLoaded_cw : Cond.codeWith yL_ifLoaded cL_ifLoaded 4 (some .int) [(0, 9, 12, 13)] ∈ wsL_ifLoaded := by decide +kernel
theorem mL_ifLoaded_cl13 : Cond.classLink RL 13 "java/lang/IndexOutOfBoundsException" ∈ wsL_ifLoaded := by decide +kernel
set_option maxHeartbeats 4000000 in
set_option maxRecDepth 100000 in
theorem h_ifLoaded_x1 (l : Launch) (hl0 : l.stackTraces = false) (D : va_G) (cA : Nat → ClassId) (H : Heap) (Ad : Nat → Nat → Nat) (o9 : Nat) (x : Int32) (hx0 : inF x 0 15 = 0) (hP0 : va_P D vwCl (all cA Ad L0 ++ oW cA o9 (fun _ => 0)) H) (hD0 : va_D (fun _ => True) (all cA Ad L0 ++ oW cA o9 (fun _ => 0))) : LH l yL_ifLoaded wsL_ifLoaded ({ frames := 7, cells := 1, slots := 6, locals := 103 } : Room) D cA [.ref (Ad 10 0), .int x, .ref o9] H (va_A (all cA Ad L0 ++ oW cA o9 (fun _ => 0)) H.size) o9 1 (fun _ => 0) := by
  refine vx_ofWH (cc := cL_ifLoaded) (maxL := 4) (ret := some .int) (hh := [(0, 9, 12, 13)]) (by decide) rfl ?_
  intro p e s m args below meth c s₁ B hml hv
  obtain ⟨rfl, hH, hKN, hKY, hXZ⟩ := hv
  have hK := hKN.1
  have hx := B.exec
  have hb := B.bytes
  have hr := B.returns
  have hts := atoms_spec (ws := wsL_ifLoaded) B.pre
  have hown : s.vm.findClass RL = some m.cls := findClass_of_methodNamed B.named
  have hlocks := B.notSynchronized
  subst hH
  have hD := hD0.self (sz := s.heap.size)
  generalize hAe : va_A (all cA Ad L0 ++ oW cA o9 (fun _ => 0)) s.heap.size = A at hD hXZ ⊢
  have hA : ∀ q : Nat, s.heap.size ≤ q → A q := fun q h => by rw [← hAe]; exact Or.inr h
  have hS : va_S A s.heap s.heap [] := va_S.rf
  have hP : va_P D vwCl (all cA Ad L0 ++ oW cA o9 (fun _ => 0)) s.heap := hP0
  have hl := lv_entry ([.ref (Ad 10 0), .int x, .ref o9] : List Value) (n := 4) (Nat.le_of_ble_eq_true rfl)
  rw [lg_entry_eq]
  generalize (lg_sl ([.ref (Ad 10 0), .int x, .ref o9] : List Value) ++ List.replicate (4 - (lg_sl ([.ref (Ad 10 0), .int x, .ref o9] : List Value)).length) Slot.unset).toArray = ls at hl ⊢
  have hl : lv_has ls 4 [(0, .ref (Ad 10 0)), (1, .int x), (2, .ref o9)] := hl
  refine lv_aload_n hx hb dL_ifLoaded_0 rfl (lv_at hl 2 rfl) ?_
  refine lv_iconst (v := 0) hx hb dL_ifLoaded_1 (by decide) ?_
  refine lv_aload_n hx hb dL_ifLoaded_2 rfl (lv_at hl 0 rfl) ?_
  refine lv_iload_n hx hb dL_ifLoaded_3 rfl (lv_at hl 1 rfl) ?_
  have hPo : va_P D vwCl (oW cA o9 (fun _ => 0)) s.heap := va_P_r hP
  refine xt_V (ci := 4) (q0 := 0) (As := [.int x]) (rest := [.int 0, .ref o9]) (cls := "java/lang/IndexOutOfBoundsException") ⟨hx, hb, hml, hown, hts⟩ (x_ifLoaded l hl0 D cA _ (Ad 10 0) x hx0) (cwV 1 hts gL_ifLoaded_X4_ifLoaded rfl rfl rfl (by decide +kernel) ⟨Nat.le_of_ble_eq_true rfl, Nat.le_of_ble_eq_true rfl⟩) hKN hKY.1 (hXZ.narrow (fun _ h => h.elim)) hS hA (lw_fP 10 (by decide) (va_P_l hP)) rfl rfl rfl hl.1 rfl (lv_room (Nat.le_of_ble_eq_true rfl)) dL_ifLoaded_4 ⟨Nat.le_of_ble_eq_true rfl, Nat.le_of_ble_eq_true rfl⟩ (fun ce q9 H locs hk9 hS hce hcv hcl => ?_)
  have hP : va_P D vwCl (oW cA o9 (fun _ => 0)) H := fun k q hq => (hPo k q hq).kept (hk9 q.1 (hPo k q hq).lt)
  refine vx_catch (own := RL) (name := "java/lang/IndexOutOfBoundsException") (E := "java/lang/IndexOutOfBoundsException") (ce := ce) (q := q9) hown [] ⟨0, 9, 12, 13⟩ [] ((vx_table (x := yL_law) B (hts _ mL_ifLoaded_cw)).trans rfl) (fun z hz => nomatch hz) (by decide) (by decide) (hts _ mL_ifLoaded_cl13) (hKY.1.use _ (by decide)) hce hcv hcl ?_
  refine lv_astore_n (lv' := [(3, .ref q9), (0, .ref (Ad 10 0)), (1, .int x), (2, .ref o9)]) hx hb dL_ifLoaded_12 rfl hl (by decide) rfl (fun ls hl => ?_)
  refine lv_iconst (v := 1) hx hb dL_ifLoaded_13 (by decide) ?_
  exact lh_iret hx hb hr hlocks dL_ifLoaded_14 hP hS (Nat.le_of_ble_eq_true rfl) (Nat.le_of_ble_eq_true rfl) rfl
set_option maxHeartbeats 4000000 in
set_option maxRecDepth 100000 in
theorem h_lastsFor_v (l : Launch) (hl0 : l.stackTraces = false) (D : va_G) (cA : Nat → ClassId) (H : Heap) (Ad : Nat → Nat → Nat) (o9 : Nat) (t : Nat) (ht : t < 16) (hP0 : va_P D vwCl (all cA Ad L0 ++ oW cA o9 (fun _ => 0)) H) (hD0 : va_D (fun _ => True) (all cA Ad L0 ++ oW cA o9 (fun _ => 0))) : LH l yL_lastsFor wsL_lastsFor ({ frames := 7, cells := 1, slots := 6, locals := 103 } : Room) D cA [.ref (Ad 10 0), .int (nI t), .ref o9] H (va_A (all cA Ad L0 ++ oW cA o9 (fun _ => 0)) H.size) o9 0 (vp_updL (fun _ => 0) 0 (i2lF (-1))) := by
  refine vx_ofWH (cc := cL_lastsFor) (maxL := 4) (ret := some .int) (hh := [(0, 9, 12, 13)]) (by decide) rfl ?_
  intro p e s m args below meth c s₁ B hml hv
  obtain ⟨rfl, hH, hKN, hKY, hXZ⟩ := hv
  have hK := hKN.1
  have hx := B.exec
  have hb := B.bytes
  have hr := B.returns
  have hts := atoms_spec (ws := wsL_lastsFor) B.pre
  have hown : s.vm.findClass RL = some m.cls := findClass_of_methodNamed B.named
  have hlocks := B.notSynchronized
  subst hH
  have hD := hD0.self (sz := s.heap.size)
  generalize hAe : va_A (all cA Ad L0 ++ oW cA o9 (fun _ => 0)) s.heap.size = A at hD hXZ ⊢
  have hA : ∀ q : Nat, s.heap.size ≤ q → A q := fun q h => by rw [← hAe]; exact Or.inr h
  have hS : va_S A s.heap s.heap [] := va_S.rf
  have hP : va_P D vwCl (all cA Ad L0 ++ oW cA o9 (fun _ => 0)) s.heap := hP0
  have hl := lv_entry ([.ref (Ad 10 0), .int (nI t), .ref o9] : List Value) (n := 4) (Nat.le_of_ble_eq_true rfl)
  rw [lg_entry_eq]
  generalize (lg_sl ([.ref (Ad 10 0), .int (nI t), .ref o9] : List Value) ++ List.replicate (4 - (lg_sl ([.ref (Ad 10 0), .int (nI t), .ref o9] : List Value)).length) Slot.unset).toArray = ls at hl ⊢
  have hl : lv_has ls 4 [(0, .ref (Ad 10 0)), (1, .int (nI t)), (2, .ref o9)] := hl
  refine lv_aload_n hx hb dL_lastsFor_0 rfl (lv_at hl 2 rfl) ?_
  refine lv_iconst (v := 0) hx hb dL_lastsFor_1 (by decide) ?_
  refine lv_aload_n hx hb dL_lastsFor_2 rfl (lv_at hl 0 rfl) ?_
  refine lv_iload_n hx hb dL_lastsFor_3 rfl (lv_at hl 1 rfl) ?_
  refine ro_V (ci := 4) (q0 := 0) (As := [.int (nI t)]) (rest := [.int 0, .ref o9]) ⟨hx, hb, hml, hown, hts⟩ (c_X4_lastsFor l D cA _ Ad (fun _ => initS) 0 0 (fun _ => 0, fun _ => 0, 0, 0, 0) (fun _ => 0, fun _ => 0) t ht (va_P_l hP)) (cwV 1 hts gL_lastsFor_X4_lastsFor rfl rfl rfl (by decide +kernel) ⟨Nat.le_of_ble_eq_true rfl, Nat.le_of_ble_eq_true rfl⟩) hKN (lw_fP 10 (by decide) (va_P_l hP)) rfl rfl rfl hl.1 rfl (lv_room (Nat.le_of_ble_eq_true rfl)) dL_lastsFor_4 ⟨Nat.zero_le _, Nat.zero_le _⟩ ?_
  have hP : va_P D vwCl (oW cA o9 (fun _ => 0)) s.heap := va_P_r hP
  have hD : va_D A (oW cA o9 (fun _ => 0)) := va_D_r hD
  refine lz_top (v := (-1)) (pv_lastsFor t ht) ?_
  refine lv_i2l (v := (i2lF (-1))) hx hb dL_lastsFor_7 rfl ?_
  refine lz_last (k := 0) (f := fun _ => 0) hx hb hK hP hD hS 0 3 rfl rfl ⟨by decide, by decide⟩ dL_lastsFor_8 (fun H locs hP hD hS => ?_)
  refine lv_goto (tgt := 15) hx hb dL_lastsFor_9 (by decide) ?_
  refine lv_iconst (v := 0) hx hb dL_lastsFor_15 (by decide) ?_
  exact lh_iret hx hb hr hlocks dL_lastsFor_16 hP hS (Nat.le_of_ble_eq_true rfl) (Nat.le_of_ble_eq_true rfl) rfl
theorem mL_lastsFor_cw : Cond.codeWith yL_lastsFor cL_lastsFor 4 (some .int) [(0, 9, 12, 13)] ∈ wsL_lastsFor := by decide +kernel
theorem mL_lastsFor_cl13 : Cond.classLink RL 13 "java/lang/IndexOutOfBoundsException" ∈ wsL_lastsFor := by decide +kernel
set_option maxHeartbeats 4000000 in
set_option maxRecDepth 100000 in
theorem h_lastsFor_x1 (l : Launch) (hl0 : l.stackTraces = false) (D : va_G) (cA : Nat → ClassId) (H : Heap) (Ad : Nat → Nat → Nat) (o9 : Nat) (x : Int32) (hx0 : inF x 0 15 = 0) (hP0 : va_P D vwCl (all cA Ad L0 ++ oW cA o9 (fun _ => 0)) H) (hD0 : va_D (fun _ => True) (all cA Ad L0 ++ oW cA o9 (fun _ => 0))) : LH l yL_lastsFor wsL_lastsFor ({ frames := 7, cells := 1, slots := 6, locals := 103 } : Room) D cA [.ref (Ad 10 0), .int x, .ref o9] H (va_A (all cA Ad L0 ++ oW cA o9 (fun _ => 0)) H.size) o9 1 (fun _ => 0) := by
  refine vx_ofWH (cc := cL_lastsFor) (maxL := 4) (ret := some .int) (hh := [(0, 9, 12, 13)]) (by decide) rfl ?_
  intro p e s m args below meth c s₁ B hml hv
  obtain ⟨rfl, hH, hKN, hKY, hXZ⟩ := hv
  have hK := hKN.1
  have hx := B.exec
  have hb := B.bytes
  have hr := B.returns
  have hts := atoms_spec (ws := wsL_lastsFor) B.pre
  have hown : s.vm.findClass RL = some m.cls := findClass_of_methodNamed B.named
  have hlocks := B.notSynchronized
  subst hH
  have hD := hD0.self (sz := s.heap.size)
  generalize hAe : va_A (all cA Ad L0 ++ oW cA o9 (fun _ => 0)) s.heap.size = A at hD hXZ ⊢
  have hA : ∀ q : Nat, s.heap.size ≤ q → A q := fun q h => by rw [← hAe]; exact Or.inr h
  have hS : va_S A s.heap s.heap [] := va_S.rf
  have hP : va_P D vwCl (all cA Ad L0 ++ oW cA o9 (fun _ => 0)) s.heap := hP0
  have hl := lv_entry ([.ref (Ad 10 0), .int x, .ref o9] : List Value) (n := 4) (Nat.le_of_ble_eq_true rfl)
  rw [lg_entry_eq]
  generalize (lg_sl ([.ref (Ad 10 0), .int x, .ref o9] : List Value) ++ List.replicate (4 - (lg_sl ([.ref (Ad 10 0), .int x, .ref o9] : List Value)).length) Slot.unset).toArray = ls at hl ⊢
  have hl : lv_has ls 4 [(0, .ref (Ad 10 0)), (1, .int x), (2, .ref o9)] := hl
  refine lv_aload_n hx hb dL_lastsFor_0 rfl (lv_at hl 2 rfl) ?_
  refine lv_iconst (v := 0) hx hb dL_lastsFor_1 (by decide) ?_
  refine lv_aload_n hx hb dL_lastsFor_2 rfl (lv_at hl 0 rfl) ?_
  refine lv_iload_n hx hb dL_lastsFor_3 rfl (lv_at hl 1 rfl) ?_
  have hPo : va_P D vwCl (oW cA o9 (fun _ => 0)) s.heap := va_P_r hP
  refine xt_V (ci := 4) (q0 := 0) (As := [.int x]) (rest := [.int 0, .ref o9]) (cls := "java/lang/IndexOutOfBoundsException") ⟨hx, hb, hml, hown, hts⟩ (x_lastsFor l hl0 D cA _ (Ad 10 0) x hx0) (cwV 1 hts gL_lastsFor_X4_lastsFor rfl rfl rfl (by decide +kernel) ⟨Nat.le_of_ble_eq_true rfl, Nat.le_of_ble_eq_true rfl⟩) hKN hKY.1 (hXZ.narrow (fun _ h => h.elim)) hS hA (lw_fP 10 (by decide) (va_P_l hP)) rfl rfl rfl hl.1 rfl (lv_room (Nat.le_of_ble_eq_true rfl)) dL_lastsFor_4 ⟨Nat.le_of_ble_eq_true rfl, Nat.le_of_ble_eq_true rfl⟩ (fun ce q9 H locs hk9 hS hce hcv hcl => ?_)
  have hP : va_P D vwCl (oW cA o9 (fun _ => 0)) H := fun k q hq => (hPo k q hq).kept (hk9 q.1 (hPo k q hq).lt)
  refine vx_catch (own := RL) (name := "java/lang/IndexOutOfBoundsException") (E := "java/lang/IndexOutOfBoundsException") (ce := ce) (q := q9) hown [] ⟨0, 9, 12, 13⟩ [] ((vx_table (x := yL_law) B (hts _ mL_lastsFor_cw)).trans rfl) (fun z hz => nomatch hz) (by decide) (by decide) (hts _ mL_lastsFor_cl13) (hKY.1.use _ (by decide)) hce hcv hcl ?_
  refine lv_astore_n (lv' := [(3, .ref q9), (0, .ref (Ad 10 0)), (1, .int x), (2, .ref o9)]) hx hb dL_lastsFor_12 rfl hl (by decide) rfl (fun ls hl => ?_)
  refine lv_iconst (v := 1) hx hb dL_lastsFor_13 (by decide) ?_
  exact lh_iret hx hb hr hlocks dL_lastsFor_14 hP hS (Nat.le_of_ble_eq_true rfl) (Nat.le_of_ble_eq_true rfl) rfl
set_option maxHeartbeats 4000000 in
set_option maxRecDepth 100000 in
theorem h_ifGone_v0 (l : Launch) (hl0 : l.stackTraces = false) (D : va_G) (cA : Nat → ClassId) (H : Heap) (Ad : Nat → Nat → Nat) (o9 : Nat) (n : Nat) (h1 : 1 ≤ n) (h99 : n ≤ 99) (hP0 : va_P D vwCl (all cA Ad L0 ++ oW cA o9 (fun _ => 0)) H) (hD0 : va_D (fun _ => True) (all cA Ad L0 ++ oW cA o9 (fun _ => 0))) : LH l yL_ifGone wsL_ifGone ({ frames := 7, cells := 1, slots := 6, locals := 162 } : Room) D cA [.ref (Ad 10 0), .int (nI n), .int 0, .ref o9] H (va_A (all cA Ad L0 ++ oW cA o9 (fun _ => 0)) H.size) o9 0 (vp_updL (fun _ => 0) 0 (i2lF (goneM 0))) := by
  refine vx_ofWH (cc := cL_ifGone) (maxL := 5) (ret := some .int) (hh := [(0, 10, 13, 18)]) (by decide) rfl ?_
  intro p e s m args below meth c s₁ B hml hv
  obtain ⟨rfl, hH, hKN, hKY, hXZ⟩ := hv
  have hK := hKN.1
  have hx := B.exec
  have hb := B.bytes
  have hr := B.returns
  have hts := atoms_spec (ws := wsL_ifGone) B.pre
  have hown : s.vm.findClass RL = some m.cls := findClass_of_methodNamed B.named
  have hlocks := B.notSynchronized
  subst hH
  have hD := hD0.self (sz := s.heap.size)
  generalize hAe : va_A (all cA Ad L0 ++ oW cA o9 (fun _ => 0)) s.heap.size = A at hD hXZ ⊢
  have hA : ∀ q : Nat, s.heap.size ≤ q → A q := fun q h => by rw [← hAe]; exact Or.inr h
  have hS : va_S A s.heap s.heap [] := va_S.rf
  have hP : va_P D vwCl (all cA Ad L0 ++ oW cA o9 (fun _ => 0)) s.heap := hP0
  have hl := lv_entry ([.ref (Ad 10 0), .int (nI n), .int 0, .ref o9] : List Value) (n := 5) (Nat.le_of_ble_eq_true rfl)
  rw [lg_entry_eq]
  generalize (lg_sl ([.ref (Ad 10 0), .int (nI n), .int 0, .ref o9] : List Value) ++ List.replicate (5 - (lg_sl ([.ref (Ad 10 0), .int (nI n), .int 0, .ref o9] : List Value)).length) Slot.unset).toArray = ls at hl ⊢
  have hl : lv_has ls 5 [(0, .ref (Ad 10 0)), (1, .int (nI n)), (2, .int 0), (3, .ref o9)] := hl
  refine lv_aload_n hx hb dL_ifGone_0 rfl (lv_at hl 3 rfl) ?_
  refine lv_iconst (v := 0) hx hb dL_ifGone_1 (by decide) ?_
  refine lv_aload_n hx hb dL_ifGone_2 rfl (lv_at hl 0 rfl) ?_
  refine lv_iload_n hx hb dL_ifGone_3 rfl (lv_at hl 1 rfl) ?_
  refine lv_iload_n hx hb dL_ifGone_4 rfl (lv_at hl 2 rfl) ?_
  refine mu_Vx (ci := 4) (q0 := 0) (As := [.int (nI n), .int 0]) (rest := [.int 0, .ref o9]) ⟨hx, hb, hml, hown, hts⟩ (c_X4_ifGone0 l D cA _ Ad (fun _ => initS) 0 0 (fun _ => 0, fun _ => 0, 0, 0, 0) (fun _ => 0, fun _ => 0) (Or.inr rfl) PlOk_init n h1 h99 (va_P_l hP) (va_D_l hD)) (cwV 2 hts gL_ifGone_X4_ifGone rfl rfl rfl (by decide +kernel) ⟨Nat.le_of_ble_eq_true rfl, Nat.le_of_ble_eq_true rfl⟩) hKN hP hD hS hA (lw_fP 10 (by decide) (va_P_l hP)) rfl rfl (all_fst _ _ _ _) rfl hl.1 rfl (lv_room (Nat.le_of_ble_eq_true rfl)) dL_ifGone_5 ⟨Nat.zero_le _, Nat.zero_le _⟩ (fun H locs hP hD hS => ?_)
  refine lz_top (v := (goneM 0)) (pv_ifGone n 0 h1 (by decide)) ?_
  refine lv_i2l (v := (i2lF (goneM 0))) hx hb dL_ifGone_8 rfl ?_
  refine lz_last (k := 0) (f := fun _ => 0) hx hb hK hP hD hS 0 3 rfl rfl ⟨by decide, by decide⟩ dL_ifGone_9 (fun H locs hP hD hS => ?_)
  refine lv_goto (tgt := 17) hx hb dL_ifGone_10 (by decide) ?_
  refine lv_iconst (v := 0) hx hb dL_ifGone_17 (by decide) ?_
  exact lh_iret hx hb hr hlocks dL_ifGone_18 hP hS (Nat.le_of_ble_eq_true rfl) (Nat.le_of_ble_eq_true rfl) rfl
set_option maxHeartbeats 4000000 in
set_option maxRecDepth 100000 in
theorem h_ifGone_v1 (l : Launch) (hl0 : l.stackTraces = false) (D : va_G) (cA : Nat → ClassId) (H : Heap) (Ad : Nat → Nat → Nat) (o9 : Nat) (n : Nat) (h1 : 1 ≤ n) (h99 : n ≤ 99) (hP0 : va_P D vwCl (all cA Ad L0 ++ oW cA o9 (fun _ => 0)) H) (hD0 : va_D (fun _ => True) (all cA Ad L0 ++ oW cA o9 (fun _ => 0))) : LH l yL_ifGone wsL_ifGone ({ frames := 7, cells := 1, slots := 6, locals := 162 } : Room) D cA [.ref (Ad 10 0), .int (nI n), .int 1, .ref o9] H (va_A (all cA Ad L0 ++ oW cA o9 (fun _ => 0)) H.size) o9 0 (vp_updL (fun _ => 0) 0 (i2lF (goneM 1))) := by
  refine vx_ofWH (cc := cL_ifGone) (maxL := 5) (ret := some .int) (hh := [(0, 10, 13, 18)]) (by decide) rfl ?_
  intro p e s m args below meth c s₁ B hml hv
  obtain ⟨rfl, hH, hKN, hKY, hXZ⟩ := hv
  have hK := hKN.1
  have hx := B.exec
  have hb := B.bytes
  have hr := B.returns
  have hts := atoms_spec (ws := wsL_ifGone) B.pre
  have hown : s.vm.findClass RL = some m.cls := findClass_of_methodNamed B.named
  have hlocks := B.notSynchronized
  subst hH
  have hD := hD0.self (sz := s.heap.size)
  generalize hAe : va_A (all cA Ad L0 ++ oW cA o9 (fun _ => 0)) s.heap.size = A at hD hXZ ⊢
  have hA : ∀ q : Nat, s.heap.size ≤ q → A q := fun q h => by rw [← hAe]; exact Or.inr h
  have hS : va_S A s.heap s.heap [] := va_S.rf
  have hP : va_P D vwCl (all cA Ad L0 ++ oW cA o9 (fun _ => 0)) s.heap := hP0
  have hl := lv_entry ([.ref (Ad 10 0), .int (nI n), .int 1, .ref o9] : List Value) (n := 5) (Nat.le_of_ble_eq_true rfl)
  rw [lg_entry_eq]
  generalize (lg_sl ([.ref (Ad 10 0), .int (nI n), .int 1, .ref o9] : List Value) ++ List.replicate (5 - (lg_sl ([.ref (Ad 10 0), .int (nI n), .int 1, .ref o9] : List Value)).length) Slot.unset).toArray = ls at hl ⊢
  have hl : lv_has ls 5 [(0, .ref (Ad 10 0)), (1, .int (nI n)), (2, .int 1), (3, .ref o9)] := hl
  refine lv_aload_n hx hb dL_ifGone_0 rfl (lv_at hl 3 rfl) ?_
  refine lv_iconst (v := 0) hx hb dL_ifGone_1 (by decide) ?_
  refine lv_aload_n hx hb dL_ifGone_2 rfl (lv_at hl 0 rfl) ?_
  refine lv_iload_n hx hb dL_ifGone_3 rfl (lv_at hl 1 rfl) ?_
  refine lv_iload_n hx hb dL_ifGone_4 rfl (lv_at hl 2 rfl) ?_
  refine mu_Vx (ci := 4) (q0 := 0) (As := [.int (nI n), .int 1]) (rest := [.int 0, .ref o9]) ⟨hx, hb, hml, hown, hts⟩ (c_X4_ifGone1 l D cA _ Ad (fun _ => initS) 0 0 (fun _ => 0, fun _ => 0, 0, 0, 0) (fun _ => 0, fun _ => 0) (Or.inr rfl) PlOk_init n h1 h99 (va_P_l hP) (va_D_l hD)) (cwV 2 hts gL_ifGone_X4_ifGone rfl rfl rfl (by decide +kernel) ⟨Nat.le_of_ble_eq_true rfl, Nat.le_of_ble_eq_true rfl⟩) hKN hP hD hS hA (lw_fP 10 (by decide) (va_P_l hP)) rfl rfl (all_fst _ _ _ _) rfl hl.1 rfl (lv_room (Nat.le_of_ble_eq_true rfl)) dL_ifGone_5 ⟨Nat.zero_le _, Nat.zero_le _⟩ (fun H locs hP hD hS => ?_)
  refine lz_top (v := (goneM 1)) (pv_ifGone n 1 h1 (by decide)) ?_
  refine lv_i2l (v := (i2lF (goneM 1))) hx hb dL_ifGone_8 rfl ?_
  refine lz_last (k := 0) (f := fun _ => 0) hx hb hK hP hD hS 0 3 rfl rfl ⟨by decide, by decide⟩ dL_ifGone_9 (fun H locs hP hD hS => ?_)
  refine lv_goto (tgt := 17) hx hb dL_ifGone_10 (by decide) ?_
  refine lv_iconst (v := 0) hx hb dL_ifGone_17 (by decide) ?_
  exact lh_iret hx hb hr hlocks dL_ifGone_18 hP hS (Nat.le_of_ble_eq_true rfl) (Nat.le_of_ble_eq_true rfl) rfl
set_option maxHeartbeats 4000000 in
set_option maxRecDepth 100000 in
theorem h_ifGone_v2 (l : Launch) (hl0 : l.stackTraces = false) (D : va_G) (cA : Nat → ClassId) (H : Heap) (Ad : Nat → Nat → Nat) (o9 : Nat) (n : Nat) (h1 : 1 ≤ n) (h99 : n ≤ 99) (hP0 : va_P D vwCl (all cA Ad L0 ++ oW cA o9 (fun _ => 0)) H) (hD0 : va_D (fun _ => True) (all cA Ad L0 ++ oW cA o9 (fun _ => 0))) : LH l yL_ifGone wsL_ifGone ({ frames := 7, cells := 1, slots := 6, locals := 162 } : Room) D cA [.ref (Ad 10 0), .int (nI n), .int 2, .ref o9] H (va_A (all cA Ad L0 ++ oW cA o9 (fun _ => 0)) H.size) o9 0 (vp_updL (fun _ => 0) 0 (i2lF (goneM 2))) := by
  refine vx_ofWH (cc := cL_ifGone) (maxL := 5) (ret := some .int) (hh := [(0, 10, 13, 18)]) (by decide) rfl ?_
  intro p e s m args below meth c s₁ B hml hv
  obtain ⟨rfl, hH, hKN, hKY, hXZ⟩ := hv
  have hK := hKN.1
  have hx := B.exec
  have hb := B.bytes
  have hr := B.returns
  have hts := atoms_spec (ws := wsL_ifGone) B.pre
  have hown : s.vm.findClass RL = some m.cls := findClass_of_methodNamed B.named
  have hlocks := B.notSynchronized
  subst hH
  have hD := hD0.self (sz := s.heap.size)
  generalize hAe : va_A (all cA Ad L0 ++ oW cA o9 (fun _ => 0)) s.heap.size = A at hD hXZ ⊢
  have hA : ∀ q : Nat, s.heap.size ≤ q → A q := fun q h => by rw [← hAe]; exact Or.inr h
  have hS : va_S A s.heap s.heap [] := va_S.rf
  have hP : va_P D vwCl (all cA Ad L0 ++ oW cA o9 (fun _ => 0)) s.heap := hP0
  have hl := lv_entry ([.ref (Ad 10 0), .int (nI n), .int 2, .ref o9] : List Value) (n := 5) (Nat.le_of_ble_eq_true rfl)
  rw [lg_entry_eq]
  generalize (lg_sl ([.ref (Ad 10 0), .int (nI n), .int 2, .ref o9] : List Value) ++ List.replicate (5 - (lg_sl ([.ref (Ad 10 0), .int (nI n), .int 2, .ref o9] : List Value)).length) Slot.unset).toArray = ls at hl ⊢
  have hl : lv_has ls 5 [(0, .ref (Ad 10 0)), (1, .int (nI n)), (2, .int 2), (3, .ref o9)] := hl
  refine lv_aload_n hx hb dL_ifGone_0 rfl (lv_at hl 3 rfl) ?_
  refine lv_iconst (v := 0) hx hb dL_ifGone_1 (by decide) ?_
  refine lv_aload_n hx hb dL_ifGone_2 rfl (lv_at hl 0 rfl) ?_
  refine lv_iload_n hx hb dL_ifGone_3 rfl (lv_at hl 1 rfl) ?_
  refine lv_iload_n hx hb dL_ifGone_4 rfl (lv_at hl 2 rfl) ?_
  refine mu_Vx (ci := 4) (q0 := 0) (As := [.int (nI n), .int 2]) (rest := [.int 0, .ref o9]) ⟨hx, hb, hml, hown, hts⟩ (c_X4_ifGone2 l D cA _ Ad (fun _ => initS) 0 0 (fun _ => 0, fun _ => 0, 0, 0, 0) (fun _ => 0, fun _ => 0) (Or.inr rfl) PlOk_init n h1 h99 (va_P_l hP) (va_D_l hD)) (cwV 2 hts gL_ifGone_X4_ifGone rfl rfl rfl (by decide +kernel) ⟨Nat.le_of_ble_eq_true rfl, Nat.le_of_ble_eq_true rfl⟩) hKN hP hD hS hA (lw_fP 10 (by decide) (va_P_l hP)) rfl rfl (all_fst _ _ _ _) rfl hl.1 rfl (lv_room (Nat.le_of_ble_eq_true rfl)) dL_ifGone_5 ⟨Nat.zero_le _, Nat.zero_le _⟩ (fun H locs hP hD hS => ?_)
  refine lz_top (v := (goneM 2)) (pv_ifGone n 2 h1 (by decide)) ?_
  refine lv_i2l (v := (i2lF (goneM 2))) hx hb dL_ifGone_8 rfl ?_
  refine lz_last (k := 0) (f := fun _ => 0) hx hb hK hP hD hS 0 3 rfl rfl ⟨by decide, by decide⟩ dL_ifGone_9 (fun H locs hP hD hS => ?_)
  refine lv_goto (tgt := 17) hx hb dL_ifGone_10 (by decide) ?_
  refine lv_iconst (v := 0) hx hb dL_ifGone_17 (by decide) ?_
  exact lh_iret hx hb hr hlocks dL_ifGone_18 hP hS (Nat.le_of_ble_eq_true rfl) (Nat.le_of_ble_eq_true rfl) rfl
set_option maxHeartbeats 4000000 in
set_option maxRecDepth 100000 in
theorem h_ifGone_v3 (l : Launch) (hl0 : l.stackTraces = false) (D : va_G) (cA : Nat → ClassId) (H : Heap) (Ad : Nat → Nat → Nat) (o9 : Nat) (n : Nat) (h1 : 1 ≤ n) (h99 : n ≤ 99) (hP0 : va_P D vwCl (all cA Ad L0 ++ oW cA o9 (fun _ => 0)) H) (hD0 : va_D (fun _ => True) (all cA Ad L0 ++ oW cA o9 (fun _ => 0))) : LH l yL_ifGone wsL_ifGone ({ frames := 7, cells := 1, slots := 6, locals := 162 } : Room) D cA [.ref (Ad 10 0), .int (nI n), .int 3, .ref o9] H (va_A (all cA Ad L0 ++ oW cA o9 (fun _ => 0)) H.size) o9 0 (vp_updL (fun _ => 0) 0 (i2lF (goneM 3))) := by
  refine vx_ofWH (cc := cL_ifGone) (maxL := 5) (ret := some .int) (hh := [(0, 10, 13, 18)]) (by decide) rfl ?_
  intro p e s m args below meth c s₁ B hml hv
  obtain ⟨rfl, hH, hKN, hKY, hXZ⟩ := hv
  have hK := hKN.1
  have hx := B.exec
  have hb := B.bytes
  have hr := B.returns
  have hts := atoms_spec (ws := wsL_ifGone) B.pre
  have hown : s.vm.findClass RL = some m.cls := findClass_of_methodNamed B.named
  have hlocks := B.notSynchronized
  subst hH
  have hD := hD0.self (sz := s.heap.size)
  generalize hAe : va_A (all cA Ad L0 ++ oW cA o9 (fun _ => 0)) s.heap.size = A at hD hXZ ⊢
  have hA : ∀ q : Nat, s.heap.size ≤ q → A q := fun q h => by rw [← hAe]; exact Or.inr h
  have hS : va_S A s.heap s.heap [] := va_S.rf
  have hP : va_P D vwCl (all cA Ad L0 ++ oW cA o9 (fun _ => 0)) s.heap := hP0
  have hl := lv_entry ([.ref (Ad 10 0), .int (nI n), .int 3, .ref o9] : List Value) (n := 5) (Nat.le_of_ble_eq_true rfl)
  rw [lg_entry_eq]
  generalize (lg_sl ([.ref (Ad 10 0), .int (nI n), .int 3, .ref o9] : List Value) ++ List.replicate (5 - (lg_sl ([.ref (Ad 10 0), .int (nI n), .int 3, .ref o9] : List Value)).length) Slot.unset).toArray = ls at hl ⊢
  have hl : lv_has ls 5 [(0, .ref (Ad 10 0)), (1, .int (nI n)), (2, .int 3), (3, .ref o9)] := hl
  refine lv_aload_n hx hb dL_ifGone_0 rfl (lv_at hl 3 rfl) ?_
  refine lv_iconst (v := 0) hx hb dL_ifGone_1 (by decide) ?_
  refine lv_aload_n hx hb dL_ifGone_2 rfl (lv_at hl 0 rfl) ?_
  refine lv_iload_n hx hb dL_ifGone_3 rfl (lv_at hl 1 rfl) ?_
  refine lv_iload_n hx hb dL_ifGone_4 rfl (lv_at hl 2 rfl) ?_
  refine mu_Vx (ci := 4) (q0 := 0) (As := [.int (nI n), .int 3]) (rest := [.int 0, .ref o9]) ⟨hx, hb, hml, hown, hts⟩ (c_X4_ifGone3 l D cA _ Ad (fun _ => initS) 0 0 (fun _ => 0, fun _ => 0, 0, 0, 0) (fun _ => 0, fun _ => 0) (Or.inr rfl) PlOk_init n h1 h99 (va_P_l hP) (va_D_l hD)) (cwV 2 hts gL_ifGone_X4_ifGone rfl rfl rfl (by decide +kernel) ⟨Nat.le_of_ble_eq_true rfl, Nat.le_of_ble_eq_true rfl⟩) hKN hP hD hS hA (lw_fP 10 (by decide) (va_P_l hP)) rfl rfl (all_fst _ _ _ _) rfl hl.1 rfl (lv_room (Nat.le_of_ble_eq_true rfl)) dL_ifGone_5 ⟨Nat.zero_le _, Nat.zero_le _⟩ (fun H locs hP hD hS => ?_)
  refine lz_top (v := (goneM 3)) (pv_ifGone n 3 h1 (by decide)) ?_
  refine lv_i2l (v := (i2lF (goneM 3))) hx hb dL_ifGone_8 rfl ?_
  refine lz_last (k := 0) (f := fun _ => 0) hx hb hK hP hD hS 0 3 rfl rfl ⟨by decide, by decide⟩ dL_ifGone_9 (fun H locs hP hD hS => ?_)
  refine lv_goto (tgt := 17) hx hb dL_ifGone_10 (by decide) ?_
  refine lv_iconst (v := 0) hx hb dL_ifGone_17 (by decide) ?_
  exact lh_iret hx hb hr hlocks dL_ifGone_18 hP hS (Nat.le_of_ble_eq_true rfl) (Nat.le_of_ble_eq_true rfl) rfl
theorem mL_ifGone_cw : Cond.codeWith yL_ifGone cL_ifGone 5 (some .int) [(0, 10, 13, 18)] ∈ wsL_ifGone := by decide +kernel
theorem mL_ifGone_cl18 : Cond.classLink RL 18 "java/lang/IllegalArgumentException" ∈ wsL_ifGone := by decide +kernel
set_option maxHeartbeats 4000000 in
set_option maxRecDepth 100000 in
theorem h_ifGone_x1 (l : Launch) (hl0 : l.stackTraces = false) (D : va_G) (cA : Nat → ClassId) (H : Heap) (Ad : Nat → Nat → Nat) (o9 : Nat) (y : Int32) (x : Int32) (hx0 : inF x 1 99 = 0) (hP0 : va_P D vwCl (all cA Ad L0 ++ oW cA o9 (fun _ => 0)) H) (hD0 : va_D (fun _ => True) (all cA Ad L0 ++ oW cA o9 (fun _ => 0))) : LH l yL_ifGone wsL_ifGone ({ frames := 7, cells := 1, slots := 6, locals := 162 } : Room) D cA [.ref (Ad 10 0), .int x, .int y, .ref o9] H (va_A (all cA Ad L0 ++ oW cA o9 (fun _ => 0)) H.size) o9 1 (fun _ => 0) := by
  refine vx_ofWH (cc := cL_ifGone) (maxL := 5) (ret := some .int) (hh := [(0, 10, 13, 18)]) (by decide) rfl ?_
  intro p e s m args below meth c s₁ B hml hv
  obtain ⟨rfl, hH, hKN, hKY, hXZ⟩ := hv
  have hK := hKN.1
  have hx := B.exec
  have hb := B.bytes
  have hr := B.returns
  have hts := atoms_spec (ws := wsL_ifGone) B.pre
  have hown : s.vm.findClass RL = some m.cls := findClass_of_methodNamed B.named
  have hlocks := B.notSynchronized
  subst hH
  have hD := hD0.self (sz := s.heap.size)
  generalize hAe : va_A (all cA Ad L0 ++ oW cA o9 (fun _ => 0)) s.heap.size = A at hD hXZ ⊢
  have hA : ∀ q : Nat, s.heap.size ≤ q → A q := fun q h => by rw [← hAe]; exact Or.inr h
  have hS : va_S A s.heap s.heap [] := va_S.rf
  have hP : va_P D vwCl (all cA Ad L0 ++ oW cA o9 (fun _ => 0)) s.heap := hP0
  have hl := lv_entry ([.ref (Ad 10 0), .int x, .int y, .ref o9] : List Value) (n := 5) (Nat.le_of_ble_eq_true rfl)
  rw [lg_entry_eq]
  generalize (lg_sl ([.ref (Ad 10 0), .int x, .int y, .ref o9] : List Value) ++ List.replicate (5 - (lg_sl ([.ref (Ad 10 0), .int x, .int y, .ref o9] : List Value)).length) Slot.unset).toArray = ls at hl ⊢
  have hl : lv_has ls 5 [(0, .ref (Ad 10 0)), (1, .int x), (2, .int y), (3, .ref o9)] := hl
  refine lv_aload_n hx hb dL_ifGone_0 rfl (lv_at hl 3 rfl) ?_
  refine lv_iconst (v := 0) hx hb dL_ifGone_1 (by decide) ?_
  refine lv_aload_n hx hb dL_ifGone_2 rfl (lv_at hl 0 rfl) ?_
  refine lv_iload_n hx hb dL_ifGone_3 rfl (lv_at hl 1 rfl) ?_
  refine lv_iload_n hx hb dL_ifGone_4 rfl (lv_at hl 2 rfl) ?_
  have hPo : va_P D vwCl (oW cA o9 (fun _ => 0)) s.heap := va_P_r hP
  refine xt_V (ci := 4) (q0 := 0) (As := [.int x, .int y]) (rest := [.int 0, .ref o9]) (cls := "java/lang/IllegalArgumentException") ⟨hx, hb, hml, hown, hts⟩ (x_ifGone1 l hl0 D cA _ (Ad 10 0) y x hx0) (cwV 2 hts gL_ifGone_X4_ifGone rfl rfl rfl (by decide +kernel) ⟨Nat.le_of_ble_eq_true rfl, Nat.le_of_ble_eq_true rfl⟩) hKN hKY.1 (hXZ.narrow (fun _ h => h.elim)) hS hA (lw_fP 10 (by decide) (va_P_l hP)) rfl rfl rfl hl.1 rfl (lv_room (Nat.le_of_ble_eq_true rfl)) dL_ifGone_5 ⟨Nat.le_of_ble_eq_true rfl, Nat.le_of_ble_eq_true rfl⟩ (fun ce q9 H locs hk9 hS hce hcv hcl => ?_)
  have hP : va_P D vwCl (oW cA o9 (fun _ => 0)) H := fun k q hq => (hPo k q hq).kept (hk9 q.1 (hPo k q hq).lt)
  refine vx_catch (own := RL) (name := "java/lang/IllegalArgumentException") (E := "java/lang/IllegalArgumentException") (ce := ce) (q := q9) hown [] ⟨0, 10, 13, 18⟩ [] ((vx_table (x := yL_law) B (hts _ mL_ifGone_cw)).trans rfl) (fun z hz => nomatch hz) (by decide) (by decide) (hts _ mL_ifGone_cl18) (hKY.1.use _ (by decide)) hce hcv hcl ?_
  refine lv_astore (lv' := [(4, .ref q9), (0, .ref (Ad 10 0)), (1, .int x), (2, .int y), (3, .ref o9)]) hx hb dL_ifGone_13 hl (by decide) rfl (fun ls hl => ?_)
  refine lv_iconst (v := 1) hx hb dL_ifGone_15 (by decide) ?_
  exact lh_iret hx hb hr hlocks dL_ifGone_16 hP hS (Nat.le_of_ble_eq_true rfl) (Nat.le_of_ble_eq_true rfl) rfl
set_option maxHeartbeats 4000000 in
set_option maxRecDepth 100000 in
theorem h_ifGone_x2 (l : Launch) (hl0 : l.stackTraces = false) (D : va_G) (cA : Nat → ClassId) (H : Heap) (Ad : Nat → Nat → Nat) (o9 : Nat) (n : Nat) (h1 : 1 ≤ n) (h99 : n ≤ 99) (x : Int32) (hx0 : inF x 0 3 = 0) (hP0 : va_P D vwCl (all cA Ad L0 ++ oW cA o9 (fun _ => 0)) H) (hD0 : va_D (fun _ => True) (all cA Ad L0 ++ oW cA o9 (fun _ => 0))) : LH l yL_ifGone wsL_ifGone ({ frames := 7, cells := 1, slots := 6, locals := 162 } : Room) D cA [.ref (Ad 10 0), .int (nI n), .int x, .ref o9] H (va_A (all cA Ad L0 ++ oW cA o9 (fun _ => 0)) H.size) o9 1 (fun _ => 0) := by
  refine vx_ofWH (cc := cL_ifGone) (maxL := 5) (ret := some .int) (hh := [(0, 10, 13, 18)]) (by decide) rfl ?_
  intro p e s m args below meth c s₁ B hml hv
  obtain ⟨rfl, hH, hKN, hKY, hXZ⟩ := hv
  have hK := hKN.1
  have hx := B.exec
  have hb := B.bytes
  have hr := B.returns
  have hts := atoms_spec (ws := wsL_ifGone) B.pre
  have hown : s.vm.findClass RL = some m.cls := findClass_of_methodNamed B.named
  have hlocks := B.notSynchronized
  subst hH
  have hD := hD0.self (sz := s.heap.size)
  generalize hAe : va_A (all cA Ad L0 ++ oW cA o9 (fun _ => 0)) s.heap.size = A at hD hXZ ⊢
  have hA : ∀ q : Nat, s.heap.size ≤ q → A q := fun q h => by rw [← hAe]; exact Or.inr h
  have hS : va_S A s.heap s.heap [] := va_S.rf
  have hP : va_P D vwCl (all cA Ad L0 ++ oW cA o9 (fun _ => 0)) s.heap := hP0
  have hl := lv_entry ([.ref (Ad 10 0), .int (nI n), .int x, .ref o9] : List Value) (n := 5) (Nat.le_of_ble_eq_true rfl)
  rw [lg_entry_eq]
  generalize (lg_sl ([.ref (Ad 10 0), .int (nI n), .int x, .ref o9] : List Value) ++ List.replicate (5 - (lg_sl ([.ref (Ad 10 0), .int (nI n), .int x, .ref o9] : List Value)).length) Slot.unset).toArray = ls at hl ⊢
  have hl : lv_has ls 5 [(0, .ref (Ad 10 0)), (1, .int (nI n)), (2, .int x), (3, .ref o9)] := hl
  refine lv_aload_n hx hb dL_ifGone_0 rfl (lv_at hl 3 rfl) ?_
  refine lv_iconst (v := 0) hx hb dL_ifGone_1 (by decide) ?_
  refine lv_aload_n hx hb dL_ifGone_2 rfl (lv_at hl 0 rfl) ?_
  refine lv_iload_n hx hb dL_ifGone_3 rfl (lv_at hl 1 rfl) ?_
  refine lv_iload_n hx hb dL_ifGone_4 rfl (lv_at hl 2 rfl) ?_
  have hPo : va_P D vwCl (oW cA o9 (fun _ => 0)) s.heap := va_P_r hP
  refine xt_V (ci := 4) (q0 := 0) (As := [.int (nI n), .int x]) (rest := [.int 0, .ref o9]) (cls := "java/lang/IllegalArgumentException") ⟨hx, hb, hml, hown, hts⟩ (x_ifGone2 l hl0 D cA _ (Ad 10 0) n h1 h99 x hx0) (cwV 2 hts gL_ifGone_X4_ifGone rfl rfl rfl (by decide +kernel) ⟨Nat.le_of_ble_eq_true rfl, Nat.le_of_ble_eq_true rfl⟩) hKN hKY.1 (hXZ.narrow (fun _ h => h.elim)) hS hA (lw_fP 10 (by decide) (va_P_l hP)) rfl rfl rfl hl.1 rfl (lv_room (Nat.le_of_ble_eq_true rfl)) dL_ifGone_5 ⟨Nat.le_of_ble_eq_true rfl, Nat.le_of_ble_eq_true rfl⟩ (fun ce q9 H locs hk9 hS hce hcv hcl => ?_)
  have hP : va_P D vwCl (oW cA o9 (fun _ => 0)) H := fun k q hq => (hPo k q hq).kept (hk9 q.1 (hPo k q hq).lt)
  refine vx_catch (own := RL) (name := "java/lang/IllegalArgumentException") (E := "java/lang/IllegalArgumentException") (ce := ce) (q := q9) hown [] ⟨0, 10, 13, 18⟩ [] ((vx_table (x := yL_law) B (hts _ mL_ifGone_cw)).trans rfl) (fun z hz => nomatch hz) (by decide) (by decide) (hts _ mL_ifGone_cl18) (hKY.1.use _ (by decide)) hce hcv hcl ?_
  refine lv_astore (lv' := [(4, .ref q9), (0, .ref (Ad 10 0)), (1, .int (nI n)), (2, .int x), (3, .ref o9)]) hx hb dL_ifGone_13 hl (by decide) rfl (fun ls hl => ?_)
  refine lv_iconst (v := 1) hx hb dL_ifGone_15 (by decide) ?_
  exact lh_iret hx hb hr hlocks dL_ifGone_16 hP hS (Nat.le_of_ble_eq_true rfl) (Nat.le_of_ble_eq_true rfl) rfl
