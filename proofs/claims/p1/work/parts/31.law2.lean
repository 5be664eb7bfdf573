-- the law's helpers, one contract each
set_option maxHeartbeats 4000000 in
set_option maxRecDepth 100000 in
theorem h_cross_v (l : Launch) (hl0 : l.stackTraces = false) (D : va_G) (cA : Nat → ClassId) (H : Heap) (Ad : Nat → Nat → Nat) (o9 : Nat) (t : Nat) (ht : t < 16) (r : Nat) (hr0 : r < 8) (hP0 : va_P D vwCl (all cA Ad L0 ++ oW cA o9 (fun _ => 0)) H) (hD0 : va_D (fun _ => True) (all cA Ad L0 ++ oW cA o9 (fun _ => 0))) : LH l yL_cross wsL_cross ({ frames := 7, cells := 1, slots := 6, locals := 115 } : Room) D cA [.ref (Ad 10 0), .int (nI t), .int (nI r), .ref o9] H (va_A (all cA Ad L0 ++ oW cA o9 (fun _ => 0)) H.size) o9 0 (vp_updL (fun _ => 0) 0 (i2lF 1)) := by
  refine vx_ofWH (cc := cL_cross) (maxL := 5) (ret := some .int) (hh := [(0, 10, 13, 13)]) (by decide) rfl ?_
  intro p e s m args below meth c s₁ B hml hv
  obtain ⟨rfl, hH, hKN, hKY, hXZ⟩ := hv
  have hK := hKN.1
  have hx := B.exec
  have hb := B.bytes
  have hr := B.returns
  have hts := atoms_spec (ws := wsL_cross) B.pre
  have hown : s.vm.findClass RL = some m.cls := findClass_of_methodNamed B.named
  have hlocks := B.notSynchronized
  subst hH
  have hD := hD0.self (sz := s.heap.size)
  generalize hAe : va_A (all cA Ad L0 ++ oW cA o9 (fun _ => 0)) s.heap.size = A at hD hXZ ⊢
  have hA : ∀ q : Nat, s.heap.size ≤ q → A q := fun q h => by rw [← hAe]; exact Or.inr h
  have hS : va_S A s.heap s.heap [] := va_S.rf
  have hP : va_P D vwCl (all cA Ad L0 ++ oW cA o9 (fun _ => 0)) s.heap := hP0
  have hl := lv_entry ([.ref (Ad 10 0), .int (nI t), .int (nI r), .ref o9] : List Value) (n := 5) (Nat.le_of_ble_eq_true rfl)
  rw [lg_entry_eq]
  generalize (lg_sl ([.ref (Ad 10 0), .int (nI t), .int (nI r), .ref o9] : List Value) ++ List.replicate (5 - (lg_sl ([.ref (Ad 10 0), .int (nI t), .int (nI r), .ref o9] : List Value)).length) Slot.unset).toArray = ls at hl ⊢
  have hl : lv_has ls 5 [(0, .ref (Ad 10 0)), (1, .int (nI t)), (2, .int (nI r)), (3, .ref o9)] := hl
  refine lv_aload_n hx hb dL_cross_0 rfl (lv_at hl 3 rfl) ?_
  refine lv_iconst (v := 0) hx hb dL_cross_1 (by decide) ?_
  refine lv_aload_n hx hb dL_cross_2 rfl (lv_at hl 0 rfl) ?_
  refine lv_iload_n hx hb dL_cross_3 rfl (lv_at hl 1 rfl) ?_
  refine lv_iload_n hx hb dL_cross_4 rfl (lv_at hl 2 rfl) ?_
  refine mu_Vx (ci := 4) (q0 := 0) (As := [.int (nI t), .int (nI r)]) (rest := [.int 0, .ref o9]) ⟨hx, hb, hml, hown, hts⟩ (c_X4_cross l D cA _ Ad (fun _ => initS) 0 0 (fun _ => 0, fun _ => 0, 0, 0, 0) (fun _ => 0, fun _ => 0) (by decide) (by decide) (Or.inr rfl) t ht r hr0 (va_P_l hP) (va_D_l hD)) (cwV 2 hts gL_cross_X4_cross rfl rfl rfl (by decide +kernel) ⟨Nat.le_of_ble_eq_true rfl, Nat.le_of_ble_eq_true rfl⟩) hKN hP hD hS hA (lw_fP 10 (by decide) (va_P_l hP)) rfl rfl (all_fst _ _ _ _) rfl hl.1 rfl (lv_room (Nat.le_of_ble_eq_true rfl)) dL_cross_5 ⟨Nat.zero_le _, Nat.zero_le _⟩ (fun H locs hP hD hS => ?_)
  refine lz_top (v := 1) (pv_cross t ht r hr0) ?_
  refine lv_i2l (v := (i2lF 1)) hx hb dL_cross_8 rfl ?_
  refine lz_last (k := 0) (f := fun _ => 0) hx hb hK hP hD hS 0 3 rfl rfl ⟨by decide, by decide⟩ dL_cross_9 (fun H locs hP hD hS => ?_)
  refine lv_goto (tgt := 17) hx hb dL_cross_10 (by decide) ?_
  refine lv_iconst (v := 0) hx hb dL_cross_17 (by decide) ?_
  exact lh_iret hx hb hr hlocks dL_cross_18 hP hS (Nat.le_of_ble_eq_true rfl) (Nat.le_of_ble_eq_true rfl) rfl
theorem mL_cross_cw : Cond.codeWith yL_cross cL_cross 5 (some .int) [(0, 10, 13, 13)] ∈ wsL_cross := by decide +kernel
theorem mL_cross_cl13 : Cond.classLink RL 13 "java/lang/IndexOutOfBoundsException" ∈ wsL_cross := by decide +kernel
set_option maxHeartbeats 4000000 in
set_option maxRecDepth 100000 in
theorem h_cross_x1 (l : Launch) (hl0 : l.stackTraces = false) (D : va_G) (cA : Nat → ClassId) (H : Heap) (Ad : Nat → Nat → Nat) (o9 : Nat) (y : Int32) (x : Int32) (hx0 : inF x 0 15 = 0) (hP0 : va_P D vwCl (all cA Ad L0 ++ oW cA o9 (fun _ => 0)) H) (hD0 : va_D (fun _ => True) (all cA Ad L0 ++ oW cA o9 (fun _ => 0))) : LH l yL_cross wsL_cross ({ frames := 7, cells := 1, slots := 6, locals := 115 } : Room) D cA [.ref (Ad 10 0), .int x, .int y, .ref o9] H (va_A (all cA Ad L0 ++ oW cA o9 (fun _ => 0)) H.size) o9 1 (fun _ => 0) := by
  refine vx_ofWH (cc := cL_cross) (maxL := 5) (ret := some .int) (hh := [(0, 10, 13, 13)]) (by decide) rfl ?_
  intro p e s m args below meth c s₁ B hml hv
  obtain ⟨rfl, hH, hKN, hKY, hXZ⟩ := hv
  have hK := hKN.1
  have hx := B.exec
  have hb := B.bytes
  have hr := B.returns
  have hts := atoms_spec (ws := wsL_cross) B.pre
  have hown : s.vm.findClass RL = some m.cls := findClass_of_methodNamed B.named
  have hlocks := B.notSynchronized
  subst hH
  have hD := hD0.self (sz := s.heap.size)
  generalize hAe : va_A (all cA Ad L0 ++ oW cA o9 (fun _ => 0)) s.heap.size = A at hD hXZ ⊢
  have hA : ∀ q : Nat, s.heap.size ≤ q → A q := fun q h => by rw [← hAe]; exact Or.inr h
  have hS : va_S A s.heap s.heap [] := va_S.rf
  have hP : va_P D vwCl (all cA Ad L0 ++ oW cA o9 (fun _ => 0)) s.heap := hP0
  have hl := lv_entry ([.ref (Ad 10 0), .int x, .int y, .ref o9] : List Value) (n := 5) (Nat.le_of_ble_eq_true rfl)
  rw [lg_entry_eq]
  generalize (lg_sl ([.ref (Ad 10 0), .int x, .int y, .ref o9] : List Value) ++ List.replicate (5 - (lg_sl ([.ref (Ad 10 0), .int x, .int y, .ref o9] : List Value)).length) Slot.unset).toArray = ls at hl ⊢
  have hl : lv_has ls 5 [(0, .ref (Ad 10 0)), (1, .int x), (2, .int y), (3, .ref o9)] := hl
  refine lv_aload_n hx hb dL_cross_0 rfl (lv_at hl 3 rfl) ?_
  refine lv_iconst (v := 0) hx hb dL_cross_1 (by decide) ?_
  refine lv_aload_n hx hb dL_cross_2 rfl (lv_at hl 0 rfl) ?_
  refine lv_iload_n hx hb dL_cross_3 rfl (lv_at hl 1 rfl) ?_
  refine lv_iload_n hx hb dL_cross_4 rfl (lv_at hl 2 rfl) ?_
  have hPo : va_P D vwCl (oW cA o9 (fun _ => 0)) s.heap := va_P_r hP
  refine xt_V (ci := 4) (q0 := 0) (As := [.int x, .int y]) (rest := [.int 0, .ref o9]) (cls := "java/lang/IndexOutOfBoundsException") ⟨hx, hb, hml, hown, hts⟩ (x_cross1 l hl0 D cA _ (Ad 10 0) y x hx0) (cwV 2 hts gL_cross_X4_cross rfl rfl rfl (by decide +kernel) ⟨Nat.le_of_ble_eq_true rfl, Nat.le_of_ble_eq_true rfl⟩) hKN hKY.1 (hXZ.narrow (fun _ h => h.elim)) hS hA (lw_fP 10 (by decide) (va_P_l hP)) rfl rfl rfl hl.1 rfl (lv_room (Nat.le_of_ble_eq_true rfl)) dL_cross_5 ⟨Nat.le_of_ble_eq_true rfl, Nat.le_of_ble_eq_true rfl⟩ (fun ce q9 H locs hk9 hS hce hcv hcl => ?_)
  have hP : va_P D vwCl (oW cA o9 (fun _ => 0)) H := fun k q hq => (hPo k q hq).kept (hk9 q.1 (hPo k q hq).lt)
  refine vx_catch (own := RL) (name := "java/lang/IndexOutOfBoundsException") (E := "java/lang/IndexOutOfBoundsException") (ce := ce) (q := q9) hown [] ⟨0, 10, 13, 13⟩ [] ((vx_table (x := yL_law) B (hts _ mL_cross_cw)).trans rfl) (fun z hz => nomatch hz) (by decide) (by decide) (hts _ mL_cross_cl13) (hKY.1.use _ (by decide)) hce hcv hcl ?_
  refine lv_astore (lv' := [(4, .ref q9), (0, .ref (Ad 10 0)), (1, .int x), (2, .int y), (3, .ref o9)]) hx hb dL_cross_13 hl (by decide) rfl (fun ls hl => ?_)
  refine lv_iconst (v := 1) hx hb dL_cross_15 (by decide) ?_
  exact lh_iret hx hb hr hlocks dL_cross_16 hP hS (Nat.le_of_ble_eq_true rfl) (Nat.le_of_ble_eq_true rfl) rfl
set_option maxHeartbeats 4000000 in
set_option maxRecDepth 100000 in
theorem h_cross_x2 (l : Launch) (hl0 : l.stackTraces = false) (D : va_G) (cA : Nat → ClassId) (H : Heap) (Ad : Nat → Nat → Nat) (o9 : Nat) (t : Nat) (ht : t < 16) (x : Int32) (hx0 : inF x 0 7 = 0) (hP0 : va_P D vwCl (all cA Ad L0 ++ oW cA o9 (fun _ => 0)) H) (hD0 : va_D (fun _ => True) (all cA Ad L0 ++ oW cA o9 (fun _ => 0))) : LH l yL_cross wsL_cross ({ frames := 7, cells := 1, slots := 6, locals := 115 } : Room) D cA [.ref (Ad 10 0), .int (nI t), .int x, .ref o9] H (va_A (all cA Ad L0 ++ oW cA o9 (fun _ => 0)) H.size) o9 1 (fun _ => 0) := by
  refine vx_ofWH (cc := cL_cross) (maxL := 5) (ret := some .int) (hh := [(0, 10, 13, 13)]) (by decide) rfl ?_
  intro p e s m args below meth c s₁ B hml hv
  obtain ⟨rfl, hH, hKN, hKY, hXZ⟩ := hv
  have hK := hKN.1
  have hx := B.exec
  have hb := B.bytes
  have hr := B.returns
  have hts := atoms_spec (ws := wsL_cross) B.pre
  have hown : s.vm.findClass RL = some m.cls := findClass_of_methodNamed B.named
  have hlocks := B.notSynchronized
  subst hH
  have hD := hD0.self (sz := s.heap.size)
  generalize hAe : va_A (all cA Ad L0 ++ oW cA o9 (fun _ => 0)) s.heap.size = A at hD hXZ ⊢
  have hA : ∀ q : Nat, s.heap.size ≤ q → A q := fun q h => by rw [← hAe]; exact Or.inr h
  have hS : va_S A s.heap s.heap [] := va_S.rf
  have hP : va_P D vwCl (all cA Ad L0 ++ oW cA o9 (fun _ => 0)) s.heap := hP0
  have hl := lv_entry ([.ref (Ad 10 0), .int (nI t), .int x, .ref o9] : List Value) (n := 5) (Nat.le_of_ble_eq_true rfl)
  rw [lg_entry_eq]
  generalize (lg_sl ([.ref (Ad 10 0), .int (nI t), .int x, .ref o9] : List Value) ++ List.replicate (5 - (lg_sl ([.ref (Ad 10 0), .int (nI t), .int x, .ref o9] : List Value)).length) Slot.unset).toArray = ls at hl ⊢
  have hl : lv_has ls 5 [(0, .ref (Ad 10 0)), (1, .int (nI t)), (2, .int x), (3, .ref o9)] := hl
  refine lv_aload_n hx hb dL_cross_0 rfl (lv_at hl 3 rfl) ?_
  refine lv_iconst (v := 0) hx hb dL_cross_1 (by decide) ?_
  refine lv_aload_n hx hb dL_cross_2 rfl (lv_at hl 0 rfl) ?_
  refine lv_iload_n hx hb dL_cross_3 rfl (lv_at hl 1 rfl) ?_
  refine lv_iload_n hx hb dL_cross_4 rfl (lv_at hl 2 rfl) ?_
  have hPo : va_P D vwCl (oW cA o9 (fun _ => 0)) s.heap := va_P_r hP
  refine xt_V (ci := 4) (q0 := 0) (As := [.int (nI t), .int x]) (rest := [.int 0, .ref o9]) (cls := "java/lang/IndexOutOfBoundsException") ⟨hx, hb, hml, hown, hts⟩ (x_cross2 l hl0 D cA _ (Ad 10 0) t ht x hx0) (cwV 2 hts gL_cross_X4_cross rfl rfl rfl (by decide +kernel) ⟨Nat.le_of_ble_eq_true rfl, Nat.le_of_ble_eq_true rfl⟩) hKN hKY.1 (hXZ.narrow (fun _ h => h.elim)) hS hA (lw_fP 10 (by decide) (va_P_l hP)) rfl rfl rfl hl.1 rfl (lv_room (Nat.le_of_ble_eq_true rfl)) dL_cross_5 ⟨Nat.le_of_ble_eq_true rfl, Nat.le_of_ble_eq_true rfl⟩ (fun ce q9 H locs hk9 hS hce hcv hcl => ?_)
  have hP : va_P D vwCl (oW cA o9 (fun _ => 0)) H := fun k q hq => (hPo k q hq).kept (hk9 q.1 (hPo k q hq).lt)
  refine vx_catch (own := RL) (name := "java/lang/IndexOutOfBoundsException") (E := "java/lang/IndexOutOfBoundsException") (ce := ce) (q := q9) hown [] ⟨0, 10, 13, 13⟩ [] ((vx_table (x := yL_law) B (hts _ mL_cross_cw)).trans rfl) (fun z hz => nomatch hz) (by decide) (by decide) (hts _ mL_cross_cl13) (hKY.1.use _ (by decide)) hce hcv hcl ?_
  refine lv_astore (lv' := [(4, .ref q9), (0, .ref (Ad 10 0)), (1, .int (nI t)), (2, .int x), (3, .ref o9)]) hx hb dL_cross_13 hl (by decide) rfl (fun ls hl => ?_)
  refine lv_iconst (v := 1) hx hb dL_cross_15 (by decide) ?_
  exact lh_iret hx hb hr hlocks dL_cross_16 hP hS (Nat.le_of_ble_eq_true rfl) (Nat.le_of_ble_eq_true rfl) rfl
set_option maxHeartbeats 4000000 in
set_option maxRecDepth 100000 in
theorem h_lay_v (l : Launch) (hl0 : l.stackTraces = false) (D : va_G) (cA : Nat → ClassId) (H : Heap) (Ad : Nat → Nat → Nat) (o9 : Nat) (t : Nat) (ht : t < 16) (w : Nat) (hw : w < 256) (hP0 : va_P D vwCl (all cA Ad L0 ++ oW cA o9 (fun _ => 0)) H) (hD0 : va_D (fun _ => True) (all cA Ad L0 ++ oW cA o9 (fun _ => 0))) : LH l yL_lay wsL_lay ({ frames := 7, cells := 1, slots := 6, locals := 115 } : Room) D cA [.ref (Ad 10 0), .int (nI t), .int (nI w), .ref o9] H (va_A (all cA Ad L0 ++ oW cA o9 (fun _ => 0)) H.size) o9 0 (vp_updL (fun _ => 0) 0 (i2lF (onesT (nI w ^^^ 0) 16))) := by
  refine vx_ofWH (cc := cL_lay) (maxL := 5) (ret := some .int) (hh := [(0, 10, 13, 13), (0, 10, 17, 18)]) (by decide) rfl ?_
  intro p e s m args below meth c s₁ B hml hv
  obtain ⟨rfl, hH, hKN, hKY, hXZ⟩ := hv
  have hK := hKN.1
  have hx := B.exec
  have hb := B.bytes
  have hr := B.returns
  have hts := atoms_spec (ws := wsL_lay) B.pre
  have hown : s.vm.findClass RL = some m.cls := findClass_of_methodNamed B.named
  have hlocks := B.notSynchronized
  subst hH
  have hD := hD0.self (sz := s.heap.size)
  generalize hAe : va_A (all cA Ad L0 ++ oW cA o9 (fun _ => 0)) s.heap.size = A at hD hXZ ⊢
  have hA : ∀ q : Nat, s.heap.size ≤ q → A q := fun q h => by rw [← hAe]; exact Or.inr h
  have hS : va_S A s.heap s.heap [] := va_S.rf
  have hP : va_P D vwCl (all cA Ad L0 ++ oW cA o9 (fun _ => 0)) s.heap := hP0
  have hl := lv_entry ([.ref (Ad 10 0), .int (nI t), .int (nI w), .ref o9] : List Value) (n := 5) (Nat.le_of_ble_eq_true rfl)
  rw [lg_entry_eq]
  generalize (lg_sl ([.ref (Ad 10 0), .int (nI t), .int (nI w), .ref o9] : List Value) ++ List.replicate (5 - (lg_sl ([.ref (Ad 10 0), .int (nI t), .int (nI w), .ref o9] : List Value)).length) Slot.unset).toArray = ls at hl ⊢
  have hl : lv_has ls 5 [(0, .ref (Ad 10 0)), (1, .int (nI t)), (2, .int (nI w)), (3, .ref o9)] := hl
  refine lv_aload_n hx hb dL_lay_0 rfl (lv_at hl 3 rfl) ?_
  refine lv_iconst (v := 0) hx hb dL_lay_1 (by decide) ?_
  refine lv_aload_n hx hb dL_lay_2 rfl (lv_at hl 0 rfl) ?_
  refine lv_iload_n hx hb dL_lay_3 rfl (lv_at hl 1 rfl) ?_
  refine lv_iload_n hx hb dL_lay_4 rfl (lv_at hl 2 rfl) ?_
  refine mu_Vx (ci := 4) (q0 := 0) (As := [.int (nI t), .int (nI w)]) (rest := [.int 0, .ref o9]) ⟨hx, hb, hml, hown, hts⟩ (c_X4_lay l D cA _ Ad (fun _ => initS) 0 0 (fun _ => 0, fun _ => 0, 0, 0, 0) (fun _ => 0, fun _ => 0) (by decide) (by decide) (Or.inr rfl) t ht w hw (va_P_l hP) (va_D_l hD)) (cwV 2 hts gL_lay_X4_lay rfl rfl rfl (by decide +kernel) ⟨Nat.le_of_ble_eq_true rfl, Nat.le_of_ble_eq_true rfl⟩) hKN hP hD hS hA (lw_fP 10 (by decide) (va_P_l hP)) rfl rfl (all_fst _ _ _ _) rfl hl.1 rfl (lv_room (Nat.le_of_ble_eq_true rfl)) dL_lay_5 ⟨Nat.zero_le _, Nat.zero_le _⟩ (fun H locs hP hD hS => ?_)
  refine lz_top (v := (onesT (nI w ^^^ 0) 16)) (pv_lay w hw) ?_
  refine lv_i2l (v := (i2lF (onesT (nI w ^^^ 0) 16))) hx hb dL_lay_8 rfl ?_
  refine lz_last (k := 0) (f := fun _ => 0) hx hb hK hP hD hS 0 3 rfl rfl ⟨by decide, by decide⟩ dL_lay_9 (fun H locs hP hD hS => ?_)
  refine lv_goto (tgt := 21) hx hb dL_lay_10 (by decide) ?_
  refine lv_iconst (v := 0) hx hb dL_lay_21 (by decide) ?_
  exact lh_iret hx hb hr hlocks dL_lay_22 hP hS (Nat.le_of_ble_eq_true rfl) (Nat.le_of_ble_eq_true rfl) rfl
theorem mL_lay_cw : Cond.codeWith yL_lay cL_lay 5 (some .int) [(0, 10, 13, 13), (0, 10, 17, 18)] ∈ wsL_lay := by decide +kernel
theorem mL_lay_cl13 : Cond.classLink RL 13 "java/lang/IndexOutOfBoundsException" ∈ wsL_lay := by decide +kernel
set_option maxHeartbeats 4000000 in
set_option maxRecDepth 100000 in
theorem h_lay_x1 (l : Launch) (hl0 : l.stackTraces = false) (D : va_G) (cA : Nat → ClassId) (H : Heap) (Ad : Nat → Nat → Nat) (o9 : Nat) (y : Int32) (x : Int32) (hx0 : inF x 0 15 = 0) (hP0 : va_P D vwCl (all cA Ad L0 ++ oW cA o9 (fun _ => 0)) H) (hD0 : va_D (fun _ => True) (all cA Ad L0 ++ oW cA o9 (fun _ => 0))) : LH l yL_lay wsL_lay ({ frames := 7, cells := 1, slots := 6, locals := 115 } : Room) D cA [.ref (Ad 10 0), .int x, .int y, .ref o9] H (va_A (all cA Ad L0 ++ oW cA o9 (fun _ => 0)) H.size) o9 1 (fun _ => 0) := by
  refine vx_ofWH (cc := cL_lay) (maxL := 5) (ret := some .int) (hh := [(0, 10, 13, 13), (0, 10, 17, 18)]) (by decide) rfl ?_
  intro p e s m args below meth c s₁ B hml hv
  obtain ⟨rfl, hH, hKN, hKY, hXZ⟩ := hv
  have hK := hKN.1
  have hx := B.exec
  have hb := B.bytes
  have hr := B.returns
  have hts := atoms_spec (ws := wsL_lay) B.pre
  have hown : s.vm.findClass RL = some m.cls := findClass_of_methodNamed B.named
  have hlocks := B.notSynchronized
  subst hH
  have hD := hD0.self (sz := s.heap.size)
  generalize hAe : va_A (all cA Ad L0 ++ oW cA o9 (fun _ => 0)) s.heap.size = A at hD hXZ ⊢
  have hA : ∀ q : Nat, s.heap.size ≤ q → A q := fun q h => by rw [← hAe]; exact Or.inr h
  have hS : va_S A s.heap s.heap [] := va_S.rf
  have hP : va_P D vwCl (all cA Ad L0 ++ oW cA o9 (fun _ => 0)) s.heap := hP0
  have hl := lv_entry ([.ref (Ad 10 0), .int x, .int y, .ref o9] : List Value) (n := 5) (Nat.le_of_ble_eq_true rfl)
  rw [lg_entry_eq]
  generalize (lg_sl ([.ref (Ad 10 0), .int x, .int y, .ref o9] : List Value) ++ List.replicate (5 - (lg_sl ([.ref (Ad 10 0), .int x, .int y, .ref o9] : List Value)).length) Slot.unset).toArray = ls at hl ⊢
  have hl : lv_has ls 5 [(0, .ref (Ad 10 0)), (1, .int x), (2, .int y), (3, .ref o9)] := hl
  refine lv_aload_n hx hb dL_lay_0 rfl (lv_at hl 3 rfl) ?_
  refine lv_iconst (v := 0) hx hb dL_lay_1 (by decide) ?_
  refine lv_aload_n hx hb dL_lay_2 rfl (lv_at hl 0 rfl) ?_
  refine lv_iload_n hx hb dL_lay_3 rfl (lv_at hl 1 rfl) ?_
  refine lv_iload_n hx hb dL_lay_4 rfl (lv_at hl 2 rfl) ?_
  have hPo : va_P D vwCl (oW cA o9 (fun _ => 0)) s.heap := va_P_r hP
  refine xt_V (ci := 4) (q0 := 0) (As := [.int x, .int y]) (rest := [.int 0, .ref o9]) (cls := "java/lang/IndexOutOfBoundsException") ⟨hx, hb, hml, hown, hts⟩ (x_lay1 l hl0 D cA _ (Ad 10 0) y x hx0) (cwV 2 hts gL_lay_X4_lay rfl rfl rfl (by decide +kernel) ⟨Nat.le_of_ble_eq_true rfl, Nat.le_of_ble_eq_true rfl⟩) hKN hKY.1 (hXZ.narrow (fun _ h => h.elim)) hS hA (lw_fP 10 (by decide) (va_P_l hP)) rfl rfl rfl hl.1 rfl (lv_room (Nat.le_of_ble_eq_true rfl)) dL_lay_5 ⟨Nat.le_of_ble_eq_true rfl, Nat.le_of_ble_eq_true rfl⟩ (fun ce q9 H locs hk9 hS hce hcv hcl => ?_)
  have hP : va_P D vwCl (oW cA o9 (fun _ => 0)) H := fun k q hq => (hPo k q hq).kept (hk9 q.1 (hPo k q hq).lt)
  refine vx_catch (own := RL) (name := "java/lang/IndexOutOfBoundsException") (E := "java/lang/IndexOutOfBoundsException") (ce := ce) (q := q9) hown [] ⟨0, 10, 13, 13⟩ [⟨0, 10, 17, 18⟩] ((vx_table (x := yL_law) B (hts _ mL_lay_cw)).trans rfl) (fun z hz => nomatch hz) (by decide) (by decide) (hts _ mL_lay_cl13) (hKY.1.use _ (by decide)) hce hcv hcl ?_
  refine lv_astore (lv' := [(4, .ref q9), (0, .ref (Ad 10 0)), (1, .int x), (2, .int y), (3, .ref o9)]) hx hb dL_lay_13 hl (by decide) rfl (fun ls hl => ?_)
  refine lv_iconst (v := 1) hx hb dL_lay_15 (by decide) ?_
  exact lh_iret hx hb hr hlocks dL_lay_16 hP hS (Nat.le_of_ble_eq_true rfl) (Nat.le_of_ble_eq_true rfl) rfl
theorem mL_lay_cl18 : Cond.classLink RL 18 "java/lang/IllegalArgumentException" ∈ wsL_lay := by decide +kernel
set_option maxHeartbeats 4000000 in
set_option maxRecDepth 100000 in
theorem h_lay_x2 (l : Launch) (hl0 : l.stackTraces = false) (D : va_G) (cA : Nat → ClassId) (H : Heap) (Ad : Nat → Nat → Nat) (o9 : Nat) (t : Nat) (ht : t < 16) (x : Int32) (hx0 : inF x 0 255 = 0) (hP0 : va_P D vwCl (all cA Ad L0 ++ oW cA o9 (fun _ => 0)) H) (hD0 : va_D (fun _ => True) (all cA Ad L0 ++ oW cA o9 (fun _ => 0))) : LH l yL_lay wsL_lay ({ frames := 7, cells := 1, slots := 6, locals := 115 } : Room) D cA [.ref (Ad 10 0), .int (nI t), .int x, .ref o9] H (va_A (all cA Ad L0 ++ oW cA o9 (fun _ => 0)) H.size) o9 2 (fun _ => 0) := by
  refine vx_ofWH (cc := cL_lay) (maxL := 5) (ret := some .int) (hh := [(0, 10, 13, 13), (0, 10, 17, 18)]) (by decide) rfl ?_
  intro p e s m args below meth c s₁ B hml hv
  obtain ⟨rfl, hH, hKN, hKY, hXZ⟩ := hv
  have hK := hKN.1
  have hx := B.exec
  have hb := B.bytes
  have hr := B.returns
  have hts := atoms_spec (ws := wsL_lay) B.pre
  have hown : s.vm.findClass RL = some m.cls := findClass_of_methodNamed B.named
  have hlocks := B.notSynchronized
  subst hH
  have hD := hD0.self (sz := s.heap.size)
  generalize hAe : va_A (all cA Ad L0 ++ oW cA o9 (fun _ => 0)) s.heap.size = A at hD hXZ ⊢
  have hA : ∀ q : Nat, s.heap.size ≤ q → A q := fun q h => by rw [← hAe]; exact Or.inr h
  have hS : va_S A s.heap s.heap [] := va_S.rf
  have hP : va_P D vwCl (all cA Ad L0 ++ oW cA o9 (fun _ => 0)) s.heap := hP0
  have hl := lv_entry ([.ref (Ad 10 0), .int (nI t), .int x, .ref o9] : List Value) (n := 5) (Nat.le_of_ble_eq_true rfl)
  rw [lg_entry_eq]
  generalize (lg_sl ([.ref (Ad 10 0), .int (nI t), .int x, .ref o9] : List Value) ++ List.replicate (5 - (lg_sl ([.ref (Ad 10 0), .int (nI t), .int x, .ref o9] : List Value)).length) Slot.unset).toArray = ls at hl ⊢
  have hl : lv_has ls 5 [(0, .ref (Ad 10 0)), (1, .int (nI t)), (2, .int x), (3, .ref o9)] := hl
  refine lv_aload_n hx hb dL_lay_0 rfl (lv_at hl 3 rfl) ?_
  refine lv_iconst (v := 0) hx hb dL_lay_1 (by decide) ?_
  refine lv_aload_n hx hb dL_lay_2 rfl (lv_at hl 0 rfl) ?_
  refine lv_iload_n hx hb dL_lay_3 rfl (lv_at hl 1 rfl) ?_
  refine lv_iload_n hx hb dL_lay_4 rfl (lv_at hl 2 rfl) ?_
  have hPo : va_P D vwCl (oW cA o9 (fun _ => 0)) s.heap := va_P_r hP
  refine xt_V (ci := 4) (q0 := 0) (As := [.int (nI t), .int x]) (rest := [.int 0, .ref o9]) (cls := "java/lang/IllegalArgumentException") ⟨hx, hb, hml, hown, hts⟩ (x_lay2 l hl0 D cA _ (Ad 10 0) t ht x hx0) (cwV 2 hts gL_lay_X4_lay rfl rfl rfl (by decide +kernel) ⟨Nat.le_of_ble_eq_true rfl, Nat.le_of_ble_eq_true rfl⟩) hKN hKY.1 (hXZ.narrow (fun _ h => h.elim)) hS hA (lw_fP 10 (by decide) (va_P_l hP)) rfl rfl rfl hl.1 rfl (lv_room (Nat.le_of_ble_eq_true rfl)) dL_lay_5 ⟨Nat.le_of_ble_eq_true rfl, Nat.le_of_ble_eq_true rfl⟩ (fun ce q9 H locs hk9 hS hce hcv hcl => ?_)
  have hP : va_P D vwCl (oW cA o9 (fun _ => 0)) H := fun k q hq => (hPo k q hq).kept (hk9 q.1 (hPo k q hq).lt)
  refine vx_catch (own := RL) (name := "java/lang/IllegalArgumentException") (E := "java/lang/IllegalArgumentException") (ce := ce) (q := q9) hown [⟨0, 10, 13, 13⟩] ⟨0, 10, 17, 18⟩ [] ((vx_table (x := yL_law) B (hts _ mL_lay_cw)).trans rfl) (fun z hz => by rcases List.mem_singleton.mp hz with rfl; exact Or.inr ⟨by decide, "java/lang/IndexOutOfBoundsException", hts _ mL_lay_cl13, hKY.2.1⟩) (by decide) (by decide) (hts _ mL_lay_cl18) (hKY.1.use _ (by decide)) hce hcv hcl ?_
  refine lv_astore (lv' := [(4, .ref q9), (0, .ref (Ad 10 0)), (1, .int (nI t)), (2, .int x), (3, .ref o9)]) hx hb dL_lay_17 hl (by decide) rfl (fun ls hl => ?_)
  refine lv_iconst (v := 2) hx hb dL_lay_19 (by decide) ?_
  exact lh_iret hx hb hr hlocks dL_lay_20 hP hS (Nat.le_of_ble_eq_true rfl) (Nat.le_of_ble_eq_true rfl) rfl
set_option maxHeartbeats 4000000 in
set_option maxRecDepth 100000 in
theorem h_guard_v (l : Launch) (hl0 : l.stackTraces = false) (D : va_G) (cA : Nat → ClassId) (H : Heap) (Ad : Nat → Nat → Nat) (o9 : Nat) (t : Nat) (ht : t < 16) (hP0 : va_P D vwCl (all cA Ad L0 ++ oW cA o9 (fun _ => 0)) H) (hD0 : va_D (fun _ => True) (all cA Ad L0 ++ oW cA o9 (fun _ => 0))) : LH l yL_guard wsL_guard ({ frames := 7, cells := 1, slots := 6, locals := 114 } : Room) D cA [.ref (Ad 10 0), .int (nI t), .ref o9] H (va_A (all cA Ad L0 ++ oW cA o9 (fun _ => 0)) H.size) o9 0 (vp_updL (fun _ => 0) 0 (i2lF 1)) := by
  refine vx_ofWH (cc := cL_guard) (maxL := 4) (ret := some .int) (hh := [(0, 9, 12, 13)]) (by decide) rfl ?_
  intro p e s m args below meth c s₁ B hml hv
  obtain ⟨rfl, hH, hKN, hKY, hXZ⟩ := hv
  have hK := hKN.1
  have hx := B.exec
  have hb := B.bytes
  have hr := B.returns
  have hts := atoms_spec (ws := wsL_guard) B.pre
  have hown : s.vm.findClass RL = some m.cls := findClass_of_methodNamed B.named
  have hlocks := B.notSynchronized
  subst hH
  have hD := hD0.self (sz := s.heap.size)
  generalize hAe : va_A (all cA Ad L0 ++ oW cA o9 (fun _ => 0)) s.heap.size = A at hD hXZ ⊢
  have hA : ∀ q : Nat, s.heap.size ≤ q → A q := fun q h => by rw [← hAe]; exact Or.inr h
  have hS : va_S A s.heap s.heap [] := va_S.rf
  have hP : va_P D vwCl (all cA Ad L0 ++ oW cA o9 (fun _ => 0)) s.heap := hP0
  have hl := lv_entry ([.ref (Ad 10 0), .int (nI t), .ref o9] : List Value) (n := 4) (Nat.le_of_ble_eq_true rfl)
  rw [lg_entry_eq]
  generalize (lg_sl ([.ref (Ad 10 0), .int (nI t), .ref o9] : List Value) ++ List.replicate (4 - (lg_sl ([.ref (Ad 10 0), .int (nI t), .ref o9] : List Value)).length) Slot.unset).toArray = ls at hl ⊢
  have hl : lv_has ls 4 [(0, .ref (Ad 10 0)), (1, .int (nI t)), (2, .ref o9)] := hl
  refine lv_aload_n hx hb dL_guard_0 rfl (lv_at hl 2 rfl) ?_
  refine lv_iconst (v := 0) hx hb dL_guard_1 (by decide) ?_
  refine lv_aload_n hx hb dL_guard_2 rfl (lv_at hl 0 rfl) ?_
  refine lv_iload_n hx hb dL_guard_3 rfl (lv_at hl 1 rfl) ?_
  refine mu_Vx (ci := 4) (q0 := 0) (As := [.int (nI t)]) (rest := [.int 0, .ref o9]) ⟨hx, hb, hml, hown, hts⟩ (c_X4_guard l D cA _ Ad (fun _ => initS) 0 0 (fun _ => 0, fun _ => 0, 0, 0, 0) (fun _ => 0, fun _ => 0) (by decide) (by decide) (Or.inr rfl) t ht (va_P_l hP) (va_D_l hD)) (cwV 1 hts gL_guard_X4_guard rfl rfl rfl (by decide +kernel) ⟨Nat.le_of_ble_eq_true rfl, Nat.le_of_ble_eq_true rfl⟩) hKN hP hD hS hA (lw_fP 10 (by decide) (va_P_l hP)) rfl rfl (all_fst _ _ _ _) rfl hl.1 rfl (lv_room (Nat.le_of_ble_eq_true rfl)) dL_guard_4 ⟨Nat.zero_le _, Nat.zero_le _⟩ (fun H locs hP hD hS => ?_)
  refine lz_top (v := 1) (pv_guard t ht) ?_
  refine lv_i2l (v := (i2lF 1)) hx hb dL_guard_7 rfl ?_
  refine lz_last (k := 0) (f := fun _ => 0) hx hb hK hP hD hS 0 3 rfl rfl ⟨by decide, by decide⟩ dL_guard_8 (fun H locs hP hD hS => ?_)
  refine lv_goto (tgt := 15) hx hb dL_guard_9 (by decide) ?_
  refine lv_iconst (v := 0) hx hb dL_guard_15 (by decide) ?_
  exact lh_iret hx hb hr hlocks dL_guard_16 hP hS (Nat.le_of_ble_eq_true rfl) (Nat.le_of_ble_eq_true rfl) rfl
theorem mL_guard_cw : Cond.codeWith yL_guard cL_guard 4 (some .int) [(0, 9, 12, 13)] ∈ wsL_guard := by decide +kernel
theorem mL_guard_cl13 : Cond.classLink RL 13 "java/lang/IndexOutOfBoundsException" ∈ wsL_guard := by decide +kernel
set_option maxHeartbeats 4000000 in
set_option maxRecDepth 100000 in
theorem h_guard_x1 (l : Launch) (hl0 : l.stackTraces = false) (D : va_G) (cA : Nat → ClassId) (H : Heap) (Ad : Nat → Nat → Nat) (o9 : Nat) (x : Int32) (hx0 : inF x 0 15 = 0) (hP0 : va_P D vwCl (all cA Ad L0 ++ oW cA o9 (fun _ => 0)) H) (hD0 : va_D (fun _ => True) (all cA Ad L0 ++ oW cA o9 (fun _ => 0))) : LH l yL_guard wsL_guard ({ frames := 7, cells := 1, slots := 6, locals := 114 } : Room) D cA [.ref (Ad 10 0), .int x, .ref o9] H (va_A (all cA Ad L0 ++ oW cA o9 (fun _ => 0)) H.size) o9 1 (fun _ => 0) := by
  refine vx_ofWH (cc := cL_guard) (maxL := 4) (ret := some .int) (hh := [(0, 9, 12, 13)]) (by decide) rfl ?_
  intro p e s m args below meth c s₁ B hml hv
  obtain ⟨rfl, hH, hKN, hKY, hXZ⟩ := hv
  have hK := hKN.1
  have hx := B.exec
  have hb := B.bytes
  have hr := B.returns
  have hts := atoms_spec (ws := wsL_guard) B.pre
  have hown : s.vm.findClass RL = some m.cls := findClass_of_methodNamed B.named
  have hlocks := B.notSynchronized
  subst hH
  have hD := hD0.self (sz := s.heap.size)
  generalize hAe : va_A (all cA Ad L0 ++ oW cA o9 (fun _ => 0)) s.heap.size = A at hD hXZ ⊢
  have hA : ∀ q : Nat, s.heap.size ≤ q → A q := fun q h => by rw [← hAe]; exact Or.inr h
  have hS : va_S A s.heap s.heap [] := va_S.rf
  have hP : va_P D vwCl (all cA Ad L0 ++ oW cA o9 (fun _ => 0)) s.heap := hP0
  have hl := lv_entry ([.ref (Ad 10 0), .int x, .ref o9] : List Value) (n := 4) (Nat.le_of_ble_eq_true rfl)
  rw [lg_entry_eq]
  generalize (lg_sl ([.ref (Ad 10 0), .int x, .ref o9] : List Value) ++ List.replicate (4 - (lg_sl ([.ref (Ad 10 0), .int x, .ref o9] : List Value)).length) Slot.unset).toArray = ls at hl ⊢
  have hl : lv_has ls 4 [(0, .ref (Ad 10 0)), (1, .int x), (2, .ref o9)] := hl
  refine lv_aload_n hx hb dL_guard_0 rfl (lv_at hl 2 rfl) ?_
  refine lv_iconst (v := 0) hx hb dL_guard_1 (by decide) ?_
  refine lv_aload_n hx hb dL_guard_2 rfl (lv_at hl 0 rfl) ?_
  refine lv_iload_n hx hb dL_guard_3 rfl (lv_at hl 1 rfl) ?_
  have hPo : va_P D vwCl (oW cA o9 (fun _ => 0)) s.heap := va_P_r hP
  refine xt_V (ci := 4) (q0 := 0) (As := [.int x]) (rest := [.int 0, .ref o9]) (cls := "java/lang/IndexOutOfBoundsException") ⟨hx, hb, hml, hown, hts⟩ (x_guard l hl0 D cA _ (Ad 10 0) x hx0) (cwV 1 hts gL_guard_X4_guard rfl rfl rfl (by decide +kernel) ⟨Nat.le_of_ble_eq_true rfl, Nat.le_of_ble_eq_true rfl⟩) hKN hKY.1 (hXZ.narrow (fun _ h => h.elim)) hS hA (lw_fP 10 (by decide) (va_P_l hP)) rfl rfl rfl hl.1 rfl (lv_room (Nat.le_of_ble_eq_true rfl)) dL_guard_4 ⟨Nat.le_of_ble_eq_true rfl, Nat.le_of_ble_eq_true rfl⟩ (fun ce q9 H locs hk9 hS hce hcv hcl => ?_)
  have hP : va_P D vwCl (oW cA o9 (fun _ => 0)) H := fun k q hq => (hPo k q hq).kept (hk9 q.1 (hPo k q hq).lt)
  refine vx_catch (own := RL) (name := "java/lang/IndexOutOfBoundsException") (E := "java/lang/IndexOutOfBoundsException") (ce := ce) (q := q9) hown [] ⟨0, 9, 12, 13⟩ [] ((vx_table (x := yL_law) B (hts _ mL_guard_cw)).trans rfl) (fun z hz => nomatch hz) (by decide) (by decide) (hts _ mL_guard_cl13) (hKY.1.use _ (by decide)) hce hcv hcl ?_
  refine lv_astore_n (lv' := [(3, .ref q9), (0, .ref (Ad 10 0)), (1, .int x), (2, .ref o9)]) hx hb dL_guard_12 rfl hl (by decide) rfl (fun ls hl => ?_)
  refine lv_iconst (v := 1) hx hb dL_guard_13 (by decide) ?_
  exact lh_iret hx hb hr hlocks dL_guard_14 hP hS (Nat.le_of_ble_eq_true rfl) (Nat.le_of_ble_eq_true rfl) rfl
set_option maxHeartbeats 4000000 in
set_option maxRecDepth 100000 in
theorem h_change_v (l : Launch) (hl0 : l.stackTraces = false) (D : va_G) (cA : Nat → ClassId) (H : Heap) (Ad : Nat → Nat → Nat) (o9 : Nat) (r : Nat) (hr0 : r < 8) (hP0 : va_P D vwCl (all cA Ad L0 ++ oW cA o9 (fun _ => 0)) H) (hD0 : va_D (fun _ => True) (all cA Ad L0 ++ oW cA o9 (fun _ => 0))) : LH l yL_change wsL_change ({ frames := 7, cells := 1, slots := 6, locals := 114 } : Room) D cA [.ref (Ad 10 0), .int (nI r), .ref o9] H (va_A (all cA Ad L0 ++ oW cA o9 (fun _ => 0)) H.size) o9 0 (vp_updL (fun _ => 0) 0 (i2lF 0)) := by
  refine vx_ofWH (cc := cL_change) (maxL := 4) (ret := some .int) (hh := [(0, 9, 12, 13)]) (by decide) rfl ?_
  intro p e s m args below meth c s₁ B hml hv
  obtain ⟨rfl, hH, hKN, hKY, hXZ⟩ := hv
  have hK := hKN.1
  have hx := B.exec
  have hb := B.bytes
  have hr := B.returns
  have hts := atoms_spec (ws := wsL_change) B.pre
  have hown : s.vm.findClass RL = some m.cls := findClass_of_methodNamed B.named
  have hlocks := B.notSynchronized
  subst hH
  have hD := hD0.self (sz := s.heap.size)
  generalize hAe : va_A (all cA Ad L0 ++ oW cA o9 (fun _ => 0)) s.heap.size = A at hD hXZ ⊢
  have hA : ∀ q : Nat, s.heap.size ≤ q → A q := fun q h => by rw [← hAe]; exact Or.inr h
  have hS : va_S A s.heap s.heap [] := va_S.rf
  have hP : va_P D vwCl (all cA Ad L0 ++ oW cA o9 (fun _ => 0)) s.heap := hP0
  have hl := lv_entry ([.ref (Ad 10 0), .int (nI r), .ref o9] : List Value) (n := 4) (Nat.le_of_ble_eq_true rfl)
  rw [lg_entry_eq]
  generalize (lg_sl ([.ref (Ad 10 0), .int (nI r), .ref o9] : List Value) ++ List.replicate (4 - (lg_sl ([.ref (Ad 10 0), .int (nI r), .ref o9] : List Value)).length) Slot.unset).toArray = ls at hl ⊢
  have hl : lv_has ls 4 [(0, .ref (Ad 10 0)), (1, .int (nI r)), (2, .ref o9)] := hl
  refine lv_aload_n hx hb dL_change_0 rfl (lv_at hl 2 rfl) ?_
  refine lv_iconst (v := 0) hx hb dL_change_1 (by decide) ?_
  refine lv_aload_n hx hb dL_change_2 rfl (lv_at hl 0 rfl) ?_
  refine lv_iload_n hx hb dL_change_3 rfl (lv_at hl 1 rfl) ?_
  refine mu_Vx (ci := 4) (q0 := 0) (As := [.int (nI r)]) (rest := [.int 0, .ref o9]) ⟨hx, hb, hml, hown, hts⟩ (c_X4_change l D cA _ Ad (fun _ => initS) 0 0 (fun _ => 0, fun _ => 0, 0, 0, 0) (fun _ => 0, fun _ => 0) (by decide) (by decide) (Or.inr rfl) r hr0 (va_P_l hP) (va_D_l hD)) (cwV 1 hts gL_change_X4_change rfl rfl rfl (by decide +kernel) ⟨Nat.le_of_ble_eq_true rfl, Nat.le_of_ble_eq_true rfl⟩) hKN hP hD hS hA (lw_fP 10 (by decide) (va_P_l hP)) rfl rfl (all_fst _ _ _ _) rfl hl.1 rfl (lv_room (Nat.le_of_ble_eq_true rfl)) dL_change_4 ⟨Nat.zero_le _, Nat.zero_le _⟩ (fun H locs hP hD hS => ?_)
  refine lz_top (v := 0) (pv_change r hr0) ?_
  refine lv_i2l (v := (i2lF 0)) hx hb dL_change_7 rfl ?_
  refine lz_last (k := 0) (f := fun _ => 0) hx hb hK hP hD hS 0 3 rfl rfl ⟨by decide, by decide⟩ dL_change_8 (fun H locs hP hD hS => ?_)
  refine lv_goto (tgt := 15) hx hb dL_change_9 (by decide) ?_
  refine lv_iconst (v := 0) hx hb dL_change_15 (by decide) ?_
  exact lh_iret hx hb hr hlocks dL_change_16 hP hS (Nat.le_of_ble_eq_true rfl) (Nat.le_of_ble_eq_true rfl) rfl
theorem mL_change_cw : Cond.codeWith yL_change cL_change 4 (some .int) [(0, 9, 12, 13)] ∈ wsL_change := by decide +kernel
theorem mL_change_cl13 : Cond.classLink RL 13 "java/lang/IndexOutOfBoundsException" ∈ wsL_change := by decide +kernel
set_option maxHeartbeats 4000000 in
set_option maxRecDepth 100000 in
theorem h_change_x1 (l : Launch) (hl0 : l.stackTraces = false) (D : va_G) (cA : Nat → ClassId) (H : Heap) (Ad : Nat → Nat → Nat) (o9 : Nat) (x : Int32) (hx0 : inF x 0 7 = 0) (hP0 : va_P D vwCl (all cA Ad L0 ++ oW cA o9 (fun _ => 0)) H) (hD0 : va_D (fun _ => True) (all cA Ad L0 ++ oW cA o9 (fun _ => 0))) : LH l yL_change wsL_change ({ frames := 7, cells := 1, slots := 6, locals := 114 } : Room) D cA [.ref (Ad 10 0), .int x, .ref o9] H (va_A (all cA Ad L0 ++ oW cA o9 (fun _ => 0)) H.size) o9 1 (fun _ => 0) := by
  refine vx_ofWH (cc := cL_change) (maxL := 4) (ret := some .int) (hh := [(0, 9, 12, 13)]) (by decide) rfl ?_
  intro p e s m args below meth c s₁ B hml hv
  obtain ⟨rfl, hH, hKN, hKY, hXZ⟩ := hv
  have hK := hKN.1
  have hx := B.exec
  have hb := B.bytes
  have hr := B.returns
  have hts := atoms_spec (ws := wsL_change) B.pre
  have hown : s.vm.findClass RL = some m.cls := findClass_of_methodNamed B.named
  have hlocks := B.notSynchronized
  subst hH
  have hD := hD0.self (sz := s.heap.size)
  generalize hAe : va_A (all cA Ad L0 ++ oW cA o9 (fun _ => 0)) s.heap.size = A at hD hXZ ⊢
  have hA : ∀ q : Nat, s.heap.size ≤ q → A q := fun q h => by rw [← hAe]; exact Or.inr h
  have hS : va_S A s.heap s.heap [] := va_S.rf
  have hP : va_P D vwCl (all cA Ad L0 ++ oW cA o9 (fun _ => 0)) s.heap := hP0
  have hl := lv_entry ([.ref (Ad 10 0), .int x, .ref o9] : List Value) (n := 4) (Nat.le_of_ble_eq_true rfl)
  rw [lg_entry_eq]
  generalize (lg_sl ([.ref (Ad 10 0), .int x, .ref o9] : List Value) ++ List.replicate (4 - (lg_sl ([.ref (Ad 10 0), .int x, .ref o9] : List Value)).length) Slot.unset).toArray = ls at hl ⊢
  have hl : lv_has ls 4 [(0, .ref (Ad 10 0)), (1, .int x), (2, .ref o9)] := hl
  refine lv_aload_n hx hb dL_change_0 rfl (lv_at hl 2 rfl) ?_
  refine lv_iconst (v := 0) hx hb dL_change_1 (by decide) ?_
  refine lv_aload_n hx hb dL_change_2 rfl (lv_at hl 0 rfl) ?_
  refine lv_iload_n hx hb dL_change_3 rfl (lv_at hl 1 rfl) ?_
  have hPo : va_P D vwCl (oW cA o9 (fun _ => 0)) s.heap := va_P_r hP
  refine xt_V (ci := 4) (q0 := 0) (As := [.int x]) (rest := [.int 0, .ref o9]) (cls := "java/lang/IndexOutOfBoundsException") ⟨hx, hb, hml, hown, hts⟩ (x_change l hl0 D cA _ (Ad 10 0) x hx0) (cwV 1 hts gL_change_X4_change rfl rfl rfl (by decide +kernel) ⟨Nat.le_of_ble_eq_true rfl, Nat.le_of_ble_eq_true rfl⟩) hKN hKY.1 (hXZ.narrow (fun _ h => h.elim)) hS hA (lw_fP 10 (by decide) (va_P_l hP)) rfl rfl rfl hl.1 rfl (lv_room (Nat.le_of_ble_eq_true rfl)) dL_change_4 ⟨Nat.le_of_ble_eq_true rfl, Nat.le_of_ble_eq_true rfl⟩ (fun ce q9 H locs hk9 hS hce hcv hcl => ?_)
  have hP : va_P D vwCl (oW cA o9 (fun _ => 0)) H := fun k q hq => (hPo k q hq).kept (hk9 q.1 (hPo k q hq).lt)
  refine vx_catch (own := RL) (name := "java/lang/IndexOutOfBoundsException") (E := "java/lang/IndexOutOfBoundsException") (ce := ce) (q := q9) hown [] ⟨0, 9, 12, 13⟩ [] ((vx_table (x := yL_law) B (hts _ mL_change_cw)).trans rfl) (fun z hz => nomatch hz) (by decide) (by decide) (hts _ mL_change_cl13) (hKY.1.use _ (by decide)) hce hcv hcl ?_
  refine lv_astore_n (lv' := [(3, .ref q9), (0, .ref (Ad 10 0)), (1, .int x), (2, .ref o9)]) hx hb dL_change_12 rfl hl (by decide) rfl (fun ls hl => ?_)
  refine lv_iconst (v := 1) hx hb dL_change_13 (by decide) ?_
  exact lh_iret hx hb hr hlocks dL_change_14 hP hS (Nat.le_of_ble_eq_true rfl) (Nat.le_of_ble_eq_true rfl) rfl
set_option maxHeartbeats 4000000 in
set_option maxRecDepth 100000 in
theorem h_set_v0 (l : Launch) (hl0 : l.stackTraces = false) (D : va_G) (cA : Nat → ClassId) (H : Heap) (Ad : Nat → Nat → Nat) (o9 : Nat) (v : Nat) (h1 : 1 ≤ v) (h8 : v ≤ 8) (hP0 : va_P D vwCl (all cA Ad L0 ++ oW cA o9 (fun _ => 0)) H) (hD0 : va_D (fun _ => True) (all cA Ad L0 ++ oW cA o9 (fun _ => 0))) : LH l yL_set wsL_set ({ frames := 7, cells := 1, slots := 6, locals := 116 } : Room) D cA [.ref (Ad 10 0), .int 0, .int (nI v), .ref o9] H (va_A (all cA Ad L0 ++ oW cA o9 (fun _ => 0)) H.size) o9 0 (vp_updL (fun _ => 0) 0 (i2lF 6)) := by
  refine vx_ofWH (cc := cL_set) (maxL := 5) (ret := some .int) (hh := [(0, 10, 13, 13), (0, 10, 17, 18)]) (by decide) rfl ?_
  intro p e s m args below meth c s₁ B hml hv
  obtain ⟨rfl, hH, hKN, hKY, hXZ⟩ := hv
  have hK := hKN.1
  have hx := B.exec
  have hb := B.bytes
  have hr := B.returns
  have hts := atoms_spec (ws := wsL_set) B.pre
  have hown : s.vm.findClass RL = some m.cls := findClass_of_methodNamed B.named
  have hlocks := B.notSynchronized
  subst hH
  have hD := hD0.self (sz := s.heap.size)
  generalize hAe : va_A (all cA Ad L0 ++ oW cA o9 (fun _ => 0)) s.heap.size = A at hD hXZ ⊢
  have hA : ∀ q : Nat, s.heap.size ≤ q → A q := fun q h => by rw [← hAe]; exact Or.inr h
  have hS : va_S A s.heap s.heap [] := va_S.rf
  have hP : va_P D vwCl (all cA Ad L0 ++ oW cA o9 (fun _ => 0)) s.heap := hP0
  have hl := lv_entry ([.ref (Ad 10 0), .int 0, .int (nI v), .ref o9] : List Value) (n := 5) (Nat.le_of_ble_eq_true rfl)
  rw [lg_entry_eq]
  generalize (lg_sl ([.ref (Ad 10 0), .int 0, .int (nI v), .ref o9] : List Value) ++ List.replicate (5 - (lg_sl ([.ref (Ad 10 0), .int 0, .int (nI v), .ref o9] : List Value)).length) Slot.unset).toArray = ls at hl ⊢
  have hl : lv_has ls 5 [(0, .ref (Ad 10 0)), (1, .int 0), (2, .int (nI v)), (3, .ref o9)] := hl
  refine lv_aload_n hx hb dL_set_0 rfl (lv_at hl 3 rfl) ?_
  refine lv_iconst (v := 0) hx hb dL_set_1 (by decide) ?_
  refine lv_aload_n hx hb dL_set_2 rfl (lv_at hl 0 rfl) ?_
  refine lv_iload_n hx hb dL_set_3 rfl (lv_at hl 1 rfl) ?_
  refine lv_iload_n hx hb dL_set_4 rfl (lv_at hl 2 rfl) ?_
  refine mu_Vx (ci := 4) (q0 := 0) (As := [.int 0, .int (nI v)]) (rest := [.int 0, .ref o9]) ⟨hx, hb, hml, hown, hts⟩ (c_X4_set0 l D cA _ Ad (fun _ => initS) 0 0 (fun _ => 0, fun _ => 0, 0, 0, 0) (fun _ => 0, fun _ => 0) (by decide) (by decide) (Or.inr rfl) v h1 h8 (va_P_l hP) (va_D_l hD)) (cwV 2 hts gL_set_X4_set rfl rfl rfl (by decide +kernel) ⟨Nat.le_of_ble_eq_true rfl, Nat.le_of_ble_eq_true rfl⟩) hKN hP hD hS hA (lw_fP 10 (by decide) (va_P_l hP)) rfl rfl (all_fst _ _ _ _) rfl hl.1 rfl (lv_room (Nat.le_of_ble_eq_true rfl)) dL_set_5 ⟨Nat.zero_le _, Nat.zero_le _⟩ (fun H locs hP hD hS => ?_)
  refine lz_top (v := 6) pv_set0 ?_
  refine lv_i2l (v := (i2lF 6)) hx hb dL_set_8 rfl ?_
  refine lz_last (k := 0) (f := fun _ => 0) hx hb hK hP hD hS 0 3 rfl rfl ⟨by decide, by decide⟩ dL_set_9 (fun H locs hP hD hS => ?_)
  refine lv_goto (tgt := 21) hx hb dL_set_10 (by decide) ?_
  refine lv_iconst (v := 0) hx hb dL_set_21 (by decide) ?_
  exact lh_iret hx hb hr hlocks dL_set_22 hP hS (Nat.le_of_ble_eq_true rfl) (Nat.le_of_ble_eq_true rfl) rfl
set_option maxHeartbeats 4000000 in
set_option maxRecDepth 100000 in
theorem h_set_v1 (l : Launch) (hl0 : l.stackTraces = false) (D : va_G) (cA : Nat → ClassId) (H : Heap) (Ad : Nat → Nat → Nat) (o9 : Nat) (v : Nat) (h8 : v ≤ 1) (hP0 : va_P D vwCl (all cA Ad L0 ++ oW cA o9 (fun _ => 0)) H) (hD0 : va_D (fun _ => True) (all cA Ad L0 ++ oW cA o9 (fun _ => 0))) : LH l yL_set wsL_set ({ frames := 7, cells := 1, slots := 6, locals := 116 } : Room) D cA [.ref (Ad 10 0), .int 1, .int (nI v), .ref o9] H (va_A (all cA Ad L0 ++ oW cA o9 (fun _ => 0)) H.size) o9 0 (vp_updL (fun _ => 0) 0 (i2lF 0)) := by
  refine vx_ofWH (cc := cL_set) (maxL := 5) (ret := some .int) (hh := [(0, 10, 13, 13), (0, 10, 17, 18)]) (by decide) rfl ?_
  intro p e s m args below meth c s₁ B hml hv
  obtain ⟨rfl, hH, hKN, hKY, hXZ⟩ := hv
  have hK := hKN.1
  have hx := B.exec
  have hb := B.bytes
  have hr := B.returns
  have hts := atoms_spec (ws := wsL_set) B.pre
  have hown : s.vm.findClass RL = some m.cls := findClass_of_methodNamed B.named
  have hlocks := B.notSynchronized
  subst hH
  have hD := hD0.self (sz := s.heap.size)
  generalize hAe : va_A (all cA Ad L0 ++ oW cA o9 (fun _ => 0)) s.heap.size = A at hD hXZ ⊢
  have hA : ∀ q : Nat, s.heap.size ≤ q → A q := fun q h => by rw [← hAe]; exact Or.inr h
  have hS : va_S A s.heap s.heap [] := va_S.rf
  have hP : va_P D vwCl (all cA Ad L0 ++ oW cA o9 (fun _ => 0)) s.heap := hP0
  have hl := lv_entry ([.ref (Ad 10 0), .int 1, .int (nI v), .ref o9] : List Value) (n := 5) (Nat.le_of_ble_eq_true rfl)
  rw [lg_entry_eq]
  generalize (lg_sl ([.ref (Ad 10 0), .int 1, .int (nI v), .ref o9] : List Value) ++ List.replicate (5 - (lg_sl ([.ref (Ad 10 0), .int 1, .int (nI v), .ref o9] : List Value)).length) Slot.unset).toArray = ls at hl ⊢
  have hl : lv_has ls 5 [(0, .ref (Ad 10 0)), (1, .int 1), (2, .int (nI v)), (3, .ref o9)] := hl
  refine lv_aload_n hx hb dL_set_0 rfl (lv_at hl 3 rfl) ?_
  refine lv_iconst (v := 0) hx hb dL_set_1 (by decide) ?_
  refine lv_aload_n hx hb dL_set_2 rfl (lv_at hl 0 rfl) ?_
  refine lv_iload_n hx hb dL_set_3 rfl (lv_at hl 1 rfl) ?_
  refine lv_iload_n hx hb dL_set_4 rfl (lv_at hl 2 rfl) ?_
  refine mu_Vx (ci := 4) (q0 := 0) (As := [.int 1, .int (nI v)]) (rest := [.int 0, .ref o9]) ⟨hx, hb, hml, hown, hts⟩ (c_X4_set1 l D cA _ Ad (fun _ => initS) 0 0 (fun _ => 0, fun _ => 0, 0, 0, 0) (fun _ => 0, fun _ => 0) (by decide) (by decide) (Or.inr rfl) v h8 (va_P_l hP) (va_D_l hD)) (cwV 2 hts gL_set_X4_set rfl rfl rfl (by decide +kernel) ⟨Nat.le_of_ble_eq_true rfl, Nat.le_of_ble_eq_true rfl⟩) hKN hP hD hS hA (lw_fP 10 (by decide) (va_P_l hP)) rfl rfl (all_fst _ _ _ _) rfl hl.1 rfl (lv_room (Nat.le_of_ble_eq_true rfl)) dL_set_5 ⟨Nat.zero_le _, Nat.zero_le _⟩ (fun H locs hP hD hS => ?_)
  refine lz_top (v := 0) pv_set1 ?_
  refine lv_i2l (v := (i2lF 0)) hx hb dL_set_8 rfl ?_
  refine lz_last (k := 0) (f := fun _ => 0) hx hb hK hP hD hS 0 3 rfl rfl ⟨by decide, by decide⟩ dL_set_9 (fun H locs hP hD hS => ?_)
  refine lv_goto (tgt := 21) hx hb dL_set_10 (by decide) ?_
  refine lv_iconst (v := 0) hx hb dL_set_21 (by decide) ?_
  exact lh_iret hx hb hr hlocks dL_set_22 hP hS (Nat.le_of_ble_eq_true rfl) (Nat.le_of_ble_eq_true rfl) rfl
theorem mL_set_cw : Cond.codeWith yL_set cL_set 5 (some .int) [(0, 10, 13, 13), (0, 10, 17, 18)] ∈ wsL_set := by decide +kernel
theorem mL_set_cl13 : Cond.classLink RL 13 "java/lang/IndexOutOfBoundsException" ∈ wsL_set := by decide +kernel
set_option maxHeartbeats 4000000 in
set_option maxRecDepth 100000 in
theorem h_set_x1 (l : Launch) (hl0 : l.stackTraces = false) (D : va_G) (cA : Nat → ClassId) (H : Heap) (Ad : Nat → Nat → Nat) (o9 : Nat) (y : Int32) (x : Int32) (hx0 : inF x 0 1 = 0) (hP0 : va_P D vwCl (all cA Ad L0 ++ oW cA o9 (fun _ => 0)) H) (hD0 : va_D (fun _ => True) (all cA Ad L0 ++ oW cA o9 (fun _ => 0))) : LH l yL_set wsL_set ({ frames := 7, cells := 1, slots := 6, locals := 116 } : Room) D cA [.ref (Ad 10 0), .int x, .int y, .ref o9] H (va_A (all cA Ad L0 ++ oW cA o9 (fun _ => 0)) H.size) o9 1 (fun _ => 0) := by
  refine vx_ofWH (cc := cL_set) (maxL := 5) (ret := some .int) (hh := [(0, 10, 13, 13), (0, 10, 17, 18)]) (by decide) rfl ?_
  intro p e s m args below meth c s₁ B hml hv
  obtain ⟨rfl, hH, hKN, hKY, hXZ⟩ := hv
  have hK := hKN.1
  have hx := B.exec
  have hb := B.bytes
  have hr := B.returns
  have hts := atoms_spec (ws := wsL_set) B.pre
  have hown : s.vm.findClass RL = some m.cls := findClass_of_methodNamed B.named
  have hlocks := B.notSynchronized
  subst hH
  have hD := hD0.self (sz := s.heap.size)
  generalize hAe : va_A (all cA Ad L0 ++ oW cA o9 (fun _ => 0)) s.heap.size = A at hD hXZ ⊢
  have hA : ∀ q : Nat, s.heap.size ≤ q → A q := fun q h => by rw [← hAe]; exact Or.inr h
  have hS : va_S A s.heap s.heap [] := va_S.rf
  have hP : va_P D vwCl (all cA Ad L0 ++ oW cA o9 (fun _ => 0)) s.heap := hP0
  have hl := lv_entry ([.ref (Ad 10 0), .int x, .int y, .ref o9] : List Value) (n := 5) (Nat.le_of_ble_eq_true rfl)
  rw [lg_entry_eq]
  generalize (lg_sl ([.ref (Ad 10 0), .int x, .int y, .ref o9] : List Value) ++ List.replicate (5 - (lg_sl ([.ref (Ad 10 0), .int x, .int y, .ref o9] : List Value)).length) Slot.unset).toArray = ls at hl ⊢
  have hl : lv_has ls 5 [(0, .ref (Ad 10 0)), (1, .int x), (2, .int y), (3, .ref o9)] := hl
  refine lv_aload_n hx hb dL_set_0 rfl (lv_at hl 3 rfl) ?_
  refine lv_iconst (v := 0) hx hb dL_set_1 (by decide) ?_
  refine lv_aload_n hx hb dL_set_2 rfl (lv_at hl 0 rfl) ?_
  refine lv_iload_n hx hb dL_set_3 rfl (lv_at hl 1 rfl) ?_
  refine lv_iload_n hx hb dL_set_4 rfl (lv_at hl 2 rfl) ?_
  have hPo : va_P D vwCl (oW cA o9 (fun _ => 0)) s.heap := va_P_r hP
  refine xt_V (ci := 4) (q0 := 0) (As := [.int x, .int y]) (rest := [.int 0, .ref o9]) (cls := "java/lang/IndexOutOfBoundsException") ⟨hx, hb, hml, hown, hts⟩ (x_set1 l hl0 D cA _ (Ad 10 0) y x hx0) (cwV 2 hts gL_set_X4_set rfl rfl rfl (by decide +kernel) ⟨Nat.le_of_ble_eq_true rfl, Nat.le_of_ble_eq_true rfl⟩) hKN hKY.1 (hXZ.narrow (fun _ h => h.elim)) hS hA (lw_fP 10 (by decide) (va_P_l hP)) rfl rfl rfl hl.1 rfl (lv_room (Nat.le_of_ble_eq_true rfl)) dL_set_5 ⟨Nat.le_of_ble_eq_true rfl, Nat.le_of_ble_eq_true rfl⟩ (fun ce q9 H locs hk9 hS hce hcv hcl => ?_)
  have hP : va_P D vwCl (oW cA o9 (fun _ => 0)) H := fun k q hq => (hPo k q hq).kept (hk9 q.1 (hPo k q hq).lt)
  refine vx_catch (own := RL) (name := "java/lang/IndexOutOfBoundsException") (E := "java/lang/IndexOutOfBoundsException") (ce := ce) (q := q9) hown [] ⟨0, 10, 13, 13⟩ [⟨0, 10, 17, 18⟩] ((vx_table (x := yL_law) B (hts _ mL_set_cw)).trans rfl) (fun z hz => nomatch hz) (by decide) (by decide) (hts _ mL_set_cl13) (hKY.1.use _ (by decide)) hce hcv hcl ?_
  refine lv_astore (lv' := [(4, .ref q9), (0, .ref (Ad 10 0)), (1, .int x), (2, .int y), (3, .ref o9)]) hx hb dL_set_13 hl (by decide) rfl (fun ls hl => ?_)
  refine lv_iconst (v := 1) hx hb dL_set_15 (by decide) ?_
  exact lh_iret hx hb hr hlocks dL_set_16 hP hS (Nat.le_of_ble_eq_true rfl) (Nat.le_of_ble_eq_true rfl) rfl
theorem mL_set_cl18 : Cond.classLink RL 18 "java/lang/IllegalArgumentException" ∈ wsL_set := by decide +kernel
set_option maxHeartbeats 4000000 in
set_option maxRecDepth 100000 in
theorem h_set_x2 (l : Launch) (hl0 : l.stackTraces = false) (D : va_G) (cA : Nat → ClassId) (H : Heap) (Ad : Nat → Nat → Nat) (o9 : Nat) (x : Int32) (hx0 : inF x 1 8 = 0) (hP0 : va_P D vwCl (all cA Ad L0 ++ oW cA o9 (fun _ => 0)) H) (hD0 : va_D (fun _ => True) (all cA Ad L0 ++ oW cA o9 (fun _ => 0))) : LH l yL_set wsL_set ({ frames := 7, cells := 1, slots := 6, locals := 116 } : Room) D cA [.ref (Ad 10 0), .int 0, .int x, .ref o9] H (va_A (all cA Ad L0 ++ oW cA o9 (fun _ => 0)) H.size) o9 2 (fun _ => 0) := by
  refine vx_ofWH (cc := cL_set) (maxL := 5) (ret := some .int) (hh := [(0, 10, 13, 13), (0, 10, 17, 18)]) (by decide) rfl ?_
  intro p e s m args below meth c s₁ B hml hv
  obtain ⟨rfl, hH, hKN, hKY, hXZ⟩ := hv
  have hK := hKN.1
  have hx := B.exec
  have hb := B.bytes
  have hr := B.returns
  have hts := atoms_spec (ws := wsL_set) B.pre
  have hown : s.vm.findClass RL = some m.cls := findClass_of_methodNamed B.named
  have hlocks := B.notSynchronized
  subst hH
  have hD := hD0.self (sz := s.heap.size)
  generalize hAe : va_A (all cA Ad L0 ++ oW cA o9 (fun _ => 0)) s.heap.size = A at hD hXZ ⊢
  have hA : ∀ q : Nat, s.heap.size ≤ q → A q := fun q h => by rw [← hAe]; exact Or.inr h
  have hS : va_S A s.heap s.heap [] := va_S.rf
  have hP : va_P D vwCl (all cA Ad L0 ++ oW cA o9 (fun _ => 0)) s.heap := hP0
  have hl := lv_entry ([.ref (Ad 10 0), .int 0, .int x, .ref o9] : List Value) (n := 5) (Nat.le_of_ble_eq_true rfl)
  rw [lg_entry_eq]
  generalize (lg_sl ([.ref (Ad 10 0), .int 0, .int x, .ref o9] : List Value) ++ List.replicate (5 - (lg_sl ([.ref (Ad 10 0), .int 0, .int x, .ref o9] : List Value)).length) Slot.unset).toArray = ls at hl ⊢
  have hl : lv_has ls 5 [(0, .ref (Ad 10 0)), (1, .int 0), (2, .int x), (3, .ref o9)] := hl
  refine lv_aload_n hx hb dL_set_0 rfl (lv_at hl 3 rfl) ?_
  refine lv_iconst (v := 0) hx hb dL_set_1 (by decide) ?_
  refine lv_aload_n hx hb dL_set_2 rfl (lv_at hl 0 rfl) ?_
  refine lv_iload_n hx hb dL_set_3 rfl (lv_at hl 1 rfl) ?_
  refine lv_iload_n hx hb dL_set_4 rfl (lv_at hl 2 rfl) ?_
  have hPo : va_P D vwCl (oW cA o9 (fun _ => 0)) s.heap := va_P_r hP
  refine xt_V (ci := 4) (q0 := 0) (As := [.int 0, .int x]) (rest := [.int 0, .ref o9]) (cls := "java/lang/IllegalArgumentException") ⟨hx, hb, hml, hown, hts⟩ (x_set2 l hl0 D cA _ (Ad 10 0) x hx0) (cwV 2 hts gL_set_X4_set rfl rfl rfl (by decide +kernel) ⟨Nat.le_of_ble_eq_true rfl, Nat.le_of_ble_eq_true rfl⟩) hKN hKY.1 (hXZ.narrow (fun _ h => h.elim)) hS hA (lw_fP 10 (by decide) (va_P_l hP)) rfl rfl rfl hl.1 rfl (lv_room (Nat.le_of_ble_eq_true rfl)) dL_set_5 ⟨Nat.le_of_ble_eq_true rfl, Nat.le_of_ble_eq_true rfl⟩ (fun ce q9 H locs hk9 hS hce hcv hcl => ?_)
  have hP : va_P D vwCl (oW cA o9 (fun _ => 0)) H := fun k q hq => (hPo k q hq).kept (hk9 q.1 (hPo k q hq).lt)
  refine vx_catch (own := RL) (name := "java/lang/IllegalArgumentException") (E := "java/lang/IllegalArgumentException") (ce := ce) (q := q9) hown [⟨0, 10, 13, 13⟩] ⟨0, 10, 17, 18⟩ [] ((vx_table (x := yL_law) B (hts _ mL_set_cw)).trans rfl) (fun z hz => by rcases List.mem_singleton.mp hz with rfl; exact Or.inr ⟨by decide, "java/lang/IndexOutOfBoundsException", hts _ mL_set_cl13, hKY.2.1⟩) (by decide) (by decide) (hts _ mL_set_cl18) (hKY.1.use _ (by decide)) hce hcv hcl ?_
  refine lv_astore (lv' := [(4, .ref q9), (0, .ref (Ad 10 0)), (1, .int 0), (2, .int x), (3, .ref o9)]) hx hb dL_set_17 hl (by decide) rfl (fun ls hl => ?_)
  refine lv_iconst (v := 2) hx hb dL_set_19 (by decide) ?_
  exact lh_iret hx hb hr hlocks dL_set_20 hP hS (Nat.le_of_ble_eq_true rfl) (Nat.le_of_ble_eq_true rfl) rfl
set_option maxHeartbeats 4000000 in
set_option maxRecDepth 100000 in
theorem h_set_x3 (l : Launch) (hl0 : l.stackTraces = false) (D : va_G) (cA : Nat → ClassId) (H : Heap) (Ad : Nat → Nat → Nat) (o9 : Nat) (x : Int32) (hx0 : inF x 0 1 = 0) (hP0 : va_P D vwCl (all cA Ad L0 ++ oW cA o9 (fun _ => 0)) H) (hD0 : va_D (fun _ => True) (all cA Ad L0 ++ oW cA o9 (fun _ => 0))) : LH l yL_set wsL_set ({ frames := 7, cells := 1, slots := 6, locals := 116 } : Room) D cA [.ref (Ad 10 0), .int 1, .int x, .ref o9] H (va_A (all cA Ad L0 ++ oW cA o9 (fun _ => 0)) H.size) o9 2 (fun _ => 0) := by
  refine vx_ofWH (cc := cL_set) (maxL := 5) (ret := some .int) (hh := [(0, 10, 13, 13), (0, 10, 17, 18)]) (by decide) rfl ?_
  intro p e s m args below meth c s₁ B hml hv
  obtain ⟨rfl, hH, hKN, hKY, hXZ⟩ := hv
  have hK := hKN.1
  have hx := B.exec
  have hb := B.bytes
  have hr := B.returns
  have hts := atoms_spec (ws := wsL_set) B.pre
  have hown : s.vm.findClass RL = some m.cls := findClass_of_methodNamed B.named
  have hlocks := B.notSynchronized
  subst hH
  have hD := hD0.self (sz := s.heap.size)
  generalize hAe : va_A (all cA Ad L0 ++ oW cA o9 (fun _ => 0)) s.heap.size = A at hD hXZ ⊢
  have hA : ∀ q : Nat, s.heap.size ≤ q → A q := fun q h => by rw [← hAe]; exact Or.inr h
  have hS : va_S A s.heap s.heap [] := va_S.rf
  have hP : va_P D vwCl (all cA Ad L0 ++ oW cA o9 (fun _ => 0)) s.heap := hP0
  have hl := lv_entry ([.ref (Ad 10 0), .int 1, .int x, .ref o9] : List Value) (n := 5) (Nat.le_of_ble_eq_true rfl)
  rw [lg_entry_eq]
  generalize (lg_sl ([.ref (Ad 10 0), .int 1, .int x, .ref o9] : List Value) ++ List.replicate (5 - (lg_sl ([.ref (Ad 10 0), .int 1, .int x, .ref o9] : List Value)).length) Slot.unset).toArray = ls at hl ⊢
  have hl : lv_has ls 5 [(0, .ref (Ad 10 0)), (1, .int 1), (2, .int x), (3, .ref o9)] := hl
  refine lv_aload_n hx hb dL_set_0 rfl (lv_at hl 3 rfl) ?_
  refine lv_iconst (v := 0) hx hb dL_set_1 (by decide) ?_
  refine lv_aload_n hx hb dL_set_2 rfl (lv_at hl 0 rfl) ?_
  refine lv_iload_n hx hb dL_set_3 rfl (lv_at hl 1 rfl) ?_
  refine lv_iload_n hx hb dL_set_4 rfl (lv_at hl 2 rfl) ?_
  have hPo : va_P D vwCl (oW cA o9 (fun _ => 0)) s.heap := va_P_r hP
  refine xt_V (ci := 4) (q0 := 0) (As := [.int 1, .int x]) (rest := [.int 0, .ref o9]) (cls := "java/lang/IllegalArgumentException") ⟨hx, hb, hml, hown, hts⟩ (x_set3 l hl0 D cA _ (Ad 10 0) x hx0) (cwV 2 hts gL_set_X4_set rfl rfl rfl (by decide +kernel) ⟨Nat.le_of_ble_eq_true rfl, Nat.le_of_ble_eq_true rfl⟩) hKN hKY.1 (hXZ.narrow (fun _ h => h.elim)) hS hA (lw_fP 10 (by decide) (va_P_l hP)) rfl rfl rfl hl.1 rfl (lv_room (Nat.le_of_ble_eq_true rfl)) dL_set_5 ⟨Nat.le_of_ble_eq_true rfl, Nat.le_of_ble_eq_true rfl⟩ (fun ce q9 H locs hk9 hS hce hcv hcl => ?_)
  have hP : va_P D vwCl (oW cA o9 (fun _ => 0)) H := fun k q hq => (hPo k q hq).kept (hk9 q.1 (hPo k q hq).lt)
  refine vx_catch (own := RL) (name := "java/lang/IllegalArgumentException") (E := "java/lang/IllegalArgumentException") (ce := ce) (q := q9) hown [⟨0, 10, 13, 13⟩] ⟨0, 10, 17, 18⟩ [] ((vx_table (x := yL_law) B (hts _ mL_set_cw)).trans rfl) (fun z hz => by rcases List.mem_singleton.mp hz with rfl; exact Or.inr ⟨by decide, "java/lang/IndexOutOfBoundsException", hts _ mL_set_cl13, hKY.2.1⟩) (by decide) (by decide) (hts _ mL_set_cl18) (hKY.1.use _ (by decide)) hce hcv hcl ?_
  refine lv_astore (lv' := [(4, .ref q9), (0, .ref (Ad 10 0)), (1, .int 1), (2, .int x), (3, .ref o9)]) hx hb dL_set_17 hl (by decide) rfl (fun ls hl => ?_)
  refine lv_iconst (v := 2) hx hb dL_set_19 (by decide) ?_
  exact lh_iret hx hb hr hlocks dL_set_20 hP hS (Nat.le_of_ble_eq_true rfl) (Nat.le_of_ble_eq_true rfl) rfl
set_option maxHeartbeats 4000000 in
set_option maxRecDepth 100000 in
theorem h_read_v (l : Launch) (hl0 : l.stackTraces = false) (D : va_G) (cA : Nat → ClassId) (H : Heap) (Ad : Nat → Nat → Nat) (o9 : Nat) (t : Nat) (ht : t < 16) (hP0 : va_P D vwCl (all cA Ad L0 ++ oW cA o9 (fun _ => 0)) H) (hD0 : va_D (fun _ => True) (all cA Ad L0 ++ oW cA o9 (fun _ => 0))) : LH l yL_read wsL_read ({ frames := 7, cells := 1, slots := 6, locals := 137 } : Room) D cA [.ref (Ad 10 0), .int (nI t), .ref o9] H (va_A (all cA Ad L0 ++ oW cA o9 (fun _ => 0)) H.size) o9 0 (vp_updL (fun _ => 0) 0 (i2lF 0)) := by
  refine vx_ofWH (cc := cL_read) (maxL := 4) (ret := some .int) (hh := [(0, 9, 12, 13)]) (by decide) rfl ?_
  intro p e s m args below meth c s₁ B hml hv
  obtain ⟨rfl, hH, hKN, hKY, hXZ⟩ := hv
  have hK := hKN.1
  have hx := B.exec
  have hb := B.bytes
  have hr := B.returns
  have hts := atoms_spec (ws := wsL_read) B.pre
  have hown : s.vm.findClass RL = some m.cls := findClass_of_methodNamed B.named
  have hlocks := B.notSynchronized
  subst hH
  have hD := hD0.self (sz := s.heap.size)
  generalize hAe : va_A (all cA Ad L0 ++ oW cA o9 (fun _ => 0)) s.heap.size = A at hD hXZ ⊢
  have hA : ∀ q : Nat, s.heap.size ≤ q → A q := fun q h => by rw [← hAe]; exact Or.inr h
  have hS : va_S A s.heap s.heap [] := va_S.rf
  have hP : va_P D vwCl (all cA Ad L0 ++ oW cA o9 (fun _ => 0)) s.heap := hP0
  have hl := lv_entry ([.ref (Ad 10 0), .int (nI t), .ref o9] : List Value) (n := 4) (Nat.le_of_ble_eq_true rfl)
  rw [lg_entry_eq]
  generalize (lg_sl ([.ref (Ad 10 0), .int (nI t), .ref o9] : List Value) ++ List.replicate (4 - (lg_sl ([.ref (Ad 10 0), .int (nI t), .ref o9] : List Value)).length) Slot.unset).toArray = ls at hl ⊢
  have hl : lv_has ls 4 [(0, .ref (Ad 10 0)), (1, .int (nI t)), (2, .ref o9)] := hl
  refine lv_aload_n hx hb dL_read_0 rfl (lv_at hl 2 rfl) ?_
  refine lv_iconst (v := 0) hx hb dL_read_1 (by decide) ?_
  refine lv_aload_n hx hb dL_read_2 rfl (lv_at hl 0 rfl) ?_
  refine lv_iload_n hx hb dL_read_3 rfl (lv_at hl 1 rfl) ?_
  refine mu_Vx (ci := 4) (q0 := 0) (As := [.int (nI t)]) (rest := [.int 0, .ref o9]) ⟨hx, hb, hml, hown, hts⟩ (c_X4_read l D cA _ Ad (fun _ => initS) 0 0 (fun _ => 0, fun _ => 0, 0, 0, 0) (fun _ => 0, fun _ => 0) (by decide) (by decide) (Or.inr rfl) t ht (va_P_l hP) (va_D_l hD)) (cwV 1 hts gL_read_X4_read rfl rfl rfl (by decide +kernel) ⟨Nat.le_of_ble_eq_true rfl, Nat.le_of_ble_eq_true rfl⟩) hKN hP hD hS hA (lw_fP 10 (by decide) (va_P_l hP)) rfl rfl (all_fst _ _ _ _) rfl hl.1 rfl (lv_room (Nat.le_of_ble_eq_true rfl)) dL_read_4 ⟨Nat.zero_le _, Nat.zero_le _⟩ (fun H locs hP hD hS => ?_)
  refine lz_top (v := 0) (pv_read t ht) ?_
  refine lv_i2l (v := (i2lF 0)) hx hb dL_read_7 rfl ?_
  refine lz_last (k := 0) (f := fun _ => 0) hx hb hK hP hD hS 0 3 rfl rfl ⟨by decide, by decide⟩ dL_read_8 (fun H locs hP hD hS => ?_)
  refine lv_goto (tgt := 15) hx hb dL_read_9 (by decide) ?_
  refine lv_iconst (v := 0) hx hb dL_read_15 (by decide) ?_
  exact lh_iret hx hb hr hlocks dL_read_16 hP hS (Nat.le_of_ble_eq_true rfl) (Nat.le_of_ble_eq_true rfl) rfl
theorem mL_read_cw : Cond.codeWith yL_read cL_read 4 (some .int) [(0, 9, 12, 13)] ∈ wsL_read := by decide +kernel
theorem mL_read_cl13 : Cond.classLink RL 13 "java/lang/IndexOutOfBoundsException" ∈ wsL_read := by decide +kernel
set_option maxHeartbeats 4000000 in
set_option maxRecDepth 100000 in
theorem h_read_x1 (l : Launch) (hl0 : l.stackTraces = false) (D : va_G) (cA : Nat → ClassId) (H : Heap) (Ad : Nat → Nat → Nat) (o9 : Nat) (x : Int32) (hx0 : inF x 0 15 = 0) (hP0 : va_P D vwCl (all cA Ad L0 ++ oW cA o9 (fun _ => 0)) H) (hD0 : va_D (fun _ => True) (all cA Ad L0 ++ oW cA o9 (fun _ => 0))) : LH l yL_read wsL_read ({ frames := 7, cells := 1, slots := 6, locals := 137 } : Room) D cA [.ref (Ad 10 0), .int x, .ref o9] H (va_A (all cA Ad L0 ++ oW cA o9 (fun _ => 0)) H.size) o9 1 (fun _ => 0) := by
  refine vx_ofWH (cc := cL_read) (maxL := 4) (ret := some .int) (hh := [(0, 9, 12, 13)]) (by decide) rfl ?_
  intro p e s m args below meth c s₁ B hml hv
  obtain ⟨rfl, hH, hKN, hKY, hXZ⟩ := hv
  have hK := hKN.1
  have hx := B.exec
  have hb := B.bytes
  have hr := B.returns
  have hts := atoms_spec (ws := wsL_read) B.pre
  have hown : s.vm.findClass RL = some m.cls := findClass_of_methodNamed B.named
  have hlocks := B.notSynchronized
  subst hH
  have hD := hD0.self (sz := s.heap.size)
  generalize hAe : va_A (all cA Ad L0 ++ oW cA o9 (fun _ => 0)) s.heap.size = A at hD hXZ ⊢
  have hA : ∀ q : Nat, s.heap.size ≤ q → A q := fun q h => by rw [← hAe]; exact Or.inr h
  have hS : va_S A s.heap s.heap [] := va_S.rf
  have hP : va_P D vwCl (all cA Ad L0 ++ oW cA o9 (fun _ => 0)) s.heap := hP0
  have hl := lv_entry ([.ref (Ad 10 0), .int x, .ref o9] : List Value) (n := 4) (Nat.le_of_ble_eq_true rfl)
  rw [lg_entry_eq]
  generalize (lg_sl ([.ref (Ad 10 0), .int x, .ref o9] : List Value) ++ List.replicate (4 - (lg_sl ([.ref (Ad 10 0), .int x, .ref o9] : List Value)).length) Slot.unset).toArray = ls at hl ⊢
  have hl : lv_has ls 4 [(0, .ref (Ad 10 0)), (1, .int x), (2, .ref o9)] := hl
  refine lv_aload_n hx hb dL_read_0 rfl (lv_at hl 2 rfl) ?_
  refine lv_iconst (v := 0) hx hb dL_read_1 (by decide) ?_
  refine lv_aload_n hx hb dL_read_2 rfl (lv_at hl 0 rfl) ?_
  refine lv_iload_n hx hb dL_read_3 rfl (lv_at hl 1 rfl) ?_
  have hPo : va_P D vwCl (oW cA o9 (fun _ => 0)) s.heap := va_P_r hP
  refine xt_V (ci := 4) (q0 := 0) (As := [.int x]) (rest := [.int 0, .ref o9]) (cls := "java/lang/IndexOutOfBoundsException") ⟨hx, hb, hml, hown, hts⟩ (x_read l hl0 D cA _ (Ad 10 0) x hx0) (cwV 1 hts gL_read_X4_read rfl rfl rfl (by decide +kernel) ⟨Nat.le_of_ble_eq_true rfl, Nat.le_of_ble_eq_true rfl⟩) hKN hKY.1 (hXZ.narrow (fun _ h => h.elim)) hS hA (lw_fP 10 (by decide) (va_P_l hP)) rfl rfl rfl hl.1 rfl (lv_room (Nat.le_of_ble_eq_true rfl)) dL_read_4 ⟨Nat.le_of_ble_eq_true rfl, Nat.le_of_ble_eq_true rfl⟩ (fun ce q9 H locs hk9 hS hce hcv hcl => ?_)
  have hP : va_P D vwCl (oW cA o9 (fun _ => 0)) H := fun k q hq => (hPo k q hq).kept (hk9 q.1 (hPo k q hq).lt)
  refine vx_catch (own := RL) (name := "java/lang/IndexOutOfBoundsException") (E := "java/lang/IndexOutOfBoundsException") (ce := ce) (q := q9) hown [] ⟨0, 9, 12, 13⟩ [] ((vx_table (x := yL_law) B (hts _ mL_read_cw)).trans rfl) (fun z hz => nomatch hz) (by decide) (by decide) (hts _ mL_read_cl13) (hKY.1.use _ (by decide)) hce hcv hcl ?_
  refine lv_astore_n (lv' := [(3, .ref q9), (0, .ref (Ad 10 0)), (1, .int x), (2, .ref o9)]) hx hb dL_read_12 rfl hl (by decide) rfl (fun ls hl => ?_)
  refine lv_iconst (v := 1) hx hb dL_read_13 (by decide) ?_
  exact lh_iret hx hb hr hlocks dL_read_14 hP hS (Nat.le_of_ble_eq_true rfl) (Nat.le_of_ble_eq_true rfl) rfl
set_option maxHeartbeats 4000000 in
set_option maxRecDepth 100000 in
theorem h_go_v (l : Launch) (hl0 : l.stackTraces = false) (D : va_G) (cA : Nat → ClassId) (H : Heap) (Ad : Nat → Nat → Nat) (o9 : Nat) (n : Nat) (h1 : 1 ≤ n) (h99 : n ≤ 99) (hP0 : va_P D vwCl (all cA Ad L0 ++ oW cA o9 (fun _ => 0)) H) (hD0 : va_D (fun _ => True) (all cA Ad L0 ++ oW cA o9 (fun _ => 0))) : LH l yL_go wsL_go ({ frames := 7, cells := 1, slots := 6, locals := 160 } : Room) D cA [.ref (Ad 10 0), .int (nI n), .ref o9] H (va_A (all cA Ad L0 ++ oW cA o9 (fun _ => 0)) H.size) o9 0 (vp_updL (fun _ => 0) 0 (i2lF 1)) := by
  refine vx_ofWH (cc := cL_go) (maxL := 4) (ret := some .int) (hh := [(0, 9, 12, 18)]) (by decide) rfl ?_
  intro p e s m args below meth c s₁ B hml hv
  obtain ⟨rfl, hH, hKN, hKY, hXZ⟩ := hv
  have hK := hKN.1
  have hx := B.exec
  have hb := B.bytes
  have hr := B.returns
  have hts := atoms_spec (ws := wsL_go) B.pre
  have hown : s.vm.findClass RL = some m.cls := findClass_of_methodNamed B.named
  have hlocks := B.notSynchronized
  subst hH
  have hD := hD0.self (sz := s.heap.size)
  generalize hAe : va_A (all cA Ad L0 ++ oW cA o9 (fun _ => 0)) s.heap.size = A at hD hXZ ⊢
  have hA : ∀ q : Nat, s.heap.size ≤ q → A q := fun q h => by rw [← hAe]; exact Or.inr h
  have hS : va_S A s.heap s.heap [] := va_S.rf
  have hP : va_P D vwCl (all cA Ad L0 ++ oW cA o9 (fun _ => 0)) s.heap := hP0
  have hl := lv_entry ([.ref (Ad 10 0), .int (nI n), .ref o9] : List Value) (n := 4) (Nat.le_of_ble_eq_true rfl)
  rw [lg_entry_eq]
  generalize (lg_sl ([.ref (Ad 10 0), .int (nI n), .ref o9] : List Value) ++ List.replicate (4 - (lg_sl ([.ref (Ad 10 0), .int (nI n), .ref o9] : List Value)).length) Slot.unset).toArray = ls at hl ⊢
  have hl : lv_has ls 4 [(0, .ref (Ad 10 0)), (1, .int (nI n)), (2, .ref o9)] := hl
  refine lv_aload_n hx hb dL_go_0 rfl (lv_at hl 2 rfl) ?_
  refine lv_iconst (v := 0) hx hb dL_go_1 (by decide) ?_
  refine lv_aload_n hx hb dL_go_2 rfl (lv_at hl 0 rfl) ?_
  refine lv_iload_n hx hb dL_go_3 rfl (lv_at hl 1 rfl) ?_
  refine mu_Vx (ci := 4) (q0 := 0) (As := [.int (nI n)]) (rest := [.int 0, .ref o9]) ⟨hx, hb, hml, hown, hts⟩ (c_X4_go l D cA _ Ad (fun _ => initS) 0 0 (fun _ => 0, fun _ => 0, 0, 0, 0) (fun _ => 0, fun _ => 0) (by decide) (by decide) (Or.inr rfl) PlOk_init n h1 h99 (va_P_l hP) (va_D_l hD)) (cwV 1 hts gL_go_X4_go rfl rfl rfl (by decide +kernel) ⟨Nat.le_of_ble_eq_true rfl, Nat.le_of_ble_eq_true rfl⟩) hKN hP hD hS hA (lw_fP 10 (by decide) (va_P_l hP)) rfl rfl (all_fst _ _ _ _) rfl hl.1 rfl (lv_room (Nat.le_of_ble_eq_true rfl)) dL_go_4 ⟨Nat.zero_le _, Nat.zero_le _⟩ (fun H locs hP hD hS => ?_)
  refine lz_top (v := 1) (pv_go n h1) ?_
  refine lv_i2l (v := (i2lF 1)) hx hb dL_go_7 rfl ?_
  refine lz_last (k := 0) (f := fun _ => 0) hx hb hK hP hD hS 0 3 rfl rfl ⟨by decide, by decide⟩ dL_go_8 (fun H locs hP hD hS => ?_)
  refine lv_goto (tgt := 15) hx hb dL_go_9 (by decide) ?_
  refine lv_iconst (v := 0) hx hb dL_go_15 (by decide) ?_
  exact lh_iret hx hb hr hlocks dL_go_16 hP hS (Nat.le_of_ble_eq_true rfl) (Nat.le_of_ble_eq_true rfl) rfl
theorem mL_go_cw : Cond.codeWith yL_go cL_go 4 (some .int) [(0, 9, 12, 18)] ∈ wsL_go := by decide +kernel
theorem mL_go_cl18 : Cond.classLink RL 18 "java/lang/IllegalArgumentException" ∈ wsL_go := by decide +kernel
set_option maxHeartbeats 4000000 in
set_option maxRecDepth 100000 in
theorem h_go_x1 (l : Launch) (hl0 : l.stackTraces = false) (D : va_G) (cA : Nat → ClassId) (H : Heap) (Ad : Nat → Nat → Nat) (o9 : Nat) (x : Int32) (hx0 : inF x 1 99 = 0) (hP0 : va_P D vwCl (all cA Ad L0 ++ oW cA o9 (fun _ => 0)) H) (hD0 : va_D (fun _ => True) (all cA Ad L0 ++ oW cA o9 (fun _ => 0))) : LH l yL_go wsL_go ({ frames := 7, cells := 1, slots := 6, locals := 160 } : Room) D cA [.ref (Ad 10 0), .int x, .ref o9] H (va_A (all cA Ad L0 ++ oW cA o9 (fun _ => 0)) H.size) o9 1 (fun _ => 0) := by
  refine vx_ofWH (cc := cL_go) (maxL := 4) (ret := some .int) (hh := [(0, 9, 12, 18)]) (by decide) rfl ?_
  intro p e s m args below meth c s₁ B hml hv
  obtain ⟨rfl, hH, hKN, hKY, hXZ⟩ := hv
  have hK := hKN.1
  have hx := B.exec
  have hb := B.bytes
  have hr := B.returns
  have hts := atoms_spec (ws := wsL_go) B.pre
  have hown : s.vm.findClass RL = some m.cls := findClass_of_methodNamed B.named
  have hlocks := B.notSynchronized
  subst hH
  have hD := hD0.self (sz := s.heap.size)
  generalize hAe : va_A (all cA Ad L0 ++ oW cA o9 (fun _ => 0)) s.heap.size = A at hD hXZ ⊢
  have hA : ∀ q : Nat, s.heap.size ≤ q → A q := fun q h => by rw [← hAe]; exact Or.inr h
  have hS : va_S A s.heap s.heap [] := va_S.rf
  have hP : va_P D vwCl (all cA Ad L0 ++ oW cA o9 (fun _ => 0)) s.heap := hP0
  have hl := lv_entry ([.ref (Ad 10 0), .int x, .ref o9] : List Value) (n := 4) (Nat.le_of_ble_eq_true rfl)
  rw [lg_entry_eq]
  generalize (lg_sl ([.ref (Ad 10 0), .int x, .ref o9] : List Value) ++ List.replicate (4 - (lg_sl ([.ref (Ad 10 0), .int x, .ref o9] : List Value)).length) Slot.unset).toArray = ls at hl ⊢
  have hl : lv_has ls 4 [(0, .ref (Ad 10 0)), (1, .int x), (2, .ref o9)] := hl
  refine lv_aload_n hx hb dL_go_0 rfl (lv_at hl 2 rfl) ?_
  refine lv_iconst (v := 0) hx hb dL_go_1 (by decide) ?_
  refine lv_aload_n hx hb dL_go_2 rfl (lv_at hl 0 rfl) ?_
  refine lv_iload_n hx hb dL_go_3 rfl (lv_at hl 1 rfl) ?_
  have hPo : va_P D vwCl (oW cA o9 (fun _ => 0)) s.heap := va_P_r hP
  refine xt_V (ci := 4) (q0 := 0) (As := [.int x]) (rest := [.int 0, .ref o9]) (cls := "java/lang/IllegalArgumentException") ⟨hx, hb, hml, hown, hts⟩ (x_go l hl0 D cA _ (Ad 10 0) x hx0) (cwV 1 hts gL_go_X4_go rfl rfl rfl (by decide +kernel) ⟨Nat.le_of_ble_eq_true rfl, Nat.le_of_ble_eq_true rfl⟩) hKN hKY.1 (hXZ.narrow (fun _ h => h.elim)) hS hA (lw_fP 10 (by decide) (va_P_l hP)) rfl rfl rfl hl.1 rfl (lv_room (Nat.le_of_ble_eq_true rfl)) dL_go_4 ⟨Nat.le_of_ble_eq_true rfl, Nat.le_of_ble_eq_true rfl⟩ (fun ce q9 H locs hk9 hS hce hcv hcl => ?_)
  have hP : va_P D vwCl (oW cA o9 (fun _ => 0)) H := fun k q hq => (hPo k q hq).kept (hk9 q.1 (hPo k q hq).lt)
  refine vx_catch (own := RL) (name := "java/lang/IllegalArgumentException") (E := "java/lang/IllegalArgumentException") (ce := ce) (q := q9) hown [] ⟨0, 9, 12, 18⟩ [] ((vx_table (x := yL_law) B (hts _ mL_go_cw)).trans rfl) (fun z hz => nomatch hz) (by decide) (by decide) (hts _ mL_go_cl18) (hKY.1.use _ (by decide)) hce hcv hcl ?_
  refine lv_astore_n (lv' := [(3, .ref q9), (0, .ref (Ad 10 0)), (1, .int x), (2, .ref o9)]) hx hb dL_go_12 rfl hl (by decide) rfl (fun ls hl => ?_)
  refine lv_iconst (v := 1) hx hb dL_go_13 (by decide) ?_
  exact lh_iret hx hb hr hlocks dL_go_14 hP hS (Nat.le_of_ble_eq_true rfl) (Nat.le_of_ble_eq_true rfl) rfl
set_option maxHeartbeats 4000000 in
set_option maxRecDepth 100000 in
theorem h_append_v (l : Launch) (hl0 : l.stackTraces = false) (D : va_G) (cA : Nat → ClassId) (H : Heap) (Ad : Nat → Nat → Nat) (o9 : Nat) (k : Nat) (h1 : 33 ≤ k) (h2 : k ≤ 126) (hP0 : va_P D vwCl (all cA Ad L0 ++ oW cA o9 (fun _ => 0)) H) (hD0 : va_D (fun _ => True) (all cA Ad L0 ++ oW cA o9 (fun _ => 0))) : LH l yL_append wsL_append ({ frames := 7, cells := 1, slots := 6, locals := 103 } : Room) D cA [.ref (Ad 10 0), .int (nI k), .ref o9] H (va_A (all cA Ad L0 ++ oW cA o9 (fun _ => 0)) H.size) o9 0 (vp_updL (fun _ => 0) 0 (i2lF 1)) := by
  refine vx_ofWH (cc := cL_append) (maxL := 4) (ret := some .int) (hh := [(0, 9, 12, 18), (0, 9, 15, 39)]) (by decide) rfl ?_
  intro p e s m args below meth c s₁ B hml hv
  obtain ⟨rfl, hH, hKN, hKY, hXZ⟩ := hv
  have hK := hKN.1
  have hx := B.exec
  have hb := B.bytes
  have hr := B.returns
  have hts := atoms_spec (ws := wsL_append) B.pre
  have hown : s.vm.findClass RL = some m.cls := findClass_of_methodNamed B.named
  have hlocks := B.notSynchronized
  subst hH
  have hD := hD0.self (sz := s.heap.size)
  generalize hAe : va_A (all cA Ad L0 ++ oW cA o9 (fun _ => 0)) s.heap.size = A at hD hXZ ⊢
  have hA : ∀ q : Nat, s.heap.size ≤ q → A q := fun q h => by rw [← hAe]; exact Or.inr h
  have hS : va_S A s.heap s.heap [] := va_S.rf
  have hP : va_P D vwCl (all cA Ad L0 ++ oW cA o9 (fun _ => 0)) s.heap := hP0
  have hl := lv_entry ([.ref (Ad 10 0), .int (nI k), .ref o9] : List Value) (n := 4) (Nat.le_of_ble_eq_true rfl)
  rw [lg_entry_eq]
  generalize (lg_sl ([.ref (Ad 10 0), .int (nI k), .ref o9] : List Value) ++ List.replicate (4 - (lg_sl ([.ref (Ad 10 0), .int (nI k), .ref o9] : List Value)).length) Slot.unset).toArray = ls at hl ⊢
  have hl : lv_has ls 4 [(0, .ref (Ad 10 0)), (1, .int (nI k)), (2, .ref o9)] := hl
  refine lv_aload_n hx hb dL_append_0 rfl (lv_at hl 2 rfl) ?_
  refine lv_iconst (v := 0) hx hb dL_append_1 (by decide) ?_
  refine lv_aload_n hx hb dL_append_2 rfl (lv_at hl 0 rfl) ?_
  refine lv_iload_n hx hb dL_append_3 rfl (lv_at hl 1 rfl) ?_
  refine mu_Vx (ci := 4) (q0 := 0) (As := [.int (nI k)]) (rest := [.int 0, .ref o9]) ⟨hx, hb, hml, hown, hts⟩ (c_X4_append l D cA _ Ad (fun _ => initS) 0 0 (fun _ => 0) (fun _ => 0) 0 0 (fun _ => 0, fun _ => 0) 0 (by decide) k h1 h2 (va_P_l hP) (va_D_l hD)) (cwV 1 hts gL_append_X4_append rfl rfl rfl (by decide +kernel) ⟨Nat.le_of_ble_eq_true rfl, Nat.le_of_ble_eq_true rfl⟩) hKN hP hD hS hA (lw_fP 10 (by decide) (va_P_l hP)) rfl rfl (all_fst _ _ _ _) rfl hl.1 rfl (lv_room (Nat.le_of_ble_eq_true rfl)) dL_append_4 ⟨Nat.zero_le _, Nat.zero_le _⟩ (fun H locs hP hD hS => ?_)
  refine lz_top (v := 1) rfl ?_
  refine lv_i2l (v := (i2lF 1)) hx hb dL_append_7 rfl ?_
  refine lz_last (k := 0) (f := fun _ => 0) hx hb hK hP hD hS 0 3 rfl rfl ⟨by decide, by decide⟩ dL_append_8 (fun H locs hP hD hS => ?_)
  refine lv_goto (tgt := 18) hx hb dL_append_9 (by decide) ?_
  refine lv_iconst (v := 0) hx hb dL_append_18 (by decide) ?_
  exact lh_iret hx hb hr hlocks dL_append_19 hP hS (Nat.le_of_ble_eq_true rfl) (Nat.le_of_ble_eq_true rfl) rfl
theorem mL_append_cw : Cond.codeWith yL_append cL_append 4 (some .int) [(0, 9, 12, 18), (0, 9, 15, 39)] ∈ wsL_append := by decide +kernel
theorem mL_append_cl18 : Cond.classLink RL 18 "java/lang/IllegalArgumentException" ∈ wsL_append := by decide +kernel
set_option maxHeartbeats 4000000 in
set_option maxRecDepth 100000 in
theorem h_append_x1 (l : Launch) (hl0 : l.stackTraces = false) (D : va_G) (cA : Nat → ClassId) (H : Heap) (Ad : Nat → Nat → Nat) (o9 : Nat) (x : Int32) (hx0 : inF x 33 126 = 0) (hP0 : va_P D vwCl (all cA Ad L0 ++ oW cA o9 (fun _ => 0)) H) (hD0 : va_D (fun _ => True) (all cA Ad L0 ++ oW cA o9 (fun _ => 0))) : LH l yL_append wsL_append ({ frames := 7, cells := 1, slots := 6, locals := 103 } : Room) D cA [.ref (Ad 10 0), .int x, .ref o9] H (va_A (all cA Ad L0 ++ oW cA o9 (fun _ => 0)) H.size) o9 1 (fun _ => 0) := by
  refine vx_ofWH (cc := cL_append) (maxL := 4) (ret := some .int) (hh := [(0, 9, 12, 18), (0, 9, 15, 39)]) (by decide) rfl ?_
  intro p e s m args below meth c s₁ B hml hv
  obtain ⟨rfl, hH, hKN, hKY, hXZ⟩ := hv
  have hK := hKN.1
  have hx := B.exec
  have hb := B.bytes
  have hr := B.returns
  have hts := atoms_spec (ws := wsL_append) B.pre
  have hown : s.vm.findClass RL = some m.cls := findClass_of_methodNamed B.named
  have hlocks := B.notSynchronized
  subst hH
  have hD := hD0.self (sz := s.heap.size)
  generalize hAe : va_A (all cA Ad L0 ++ oW cA o9 (fun _ => 0)) s.heap.size = A at hD hXZ ⊢
  have hA : ∀ q : Nat, s.heap.size ≤ q → A q := fun q h => by rw [← hAe]; exact Or.inr h
  have hS : va_S A s.heap s.heap [] := va_S.rf
  have hP : va_P D vwCl (all cA Ad L0 ++ oW cA o9 (fun _ => 0)) s.heap := hP0
  have hl := lv_entry ([.ref (Ad 10 0), .int x, .ref o9] : List Value) (n := 4) (Nat.le_of_ble_eq_true rfl)
  rw [lg_entry_eq]
  generalize (lg_sl ([.ref (Ad 10 0), .int x, .ref o9] : List Value) ++ List.replicate (4 - (lg_sl ([.ref (Ad 10 0), .int x, .ref o9] : List Value)).length) Slot.unset).toArray = ls at hl ⊢
  have hl : lv_has ls 4 [(0, .ref (Ad 10 0)), (1, .int x), (2, .ref o9)] := hl
  refine lv_aload_n hx hb dL_append_0 rfl (lv_at hl 2 rfl) ?_
  refine lv_iconst (v := 0) hx hb dL_append_1 (by decide) ?_
  refine lv_aload_n hx hb dL_append_2 rfl (lv_at hl 0 rfl) ?_
  refine lv_iload_n hx hb dL_append_3 rfl (lv_at hl 1 rfl) ?_
  have hPo : va_P D vwCl (oW cA o9 (fun _ => 0)) s.heap := va_P_r hP
  refine xt_V (ci := 4) (q0 := 0) (As := [.int x]) (rest := [.int 0, .ref o9]) (cls := "java/lang/IllegalArgumentException") ⟨hx, hb, hml, hown, hts⟩ (x_append l hl0 D cA _ (Ad 10 0) x hx0) (cwV 1 hts gL_append_X4_append rfl rfl rfl (by decide +kernel) ⟨Nat.le_of_ble_eq_true rfl, Nat.le_of_ble_eq_true rfl⟩) hKN hKY.1 (hXZ.narrow (fun _ h => h.elim)) hS hA (lw_fP 10 (by decide) (va_P_l hP)) rfl rfl rfl hl.1 rfl (lv_room (Nat.le_of_ble_eq_true rfl)) dL_append_4 ⟨Nat.le_of_ble_eq_true rfl, Nat.le_of_ble_eq_true rfl⟩ (fun ce q9 H locs hk9 hS hce hcv hcl => ?_)
  have hP : va_P D vwCl (oW cA o9 (fun _ => 0)) H := fun k q hq => (hPo k q hq).kept (hk9 q.1 (hPo k q hq).lt)
  refine vx_catch (own := RL) (name := "java/lang/IllegalArgumentException") (E := "java/lang/IllegalArgumentException") (ce := ce) (q := q9) hown [] ⟨0, 9, 12, 18⟩ [⟨0, 9, 15, 39⟩] ((vx_table (x := yL_law) B (hts _ mL_append_cw)).trans rfl) (fun z hz => nomatch hz) (by decide) (by decide) (hts _ mL_append_cl18) (hKY.1.use _ (by decide)) hce hcv hcl ?_
  refine lv_astore_n (lv' := [(3, .ref q9), (0, .ref (Ad 10 0)), (1, .int x), (2, .ref o9)]) hx hb dL_append_12 rfl hl (by decide) rfl (fun ls hl => ?_)
  refine lv_iconst (v := 1) hx hb dL_append_13 (by decide) ?_
  exact lh_iret hx hb hr hlocks dL_append_14 hP hS (Nat.le_of_ble_eq_true rfl) (Nat.le_of_ble_eq_true rfl) rfl
