theorem mL_load_cw : Cond.codeWith yL_load cL_load 4 (some .int) [(0, 9, 12, 13), (0, 9, 15, 18)] ∈ wsL_load := by decide +kernel
theorem mL_load_cl18 : Cond.classLink RL 18 "java/lang/IllegalArgumentException" ∈ wsL_load := by decide +kernel
theorem mL_load_cl13 : Cond.classLink RL 13 "java/lang/IndexOutOfBoundsException" ∈ wsL_load := by decide +kernel
set_option maxHeartbeats 4000000 in
set_option maxRecDepth 100000 in
theorem h_load_v (l : Launch) (hl0 : l.stackTraces = false) (D : va_G) (cA : Nat → ClassId) (H : Heap) (Ad : Nat → Nat → Nat) (o9 : Nat) (t : Nat) (ht : t < 16) (hP0 : va_P D vwCl (all cA Ad L0 ++ oW cA o9 (fun _ => 0)) H) (hD0 : va_D (fun _ => True) (all cA Ad L0 ++ oW cA o9 (fun _ => 0))) : LH l yL_load wsL_load ({ frames := 7, cells := 1, slots := 6, locals := 105 } : Room) D cA [.ref (Ad 10 0), .int (nI t), .ref o9] H (va_A (all cA Ad L0 ++ oW cA o9 (fun _ => 0)) H.size) o9 2 (fun _ => 0) := by
  refine vx_ofWH (cc := cL_load) (maxL := 4) (ret := some .int) (hh := [(0, 9, 12, 13), (0, 9, 15, 18)]) (by decide) rfl ?_
  intro p e s m args below meth c s₁ B hml hv
  obtain ⟨rfl, hH, hKN, hKY, hXZ⟩ := hv
  have hK := hKN.1
  have hx := B.exec
  have hb := B.bytes
  have hr := B.returns
  have hts := atoms_spec (ws := wsL_load) B.pre
  have hown : s.vm.findClass RL = some m.cls := findClass_of_methodNamed B.named
  have hlocks := B.notSynchronized
  subst hH
  have hD := hD0.self (sz := s.heap.size)
  generalize hAe : va_A (all cA Ad L0 ++ oW cA o9 (fun _ => 0)) s.heap.size = A at hD hXZ ⊢
  have hA : ∀ q : Nat, s.heap.size ≤ q → A q := fun q h => by rw [← hAe]; exact Or.inr h
  have hS : va_S A s.heap s.heap [] := va_S.rf
  have hP : va_P D vwCl (all cA Ad L0 ++ oW cA o9 (fun _ => 0)) s.heap := hP0
  have hl := lv_entry ([.ref (Ad 10 0), .int (nI t), .ref o9] : List Value) (n := 4) (Nat.le_of_ble_eq_true rfl)
  rw [lg_entry_eq]
  generalize (lg_sl ([.ref (Ad 10 0), .int (nI t), .ref o9] : List Value) ++ List.replicate (4 - (lg_sl ([.ref (Ad 10 0), .int (nI t), .ref o9] : List Value)).length) Slot.unset).toArray = ls at hl ⊢
  have hl : lv_has ls 4 [(0, .ref (Ad 10 0)), (1, .int (nI t)), (2, .ref o9)] := hl
  refine lv_aload_n hx hb dL_load_0 rfl (lv_at hl 2 rfl) ?_
  refine lv_iconst (v := 0) hx hb dL_load_1 (by decide) ?_
  refine lv_aload_n hx hb dL_load_2 rfl (lv_at hl 0 rfl) ?_
  refine lv_iload_n hx hb dL_load_3 rfl (lv_at hl 1 rfl) ?_
  refine xt_VW (ci := 4) (q0 := 0) (As := [.int (nI t)]) (rest := [.int 0, .ref o9]) (cls := "java/lang/IllegalArgumentException") ⟨hx, hb, hml, hown, hts⟩ (x_load2 l hl0 D cA _ Ad (fun _ => initS) 0 0 (fun _ => 0) (fun _ => 0) 0 0 (fun _ => 0, fun _ => 0) t ht (va_P_l hP) (va_D_l hD)) (cwV 1 hts gL_load_X4_load rfl rfl rfl (by decide +kernel) ⟨Nat.le_of_ble_eq_true rfl, Nat.le_of_ble_eq_true rfl⟩) hKN hKY.1 (hXZ.narrow (fun q h => by rw [← hAe]; exact va_A_l h)) hP hD hS hA (lw_fP 10 (by decide) (va_P_l hP)) rfl rfl rfl hl.1 rfl (lv_room (Nat.le_of_ble_eq_true rfl)) dL_load_4 ⟨Nat.le_of_ble_eq_true rfl, Nat.le_of_ble_eq_true rfl⟩ (fun ce q9 H locs hP hS hce hcv hcl => ?_)
  refine vx_catch (own := RL) (name := "java/lang/IllegalArgumentException") (E := "java/lang/IllegalArgumentException") (ce := ce) (q := q9) hown [⟨0, 9, 12, 13⟩] ⟨0, 9, 15, 18⟩ [] ((vx_table (x := yL_law) B (hts _ mL_load_cw)).trans rfl) (fun z hz => by rcases List.mem_singleton.mp hz with rfl; exact Or.inr ⟨by decide, "java/lang/IndexOutOfBoundsException", hts _ mL_load_cl13, hKY.2.1⟩) (by decide) (by decide) (hts _ mL_load_cl18) (hKY.1.use _ (by decide)) hce hcv hcl ?_
  refine lv_astore_n (lv' := [(3, .ref q9), (0, .ref (Ad 10 0)), (1, .int (nI t)), (2, .ref o9)]) hx hb dL_load_15 rfl hl (by decide) rfl (fun ls hl => ?_)
  refine lv_iconst (v := 2) hx hb dL_load_16 (by decide) ?_
  exact lh_iret hx hb hr hlocks dL_load_17 hP hS (Nat.le_of_ble_eq_true rfl) (Nat.le_of_ble_eq_true rfl) rfl
set_option maxHeartbeats 4000000 in
set_option maxRecDepth 100000 in
theorem h_load_x1 (l : Launch) (hl0 : l.stackTraces = false) (D : va_G) (cA : Nat → ClassId) (H : Heap) (Ad : Nat → Nat → Nat) (o9 : Nat) (x : Int32) (hx0 : inF x 0 15 = 0) (hP0 : va_P D vwCl (all cA Ad L0 ++ oW cA o9 (fun _ => 0)) H) (hD0 : va_D (fun _ => True) (all cA Ad L0 ++ oW cA o9 (fun _ => 0))) : LH l yL_load wsL_load ({ frames := 7, cells := 1, slots := 6, locals := 105 } : Room) D cA [.ref (Ad 10 0), .int x, .ref o9] H (va_A (all cA Ad L0 ++ oW cA o9 (fun _ => 0)) H.size) o9 1 (fun _ => 0) := by
  refine vx_ofWH (cc := cL_load) (maxL := 4) (ret := some .int) (hh := [(0, 9, 12, 13), (0, 9, 15, 18)]) (by decide) rfl ?_
  intro p e s m args below meth c s₁ B hml hv
  obtain ⟨rfl, hH, hKN, hKY, hXZ⟩ := hv
  have hK := hKN.1
  have hx := B.exec
  have hb := B.bytes
  have hr := B.returns
  have hts := atoms_spec (ws := wsL_load) B.pre
  have hown : s.vm.findClass RL = some m.cls := findClass_of_methodNamed B.named
  have hlocks := B.notSynchronized
  subst hH
  have hD := hD0.self (sz := s.heap.size)
  generalize hAe : va_A (all cA Ad L0 ++ oW cA o9 (fun _ => 0)) s.heap.size = A at hD hXZ ⊢
  have hA : ∀ q : Nat, s.heap.size ≤ q → A q := fun q h => by rw [← hAe]; exact Or.inr h
  have hS : va_S A s.heap s.heap [] := va_S.rf
  have hP : va_P D vwCl (all cA Ad L0 ++ oW cA o9 (fun _ => 0)) s.heap := hP0
  have hl := lv_entry ([.ref (Ad 10 0), .int x, .ref o9] : List Value) (n := 4) (Nat.le_of_ble_eq_true rfl)
  rw [lg_entry_eq]
  generalize (lg_sl ([.ref (Ad 10 0), .int x, .ref o9] : List Value) ++ List.replicate (4 - (lg_sl ([.ref (Ad 10 0), .int x, .ref o9] : List Value)).length) Slot.unset).toArray = ls at hl ⊢
  have hl : lv_has ls 4 [(0, .ref (Ad 10 0)), (1, .int x), (2, .ref o9)] := hl
  refine lv_aload_n hx hb dL_load_0 rfl (lv_at hl 2 rfl) ?_
  refine lv_iconst (v := 0) hx hb dL_load_1 (by decide) ?_
  refine lv_aload_n hx hb dL_load_2 rfl (lv_at hl 0 rfl) ?_
  refine lv_iload_n hx hb dL_load_3 rfl (lv_at hl 1 rfl) ?_
  have hPo : va_P D vwCl (oW cA o9 (fun _ => 0)) s.heap := va_P_r hP
  refine xt_V (ci := 4) (q0 := 0) (As := [.int x]) (rest := [.int 0, .ref o9]) (cls := "java/lang/IndexOutOfBoundsException") ⟨hx, hb, hml, hown, hts⟩ (x_load l hl0 D cA _ (Ad 10 0) x hx0) (cwV 1 hts gL_load_X4_load rfl rfl rfl (by decide +kernel) ⟨Nat.le_of_ble_eq_true rfl, Nat.le_of_ble_eq_true rfl⟩) hKN hKY.1 (hXZ.narrow (fun _ h => h.elim)) hS hA (lw_fP 10 (by decide) (va_P_l hP)) rfl rfl rfl hl.1 rfl (lv_room (Nat.le_of_ble_eq_true rfl)) dL_load_4 ⟨Nat.le_of_ble_eq_true rfl, Nat.le_of_ble_eq_true rfl⟩ (fun ce q9 H locs hk9 hS hce hcv hcl => ?_)
  have hP : va_P D vwCl (oW cA o9 (fun _ => 0)) H := fun k q hq => (hPo k q hq).kept (hk9 q.1 (hPo k q hq).lt)
  refine vx_catch (own := RL) (name := "java/lang/IndexOutOfBoundsException") (E := "java/lang/IndexOutOfBoundsException") (ce := ce) (q := q9) hown [] ⟨0, 9, 12, 13⟩ [⟨0, 9, 15, 18⟩] ((vx_table (x := yL_law) B (hts _ mL_load_cw)).trans rfl) (fun z hz => nomatch hz) (by decide) (by decide) (hts _ mL_load_cl13) (hKY.1.use _ (by decide)) hce hcv hcl ?_
  refine lv_astore_n (lv' := [(3, .ref q9), (0, .ref (Ad 10 0)), (1, .int x), (2, .ref o9)]) hx hb dL_load_12 rfl hl (by decide) rfl (fun ls hl => ?_)
  refine lv_iconst (v := 1) hx hb dL_load_13 (by decide) ?_
  exact lh_iret hx hb hr hlocks dL_load_14 hP hS (Nat.le_of_ble_eq_true rfl) (Nat.le_of_ble_eq_true rfl) rfl
set_option maxHeartbeats 4000000 in
set_option maxRecDepth 100000 in
theorem h_write_v (l : Launch) (hl0 : l.stackTraces = false) (D : va_G) (cA : Nat → ClassId) (H : Heap) (Ad : Nat → Nat → Nat) (o9 : Nat) (t : Nat) (ht : t < 16) (v : Nat) (hv0 : v < 16) (htv : t ≤ v) (hP0 : va_P D vwCl (all cA Ad L0 ++ oW cA o9 (fun _ => 0)) H) (hD0 : va_D (fun _ => True) (all cA Ad L0 ++ oW cA o9 (fun _ => 0))) : LH l yL_write wsL_write ({ frames := 7, cells := 1, slots := 6, locals := 117 } : Room) D cA [.ref (Ad 10 0), .int (nI t), .int (nI v), .ref o9] H (va_A (all cA Ad L0 ++ oW cA o9 (fun _ => 0)) H.size) o9 0 (vp_updL (fun _ => 0) 0 (i2lF (nI (2 * (v + 1 - t))))) := by
  refine vx_ofWH (cc := cL_write) (maxL := 5) (ret := some .int) (hh := [(0, 10, 13, 13)]) (by decide) rfl ?_
  intro p e s m args below meth c s₁ B hml hv
  obtain ⟨rfl, hH, hKN, hKY, hXZ⟩ := hv
  have hK := hKN.1
  have hx := B.exec
  have hb := B.bytes
  have hr := B.returns
  have hts := atoms_spec (ws := wsL_write) B.pre
  have hown : s.vm.findClass RL = some m.cls := findClass_of_methodNamed B.named
  have hlocks := B.notSynchronized
  subst hH
  have hD := hD0.self (sz := s.heap.size)
  generalize hAe : va_A (all cA Ad L0 ++ oW cA o9 (fun _ => 0)) s.heap.size = A at hD hXZ ⊢
  have hA : ∀ q : Nat, s.heap.size ≤ q → A q := fun q h => by rw [← hAe]; exact Or.inr h
  have hS : va_S A s.heap s.heap [] := va_S.rf
  have hP : va_P D vwCl (all cA Ad L0 ++ oW cA o9 (fun _ => 0)) s.heap := hP0
  have hl := lv_entry ([.ref (Ad 10 0), .int (nI t), .int (nI v), .ref o9] : List Value) (n := 5) (Nat.le_of_ble_eq_true rfl)
  rw [lg_entry_eq]
  generalize (lg_sl ([.ref (Ad 10 0), .int (nI t), .int (nI v), .ref o9] : List Value) ++ List.replicate (5 - (lg_sl ([.ref (Ad 10 0), .int (nI t), .int (nI v), .ref o9] : List Value)).length) Slot.unset).toArray = ls at hl ⊢
  have hl : lv_has ls 5 [(0, .ref (Ad 10 0)), (1, .int (nI t)), (2, .int (nI v)), (3, .ref o9)] := hl
  refine lv_aload_n hx hb dL_write_0 rfl (lv_at hl 3 rfl) ?_
  refine lv_iconst (v := 0) hx hb dL_write_1 (by decide) ?_
  refine lv_aload_n hx hb dL_write_2 rfl (lv_at hl 0 rfl) ?_
  refine lv_iload_n hx hb dL_write_3 rfl (lv_at hl 1 rfl) ?_
  refine lv_iload_n hx hb dL_write_4 rfl (lv_at hl 2 rfl) ?_
  refine mu_Vx (ci := 4) (q0 := 0) (As := [.int (nI t), .int (nI v)]) (rest := [.int 0, .ref o9]) ⟨hx, hb, hml, hown, hts⟩ (c_X4_write l D cA _ Ad (fun _ => initS) 0 0 (fun _ => 0, fun _ => 0, 0, 0, 0) (fun _ => 0, fun _ => 0) t v ht hv0 htv (va_P_l hP) (va_D_l hD)) (cwV 2 hts gL_write_X4_write rfl rfl rfl (by decide +kernel) ⟨Nat.le_of_ble_eq_true rfl, Nat.le_of_ble_eq_true rfl⟩) hKN hP hD hS hA (lw_fP 10 (by decide) (va_P_l hP)) rfl rfl (all_fst _ _ _ _) rfl hl.1 rfl (lv_room (Nat.le_of_ble_eq_true rfl)) dL_write_5 ⟨Nat.zero_le _, Nat.zero_le _⟩ (fun H locs hP hD hS => ?_)
  refine lz_top (v := (nI (2 * (v + 1 - t)))) rfl ?_
  refine lv_i2l (v := (i2lF (nI (2 * (v + 1 - t))))) hx hb dL_write_8 rfl ?_
  refine lz_last (k := 0) (f := fun _ => 0) hx hb hK hP hD hS 0 3 rfl rfl ⟨by decide, by decide⟩ dL_write_9 (fun H locs hP hD hS => ?_)
  refine lv_goto (tgt := 17) hx hb dL_write_10 (by decide) ?_
  refine lv_iconst (v := 0) hx hb dL_write_17 (by decide) ?_
  exact lh_iret hx hb hr hlocks dL_write_18 hP hS (Nat.le_of_ble_eq_true rfl) (Nat.le_of_ble_eq_true rfl) rfl
theorem mL_write_cw : Cond.codeWith yL_write cL_write 5 (some .int) [(0, 10, 13, 13)] ∈ wsL_write := by decide +kernel
theorem mL_write_cl13 : Cond.classLink RL 13 "java/lang/IndexOutOfBoundsException" ∈ wsL_write := by decide +kernel
set_option maxHeartbeats 4000000 in
set_option maxRecDepth 100000 in
theorem h_write_x1 (l : Launch) (hl0 : l.stackTraces = false) (D : va_G) (cA : Nat → ClassId) (H : Heap) (Ad : Nat → Nat → Nat) (o9 : Nat) (y : Int32) (x : Int32) (hx0 : inF x 0 15 = 0) (hP0 : va_P D vwCl (all cA Ad L0 ++ oW cA o9 (fun _ => 0)) H) (hD0 : va_D (fun _ => True) (all cA Ad L0 ++ oW cA o9 (fun _ => 0))) : LH l yL_write wsL_write ({ frames := 7, cells := 1, slots := 6, locals := 117 } : Room) D cA [.ref (Ad 10 0), .int x, .int y, .ref o9] H (va_A (all cA Ad L0 ++ oW cA o9 (fun _ => 0)) H.size) o9 1 (fun _ => 0) := by
  refine vx_ofWH (cc := cL_write) (maxL := 5) (ret := some .int) (hh := [(0, 10, 13, 13)]) (by decide) rfl ?_
  intro p e s m args below meth c s₁ B hml hv
  obtain ⟨rfl, hH, hKN, hKY, hXZ⟩ := hv
  have hK := hKN.1
  have hx := B.exec
  have hb := B.bytes
  have hr := B.returns
  have hts := atoms_spec (ws := wsL_write) B.pre
  have hown : s.vm.findClass RL = some m.cls := findClass_of_methodNamed B.named
  have hlocks := B.notSynchronized
  subst hH
  have hD := hD0.self (sz := s.heap.size)
  generalize hAe : va_A (all cA Ad L0 ++ oW cA o9 (fun _ => 0)) s.heap.size = A at hD hXZ ⊢
  have hA : ∀ q : Nat, s.heap.size ≤ q → A q := fun q h => by rw [← hAe]; exact Or.inr h
  have hS : va_S A s.heap s.heap [] := va_S.rf
  have hP : va_P D vwCl (all cA Ad L0 ++ oW cA o9 (fun _ => 0)) s.heap := hP0
  have hl := lv_entry ([.ref (Ad 10 0), .int x, .int y, .ref o9] : List Value) (n := 5) (Nat.le_of_ble_eq_true rfl)
  rw [lg_entry_eq]
  generalize (lg_sl ([.ref (Ad 10 0), .int x, .int y, .ref o9] : List Value) ++ List.replicate (5 - (lg_sl ([.ref (Ad 10 0), .int x, .int y, .ref o9] : List Value)).length) Slot.unset).toArray = ls at hl ⊢
  have hl : lv_has ls 5 [(0, .ref (Ad 10 0)), (1, .int x), (2, .int y), (3, .ref o9)] := hl
  refine lv_aload_n hx hb dL_write_0 rfl (lv_at hl 3 rfl) ?_
  refine lv_iconst (v := 0) hx hb dL_write_1 (by decide) ?_
  refine lv_aload_n hx hb dL_write_2 rfl (lv_at hl 0 rfl) ?_
  refine lv_iload_n hx hb dL_write_3 rfl (lv_at hl 1 rfl) ?_
  refine lv_iload_n hx hb dL_write_4 rfl (lv_at hl 2 rfl) ?_
  have hPo : va_P D vwCl (oW cA o9 (fun _ => 0)) s.heap := va_P_r hP
  refine xt_V (ci := 4) (q0 := 0) (As := [.int x, .int y]) (rest := [.int 0, .ref o9]) (cls := "java/lang/IndexOutOfBoundsException") ⟨hx, hb, hml, hown, hts⟩ (x_write1 l hl0 D cA _ (Ad 10 0) y x hx0) (cwV 2 hts gL_write_X4_write rfl rfl rfl (by decide +kernel) ⟨Nat.le_of_ble_eq_true rfl, Nat.le_of_ble_eq_true rfl⟩) hKN hKY.1 (hXZ.narrow (fun _ h => h.elim)) hS hA (lw_fP 10 (by decide) (va_P_l hP)) rfl rfl rfl hl.1 rfl (lv_room (Nat.le_of_ble_eq_true rfl)) dL_write_5 ⟨Nat.le_of_ble_eq_true rfl, Nat.le_of_ble_eq_true rfl⟩ (fun ce q9 H locs hk9 hS hce hcv hcl => ?_)
  have hP : va_P D vwCl (oW cA o9 (fun _ => 0)) H := fun k q hq => (hPo k q hq).kept (hk9 q.1 (hPo k q hq).lt)
  refine vx_catch (own := RL) (name := "java/lang/IndexOutOfBoundsException") (E := "java/lang/IndexOutOfBoundsException") (ce := ce) (q := q9) hown [] ⟨0, 10, 13, 13⟩ [] ((vx_table (x := yL_law) B (hts _ mL_write_cw)).trans rfl) (fun z hz => nomatch hz) (by decide) (by decide) (hts _ mL_write_cl13) (hKY.1.use _ (by decide)) hce hcv hcl ?_
  refine lv_astore (lv' := [(4, .ref q9), (0, .ref (Ad 10 0)), (1, .int x), (2, .int y), (3, .ref o9)]) hx hb dL_write_13 hl (by decide) rfl (fun ls hl => ?_)
  refine lv_iconst (v := 1) hx hb dL_write_15 (by decide) ?_
  exact lh_iret hx hb hr hlocks dL_write_16 hP hS (Nat.le_of_ble_eq_true rfl) (Nat.le_of_ble_eq_true rfl) rfl
set_option maxHeartbeats 4000000 in
set_option maxRecDepth 100000 in
theorem h_write_x2 (l : Launch) (hl0 : l.stackTraces = false) (D : va_G) (cA : Nat → ClassId) (H : Heap) (Ad : Nat → Nat → Nat) (o9 : Nat) (t : Nat) (ht : t < 16) (x : Int32) (hx0 : inF x 0 15 = 0) (hP0 : va_P D vwCl (all cA Ad L0 ++ oW cA o9 (fun _ => 0)) H) (hD0 : va_D (fun _ => True) (all cA Ad L0 ++ oW cA o9 (fun _ => 0))) : LH l yL_write wsL_write ({ frames := 7, cells := 1, slots := 6, locals := 117 } : Room) D cA [.ref (Ad 10 0), .int (nI t), .int x, .ref o9] H (va_A (all cA Ad L0 ++ oW cA o9 (fun _ => 0)) H.size) o9 1 (fun _ => 0) := by
  refine vx_ofWH (cc := cL_write) (maxL := 5) (ret := some .int) (hh := [(0, 10, 13, 13)]) (by decide) rfl ?_
  intro p e s m args below meth c s₁ B hml hv
  obtain ⟨rfl, hH, hKN, hKY, hXZ⟩ := hv
  have hK := hKN.1
  have hx := B.exec
  have hb := B.bytes
  have hr := B.returns
  have hts := atoms_spec (ws := wsL_write) B.pre
  have hown : s.vm.findClass RL = some m.cls := findClass_of_methodNamed B.named
  have hlocks := B.notSynchronized
  subst hH
  have hD := hD0.self (sz := s.heap.size)
  generalize hAe : va_A (all cA Ad L0 ++ oW cA o9 (fun _ => 0)) s.heap.size = A at hD hXZ ⊢
  have hA : ∀ q : Nat, s.heap.size ≤ q → A q := fun q h => by rw [← hAe]; exact Or.inr h
  have hS : va_S A s.heap s.heap [] := va_S.rf
  have hP : va_P D vwCl (all cA Ad L0 ++ oW cA o9 (fun _ => 0)) s.heap := hP0
  have hl := lv_entry ([.ref (Ad 10 0), .int (nI t), .int x, .ref o9] : List Value) (n := 5) (Nat.le_of_ble_eq_true rfl)
  rw [lg_entry_eq]
  generalize (lg_sl ([.ref (Ad 10 0), .int (nI t), .int x, .ref o9] : List Value) ++ List.replicate (5 - (lg_sl ([.ref (Ad 10 0), .int (nI t), .int x, .ref o9] : List Value)).length) Slot.unset).toArray = ls at hl ⊢
  have hl : lv_has ls 5 [(0, .ref (Ad 10 0)), (1, .int (nI t)), (2, .int x), (3, .ref o9)] := hl
  refine lv_aload_n hx hb dL_write_0 rfl (lv_at hl 3 rfl) ?_
  refine lv_iconst (v := 0) hx hb dL_write_1 (by decide) ?_
  refine lv_aload_n hx hb dL_write_2 rfl (lv_at hl 0 rfl) ?_
  refine lv_iload_n hx hb dL_write_3 rfl (lv_at hl 1 rfl) ?_
  refine lv_iload_n hx hb dL_write_4 rfl (lv_at hl 2 rfl) ?_
  have hPo : va_P D vwCl (oW cA o9 (fun _ => 0)) s.heap := va_P_r hP
  refine xt_V (ci := 4) (q0 := 0) (As := [.int (nI t), .int x]) (rest := [.int 0, .ref o9]) (cls := "java/lang/IndexOutOfBoundsException") ⟨hx, hb, hml, hown, hts⟩ (x_write2 l hl0 D cA _ (Ad 10 0) t ht x hx0) (cwV 2 hts gL_write_X4_write rfl rfl rfl (by decide +kernel) ⟨Nat.le_of_ble_eq_true rfl, Nat.le_of_ble_eq_true rfl⟩) hKN hKY.1 (hXZ.narrow (fun _ h => h.elim)) hS hA (lw_fP 10 (by decide) (va_P_l hP)) rfl rfl rfl hl.1 rfl (lv_room (Nat.le_of_ble_eq_true rfl)) dL_write_5 ⟨Nat.le_of_ble_eq_true rfl, Nat.le_of_ble_eq_true rfl⟩ (fun ce q9 H locs hk9 hS hce hcv hcl => ?_)
  have hP : va_P D vwCl (oW cA o9 (fun _ => 0)) H := fun k q hq => (hPo k q hq).kept (hk9 q.1 (hPo k q hq).lt)
  refine vx_catch (own := RL) (name := "java/lang/IndexOutOfBoundsException") (E := "java/lang/IndexOutOfBoundsException") (ce := ce) (q := q9) hown [] ⟨0, 10, 13, 13⟩ [] ((vx_table (x := yL_law) B (hts _ mL_write_cw)).trans rfl) (fun z hz => nomatch hz) (by decide) (by decide) (hts _ mL_write_cl13) (hKY.1.use _ (by decide)) hce hcv hcl ?_
  refine lv_astore (lv' := [(4, .ref q9), (0, .ref (Ad 10 0)), (1, .int (nI t)), (2, .int x), (3, .ref o9)]) hx hb dL_write_13 hl (by decide) rfl (fun ls hl => ?_)
  refine lv_iconst (v := 1) hx hb dL_write_15 (by decide) ?_
  exact lh_iret hx hb hr hlocks dL_write_16 hP hS (Nat.le_of_ble_eq_true rfl) (Nat.le_of_ble_eq_true rfl) rfl
set_option maxHeartbeats 4000000 in
set_option maxRecDepth 100000 in
theorem h_write_x3 (l : Launch) (hl0 : l.stackTraces = false) (D : va_G) (cA : Nat → ClassId) (H : Heap) (Ad : Nat → Nat → Nat) (o9 : Nat) (t : Nat) (ht : t < 16) (v : Nat) (hv0 : v < 16) (hvt : v < t) (hP0 : va_P D vwCl (all cA Ad L0 ++ oW cA o9 (fun _ => 0)) H) (hD0 : va_D (fun _ => True) (all cA Ad L0 ++ oW cA o9 (fun _ => 0))) : LH l yL_write wsL_write ({ frames := 7, cells := 1, slots := 6, locals := 117 } : Room) D cA [.ref (Ad 10 0), .int (nI t), .int (nI v), .ref o9] H (va_A (all cA Ad L0 ++ oW cA o9 (fun _ => 0)) H.size) o9 1 (fun _ => 0) := by
  refine vx_ofWH (cc := cL_write) (maxL := 5) (ret := some .int) (hh := [(0, 10, 13, 13)]) (by decide) rfl ?_
  intro p e s m args below meth c s₁ B hml hv
  obtain ⟨rfl, hH, hKN, hKY, hXZ⟩ := hv
  have hK := hKN.1
  have hx := B.exec
  have hb := B.bytes
  have hr := B.returns
  have hts := atoms_spec (ws := wsL_write) B.pre
  have hown : s.vm.findClass RL = some m.cls := findClass_of_methodNamed B.named
  have hlocks := B.notSynchronized
  subst hH
  have hD := hD0.self (sz := s.heap.size)
  generalize hAe : va_A (all cA Ad L0 ++ oW cA o9 (fun _ => 0)) s.heap.size = A at hD hXZ ⊢
  have hA : ∀ q : Nat, s.heap.size ≤ q → A q := fun q h => by rw [← hAe]; exact Or.inr h
  have hS : va_S A s.heap s.heap [] := va_S.rf
  have hP : va_P D vwCl (all cA Ad L0 ++ oW cA o9 (fun _ => 0)) s.heap := hP0
  have hl := lv_entry ([.ref (Ad 10 0), .int (nI t), .int (nI v), .ref o9] : List Value) (n := 5) (Nat.le_of_ble_eq_true rfl)
  rw [lg_entry_eq]
  generalize (lg_sl ([.ref (Ad 10 0), .int (nI t), .int (nI v), .ref o9] : List Value) ++ List.replicate (5 - (lg_sl ([.ref (Ad 10 0), .int (nI t), .int (nI v), .ref o9] : List Value)).length) Slot.unset).toArray = ls at hl ⊢
  have hl : lv_has ls 5 [(0, .ref (Ad 10 0)), (1, .int (nI t)), (2, .int (nI v)), (3, .ref o9)] := hl
  refine lv_aload_n hx hb dL_write_0 rfl (lv_at hl 3 rfl) ?_
  refine lv_iconst (v := 0) hx hb dL_write_1 (by decide) ?_
  refine lv_aload_n hx hb dL_write_2 rfl (lv_at hl 0 rfl) ?_
  refine lv_iload_n hx hb dL_write_3 rfl (lv_at hl 1 rfl) ?_
  refine lv_iload_n hx hb dL_write_4 rfl (lv_at hl 2 rfl) ?_
  have hPo : va_P D vwCl (oW cA o9 (fun _ => 0)) s.heap := va_P_r hP
  refine xt_V (ci := 4) (q0 := 0) (As := [.int (nI t), .int (nI v)]) (rest := [.int 0, .ref o9]) (cls := "java/lang/IndexOutOfBoundsException") ⟨hx, hb, hml, hown, hts⟩ (x_write3 l hl0 D cA _ (Ad 10 0) t v ht hv0 hvt) (cwV 2 hts gL_write_X4_write rfl rfl rfl (by decide +kernel) ⟨Nat.le_of_ble_eq_true rfl, Nat.le_of_ble_eq_true rfl⟩) hKN hKY.1 (hXZ.narrow (fun _ h => h.elim)) hS hA (lw_fP 10 (by decide) (va_P_l hP)) rfl rfl rfl hl.1 rfl (lv_room (Nat.le_of_ble_eq_true rfl)) dL_write_5 ⟨Nat.le_of_ble_eq_true rfl, Nat.le_of_ble_eq_true rfl⟩ (fun ce q9 H locs hk9 hS hce hcv hcl => ?_)
  have hP : va_P D vwCl (oW cA o9 (fun _ => 0)) H := fun k q hq => (hPo k q hq).kept (hk9 q.1 (hPo k q hq).lt)
  refine vx_catch (own := RL) (name := "java/lang/IndexOutOfBoundsException") (E := "java/lang/IndexOutOfBoundsException") (ce := ce) (q := q9) hown [] ⟨0, 10, 13, 13⟩ [] ((vx_table (x := yL_law) B (hts _ mL_write_cw)).trans rfl) (fun z hz => nomatch hz) (by decide) (by decide) (hts _ mL_write_cl13) (hKY.1.use _ (by decide)) hce hcv hcl ?_
  refine lv_astore (lv' := [(4, .ref q9), (0, .ref (Ad 10 0)), (1, .int (nI t)), (2, .int (nI v)), (3, .ref o9)]) hx hb dL_write_13 hl (by decide) rfl (fun ls hl => ?_)
  refine lv_iconst (v := 1) hx hb dL_write_15 (by decide) ?_
  exact lh_iret hx hb hr hlocks dL_write_16 hP hS (Nat.le_of_ble_eq_true rfl) (Nat.le_of_ble_eq_true rfl) rfl
set_option maxHeartbeats 4000000 in
set_option maxRecDepth 100000 in
theorem h_keep_v0 (l : Launch) (hl0 : l.stackTraces = false) (D : va_G) (cA : Nat → ClassId) (H : Heap) (Ad : Nat → Nat → Nat) (o9 : Nat) (hP0 : va_P D vwCl (all cA Ad L0 ++ oW cA o9 (fun _ => 0)) H) (hD0 : va_D (fun _ => True) (all cA Ad L0 ++ oW cA o9 (fun _ => 0))) : LH l yL_keep wsL_keep ({ frames := 7, cells := 1, slots := 6, locals := 103 } : Room) D cA [.ref (Ad 10 0), .int 0, .ref o9] H (va_A (all cA Ad L0 ++ oW cA o9 (fun _ => 0)) H.size) o9 0 (vp_updL (fun _ => 0) 0 (i2lF 0)) := by
  refine vx_ofWH (cc := cL_keep) (maxL := 4) (ret := some .int) (hh := [(0, 9, 12, 18)]) (by decide) rfl ?_
  intro p e s m args below meth c s₁ B hml hv
  obtain ⟨rfl, hH, hKN, hKY, hXZ⟩ := hv
  have hK := hKN.1
  have hx := B.exec
  have hb := B.bytes
  have hr := B.returns
  have hts := atoms_spec (ws := wsL_keep) B.pre
  have hown : s.vm.findClass RL = some m.cls := findClass_of_methodNamed B.named
  have hlocks := B.notSynchronized
  subst hH
  have hD := hD0.self (sz := s.heap.size)
  generalize hAe : va_A (all cA Ad L0 ++ oW cA o9 (fun _ => 0)) s.heap.size = A at hD hXZ ⊢
  have hA : ∀ q : Nat, s.heap.size ≤ q → A q := fun q h => by rw [← hAe]; exact Or.inr h
  have hS : va_S A s.heap s.heap [] := va_S.rf
  have hP : va_P D vwCl (all cA Ad L0 ++ oW cA o9 (fun _ => 0)) s.heap := hP0
  have hl := lv_entry ([.ref (Ad 10 0), .int 0, .ref o9] : List Value) (n := 4) (Nat.le_of_ble_eq_true rfl)
  rw [lg_entry_eq]
  generalize (lg_sl ([.ref (Ad 10 0), .int 0, .ref o9] : List Value) ++ List.replicate (4 - (lg_sl ([.ref (Ad 10 0), .int 0, .ref o9] : List Value)).length) Slot.unset).toArray = ls at hl ⊢
  have hl : lv_has ls 4 [(0, .ref (Ad 10 0)), (1, .int 0), (2, .ref o9)] := hl
  refine lv_aload_n hx hb dL_keep_0 rfl (lv_at hl 2 rfl) ?_
  refine lv_iconst (v := 0) hx hb dL_keep_1 (by decide) ?_
  refine lv_aload_n hx hb dL_keep_2 rfl (lv_at hl 0 rfl) ?_
  refine lv_iload_n hx hb dL_keep_3 rfl (lv_at hl 1 rfl) ?_
  refine mu_Vx (ci := 4) (q0 := 0) (As := [.int 0]) (rest := [.int 0, .ref o9]) ⟨hx, hb, hml, hown, hts⟩ (c_X4_keep0 l D cA _ Ad (fun _ => initS) 0 0 (fun _ => 0, fun _ => 0, 0, 0, 0) (fun _ => 0, fun _ => 0) (Or.inr rfl)  (va_P_l hP) (va_D_l hD)) (cwV 1 hts gL_keep_X4_keep rfl rfl rfl (by decide +kernel) ⟨Nat.le_of_ble_eq_true rfl, Nat.le_of_ble_eq_true rfl⟩) hKN hP hD hS hA (lw_fP 10 (by decide) (va_P_l hP)) rfl rfl (all_fst _ _ _ _) rfl hl.1 rfl (lv_room (Nat.le_of_ble_eq_true rfl)) dL_keep_4 ⟨Nat.zero_le _, Nat.zero_le _⟩ (fun H locs hP hD hS => ?_)
  refine lz_top (v := 0) pv_keep ?_
  refine lv_i2l (v := (i2lF 0)) hx hb dL_keep_7 rfl ?_
  refine lz_last (k := 0) (f := fun _ => 0) hx hb hK hP hD hS 0 3 rfl rfl ⟨by decide, by decide⟩ dL_keep_8 (fun H locs hP hD hS => ?_)
  refine lv_goto (tgt := 15) hx hb dL_keep_9 (by decide) ?_
  refine lv_iconst (v := 0) hx hb dL_keep_15 (by decide) ?_
  exact lh_iret hx hb hr hlocks dL_keep_16 hP hS (Nat.le_of_ble_eq_true rfl) (Nat.le_of_ble_eq_true rfl) rfl
set_option maxHeartbeats 4000000 in
set_option maxRecDepth 100000 in
theorem h_keep_v1 (l : Launch) (hl0 : l.stackTraces = false) (D : va_G) (cA : Nat → ClassId) (H : Heap) (Ad : Nat → Nat → Nat) (o9 : Nat) (hP0 : va_P D vwCl (all cA Ad L0 ++ oW cA o9 (fun _ => 0)) H) (hD0 : va_D (fun _ => True) (all cA Ad L0 ++ oW cA o9 (fun _ => 0))) : LH l yL_keep wsL_keep ({ frames := 7, cells := 1, slots := 6, locals := 103 } : Room) D cA [.ref (Ad 10 0), .int 1, .ref o9] H (va_A (all cA Ad L0 ++ oW cA o9 (fun _ => 0)) H.size) o9 0 (vp_updL (fun _ => 0) 0 (i2lF 0)) := by
  refine vx_ofWH (cc := cL_keep) (maxL := 4) (ret := some .int) (hh := [(0, 9, 12, 18)]) (by decide) rfl ?_
  intro p e s m args below meth c s₁ B hml hv
  obtain ⟨rfl, hH, hKN, hKY, hXZ⟩ := hv
  have hK := hKN.1
  have hx := B.exec
  have hb := B.bytes
  have hr := B.returns
  have hts := atoms_spec (ws := wsL_keep) B.pre
  have hown : s.vm.findClass RL = some m.cls := findClass_of_methodNamed B.named
  have hlocks := B.notSynchronized
  subst hH
  have hD := hD0.self (sz := s.heap.size)
  generalize hAe : va_A (all cA Ad L0 ++ oW cA o9 (fun _ => 0)) s.heap.size = A at hD hXZ ⊢
  have hA : ∀ q : Nat, s.heap.size ≤ q → A q := fun q h => by rw [← hAe]; exact Or.inr h
  have hS : va_S A s.heap s.heap [] := va_S.rf
  have hP : va_P D vwCl (all cA Ad L0 ++ oW cA o9 (fun _ => 0)) s.heap := hP0
  have hl := lv_entry ([.ref (Ad 10 0), .int 1, .ref o9] : List Value) (n := 4) (Nat.le_of_ble_eq_true rfl)
  rw [lg_entry_eq]
  generalize (lg_sl ([.ref (Ad 10 0), .int 1, .ref o9] : List Value) ++ List.replicate (4 - (lg_sl ([.ref (Ad 10 0), .int 1, .ref o9] : List Value)).length) Slot.unset).toArray = ls at hl ⊢
  have hl : lv_has ls 4 [(0, .ref (Ad 10 0)), (1, .int 1), (2, .ref o9)] := hl
  refine lv_aload_n hx hb dL_keep_0 rfl (lv_at hl 2 rfl) ?_
  refine lv_iconst (v := 0) hx hb dL_keep_1 (by decide) ?_
  refine lv_aload_n hx hb dL_keep_2 rfl (lv_at hl 0 rfl) ?_
  refine lv_iload_n hx hb dL_keep_3 rfl (lv_at hl 1 rfl) ?_
  refine mu_Vx (ci := 4) (q0 := 0) (As := [.int 1]) (rest := [.int 0, .ref o9]) ⟨hx, hb, hml, hown, hts⟩ (c_X4_keep1 l D cA _ Ad (fun _ => initS) 0 0 (fun _ => 0, fun _ => 0, 0, 0, 0) (fun _ => 0, fun _ => 0) (Or.inr rfl)  (va_P_l hP) (va_D_l hD)) (cwV 1 hts gL_keep_X4_keep rfl rfl rfl (by decide +kernel) ⟨Nat.le_of_ble_eq_true rfl, Nat.le_of_ble_eq_true rfl⟩) hKN hP hD hS hA (lw_fP 10 (by decide) (va_P_l hP)) rfl rfl (all_fst _ _ _ _) rfl hl.1 rfl (lv_room (Nat.le_of_ble_eq_true rfl)) dL_keep_4 ⟨Nat.zero_le _, Nat.zero_le _⟩ (fun H locs hP hD hS => ?_)
  refine lz_top (v := 0) pv_keep ?_
  refine lv_i2l (v := (i2lF 0)) hx hb dL_keep_7 rfl ?_
  refine lz_last (k := 0) (f := fun _ => 0) hx hb hK hP hD hS 0 3 rfl rfl ⟨by decide, by decide⟩ dL_keep_8 (fun H locs hP hD hS => ?_)
  refine lv_goto (tgt := 15) hx hb dL_keep_9 (by decide) ?_
  refine lv_iconst (v := 0) hx hb dL_keep_15 (by decide) ?_
  exact lh_iret hx hb hr hlocks dL_keep_16 hP hS (Nat.le_of_ble_eq_true rfl) (Nat.le_of_ble_eq_true rfl) rfl
theorem mL_keep_cw : Cond.codeWith yL_keep cL_keep 4 (some .int) [(0, 9, 12, 18)] ∈ wsL_keep := by decide +kernel
theorem mL_keep_cl18 : Cond.classLink RL 18 "java/lang/IllegalArgumentException" ∈ wsL_keep := by decide +kernel
set_option maxHeartbeats 4000000 in
set_option maxRecDepth 100000 in
theorem h_keep_x1 (l : Launch) (hl0 : l.stackTraces = false) (D : va_G) (cA : Nat → ClassId) (H : Heap) (Ad : Nat → Nat → Nat) (o9 : Nat) (x : Int32) (hx0 : inF x 0 1 = 0) (hP0 : va_P D vwCl (all cA Ad L0 ++ oW cA o9 (fun _ => 0)) H) (hD0 : va_D (fun _ => True) (all cA Ad L0 ++ oW cA o9 (fun _ => 0))) : LH l yL_keep wsL_keep ({ frames := 7, cells := 1, slots := 6, locals := 103 } : Room) D cA [.ref (Ad 10 0), .int x, .ref o9] H (va_A (all cA Ad L0 ++ oW cA o9 (fun _ => 0)) H.size) o9 1 (fun _ => 0) := by
  refine vx_ofWH (cc := cL_keep) (maxL := 4) (ret := some .int) (hh := [(0, 9, 12, 18)]) (by decide) rfl ?_
  intro p e s m args below meth c s₁ B hml hv
  obtain ⟨rfl, hH, hKN, hKY, hXZ⟩ := hv
  have hK := hKN.1
  have hx := B.exec
  have hb := B.bytes
  have hr := B.returns
  have hts := atoms_spec (ws := wsL_keep) B.pre
  have hown : s.vm.findClass RL = some m.cls := findClass_of_methodNamed B.named
  have hlocks := B.notSynchronized
  subst hH
  have hD := hD0.self (sz := s.heap.size)
  generalize hAe : va_A (all cA Ad L0 ++ oW cA o9 (fun _ => 0)) s.heap.size = A at hD hXZ ⊢
  have hA : ∀ q : Nat, s.heap.size ≤ q → A q := fun q h => by rw [← hAe]; exact Or.inr h
  have hS : va_S A s.heap s.heap [] := va_S.rf
  have hP : va_P D vwCl (all cA Ad L0 ++ oW cA o9 (fun _ => 0)) s.heap := hP0
  have hl := lv_entry ([.ref (Ad 10 0), .int x, .ref o9] : List Value) (n := 4) (Nat.le_of_ble_eq_true rfl)
  rw [lg_entry_eq]
  generalize (lg_sl ([.ref (Ad 10 0), .int x, .ref o9] : List Value) ++ List.replicate (4 - (lg_sl ([.ref (Ad 10 0), .int x, .ref o9] : List Value)).length) Slot.unset).toArray = ls at hl ⊢
  have hl : lv_has ls 4 [(0, .ref (Ad 10 0)), (1, .int x), (2, .ref o9)] := hl
  refine lv_aload_n hx hb dL_keep_0 rfl (lv_at hl 2 rfl) ?_
  refine lv_iconst (v := 0) hx hb dL_keep_1 (by decide) ?_
  refine lv_aload_n hx hb dL_keep_2 rfl (lv_at hl 0 rfl) ?_
  refine lv_iload_n hx hb dL_keep_3 rfl (lv_at hl 1 rfl) ?_
  have hPo : va_P D vwCl (oW cA o9 (fun _ => 0)) s.heap := va_P_r hP
  refine xt_V (ci := 4) (q0 := 0) (As := [.int x]) (rest := [.int 0, .ref o9]) (cls := "java/lang/IllegalArgumentException") ⟨hx, hb, hml, hown, hts⟩ (x_keep l hl0 D cA _ (Ad 10 0) x hx0) (cwV 1 hts gL_keep_X4_keep rfl rfl rfl (by decide +kernel) ⟨Nat.le_of_ble_eq_true rfl, Nat.le_of_ble_eq_true rfl⟩) hKN hKY.1 (hXZ.narrow (fun _ h => h.elim)) hS hA (lw_fP 10 (by decide) (va_P_l hP)) rfl rfl rfl hl.1 rfl (lv_room (Nat.le_of_ble_eq_true rfl)) dL_keep_4 ⟨Nat.le_of_ble_eq_true rfl, Nat.le_of_ble_eq_true rfl⟩ (fun ce q9 H locs hk9 hS hce hcv hcl => ?_)
  have hP : va_P D vwCl (oW cA o9 (fun _ => 0)) H := fun k q hq => (hPo k q hq).kept (hk9 q.1 (hPo k q hq).lt)
  refine vx_catch (own := RL) (name := "java/lang/IllegalArgumentException") (E := "java/lang/IllegalArgumentException") (ce := ce) (q := q9) hown [] ⟨0, 9, 12, 18⟩ [] ((vx_table (x := yL_law) B (hts _ mL_keep_cw)).trans rfl) (fun z hz => nomatch hz) (by decide) (by decide) (hts _ mL_keep_cl18) (hKY.1.use _ (by decide)) hce hcv hcl ?_
  refine lv_astore_n (lv' := [(3, .ref q9), (0, .ref (Ad 10 0)), (1, .int x), (2, .ref o9)]) hx hb dL_keep_12 rfl hl (by decide) rfl (fun ls hl => ?_)
  refine lv_iconst (v := 1) hx hb dL_keep_13 (by decide) ?_
  exact lh_iret hx hb hr hlocks dL_keep_14 hP hS (Nat.le_of_ble_eq_true rfl) (Nat.le_of_ble_eq_true rfl) rfl
theorem mL_goBack_cw : Cond.codeWith yL_goBack cL_goBack 4 (some .int) [(0, 9, 12, 18), (0, 9, 15, 39)] ∈ wsL_goBack := by decide +kernel
theorem mL_goBack_cl39 : Cond.classLink RL 39 "java/lang/IllegalStateException" ∈ wsL_goBack := by decide +kernel
theorem mL_goBack_cl18 : Cond.classLink RL 18 "java/lang/IllegalArgumentException" ∈ wsL_goBack := by decide +kernel
set_option maxHeartbeats 4000000 in
set_option maxRecDepth 100000 in
theorem h_goBack_v0 (l : Launch) (hl0 : l.stackTraces = false) (D : va_G) (cA : Nat → ClassId) (H : Heap) (Ad : Nat → Nat → Nat) (o9 : Nat) (hP0 : va_P D vwCl (all cA Ad L0 ++ oW cA o9 (fun _ => 0)) H) (hD0 : va_D (fun _ => True) (all cA Ad L0 ++ oW cA o9 (fun _ => 0))) : LH l yL_goBack wsL_goBack ({ frames := 7, cells := 1, slots := 6, locals := 103 } : Room) D cA [.ref (Ad 10 0), .int 0, .ref o9] H (va_A (all cA Ad L0 ++ oW cA o9 (fun _ => 0)) H.size) o9 2 (fun _ => 0) := by
  refine vx_ofWH (cc := cL_goBack) (maxL := 4) (ret := some .int) (hh := [(0, 9, 12, 18), (0, 9, 15, 39)]) (by decide) rfl ?_
  intro p e s m args below meth c s₁ B hml hv
  obtain ⟨rfl, hH, hKN, hKY, hXZ⟩ := hv
  have hK := hKN.1
  have hx := B.exec
  have hb := B.bytes
  have hr := B.returns
  have hts := atoms_spec (ws := wsL_goBack) B.pre
  have hown : s.vm.findClass RL = some m.cls := findClass_of_methodNamed B.named
  have hlocks := B.notSynchronized
  subst hH
  have hD := hD0.self (sz := s.heap.size)
  generalize hAe : va_A (all cA Ad L0 ++ oW cA o9 (fun _ => 0)) s.heap.size = A at hD hXZ ⊢
  have hA : ∀ q : Nat, s.heap.size ≤ q → A q := fun q h => by rw [← hAe]; exact Or.inr h
  have hS : va_S A s.heap s.heap [] := va_S.rf
  have hP : va_P D vwCl (all cA Ad L0 ++ oW cA o9 (fun _ => 0)) s.heap := hP0
  have hl := lv_entry ([.ref (Ad 10 0), .int 0, .ref o9] : List Value) (n := 4) (Nat.le_of_ble_eq_true rfl)
  rw [lg_entry_eq]
  generalize (lg_sl ([.ref (Ad 10 0), .int 0, .ref o9] : List Value) ++ List.replicate (4 - (lg_sl ([.ref (Ad 10 0), .int 0, .ref o9] : List Value)).length) Slot.unset).toArray = ls at hl ⊢
  have hl : lv_has ls 4 [(0, .ref (Ad 10 0)), (1, .int 0), (2, .ref o9)] := hl
  refine lv_aload_n hx hb dL_goBack_0 rfl (lv_at hl 2 rfl) ?_
  refine lv_iconst (v := 0) hx hb dL_goBack_1 (by decide) ?_
  refine lv_aload_n hx hb dL_goBack_2 rfl (lv_at hl 0 rfl) ?_
  refine lv_iload_n hx hb dL_goBack_3 rfl (lv_at hl 1 rfl) ?_
  have hPo : va_P D vwCl (oW cA o9 (fun _ => 0)) s.heap := va_P_r hP
  refine xt_V (ci := 4) (q0 := 0) (As := [.int 0]) (rest := [.int 0, .ref o9]) (cls := "java/lang/IllegalStateException") ⟨hx, hb, hml, hown, hts⟩ (x_goBack2 l hl0 D cA _ Ad (fun _ => initS) 0 0 (fun _ => 0, fun _ => 0, 0, 0, 0) (fun _ => 0, fun _ => 0) rfl (va_P_l hP)) (cwV 1 hts gL_goBack_X4_goBack rfl rfl rfl (by decide +kernel) ⟨Nat.le_of_ble_eq_true rfl, Nat.le_of_ble_eq_true rfl⟩) hKN hKY.1 (hXZ.narrow (fun _ h => h.elim)) hS hA (lw_fP 10 (by decide) (va_P_l hP)) rfl rfl rfl hl.1 rfl (lv_room (Nat.le_of_ble_eq_true rfl)) dL_goBack_4 ⟨Nat.le_of_ble_eq_true rfl, Nat.le_of_ble_eq_true rfl⟩ (fun ce q9 H locs hk9 hS hce hcv hcl => ?_)
  have hP : va_P D vwCl (oW cA o9 (fun _ => 0)) H := fun k q hq => (hPo k q hq).kept (hk9 q.1 (hPo k q hq).lt)
  refine vx_catch (own := RL) (name := "java/lang/IllegalStateException") (E := "java/lang/IllegalStateException") (ce := ce) (q := q9) hown [⟨0, 9, 12, 18⟩] ⟨0, 9, 15, 39⟩ [] ((vx_table (x := yL_law) B (hts _ mL_goBack_cw)).trans rfl) (fun z hz => by rcases List.mem_singleton.mp hz with rfl; exact Or.inr ⟨by decide, "java/lang/IllegalArgumentException", hts _ mL_goBack_cl18, hKY.2.2⟩) (by decide) (by decide) (hts _ mL_goBack_cl39) (hKY.1.use _ (by decide)) hce hcv hcl ?_
  refine lv_astore_n (lv' := [(3, .ref q9), (0, .ref (Ad 10 0)), (1, .int 0), (2, .ref o9)]) hx hb dL_goBack_15 rfl hl (by decide) rfl (fun ls hl => ?_)
  refine lv_iconst (v := 2) hx hb dL_goBack_16 (by decide) ?_
  exact lh_iret hx hb hr hlocks dL_goBack_17 hP hS (Nat.le_of_ble_eq_true rfl) (Nat.le_of_ble_eq_true rfl) rfl
set_option maxHeartbeats 4000000 in
set_option maxRecDepth 100000 in
theorem h_goBack_v1 (l : Launch) (hl0 : l.stackTraces = false) (D : va_G) (cA : Nat → ClassId) (H : Heap) (Ad : Nat → Nat → Nat) (o9 : Nat) (hP0 : va_P D vwCl (all cA Ad L0 ++ oW cA o9 (fun _ => 0)) H) (hD0 : va_D (fun _ => True) (all cA Ad L0 ++ oW cA o9 (fun _ => 0))) : LH l yL_goBack wsL_goBack ({ frames := 7, cells := 1, slots := 6, locals := 103 } : Room) D cA [.ref (Ad 10 0), .int 1, .ref o9] H (va_A (all cA Ad L0 ++ oW cA o9 (fun _ => 0)) H.size) o9 2 (fun _ => 0) := by
  refine vx_ofWH (cc := cL_goBack) (maxL := 4) (ret := some .int) (hh := [(0, 9, 12, 18), (0, 9, 15, 39)]) (by decide) rfl ?_
  intro p e s m args below meth c s₁ B hml hv
  obtain ⟨rfl, hH, hKN, hKY, hXZ⟩ := hv
  have hK := hKN.1
  have hx := B.exec
  have hb := B.bytes
  have hr := B.returns
  have hts := atoms_spec (ws := wsL_goBack) B.pre
  have hown : s.vm.findClass RL = some m.cls := findClass_of_methodNamed B.named
  have hlocks := B.notSynchronized
  subst hH
  have hD := hD0.self (sz := s.heap.size)
  generalize hAe : va_A (all cA Ad L0 ++ oW cA o9 (fun _ => 0)) s.heap.size = A at hD hXZ ⊢
  have hA : ∀ q : Nat, s.heap.size ≤ q → A q := fun q h => by rw [← hAe]; exact Or.inr h
  have hS : va_S A s.heap s.heap [] := va_S.rf
  have hP : va_P D vwCl (all cA Ad L0 ++ oW cA o9 (fun _ => 0)) s.heap := hP0
  have hl := lv_entry ([.ref (Ad 10 0), .int 1, .ref o9] : List Value) (n := 4) (Nat.le_of_ble_eq_true rfl)
  rw [lg_entry_eq]
  generalize (lg_sl ([.ref (Ad 10 0), .int 1, .ref o9] : List Value) ++ List.replicate (4 - (lg_sl ([.ref (Ad 10 0), .int 1, .ref o9] : List Value)).length) Slot.unset).toArray = ls at hl ⊢
  have hl : lv_has ls 4 [(0, .ref (Ad 10 0)), (1, .int 1), (2, .ref o9)] := hl
  refine lv_aload_n hx hb dL_goBack_0 rfl (lv_at hl 2 rfl) ?_
  refine lv_iconst (v := 0) hx hb dL_goBack_1 (by decide) ?_
  refine lv_aload_n hx hb dL_goBack_2 rfl (lv_at hl 0 rfl) ?_
  refine lv_iload_n hx hb dL_goBack_3 rfl (lv_at hl 1 rfl) ?_
  have hPo : va_P D vwCl (oW cA o9 (fun _ => 0)) s.heap := va_P_r hP
  refine xt_V (ci := 4) (q0 := 0) (As := [.int 1]) (rest := [.int 0, .ref o9]) (cls := "java/lang/IllegalStateException") ⟨hx, hb, hml, hown, hts⟩ (x_goBack3 l hl0 D cA _ Ad (fun _ => initS) 0 0 (fun _ => 0, fun _ => 0, 0, 0, 0) (fun _ => 0, fun _ => 0) rfl (va_P_l hP)) (cwV 1 hts gL_goBack_X4_goBack rfl rfl rfl (by decide +kernel) ⟨Nat.le_of_ble_eq_true rfl, Nat.le_of_ble_eq_true rfl⟩) hKN hKY.1 (hXZ.narrow (fun _ h => h.elim)) hS hA (lw_fP 10 (by decide) (va_P_l hP)) rfl rfl rfl hl.1 rfl (lv_room (Nat.le_of_ble_eq_true rfl)) dL_goBack_4 ⟨Nat.le_of_ble_eq_true rfl, Nat.le_of_ble_eq_true rfl⟩ (fun ce q9 H locs hk9 hS hce hcv hcl => ?_)
  have hP : va_P D vwCl (oW cA o9 (fun _ => 0)) H := fun k q hq => (hPo k q hq).kept (hk9 q.1 (hPo k q hq).lt)
  refine vx_catch (own := RL) (name := "java/lang/IllegalStateException") (E := "java/lang/IllegalStateException") (ce := ce) (q := q9) hown [⟨0, 9, 12, 18⟩] ⟨0, 9, 15, 39⟩ [] ((vx_table (x := yL_law) B (hts _ mL_goBack_cw)).trans rfl) (fun z hz => by rcases List.mem_singleton.mp hz with rfl; exact Or.inr ⟨by decide, "java/lang/IllegalArgumentException", hts _ mL_goBack_cl18, hKY.2.2⟩) (by decide) (by decide) (hts _ mL_goBack_cl39) (hKY.1.use _ (by decide)) hce hcv hcl ?_
  refine lv_astore_n (lv' := [(3, .ref q9), (0, .ref (Ad 10 0)), (1, .int 1), (2, .ref o9)]) hx hb dL_goBack_15 rfl hl (by decide) rfl (fun ls hl => ?_)
  refine lv_iconst (v := 2) hx hb dL_goBack_16 (by decide) ?_
  exact lh_iret hx hb hr hlocks dL_goBack_17 hP hS (Nat.le_of_ble_eq_true rfl) (Nat.le_of_ble_eq_true rfl) rfl
set_option maxHeartbeats 4000000 in
set_option maxRecDepth 100000 in
theorem h_goBack_x1 (l : Launch) (hl0 : l.stackTraces = false) (D : va_G) (cA : Nat → ClassId) (H : Heap) (Ad : Nat → Nat → Nat) (o9 : Nat) (x : Int32) (hx0 : inF x 0 1 = 0) (hP0 : va_P D vwCl (all cA Ad L0 ++ oW cA o9 (fun _ => 0)) H) (hD0 : va_D (fun _ => True) (all cA Ad L0 ++ oW cA o9 (fun _ => 0))) : LH l yL_goBack wsL_goBack ({ frames := 7, cells := 1, slots := 6, locals := 103 } : Room) D cA [.ref (Ad 10 0), .int x, .ref o9] H (va_A (all cA Ad L0 ++ oW cA o9 (fun _ => 0)) H.size) o9 1 (fun _ => 0) := by
  refine vx_ofWH (cc := cL_goBack) (maxL := 4) (ret := some .int) (hh := [(0, 9, 12, 18), (0, 9, 15, 39)]) (by decide) rfl ?_
  intro p e s m args below meth c s₁ B hml hv
  obtain ⟨rfl, hH, hKN, hKY, hXZ⟩ := hv
  have hK := hKN.1
  have hx := B.exec
  have hb := B.bytes
  have hr := B.returns
  have hts := atoms_spec (ws := wsL_goBack) B.pre
  have hown : s.vm.findClass RL = some m.cls := findClass_of_methodNamed B.named
  have hlocks := B.notSynchronized
  subst hH
  have hD := hD0.self (sz := s.heap.size)
  generalize hAe : va_A (all cA Ad L0 ++ oW cA o9 (fun _ => 0)) s.heap.size = A at hD hXZ ⊢
  have hA : ∀ q : Nat, s.heap.size ≤ q → A q := fun q h => by rw [← hAe]; exact Or.inr h
  have hS : va_S A s.heap s.heap [] := va_S.rf
  have hP : va_P D vwCl (all cA Ad L0 ++ oW cA o9 (fun _ => 0)) s.heap := hP0
  have hl := lv_entry ([.ref (Ad 10 0), .int x, .ref o9] : List Value) (n := 4) (Nat.le_of_ble_eq_true rfl)
  rw [lg_entry_eq]
  generalize (lg_sl ([.ref (Ad 10 0), .int x, .ref o9] : List Value) ++ List.replicate (4 - (lg_sl ([.ref (Ad 10 0), .int x, .ref o9] : List Value)).length) Slot.unset).toArray = ls at hl ⊢
  have hl : lv_has ls 4 [(0, .ref (Ad 10 0)), (1, .int x), (2, .ref o9)] := hl
  refine lv_aload_n hx hb dL_goBack_0 rfl (lv_at hl 2 rfl) ?_
  refine lv_iconst (v := 0) hx hb dL_goBack_1 (by decide) ?_
  refine lv_aload_n hx hb dL_goBack_2 rfl (lv_at hl 0 rfl) ?_
  refine lv_iload_n hx hb dL_goBack_3 rfl (lv_at hl 1 rfl) ?_
  have hPo : va_P D vwCl (oW cA o9 (fun _ => 0)) s.heap := va_P_r hP
  refine xt_V (ci := 4) (q0 := 0) (As := [.int x]) (rest := [.int 0, .ref o9]) (cls := "java/lang/IllegalArgumentException") ⟨hx, hb, hml, hown, hts⟩ (x_goBack l hl0 D cA _ (Ad 10 0) x hx0) (cwV 1 hts gL_goBack_X4_goBack rfl rfl rfl (by decide +kernel) ⟨Nat.le_of_ble_eq_true rfl, Nat.le_of_ble_eq_true rfl⟩) hKN hKY.1 (hXZ.narrow (fun _ h => h.elim)) hS hA (lw_fP 10 (by decide) (va_P_l hP)) rfl rfl rfl hl.1 rfl (lv_room (Nat.le_of_ble_eq_true rfl)) dL_goBack_4 ⟨Nat.le_of_ble_eq_true rfl, Nat.le_of_ble_eq_true rfl⟩ (fun ce q9 H locs hk9 hS hce hcv hcl => ?_)
  have hP : va_P D vwCl (oW cA o9 (fun _ => 0)) H := fun k q hq => (hPo k q hq).kept (hk9 q.1 (hPo k q hq).lt)
  refine vx_catch (own := RL) (name := "java/lang/IllegalArgumentException") (E := "java/lang/IllegalArgumentException") (ce := ce) (q := q9) hown [] ⟨0, 9, 12, 18⟩ [⟨0, 9, 15, 39⟩] ((vx_table (x := yL_law) B (hts _ mL_goBack_cw)).trans rfl) (fun z hz => nomatch hz) (by decide) (by decide) (hts _ mL_goBack_cl18) (hKY.1.use _ (by decide)) hce hcv hcl ?_
  refine lv_astore_n (lv' := [(3, .ref q9), (0, .ref (Ad 10 0)), (1, .int x), (2, .ref o9)]) hx hb dL_goBack_12 rfl hl (by decide) rfl (fun ls hl => ?_)
  refine lv_iconst (v := 1) hx hb dL_goBack_13 (by decide) ?_
  exact lh_iret hx hb hr hlocks dL_goBack_14 hP hS (Nat.le_of_ble_eq_true rfl) (Nat.le_of_ble_eq_true rfl) rfl
theorem mL_undo_cw : Cond.codeWith yL_undo cL_undo 3 (some .int) [(0, 8, 11, 39)] ∈ wsL_undo := by decide +kernel
theorem mL_undo_cl39 : Cond.classLink RL 39 "java/lang/IllegalStateException" ∈ wsL_undo := by decide +kernel
set_option maxHeartbeats 4000000 in
set_option maxRecDepth 100000 in
theorem h_undo_v (l : Launch) (hl0 : l.stackTraces = false) (D : va_G) (cA : Nat → ClassId) (H : Heap) (Ad : Nat → Nat → Nat) (o9 : Nat) (hP0 : va_P D vwCl (all cA Ad L0 ++ oW cA o9 (fun _ => 0)) H) (hD0 : va_D (fun _ => True) (all cA Ad L0 ++ oW cA o9 (fun _ => 0))) : LH l yL_undo wsL_undo ({ frames := 7, cells := 1, slots := 6, locals := 102 } : Room) D cA [.ref (Ad 10 0), .ref o9] H (va_A (all cA Ad L0 ++ oW cA o9 (fun _ => 0)) H.size) o9 1 (fun _ => 0) := by
  refine vx_ofWH (cc := cL_undo) (maxL := 3) (ret := some .int) (hh := [(0, 8, 11, 39)]) (by decide) rfl ?_
  intro p e s m args below meth c s₁ B hml hv
  obtain ⟨rfl, hH, hKN, hKY, hXZ⟩ := hv
  have hK := hKN.1
  have hx := B.exec
  have hb := B.bytes
  have hr := B.returns
  have hts := atoms_spec (ws := wsL_undo) B.pre
  have hown : s.vm.findClass RL = some m.cls := findClass_of_methodNamed B.named
  have hlocks := B.notSynchronized
  subst hH
  have hD := hD0.self (sz := s.heap.size)
  generalize hAe : va_A (all cA Ad L0 ++ oW cA o9 (fun _ => 0)) s.heap.size = A at hD hXZ ⊢
  have hA : ∀ q : Nat, s.heap.size ≤ q → A q := fun q h => by rw [← hAe]; exact Or.inr h
  have hS : va_S A s.heap s.heap [] := va_S.rf
  have hP : va_P D vwCl (all cA Ad L0 ++ oW cA o9 (fun _ => 0)) s.heap := hP0
  have hl := lv_entry ([.ref (Ad 10 0), .ref o9] : List Value) (n := 3) (Nat.le_of_ble_eq_true rfl)
  rw [lg_entry_eq]
  generalize (lg_sl ([.ref (Ad 10 0), .ref o9] : List Value) ++ List.replicate (3 - (lg_sl ([.ref (Ad 10 0), .ref o9] : List Value)).length) Slot.unset).toArray = ls at hl ⊢
  have hl : lv_has ls 3 [(0, .ref (Ad 10 0)), (1, .ref o9)] := hl
  refine lv_aload_n hx hb dL_undo_0 rfl (lv_at hl 1 rfl) ?_
  refine lv_iconst (v := 0) hx hb dL_undo_1 (by decide) ?_
  refine lv_aload_n hx hb dL_undo_2 rfl (lv_at hl 0 rfl) ?_
  have hPo : va_P D vwCl (oW cA o9 (fun _ => 0)) s.heap := va_P_r hP
  refine xt_V (ci := 4) (q0 := 0) (As := []) (rest := [.int 0, .ref o9]) (cls := "java/lang/IllegalStateException") ⟨hx, hb, hml, hown, hts⟩ (x_undo l hl0 D cA _ Ad (fun _ => initS) 0 (fun _ => 0, fun _ => 0, 0, 0, 0) (fun _ => 0, fun _ => 0) (va_P_l hP)) (cwV 0 hts gL_undo_X4_undo rfl rfl rfl (by decide +kernel) ⟨Nat.le_of_ble_eq_true rfl, Nat.le_of_ble_eq_true rfl⟩) hKN hKY.1 (hXZ.narrow (fun _ h => h.elim)) hS hA (lw_fP 10 (by decide) (va_P_l hP)) rfl rfl rfl hl.1 rfl (lv_room (Nat.le_of_ble_eq_true rfl)) dL_undo_3 ⟨Nat.le_of_ble_eq_true rfl, Nat.le_of_ble_eq_true rfl⟩ (fun ce q9 H locs hk9 hS hce hcv hcl => ?_)
  have hP : va_P D vwCl (oW cA o9 (fun _ => 0)) H := fun k q hq => (hPo k q hq).kept (hk9 q.1 (hPo k q hq).lt)
  refine vx_catch (own := RL) (name := "java/lang/IllegalStateException") (E := "java/lang/IllegalStateException") (ce := ce) (q := q9) hown [] ⟨0, 8, 11, 39⟩ [] ((vx_table (x := yL_law) B (hts _ mL_undo_cw)).trans rfl) (fun z hz => nomatch hz) (by decide) (by decide) (hts _ mL_undo_cl39) (hKY.1.use _ (by decide)) hce hcv hcl ?_
  refine lv_astore_n (lv' := [(2, .ref q9), (0, .ref (Ad 10 0)), (1, .ref o9)]) hx hb dL_undo_11 rfl hl (by decide) rfl (fun ls hl => ?_)
  refine lv_iconst (v := 1) hx hb dL_undo_12 (by decide) ?_
  exact lh_iret hx hb hr hlocks dL_undo_13 hP hS (Nat.le_of_ble_eq_true rfl) (Nat.le_of_ble_eq_true rfl) rfl
set_option maxHeartbeats 4000000 in
set_option maxRecDepth 100000 in
theorem h_threadOf_v (l : Launch) (hl0 : l.stackTraces = false) (D : va_G) (cA : Nat → ClassId) (H : Heap) (Ad : Nat → Nat → Nat) (o9 : Nat) (t : Nat) (ht : t < 16) (w : Nat) (hw : w < 8) (hP0 : va_P D vwCl (all cA Ad L0 ++ oW cA o9 (fun _ => 0)) H) (hD0 : va_D (fun _ => True) (all cA Ad L0 ++ oW cA o9 (fun _ => 0))) : LH l yL_threadOf wsL_threadOf ({ frames := 7, cells := 1, slots := 6, locals := 116 } : Room) D cA [.ref (Ad 10 0), .int (nI t), .int (nI w), .ref o9] H (va_A (all cA Ad L0 ++ oW cA o9 (fun _ => 0)) H.size) o9 0 (vp_updL (fun _ => 0) 0 (i2lF 0)) := by
  refine vx_ofWH (cc := cL_threadOf) (maxL := 5) (ret := some .int) (hh := [(0, 10, 13, 13), (0, 10, 17, 18)]) (by decide) rfl ?_
  intro p e s m args below meth c s₁ B hml hv
  obtain ⟨rfl, hH, hKN, hKY, hXZ⟩ := hv
  have hK := hKN.1
  have hx := B.exec
  have hb := B.bytes
  have hr := B.returns
  have hts := atoms_spec (ws := wsL_threadOf) B.pre
  have hown : s.vm.findClass RL = some m.cls := findClass_of_methodNamed B.named
  have hlocks := B.notSynchronized
  subst hH
  have hD := hD0.self (sz := s.heap.size)
  generalize hAe : va_A (all cA Ad L0 ++ oW cA o9 (fun _ => 0)) s.heap.size = A at hD hXZ ⊢
  have hA : ∀ q : Nat, s.heap.size ≤ q → A q := fun q h => by rw [← hAe]; exact Or.inr h
  have hS : va_S A s.heap s.heap [] := va_S.rf
  have hP : va_P D vwCl (all cA Ad L0 ++ oW cA o9 (fun _ => 0)) s.heap := hP0
  have hl := lv_entry ([.ref (Ad 10 0), .int (nI t), .int (nI w), .ref o9] : List Value) (n := 5) (Nat.le_of_ble_eq_true rfl)
  rw [lg_entry_eq]
  generalize (lg_sl ([.ref (Ad 10 0), .int (nI t), .int (nI w), .ref o9] : List Value) ++ List.replicate (5 - (lg_sl ([.ref (Ad 10 0), .int (nI t), .int (nI w), .ref o9] : List Value)).length) Slot.unset).toArray = ls at hl ⊢
  have hl : lv_has ls 5 [(0, .ref (Ad 10 0)), (1, .int (nI t)), (2, .int (nI w)), (3, .ref o9)] := hl
  refine lv_aload_n hx hb dL_threadOf_0 rfl (lv_at hl 3 rfl) ?_
  refine lv_iconst (v := 0) hx hb dL_threadOf_1 (by decide) ?_
  refine lv_aload_n hx hb dL_threadOf_2 rfl (lv_at hl 0 rfl) ?_
  refine lv_iload_n hx hb dL_threadOf_3 rfl (lv_at hl 1 rfl) ?_
  refine lv_iload_n hx hb dL_threadOf_4 rfl (lv_at hl 2 rfl) ?_
  refine ro_V (ci := 4) (q0 := 0) (As := [.int (nI t), .int (nI w)]) (rest := [.int 0, .ref o9]) ⟨hx, hb, hml, hown, hts⟩ (c_X4_threadOf l D cA _ Ad (fun _ => initS) 0 0 (fun _ => 0, fun _ => 0, 0, 0, 0) (fun _ => 0, fun _ => 0) t ht w hw (va_P_l hP)) (cwV 2 hts gL_threadOf_X4_threadOf rfl rfl rfl (by decide +kernel) ⟨Nat.le_of_ble_eq_true rfl, Nat.le_of_ble_eq_true rfl⟩) hKN (lw_fP 10 (by decide) (va_P_l hP)) rfl rfl rfl hl.1 rfl (lv_room (Nat.le_of_ble_eq_true rfl)) dL_threadOf_5 ⟨Nat.zero_le _, Nat.zero_le _⟩ ?_
  have hP : va_P D vwCl (oW cA o9 (fun _ => 0)) s.heap := va_P_r hP
  have hD : va_D A (oW cA o9 (fun _ => 0)) := va_D_r hD
  refine lz_top (v := 0) (pv_threadOf t ht w hw) ?_
  refine lv_i2l (v := (i2lF 0)) hx hb dL_threadOf_8 rfl ?_
  refine lz_last (k := 0) (f := fun _ => 0) hx hb hK hP hD hS 0 3 rfl rfl ⟨by decide, by decide⟩ dL_threadOf_9 (fun H locs hP hD hS => ?_)
  refine lv_goto (tgt := 21) hx hb dL_threadOf_10 (by decide) ?_
  refine lv_iconst (v := 0) hx hb dL_threadOf_21 (by decide) ?_
  exact lh_iret hx hb hr hlocks dL_threadOf_22 hP hS (Nat.le_of_ble_eq_true rfl) (Nat.le_of_ble_eq_true rfl) rfl
theorem mL_threadOf_cw : Cond.codeWith yL_threadOf cL_threadOf 5 (some .int) [(0, 10, 13, 13), (0, 10, 17, 18)] ∈ wsL_threadOf := by decide +kernel
theorem mL_threadOf_cl13 : Cond.classLink RL 13 "java/lang/IndexOutOfBoundsException" ∈ wsL_threadOf := by decide +kernel
set_option maxHeartbeats 4000000 in
set_option maxRecDepth 100000 in
theorem h_threadOf_x1 (l : Launch) (hl0 : l.stackTraces = false) (D : va_G) (cA : Nat → ClassId) (H : Heap) (Ad : Nat → Nat → Nat) (o9 : Nat) (y : Int32) (x : Int32) (hx0 : inF x 0 15 = 0) (hP0 : va_P D vwCl (all cA Ad L0 ++ oW cA o9 (fun _ => 0)) H) (hD0 : va_D (fun _ => True) (all cA Ad L0 ++ oW cA o9 (fun _ => 0))) : LH l yL_threadOf wsL_threadOf ({ frames := 7, cells := 1, slots := 6, locals := 116 } : Room) D cA [.ref (Ad 10 0), .int x, .int y, .ref o9] H (va_A (all cA Ad L0 ++ oW cA o9 (fun _ => 0)) H.size) o9 1 (fun _ => 0) := by
  refine vx_ofWH (cc := cL_threadOf) (maxL := 5) (ret := some .int) (hh := [(0, 10, 13, 13), (0, 10, 17, 18)]) (by decide) rfl ?_
  intro p e s m args below meth c s₁ B hml hv
  obtain ⟨rfl, hH, hKN, hKY, hXZ⟩ := hv
  have hK := hKN.1
  have hx := B.exec
  have hb := B.bytes
  have hr := B.returns
  have hts := atoms_spec (ws := wsL_threadOf) B.pre
  have hown : s.vm.findClass RL = some m.cls := findClass_of_methodNamed B.named
  have hlocks := B.notSynchronized
  subst hH
  have hD := hD0.self (sz := s.heap.size)
  generalize hAe : va_A (all cA Ad L0 ++ oW cA o9 (fun _ => 0)) s.heap.size = A at hD hXZ ⊢
  have hA : ∀ q : Nat, s.heap.size ≤ q → A q := fun q h => by rw [← hAe]; exact Or.inr h
  have hS : va_S A s.heap s.heap [] := va_S.rf
  have hP : va_P D vwCl (all cA Ad L0 ++ oW cA o9 (fun _ => 0)) s.heap := hP0
  have hl := lv_entry ([.ref (Ad 10 0), .int x, .int y, .ref o9] : List Value) (n := 5) (Nat.le_of_ble_eq_true rfl)
  rw [lg_entry_eq]
  generalize (lg_sl ([.ref (Ad 10 0), .int x, .int y, .ref o9] : List Value) ++ List.replicate (5 - (lg_sl ([.ref (Ad 10 0), .int x, .int y, .ref o9] : List Value)).length) Slot.unset).toArray = ls at hl ⊢
  have hl : lv_has ls 5 [(0, .ref (Ad 10 0)), (1, .int x), (2, .int y), (3, .ref o9)] := hl
  refine lv_aload_n hx hb dL_threadOf_0 rfl (lv_at hl 3 rfl) ?_
  refine lv_iconst (v := 0) hx hb dL_threadOf_1 (by decide) ?_
  refine lv_aload_n hx hb dL_threadOf_2 rfl (lv_at hl 0 rfl) ?_
  refine lv_iload_n hx hb dL_threadOf_3 rfl (lv_at hl 1 rfl) ?_
  refine lv_iload_n hx hb dL_threadOf_4 rfl (lv_at hl 2 rfl) ?_
  have hPo : va_P D vwCl (oW cA o9 (fun _ => 0)) s.heap := va_P_r hP
  refine xt_V (ci := 4) (q0 := 0) (As := [.int x, .int y]) (rest := [.int 0, .ref o9]) (cls := "java/lang/IndexOutOfBoundsException") ⟨hx, hb, hml, hown, hts⟩ (x_threadOf1 l hl0 D cA _ (Ad 10 0) y x hx0) (cwV 2 hts gL_threadOf_X4_threadOf rfl rfl rfl (by decide +kernel) ⟨Nat.le_of_ble_eq_true rfl, Nat.le_of_ble_eq_true rfl⟩) hKN hKY.1 (hXZ.narrow (fun _ h => h.elim)) hS hA (lw_fP 10 (by decide) (va_P_l hP)) rfl rfl rfl hl.1 rfl (lv_room (Nat.le_of_ble_eq_true rfl)) dL_threadOf_5 ⟨Nat.le_of_ble_eq_true rfl, Nat.le_of_ble_eq_true rfl⟩ (fun ce q9 H locs hk9 hS hce hcv hcl => ?_)
  have hP : va_P D vwCl (oW cA o9 (fun _ => 0)) H := fun k q hq => (hPo k q hq).kept (hk9 q.1 (hPo k q hq).lt)
  refine vx_catch (own := RL) (name := "java/lang/IndexOutOfBoundsException") (E := "java/lang/IndexOutOfBoundsException") (ce := ce) (q := q9) hown [] ⟨0, 10, 13, 13⟩ [⟨0, 10, 17, 18⟩] ((vx_table (x := yL_law) B (hts _ mL_threadOf_cw)).trans rfl) (fun z hz => nomatch hz) (by decide) (by decide) (hts _ mL_threadOf_cl13) (hKY.1.use _ (by decide)) hce hcv hcl ?_
  refine lv_astore (lv' := [(4, .ref q9), (0, .ref (Ad 10 0)), (1, .int x), (2, .int y), (3, .ref o9)]) hx hb dL_threadOf_13 hl (by decide) rfl (fun ls hl => ?_)
  refine lv_iconst (v := 1) hx hb dL_threadOf_15 (by decide) ?_
  exact lh_iret hx hb hr hlocks dL_threadOf_16 hP hS (Nat.le_of_ble_eq_true rfl) (Nat.le_of_ble_eq_true rfl) rfl
theorem mL_threadOf_cl18 : Cond.classLink RL 18 "java/lang/IllegalArgumentException" ∈ wsL_threadOf := by decide +kernel
set_option maxHeartbeats 4000000 in
set_option maxRecDepth 100000 in
theorem h_threadOf_x2 (l : Launch) (hl0 : l.stackTraces = false) (D : va_G) (cA : Nat → ClassId) (H : Heap) (Ad : Nat → Nat → Nat) (o9 : Nat) (t : Nat) (ht : t < 16) (x : Int32) (hx0 : inF x 0 7 = 0) (hP0 : va_P D vwCl (all cA Ad L0 ++ oW cA o9 (fun _ => 0)) H) (hD0 : va_D (fun _ => True) (all cA Ad L0 ++ oW cA o9 (fun _ => 0))) : LH l yL_threadOf wsL_threadOf ({ frames := 7, cells := 1, slots := 6, locals := 116 } : Room) D cA [.ref (Ad 10 0), .int (nI t), .int x, .ref o9] H (va_A (all cA Ad L0 ++ oW cA o9 (fun _ => 0)) H.size) o9 2 (fun _ => 0) := by
  refine vx_ofWH (cc := cL_threadOf) (maxL := 5) (ret := some .int) (hh := [(0, 10, 13, 13), (0, 10, 17, 18)]) (by decide) rfl ?_
  intro p e s m args below meth c s₁ B hml hv
  obtain ⟨rfl, hH, hKN, hKY, hXZ⟩ := hv
  have hK := hKN.1
  have hx := B.exec
  have hb := B.bytes
  have hr := B.returns
  have hts := atoms_spec (ws := wsL_threadOf) B.pre
  have hown : s.vm.findClass RL = some m.cls := findClass_of_methodNamed B.named
  have hlocks := B.notSynchronized
  subst hH
  have hD := hD0.self (sz := s.heap.size)
  generalize hAe : va_A (all cA Ad L0 ++ oW cA o9 (fun _ => 0)) s.heap.size = A at hD hXZ ⊢
  have hA : ∀ q : Nat, s.heap.size ≤ q → A q := fun q h => by rw [← hAe]; exact Or.inr h
  have hS : va_S A s.heap s.heap [] := va_S.rf
  have hP : va_P D vwCl (all cA Ad L0 ++ oW cA o9 (fun _ => 0)) s.heap := hP0
  have hl := lv_entry ([.ref (Ad 10 0), .int (nI t), .int x, .ref o9] : List Value) (n := 5) (Nat.le_of_ble_eq_true rfl)
  rw [lg_entry_eq]
  generalize (lg_sl ([.ref (Ad 10 0), .int (nI t), .int x, .ref o9] : List Value) ++ List.replicate (5 - (lg_sl ([.ref (Ad 10 0), .int (nI t), .int x, .ref o9] : List Value)).length) Slot.unset).toArray = ls at hl ⊢
  have hl : lv_has ls 5 [(0, .ref (Ad 10 0)), (1, .int (nI t)), (2, .int x), (3, .ref o9)] := hl
  refine lv_aload_n hx hb dL_threadOf_0 rfl (lv_at hl 3 rfl) ?_
  refine lv_iconst (v := 0) hx hb dL_threadOf_1 (by decide) ?_
  refine lv_aload_n hx hb dL_threadOf_2 rfl (lv_at hl 0 rfl) ?_
  refine lv_iload_n hx hb dL_threadOf_3 rfl (lv_at hl 1 rfl) ?_
  refine lv_iload_n hx hb dL_threadOf_4 rfl (lv_at hl 2 rfl) ?_
  have hPo : va_P D vwCl (oW cA o9 (fun _ => 0)) s.heap := va_P_r hP
  refine xt_V (ci := 4) (q0 := 0) (As := [.int (nI t), .int x]) (rest := [.int 0, .ref o9]) (cls := "java/lang/IllegalArgumentException") ⟨hx, hb, hml, hown, hts⟩ (x_threadOf2 l hl0 D cA _ (Ad 10 0) t ht x hx0) (cwV 2 hts gL_threadOf_X4_threadOf rfl rfl rfl (by decide +kernel) ⟨Nat.le_of_ble_eq_true rfl, Nat.le_of_ble_eq_true rfl⟩) hKN hKY.1 (hXZ.narrow (fun _ h => h.elim)) hS hA (lw_fP 10 (by decide) (va_P_l hP)) rfl rfl rfl hl.1 rfl (lv_room (Nat.le_of_ble_eq_true rfl)) dL_threadOf_5 ⟨Nat.le_of_ble_eq_true rfl, Nat.le_of_ble_eq_true rfl⟩ (fun ce q9 H locs hk9 hS hce hcv hcl => ?_)
  have hP : va_P D vwCl (oW cA o9 (fun _ => 0)) H := fun k q hq => (hPo k q hq).kept (hk9 q.1 (hPo k q hq).lt)
  refine vx_catch (own := RL) (name := "java/lang/IllegalArgumentException") (E := "java/lang/IllegalArgumentException") (ce := ce) (q := q9) hown [⟨0, 10, 13, 13⟩] ⟨0, 10, 17, 18⟩ [] ((vx_table (x := yL_law) B (hts _ mL_threadOf_cw)).trans rfl) (fun z hz => by rcases List.mem_singleton.mp hz with rfl; exact Or.inr ⟨by decide, "java/lang/IndexOutOfBoundsException", hts _ mL_threadOf_cl13, hKY.2.1⟩) (by decide) (by decide) (hts _ mL_threadOf_cl18) (hKY.1.use _ (by decide)) hce hcv hcl ?_
  refine lv_astore (lv' := [(4, .ref q9), (0, .ref (Ad 10 0)), (1, .int (nI t)), (2, .int x), (3, .ref o9)]) hx hb dL_threadOf_17 hl (by decide) rfl (fun ls hl => ?_)
  refine lv_iconst (v := 2) hx hb dL_threadOf_19 (by decide) ?_
  exact lh_iret hx hb hr hlocks dL_threadOf_20 hP hS (Nat.le_of_ble_eq_true rfl) (Nat.le_of_ble_eq_true rfl) rfl
set_option maxHeartbeats 4000000 in
set_option maxRecDepth 100000 in
theorem h_ringOf_v (l : Launch) (hl0 : l.stackTraces = false) (D : va_G) (cA : Nat → ClassId) (H : Heap) (Ad : Nat → Nat → Nat) (o9 : Nat) (r : Nat) (hr0 : r < 8) (w : Nat) (hw : w < 5) (hP0 : va_P D vwCl (all cA Ad L0 ++ oW cA o9 (fun _ => 0)) H) (hD0 : va_D (fun _ => True) (all cA Ad L0 ++ oW cA o9 (fun _ => 0))) : LH l yL_ringOf wsL_ringOf ({ frames := 7, cells := 1, slots := 6, locals := 118 } : Room) D cA [.ref (Ad 10 0), .int (nI r), .int (nI w), .ref o9] H (va_A (all cA Ad L0 ++ oW cA o9 (fun _ => 0)) H.size) o9 0 (vp_updL (fun _ => 0) 0 (i2lF 0)) := by
  refine vx_ofWH (cc := cL_ringOf) (maxL := 5) (ret := some .int) (hh := [(0, 10, 13, 13), (0, 10, 17, 18)]) (by decide) rfl ?_
  intro p e s m args below meth c s₁ B hml hv
  obtain ⟨rfl, hH, hKN, hKY, hXZ⟩ := hv
  have hK := hKN.1
  have hx := B.exec
  have hb := B.bytes
  have hr := B.returns
  have hts := atoms_spec (ws := wsL_ringOf) B.pre
  have hown : s.vm.findClass RL = some m.cls := findClass_of_methodNamed B.named
  have hlocks := B.notSynchronized
  subst hH
  have hD := hD0.self (sz := s.heap.size)
  generalize hAe : va_A (all cA Ad L0 ++ oW cA o9 (fun _ => 0)) s.heap.size = A at hD hXZ ⊢
  have hA : ∀ q : Nat, s.heap.size ≤ q → A q := fun q h => by rw [← hAe]; exact Or.inr h
  have hS : va_S A s.heap s.heap [] := va_S.rf
  have hP : va_P D vwCl (all cA Ad L0 ++ oW cA o9 (fun _ => 0)) s.heap := hP0
  have hl := lv_entry ([.ref (Ad 10 0), .int (nI r), .int (nI w), .ref o9] : List Value) (n := 5) (Nat.le_of_ble_eq_true rfl)
  rw [lg_entry_eq]
  generalize (lg_sl ([.ref (Ad 10 0), .int (nI r), .int (nI w), .ref o9] : List Value) ++ List.replicate (5 - (lg_sl ([.ref (Ad 10 0), .int (nI r), .int (nI w), .ref o9] : List Value)).length) Slot.unset).toArray = ls at hl ⊢
  have hl : lv_has ls 5 [(0, .ref (Ad 10 0)), (1, .int (nI r)), (2, .int (nI w)), (3, .ref o9)] := hl
  refine lv_aload_n hx hb dL_ringOf_0 rfl (lv_at hl 3 rfl) ?_
  refine lv_iconst (v := 0) hx hb dL_ringOf_1 (by decide) ?_
  refine lv_aload_n hx hb dL_ringOf_2 rfl (lv_at hl 0 rfl) ?_
  refine lv_iload_n hx hb dL_ringOf_3 rfl (lv_at hl 1 rfl) ?_
  refine lv_iload_n hx hb dL_ringOf_4 rfl (lv_at hl 2 rfl) ?_
  refine ro_V (ci := 4) (q0 := 0) (As := [.int (nI r), .int (nI w)]) (rest := [.int 0, .ref o9]) ⟨hx, hb, hml, hown, hts⟩ (c_X4_ringOf l D cA _ Ad (fun _ => initS) 0 0 (fun _ => 0, fun _ => 0, 0, 0, 0) (fun _ => 0, fun _ => 0) r hr0 w hw (va_P_l hP)) (cwV 2 hts gL_ringOf_X4_ringOf rfl rfl rfl (by decide +kernel) ⟨Nat.le_of_ble_eq_true rfl, Nat.le_of_ble_eq_true rfl⟩) hKN (lw_fP 10 (by decide) (va_P_l hP)) rfl rfl rfl hl.1 rfl (lv_room (Nat.le_of_ble_eq_true rfl)) dL_ringOf_5 ⟨Nat.zero_le _, Nat.zero_le _⟩ ?_
  have hP : va_P D vwCl (oW cA o9 (fun _ => 0)) s.heap := va_P_r hP
  have hD : va_D A (oW cA o9 (fun _ => 0)) := va_D_r hD
  refine lz_top (v := 0) (pv_ringOf r hr0 w hw) ?_
  refine lv_i2l (v := (i2lF 0)) hx hb dL_ringOf_8 rfl ?_
  refine lz_last (k := 0) (f := fun _ => 0) hx hb hK hP hD hS 0 3 rfl rfl ⟨by decide, by decide⟩ dL_ringOf_9 (fun H locs hP hD hS => ?_)
  refine lv_goto (tgt := 21) hx hb dL_ringOf_10 (by decide) ?_
  refine lv_iconst (v := 0) hx hb dL_ringOf_21 (by decide) ?_
  exact lh_iret hx hb hr hlocks dL_ringOf_22 hP hS (Nat.le_of_ble_eq_true rfl) (Nat.le_of_ble_eq_true rfl) rfl
theorem mL_ringOf_cw : Cond.codeWith yL_ringOf cL_ringOf 5 (some .int) [(0, 10, 13, 13), (0, 10, 17, 18)] ∈ wsL_ringOf := by decide +kernel
theorem mL_ringOf_cl13 : Cond.classLink RL 13 "java/lang/IndexOutOfBoundsException" ∈ wsL_ringOf := by decide +kernel
set_option maxHeartbeats 4000000 in
set_option maxRecDepth 100000 in
theorem h_ringOf_x1 (l : Launch) (hl0 : l.stackTraces = false) (D : va_G) (cA : Nat → ClassId) (H : Heap) (Ad : Nat → Nat → Nat) (o9 : Nat) (y : Int32) (x : Int32) (hx0 : inF x 0 7 = 0) (hP0 : va_P D vwCl (all cA Ad L0 ++ oW cA o9 (fun _ => 0)) H) (hD0 : va_D (fun _ => True) (all cA Ad L0 ++ oW cA o9 (fun _ => 0))) : LH l yL_ringOf wsL_ringOf ({ frames := 7, cells := 1, slots := 6, locals := 118 } : Room) D cA [.ref (Ad 10 0), .int x, .int y, .ref o9] H (va_A (all cA Ad L0 ++ oW cA o9 (fun _ => 0)) H.size) o9 1 (fun _ => 0) := by
  refine vx_ofWH (cc := cL_ringOf) (maxL := 5) (ret := some .int) (hh := [(0, 10, 13, 13), (0, 10, 17, 18)]) (by decide) rfl ?_
  intro p e s m args below meth c s₁ B hml hv
  obtain ⟨rfl, hH, hKN, hKY, hXZ⟩ := hv
  have hK := hKN.1
  have hx := B.exec
  have hb := B.bytes
  have hr := B.returns
  have hts := atoms_spec (ws := wsL_ringOf) B.pre
  have hown : s.vm.findClass RL = some m.cls := findClass_of_methodNamed B.named
  have hlocks := B.notSynchronized
  subst hH
  have hD := hD0.self (sz := s.heap.size)
  generalize hAe : va_A (all cA Ad L0 ++ oW cA o9 (fun _ => 0)) s.heap.size = A at hD hXZ ⊢
  have hA : ∀ q : Nat, s.heap.size ≤ q → A q := fun q h => by rw [← hAe]; exact Or.inr h
  have hS : va_S A s.heap s.heap [] := va_S.rf
  have hP : va_P D vwCl (all cA Ad L0 ++ oW cA o9 (fun _ => 0)) s.heap := hP0
  have hl := lv_entry ([.ref (Ad 10 0), .int x, .int y, .ref o9] : List Value) (n := 5) (Nat.le_of_ble_eq_true rfl)
  rw [lg_entry_eq]
  generalize (lg_sl ([.ref (Ad 10 0), .int x, .int y, .ref o9] : List Value) ++ List.replicate (5 - (lg_sl ([.ref (Ad 10 0), .int x, .int y, .ref o9] : List Value)).length) Slot.unset).toArray = ls at hl ⊢
  have hl : lv_has ls 5 [(0, .ref (Ad 10 0)), (1, .int x), (2, .int y), (3, .ref o9)] := hl
  refine lv_aload_n hx hb dL_ringOf_0 rfl (lv_at hl 3 rfl) ?_
  refine lv_iconst (v := 0) hx hb dL_ringOf_1 (by decide) ?_
  refine lv_aload_n hx hb dL_ringOf_2 rfl (lv_at hl 0 rfl) ?_
  refine lv_iload_n hx hb dL_ringOf_3 rfl (lv_at hl 1 rfl) ?_
  refine lv_iload_n hx hb dL_ringOf_4 rfl (lv_at hl 2 rfl) ?_
  have hPo : va_P D vwCl (oW cA o9 (fun _ => 0)) s.heap := va_P_r hP
  refine xt_V (ci := 4) (q0 := 0) (As := [.int x, .int y]) (rest := [.int 0, .ref o9]) (cls := "java/lang/IndexOutOfBoundsException") ⟨hx, hb, hml, hown, hts⟩ (x_ringOf1 l hl0 D cA _ (Ad 10 0) y x hx0) (cwV 2 hts gL_ringOf_X4_ringOf rfl rfl rfl (by decide +kernel) ⟨Nat.le_of_ble_eq_true rfl, Nat.le_of_ble_eq_true rfl⟩) hKN hKY.1 (hXZ.narrow (fun _ h => h.elim)) hS hA (lw_fP 10 (by decide) (va_P_l hP)) rfl rfl rfl hl.1 rfl (lv_room (Nat.le_of_ble_eq_true rfl)) dL_ringOf_5 ⟨Nat.le_of_ble_eq_true rfl, Nat.le_of_ble_eq_true rfl⟩ (fun ce q9 H locs hk9 hS hce hcv hcl => ?_)
  have hP : va_P D vwCl (oW cA o9 (fun _ => 0)) H := fun k q hq => (hPo k q hq).kept (hk9 q.1 (hPo k q hq).lt)
  refine vx_catch (own := RL) (name := "java/lang/IndexOutOfBoundsException") (E := "java/lang/IndexOutOfBoundsException") (ce := ce) (q := q9) hown [] ⟨0, 10, 13, 13⟩ [⟨0, 10, 17, 18⟩] ((vx_table (x := yL_law) B (hts _ mL_ringOf_cw)).trans rfl) (fun z hz => nomatch hz) (by decide) (by decide) (hts _ mL_ringOf_cl13) (hKY.1.use _ (by decide)) hce hcv hcl ?_
  refine lv_astore (lv' := [(4, .ref q9), (0, .ref (Ad 10 0)), (1, .int x), (2, .int y), (3, .ref o9)]) hx hb dL_ringOf_13 hl (by decide) rfl (fun ls hl => ?_)
  refine lv_iconst (v := 1) hx hb dL_ringOf_15 (by decide) ?_
  exact lh_iret hx hb hr hlocks dL_ringOf_16 hP hS (Nat.le_of_ble_eq_true rfl) (Nat.le_of_ble_eq_true rfl) rfl
theorem mL_ringOf_cl18 : Cond.classLink RL 18 "java/lang/IllegalArgumentException" ∈ wsL_ringOf := by decide +kernel
set_option maxHeartbeats 4000000 in
set_option maxRecDepth 100000 in
theorem h_ringOf_x2 (l : Launch) (hl0 : l.stackTraces = false) (D : va_G) (cA : Nat → ClassId) (H : Heap) (Ad : Nat → Nat → Nat) (o9 : Nat) (r : Nat) (hr0 : r < 8) (x : Int32) (hx0 : inF x 0 4 = 0) (hP0 : va_P D vwCl (all cA Ad L0 ++ oW cA o9 (fun _ => 0)) H) (hD0 : va_D (fun _ => True) (all cA Ad L0 ++ oW cA o9 (fun _ => 0))) : LH l yL_ringOf wsL_ringOf ({ frames := 7, cells := 1, slots := 6, locals := 118 } : Room) D cA [.ref (Ad 10 0), .int (nI r), .int x, .ref o9] H (va_A (all cA Ad L0 ++ oW cA o9 (fun _ => 0)) H.size) o9 2 (fun _ => 0) := by
  refine vx_ofWH (cc := cL_ringOf) (maxL := 5) (ret := some .int) (hh := [(0, 10, 13, 13), (0, 10, 17, 18)]) (by decide) rfl ?_
  intro p e s m args below meth c s₁ B hml hv
  obtain ⟨rfl, hH, hKN, hKY, hXZ⟩ := hv
  have hK := hKN.1
  have hx := B.exec
  have hb := B.bytes
  have hr := B.returns
  have hts := atoms_spec (ws := wsL_ringOf) B.pre
  have hown : s.vm.findClass RL = some m.cls := findClass_of_methodNamed B.named
  have hlocks := B.notSynchronized
  subst hH
  have hD := hD0.self (sz := s.heap.size)
  generalize hAe : va_A (all cA Ad L0 ++ oW cA o9 (fun _ => 0)) s.heap.size = A at hD hXZ ⊢
  have hA : ∀ q : Nat, s.heap.size ≤ q → A q := fun q h => by rw [← hAe]; exact Or.inr h
  have hS : va_S A s.heap s.heap [] := va_S.rf
  have hP : va_P D vwCl (all cA Ad L0 ++ oW cA o9 (fun _ => 0)) s.heap := hP0
  have hl := lv_entry ([.ref (Ad 10 0), .int (nI r), .int x, .ref o9] : List Value) (n := 5) (Nat.le_of_ble_eq_true rfl)
  rw [lg_entry_eq]
  generalize (lg_sl ([.ref (Ad 10 0), .int (nI r), .int x, .ref o9] : List Value) ++ List.replicate (5 - (lg_sl ([.ref (Ad 10 0), .int (nI r), .int x, .ref o9] : List Value)).length) Slot.unset).toArray = ls at hl ⊢
  have hl : lv_has ls 5 [(0, .ref (Ad 10 0)), (1, .int (nI r)), (2, .int x), (3, .ref o9)] := hl
  refine lv_aload_n hx hb dL_ringOf_0 rfl (lv_at hl 3 rfl) ?_
  refine lv_iconst (v := 0) hx hb dL_ringOf_1 (by decide) ?_
  refine lv_aload_n hx hb dL_ringOf_2 rfl (lv_at hl 0 rfl) ?_
  refine lv_iload_n hx hb dL_ringOf_3 rfl (lv_at hl 1 rfl) ?_
  refine lv_iload_n hx hb dL_ringOf_4 rfl (lv_at hl 2 rfl) ?_
  have hPo : va_P D vwCl (oW cA o9 (fun _ => 0)) s.heap := va_P_r hP
  refine xt_V (ci := 4) (q0 := 0) (As := [.int (nI r), .int x]) (rest := [.int 0, .ref o9]) (cls := "java/lang/IllegalArgumentException") ⟨hx, hb, hml, hown, hts⟩ (x_ringOf2 l hl0 D cA _ (Ad 10 0) r hr0 x hx0) (cwV 2 hts gL_ringOf_X4_ringOf rfl rfl rfl (by decide +kernel) ⟨Nat.le_of_ble_eq_true rfl, Nat.le_of_ble_eq_true rfl⟩) hKN hKY.1 (hXZ.narrow (fun _ h => h.elim)) hS hA (lw_fP 10 (by decide) (va_P_l hP)) rfl rfl rfl hl.1 rfl (lv_room (Nat.le_of_ble_eq_true rfl)) dL_ringOf_5 ⟨Nat.le_of_ble_eq_true rfl, Nat.le_of_ble_eq_true rfl⟩ (fun ce q9 H locs hk9 hS hce hcv hcl => ?_)
  have hP : va_P D vwCl (oW cA o9 (fun _ => 0)) H := fun k q hq => (hPo k q hq).kept (hk9 q.1 (hPo k q hq).lt)
  refine vx_catch (own := RL) (name := "java/lang/IllegalArgumentException") (E := "java/lang/IllegalArgumentException") (ce := ce) (q := q9) hown [⟨0, 10, 13, 13⟩] ⟨0, 10, 17, 18⟩ [] ((vx_table (x := yL_law) B (hts _ mL_ringOf_cw)).trans rfl) (fun z hz => by rcases List.mem_singleton.mp hz with rfl; exact Or.inr ⟨by decide, "java/lang/IndexOutOfBoundsException", hts _ mL_ringOf_cl13, hKY.2.1⟩) (by decide) (by decide) (hts _ mL_ringOf_cl18) (hKY.1.use _ (by decide)) hce hcv hcl ?_
  refine lv_astore (lv' := [(4, .ref q9), (0, .ref (Ad 10 0)), (1, .int (nI r)), (2, .int x), (3, .ref o9)]) hx hb dL_ringOf_17 hl (by decide) rfl (fun ls hl => ?_)
  refine lv_iconst (v := 2) hx hb dL_ringOf_19 (by decide) ?_
  exact lh_iret hx hb hr hlocks dL_ringOf_20 hP hS (Nat.le_of_ble_eq_true rfl) (Nat.le_of_ble_eq_true rfl) rfl
set_option maxHeartbeats 4000000 in
set_option maxRecDepth 100000 in
theorem h_strength_v0 (l : Launch) (hl0 : l.stackTraces = false) (D : va_G) (cA : Nat → ClassId) (H : Heap) (Ad : Nat → Nat → Nat) (o9 : Nat) (t : Nat) (ht : t < 16) (r : Nat) (hr0 : r < 8) (hP0 : va_P D vwCl (all cA Ad L0 ++ oW cA o9 (fun _ => 0)) H) (hD0 : va_D (fun _ => True) (all cA Ad L0 ++ oW cA o9 (fun _ => 0))) : LH l yL_strength wsL_strength ({ frames := 7, cells := 1, slots := 6, locals := 105 } : Room) D cA [.ref (Ad 10 0), .int (nI t), .int (nI r), .int 0, .ref o9] H (va_A (all cA Ad L0 ++ oW cA o9 (fun _ => 0)) H.size) o9 0 (vp_updL (fun _ => 0) 0 (i2lF 0)) := by
  refine vx_ofWH (cc := cL_strength) (maxL := 6) (ret := some .int) (hh := [(0, 12, 15, 13), (0, 12, 19, 18)]) (by decide) rfl ?_
  intro p e s m args below meth c s₁ B hml hv
  obtain ⟨rfl, hH, hKN, hKY, hXZ⟩ := hv
  have hK := hKN.1
  have hx := B.exec
  have hb := B.bytes
  have hr := B.returns
  have hts := atoms_spec (ws := wsL_strength) B.pre
  have hown : s.vm.findClass RL = some m.cls := findClass_of_methodNamed B.named
  have hlocks := B.notSynchronized
  subst hH
  have hD := hD0.self (sz := s.heap.size)
  generalize hAe : va_A (all cA Ad L0 ++ oW cA o9 (fun _ => 0)) s.heap.size = A at hD hXZ ⊢
  have hA : ∀ q : Nat, s.heap.size ≤ q → A q := fun q h => by rw [← hAe]; exact Or.inr h
  have hS : va_S A s.heap s.heap [] := va_S.rf
  have hP : va_P D vwCl (all cA Ad L0 ++ oW cA o9 (fun _ => 0)) s.heap := hP0
  have hl := lv_entry ([.ref (Ad 10 0), .int (nI t), .int (nI r), .int 0, .ref o9] : List Value) (n := 6) (Nat.le_of_ble_eq_true rfl)
  rw [lg_entry_eq]
  generalize (lg_sl ([.ref (Ad 10 0), .int (nI t), .int (nI r), .int 0, .ref o9] : List Value) ++ List.replicate (6 - (lg_sl ([.ref (Ad 10 0), .int (nI t), .int (nI r), .int 0, .ref o9] : List Value)).length) Slot.unset).toArray = ls at hl ⊢
  have hl : lv_has ls 6 [(0, .ref (Ad 10 0)), (1, .int (nI t)), (2, .int (nI r)), (3, .int 0), (4, .ref o9)] := hl
  refine lv_aload hx hb dL_strength_0 (lv_at hl 4 rfl) ?_
  refine lv_iconst (v := 0) hx hb dL_strength_2 (by decide) ?_
  refine lv_aload_n hx hb dL_strength_3 rfl (lv_at hl 0 rfl) ?_
  refine lv_iload_n hx hb dL_strength_4 rfl (lv_at hl 1 rfl) ?_
  refine lv_iload_n hx hb dL_strength_5 rfl (lv_at hl 2 rfl) ?_
  refine lv_iload_n hx hb dL_strength_6 rfl (lv_at hl 3 rfl) ?_
  refine ro_V (ci := 4) (q0 := 0) (As := [.int (nI t), .int (nI r), .int 0]) (rest := [.int 0, .ref o9]) ⟨hx, hb, hml, hown, hts⟩ (c_X4_strength l D cA _ Ad (fun _ => initS) 0 0 (fun _ => 0, fun _ => 0, 0, 0, 0) (fun _ => 0, fun _ => 0) t ht r hr0 0 (by decide) (va_P_l hP)) (cwV 3 hts gL_strength_X4_strength rfl rfl rfl (by decide +kernel) ⟨Nat.le_of_ble_eq_true rfl, Nat.le_of_ble_eq_true rfl⟩) hKN (lw_fP 10 (by decide) (va_P_l hP)) rfl rfl rfl hl.1 rfl (lv_room (Nat.le_of_ble_eq_true rfl)) dL_strength_7 ⟨Nat.zero_le _, Nat.zero_le _⟩ ?_
  have hP : va_P D vwCl (oW cA o9 (fun _ => 0)) s.heap := va_P_r hP
  have hD : va_D A (oW cA o9 (fun _ => 0)) := va_D_r hD
  refine lz_top (v := 0) (pv_strength0 t ht r hr0) ?_
  refine lv_i2l (v := (i2lF 0)) hx hb dL_strength_10 rfl ?_
  refine lz_last (k := 0) (f := fun _ => 0) hx hb hK hP hD hS 0 3 rfl rfl ⟨by decide, by decide⟩ dL_strength_11 (fun H locs hP hD hS => ?_)
  refine lv_goto (tgt := 23) hx hb dL_strength_12 (by decide) ?_
  refine lv_iconst (v := 0) hx hb dL_strength_23 (by decide) ?_
  exact lh_iret hx hb hr hlocks dL_strength_24 hP hS (Nat.le_of_ble_eq_true rfl) (Nat.le_of_ble_eq_true rfl) rfl
set_option maxHeartbeats 4000000 in
set_option maxRecDepth 100000 in
theorem h_strength_v1 (l : Launch) (hl0 : l.stackTraces = false) (D : va_G) (cA : Nat → ClassId) (H : Heap) (Ad : Nat → Nat → Nat) (o9 : Nat) (t : Nat) (ht : t < 16) (r : Nat) (hr0 : r < 8) (hP0 : va_P D vwCl (all cA Ad L0 ++ oW cA o9 (fun _ => 0)) H) (hD0 : va_D (fun _ => True) (all cA Ad L0 ++ oW cA o9 (fun _ => 0))) : LH l yL_strength wsL_strength ({ frames := 7, cells := 1, slots := 6, locals := 105 } : Room) D cA [.ref (Ad 10 0), .int (nI t), .int (nI r), .int 1, .ref o9] H (va_A (all cA Ad L0 ++ oW cA o9 (fun _ => 0)) H.size) o9 0 (vp_updL (fun _ => 0) 0 (i2lF (-1))) := by
  refine vx_ofWH (cc := cL_strength) (maxL := 6) (ret := some .int) (hh := [(0, 12, 15, 13), (0, 12, 19, 18)]) (by decide) rfl ?_
  intro p e s m args below meth c s₁ B hml hv
  obtain ⟨rfl, hH, hKN, hKY, hXZ⟩ := hv
  have hK := hKN.1
  have hx := B.exec
  have hb := B.bytes
  have hr := B.returns
  have hts := atoms_spec (ws := wsL_strength) B.pre
  have hown : s.vm.findClass RL = some m.cls := findClass_of_methodNamed B.named
  have hlocks := B.notSynchronized
  subst hH
  have hD := hD0.self (sz := s.heap.size)
  generalize hAe : va_A (all cA Ad L0 ++ oW cA o9 (fun _ => 0)) s.heap.size = A at hD hXZ ⊢
  have hA : ∀ q : Nat, s.heap.size ≤ q → A q := fun q h => by rw [← hAe]; exact Or.inr h
  have hS : va_S A s.heap s.heap [] := va_S.rf
  have hP : va_P D vwCl (all cA Ad L0 ++ oW cA o9 (fun _ => 0)) s.heap := hP0
  have hl := lv_entry ([.ref (Ad 10 0), .int (nI t), .int (nI r), .int 1, .ref o9] : List Value) (n := 6) (Nat.le_of_ble_eq_true rfl)
  rw [lg_entry_eq]
  generalize (lg_sl ([.ref (Ad 10 0), .int (nI t), .int (nI r), .int 1, .ref o9] : List Value) ++ List.replicate (6 - (lg_sl ([.ref (Ad 10 0), .int (nI t), .int (nI r), .int 1, .ref o9] : List Value)).length) Slot.unset).toArray = ls at hl ⊢
  have hl : lv_has ls 6 [(0, .ref (Ad 10 0)), (1, .int (nI t)), (2, .int (nI r)), (3, .int 1), (4, .ref o9)] := hl
  refine lv_aload hx hb dL_strength_0 (lv_at hl 4 rfl) ?_
  refine lv_iconst (v := 0) hx hb dL_strength_2 (by decide) ?_
  refine lv_aload_n hx hb dL_strength_3 rfl (lv_at hl 0 rfl) ?_
  refine lv_iload_n hx hb dL_strength_4 rfl (lv_at hl 1 rfl) ?_
  refine lv_iload_n hx hb dL_strength_5 rfl (lv_at hl 2 rfl) ?_
  refine lv_iload_n hx hb dL_strength_6 rfl (lv_at hl 3 rfl) ?_
  refine ro_V (ci := 4) (q0 := 0) (As := [.int (nI t), .int (nI r), .int 1]) (rest := [.int 0, .ref o9]) ⟨hx, hb, hml, hown, hts⟩ (c_X4_strength l D cA _ Ad (fun _ => initS) 0 0 (fun _ => 0, fun _ => 0, 0, 0, 0) (fun _ => 0, fun _ => 0) t ht r hr0 1 (by decide) (va_P_l hP)) (cwV 3 hts gL_strength_X4_strength rfl rfl rfl (by decide +kernel) ⟨Nat.le_of_ble_eq_true rfl, Nat.le_of_ble_eq_true rfl⟩) hKN (lw_fP 10 (by decide) (va_P_l hP)) rfl rfl rfl hl.1 rfl (lv_room (Nat.le_of_ble_eq_true rfl)) dL_strength_7 ⟨Nat.zero_le _, Nat.zero_le _⟩ ?_
  have hP : va_P D vwCl (oW cA o9 (fun _ => 0)) s.heap := va_P_r hP
  have hD : va_D A (oW cA o9 (fun _ => 0)) := va_D_r hD
  refine lz_top (v := (-1)) (pv_strength1 t ht r hr0) ?_
  refine lv_i2l (v := (i2lF (-1))) hx hb dL_strength_10 rfl ?_
  refine lz_last (k := 0) (f := fun _ => 0) hx hb hK hP hD hS 0 3 rfl rfl ⟨by decide, by decide⟩ dL_strength_11 (fun H locs hP hD hS => ?_)
  refine lv_goto (tgt := 23) hx hb dL_strength_12 (by decide) ?_
  refine lv_iconst (v := 0) hx hb dL_strength_23 (by decide) ?_
  exact lh_iret hx hb hr hlocks dL_strength_24 hP hS (Nat.le_of_ble_eq_true rfl) (Nat.le_of_ble_eq_true rfl) rfl
theorem mL_strength_cw : Cond.codeWith yL_strength cL_strength 6 (some .int) [(0, 12, 15, 13), (0, 12, 19, 18)] ∈ wsL_strength := by decide +kernel
theorem mL_strength_cl13 : Cond.classLink RL 13 "java/lang/IndexOutOfBoundsException" ∈ wsL_strength := by decide +kernel
set_option maxHeartbeats 4000000 in
set_option maxRecDepth 100000 in
theorem h_strength_x1 (l : Launch) (hl0 : l.stackTraces = false) (D : va_G) (cA : Nat → ClassId) (H : Heap) (Ad : Nat → Nat → Nat) (o9 : Nat) (y z9 : Int32) (x : Int32) (hx0 : inF x 0 15 = 0) (hP0 : va_P D vwCl (all cA Ad L0 ++ oW cA o9 (fun _ => 0)) H) (hD0 : va_D (fun _ => True) (all cA Ad L0 ++ oW cA o9 (fun _ => 0))) : LH l yL_strength wsL_strength ({ frames := 7, cells := 1, slots := 6, locals := 105 } : Room) D cA [.ref (Ad 10 0), .int x, .int y, .int z9, .ref o9] H (va_A (all cA Ad L0 ++ oW cA o9 (fun _ => 0)) H.size) o9 1 (fun _ => 0) := by
  refine vx_ofWH (cc := cL_strength) (maxL := 6) (ret := some .int) (hh := [(0, 12, 15, 13), (0, 12, 19, 18)]) (by decide) rfl ?_
  intro p e s m args below meth c s₁ B hml hv
  obtain ⟨rfl, hH, hKN, hKY, hXZ⟩ := hv
  have hK := hKN.1
  have hx := B.exec
  have hb := B.bytes
  have hr := B.returns
  have hts := atoms_spec (ws := wsL_strength) B.pre
  have hown : s.vm.findClass RL = some m.cls := findClass_of_methodNamed B.named
  have hlocks := B.notSynchronized
  subst hH
  have hD := hD0.self (sz := s.heap.size)
  generalize hAe : va_A (all cA Ad L0 ++ oW cA o9 (fun _ => 0)) s.heap.size = A at hD hXZ ⊢
  have hA : ∀ q : Nat, s.heap.size ≤ q → A q := fun q h => by rw [← hAe]; exact Or.inr h
  have hS : va_S A s.heap s.heap [] := va_S.rf
  have hP : va_P D vwCl (all cA Ad L0 ++ oW cA o9 (fun _ => 0)) s.heap := hP0
  have hl := lv_entry ([.ref (Ad 10 0), .int x, .int y, .int z9, .ref o9] : List Value) (n := 6) (Nat.le_of_ble_eq_true rfl)
  rw [lg_entry_eq]
  generalize (lg_sl ([.ref (Ad 10 0), .int x, .int y, .int z9, .ref o9] : List Value) ++ List.replicate (6 - (lg_sl ([.ref (Ad 10 0), .int x, .int y, .int z9, .ref o9] : List Value)).length) Slot.unset).toArray = ls at hl ⊢
  have hl : lv_has ls 6 [(0, .ref (Ad 10 0)), (1, .int x), (2, .int y), (3, .int z9), (4, .ref o9)] := hl
  refine lv_aload hx hb dL_strength_0 (lv_at hl 4 rfl) ?_
  refine lv_iconst (v := 0) hx hb dL_strength_2 (by decide) ?_
  refine lv_aload_n hx hb dL_strength_3 rfl (lv_at hl 0 rfl) ?_
  refine lv_iload_n hx hb dL_strength_4 rfl (lv_at hl 1 rfl) ?_
  refine lv_iload_n hx hb dL_strength_5 rfl (lv_at hl 2 rfl) ?_
  refine lv_iload_n hx hb dL_strength_6 rfl (lv_at hl 3 rfl) ?_
  have hPo : va_P D vwCl (oW cA o9 (fun _ => 0)) s.heap := va_P_r hP
  refine xt_V (ci := 4) (q0 := 0) (As := [.int x, .int y, .int z9]) (rest := [.int 0, .ref o9]) (cls := "java/lang/IndexOutOfBoundsException") ⟨hx, hb, hml, hown, hts⟩ (x_strength1 l hl0 D cA _ (Ad 10 0) y z9 x hx0) (cwV 3 hts gL_strength_X4_strength rfl rfl rfl (by decide +kernel) ⟨Nat.le_of_ble_eq_true rfl, Nat.le_of_ble_eq_true rfl⟩) hKN hKY.1 (hXZ.narrow (fun _ h => h.elim)) hS hA (lw_fP 10 (by decide) (va_P_l hP)) rfl rfl rfl hl.1 rfl (lv_room (Nat.le_of_ble_eq_true rfl)) dL_strength_7 ⟨Nat.le_of_ble_eq_true rfl, Nat.le_of_ble_eq_true rfl⟩ (fun ce q9 H locs hk9 hS hce hcv hcl => ?_)
  have hP : va_P D vwCl (oW cA o9 (fun _ => 0)) H := fun k q hq => (hPo k q hq).kept (hk9 q.1 (hPo k q hq).lt)
  refine vx_catch (own := RL) (name := "java/lang/IndexOutOfBoundsException") (E := "java/lang/IndexOutOfBoundsException") (ce := ce) (q := q9) hown [] ⟨0, 12, 15, 13⟩ [⟨0, 12, 19, 18⟩] ((vx_table (x := yL_law) B (hts _ mL_strength_cw)).trans rfl) (fun z hz => nomatch hz) (by decide) (by decide) (hts _ mL_strength_cl13) (hKY.1.use _ (by decide)) hce hcv hcl ?_
  refine lv_astore (lv' := [(5, .ref q9), (0, .ref (Ad 10 0)), (1, .int x), (2, .int y), (3, .int z9), (4, .ref o9)]) hx hb dL_strength_15 hl (by decide) rfl (fun ls hl => ?_)
  refine lv_iconst (v := 1) hx hb dL_strength_17 (by decide) ?_
  exact lh_iret hx hb hr hlocks dL_strength_18 hP hS (Nat.le_of_ble_eq_true rfl) (Nat.le_of_ble_eq_true rfl) rfl
set_option maxHeartbeats 4000000 in
set_option maxRecDepth 100000 in
theorem h_strength_x2 (l : Launch) (hl0 : l.stackTraces = false) (D : va_G) (cA : Nat → ClassId) (H : Heap) (Ad : Nat → Nat → Nat) (o9 : Nat) (t : Nat) (ht : t < 16) (z9 : Int32) (x : Int32) (hx0 : inF x 0 7 = 0) (hP0 : va_P D vwCl (all cA Ad L0 ++ oW cA o9 (fun _ => 0)) H) (hD0 : va_D (fun _ => True) (all cA Ad L0 ++ oW cA o9 (fun _ => 0))) : LH l yL_strength wsL_strength ({ frames := 7, cells := 1, slots := 6, locals := 105 } : Room) D cA [.ref (Ad 10 0), .int (nI t), .int x, .int z9, .ref o9] H (va_A (all cA Ad L0 ++ oW cA o9 (fun _ => 0)) H.size) o9 1 (fun _ => 0) := by
  refine vx_ofWH (cc := cL_strength) (maxL := 6) (ret := some .int) (hh := [(0, 12, 15, 13), (0, 12, 19, 18)]) (by decide) rfl ?_
  intro p e s m args below meth c s₁ B hml hv
  obtain ⟨rfl, hH, hKN, hKY, hXZ⟩ := hv
  have hK := hKN.1
  have hx := B.exec
  have hb := B.bytes
  have hr := B.returns
  have hts := atoms_spec (ws := wsL_strength) B.pre
  have hown : s.vm.findClass RL = some m.cls := findClass_of_methodNamed B.named
  have hlocks := B.notSynchronized
  subst hH
  have hD := hD0.self (sz := s.heap.size)
  generalize hAe : va_A (all cA Ad L0 ++ oW cA o9 (fun _ => 0)) s.heap.size = A at hD hXZ ⊢
  have hA : ∀ q : Nat, s.heap.size ≤ q → A q := fun q h => by rw [← hAe]; exact Or.inr h
  have hS : va_S A s.heap s.heap [] := va_S.rf
  have hP : va_P D vwCl (all cA Ad L0 ++ oW cA o9 (fun _ => 0)) s.heap := hP0
  have hl := lv_entry ([.ref (Ad 10 0), .int (nI t), .int x, .int z9, .ref o9] : List Value) (n := 6) (Nat.le_of_ble_eq_true rfl)
  rw [lg_entry_eq]
  generalize (lg_sl ([.ref (Ad 10 0), .int (nI t), .int x, .int z9, .ref o9] : List Value) ++ List.replicate (6 - (lg_sl ([.ref (Ad 10 0), .int (nI t), .int x, .int z9, .ref o9] : List Value)).length) Slot.unset).toArray = ls at hl ⊢
  have hl : lv_has ls 6 [(0, .ref (Ad 10 0)), (1, .int (nI t)), (2, .int x), (3, .int z9), (4, .ref o9)] := hl
  refine lv_aload hx hb dL_strength_0 (lv_at hl 4 rfl) ?_
  refine lv_iconst (v := 0) hx hb dL_strength_2 (by decide) ?_
  refine lv_aload_n hx hb dL_strength_3 rfl (lv_at hl 0 rfl) ?_
  refine lv_iload_n hx hb dL_strength_4 rfl (lv_at hl 1 rfl) ?_
  refine lv_iload_n hx hb dL_strength_5 rfl (lv_at hl 2 rfl) ?_
  refine lv_iload_n hx hb dL_strength_6 rfl (lv_at hl 3 rfl) ?_
  have hPo : va_P D vwCl (oW cA o9 (fun _ => 0)) s.heap := va_P_r hP
  refine xt_V (ci := 4) (q0 := 0) (As := [.int (nI t), .int x, .int z9]) (rest := [.int 0, .ref o9]) (cls := "java/lang/IndexOutOfBoundsException") ⟨hx, hb, hml, hown, hts⟩ (x_strength2 l hl0 D cA _ (Ad 10 0) t ht z9 x hx0) (cwV 3 hts gL_strength_X4_strength rfl rfl rfl (by decide +kernel) ⟨Nat.le_of_ble_eq_true rfl, Nat.le_of_ble_eq_true rfl⟩) hKN hKY.1 (hXZ.narrow (fun _ h => h.elim)) hS hA (lw_fP 10 (by decide) (va_P_l hP)) rfl rfl rfl hl.1 rfl (lv_room (Nat.le_of_ble_eq_true rfl)) dL_strength_7 ⟨Nat.le_of_ble_eq_true rfl, Nat.le_of_ble_eq_true rfl⟩ (fun ce q9 H locs hk9 hS hce hcv hcl => ?_)
  have hP : va_P D vwCl (oW cA o9 (fun _ => 0)) H := fun k q hq => (hPo k q hq).kept (hk9 q.1 (hPo k q hq).lt)
  refine vx_catch (own := RL) (name := "java/lang/IndexOutOfBoundsException") (E := "java/lang/IndexOutOfBoundsException") (ce := ce) (q := q9) hown [] ⟨0, 12, 15, 13⟩ [⟨0, 12, 19, 18⟩] ((vx_table (x := yL_law) B (hts _ mL_strength_cw)).trans rfl) (fun z hz => nomatch hz) (by decide) (by decide) (hts _ mL_strength_cl13) (hKY.1.use _ (by decide)) hce hcv hcl ?_
  refine lv_astore (lv' := [(5, .ref q9), (0, .ref (Ad 10 0)), (1, .int (nI t)), (2, .int x), (3, .int z9), (4, .ref o9)]) hx hb dL_strength_15 hl (by decide) rfl (fun ls hl => ?_)
  refine lv_iconst (v := 1) hx hb dL_strength_17 (by decide) ?_
  exact lh_iret hx hb hr hlocks dL_strength_18 hP hS (Nat.le_of_ble_eq_true rfl) (Nat.le_of_ble_eq_true rfl) rfl
theorem mL_strength_cl18 : Cond.classLink RL 18 "java/lang/IllegalArgumentException" ∈ wsL_strength := by decide +kernel
set_option maxHeartbeats 4000000 in
set_option maxRecDepth 100000 in
theorem h_strength_x3 (l : Launch) (hl0 : l.stackTraces = false) (D : va_G) (cA : Nat → ClassId) (H : Heap) (Ad : Nat → Nat → Nat) (o9 : Nat) (t : Nat) (ht : t < 16) (r : Nat) (hr0 : r < 8) (x : Int32) (hx0 : inF x 0 1 = 0) (hP0 : va_P D vwCl (all cA Ad L0 ++ oW cA o9 (fun _ => 0)) H) (hD0 : va_D (fun _ => True) (all cA Ad L0 ++ oW cA o9 (fun _ => 0))) : LH l yL_strength wsL_strength ({ frames := 7, cells := 1, slots := 6, locals := 105 } : Room) D cA [.ref (Ad 10 0), .int (nI t), .int (nI r), .int x, .ref o9] H (va_A (all cA Ad L0 ++ oW cA o9 (fun _ => 0)) H.size) o9 2 (fun _ => 0) := by
  refine vx_ofWH (cc := cL_strength) (maxL := 6) (ret := some .int) (hh := [(0, 12, 15, 13), (0, 12, 19, 18)]) (by decide) rfl ?_
  intro p e s m args below meth c s₁ B hml hv
  obtain ⟨rfl, hH, hKN, hKY, hXZ⟩ := hv
  have hK := hKN.1
  have hx := B.exec
  have hb := B.bytes
  have hr := B.returns
  have hts := atoms_spec (ws := wsL_strength) B.pre
  have hown : s.vm.findClass RL = some m.cls := findClass_of_methodNamed B.named
  have hlocks := B.notSynchronized
  subst hH
  have hD := hD0.self (sz := s.heap.size)
  generalize hAe : va_A (all cA Ad L0 ++ oW cA o9 (fun _ => 0)) s.heap.size = A at hD hXZ ⊢
  have hA : ∀ q : Nat, s.heap.size ≤ q → A q := fun q h => by rw [← hAe]; exact Or.inr h
  have hS : va_S A s.heap s.heap [] := va_S.rf
  have hP : va_P D vwCl (all cA Ad L0 ++ oW cA o9 (fun _ => 0)) s.heap := hP0
  have hl := lv_entry ([.ref (Ad 10 0), .int (nI t), .int (nI r), .int x, .ref o9] : List Value) (n := 6) (Nat.le_of_ble_eq_true rfl)
  rw [lg_entry_eq]
  generalize (lg_sl ([.ref (Ad 10 0), .int (nI t), .int (nI r), .int x, .ref o9] : List Value) ++ List.replicate (6 - (lg_sl ([.ref (Ad 10 0), .int (nI t), .int (nI r), .int x, .ref o9] : List Value)).length) Slot.unset).toArray = ls at hl ⊢
  have hl : lv_has ls 6 [(0, .ref (Ad 10 0)), (1, .int (nI t)), (2, .int (nI r)), (3, .int x), (4, .ref o9)] := hl
  refine lv_aload hx hb dL_strength_0 (lv_at hl 4 rfl) ?_
  refine lv_iconst (v := 0) hx hb dL_strength_2 (by decide) ?_
  refine lv_aload_n hx hb dL_strength_3 rfl (lv_at hl 0 rfl) ?_
  refine lv_iload_n hx hb dL_strength_4 rfl (lv_at hl 1 rfl) ?_
  refine lv_iload_n hx hb dL_strength_5 rfl (lv_at hl 2 rfl) ?_
  refine lv_iload_n hx hb dL_strength_6 rfl (lv_at hl 3 rfl) ?_
  have hPo : va_P D vwCl (oW cA o9 (fun _ => 0)) s.heap := va_P_r hP
  refine xt_V (ci := 4) (q0 := 0) (As := [.int (nI t), .int (nI r), .int x]) (rest := [.int 0, .ref o9]) (cls := "java/lang/IllegalArgumentException") ⟨hx, hb, hml, hown, hts⟩ (x_strength3 l hl0 D cA _ (Ad 10 0) t r ht hr0 x hx0) (cwV 3 hts gL_strength_X4_strength rfl rfl rfl (by decide +kernel) ⟨Nat.le_of_ble_eq_true rfl, Nat.le_of_ble_eq_true rfl⟩) hKN hKY.1 (hXZ.narrow (fun _ h => h.elim)) hS hA (lw_fP 10 (by decide) (va_P_l hP)) rfl rfl rfl hl.1 rfl (lv_room (Nat.le_of_ble_eq_true rfl)) dL_strength_7 ⟨Nat.le_of_ble_eq_true rfl, Nat.le_of_ble_eq_true rfl⟩ (fun ce q9 H locs hk9 hS hce hcv hcl => ?_)
  have hP : va_P D vwCl (oW cA o9 (fun _ => 0)) H := fun k q hq => (hPo k q hq).kept (hk9 q.1 (hPo k q hq).lt)
  refine vx_catch (own := RL) (name := "java/lang/IllegalArgumentException") (E := "java/lang/IllegalArgumentException") (ce := ce) (q := q9) hown [⟨0, 12, 15, 13⟩] ⟨0, 12, 19, 18⟩ [] ((vx_table (x := yL_law) B (hts _ mL_strength_cw)).trans rfl) (fun z hz => by rcases List.mem_singleton.mp hz with rfl; exact Or.inr ⟨by decide, "java/lang/IndexOutOfBoundsException", hts _ mL_strength_cl13, hKY.2.1⟩) (by decide) (by decide) (hts _ mL_strength_cl18) (hKY.1.use _ (by decide)) hce hcv hcl ?_
  refine lv_astore (lv' := [(5, .ref q9), (0, .ref (Ad 10 0)), (1, .int (nI t)), (2, .int (nI r)), (3, .int x), (4, .ref o9)]) hx hb dL_strength_19 hl (by decide) rfl (fun ls hl => ?_)
  refine lv_iconst (v := 2) hx hb dL_strength_21 (by decide) ?_
  exact lh_iret hx hb hr hlocks dL_strength_22 hP hS (Nat.le_of_ble_eq_true rfl) (Nat.le_of_ble_eq_true rfl) rfl
