theorem mX0_init_oi3 : Cond.methodLink RX0 3 objectInit ∈ wsX0_init := by decide +kernel
theorem mX0_init_oim : Cond.instanceMethod objectInit ∈ wsX0_init := by decide +kernel
theorem mX0_init_oic : Cond.code objectInit ⟨#[0xb1]⟩ 1 none ∈ wsX0_init := by decide +kernel
theorem mX0_init_acI : Cond.arrayClass .int ∈ wsX0_init := by decide +kernel
theorem mX0_init_f11 : Cond.fieldLink RX0 11 "WireLoom$Machine" "cells" "[I" ∈ wsX0_init := by decide +kernel
theorem mX0_init_f15 : Cond.fieldLink RX0 15 "WireLoom$Machine" "latest" "[I" ∈ wsX0_init := by decide +kernel
set_option maxRecDepth 20000 in
theorem iX0_init_X0 : ∀ w ∈ wsX00, w ∈ wsX0_init := by decide +kernel
set_option maxHeartbeats 8000000 in
set_option maxRecDepth 100000 in
theorem c_X0_init (l : Launch) (D : va_G) (cA : Nat → ClassId) (H : Heap) (h0 : Nat) (hP0 : va_P D vwCl [(h0, .inr (0, [.null, .null, .int 0, .int 0, .int 0, .int 0, .int 0]))] H) (hD0 : va_D (fun _ => True) [(h0, .inr (0, [.null, .null, .int 0, .int 0, .int 0, .int 0, .int 0]))]) : MK (X := Nat → Nat) l yX0_init wsX0_init ({ frames := 1, cells := 2, slots := 12, locals := 21 } : Room) D cA [.ref h0] H [(h0, .inr (0, [.null, .null, .int 0, .int 0, .int 0, .int 0, .int 0]))] (fun x => x 5 = h0) (fun x => wMc cA x beginM) 2 12 := by
  refine Met.ofW (cc := cX0_init) (maxL := 1) (ret := none) (by decide) rfl ?_
  intro p e s m args below meth c s₁ B hml hv
  obtain ⟨rfl, hH, hKN, hKC⟩ := hv
  have hK := hKN.1
  have hx := B.exec
  have hb := B.bytes
  have hr := B.returns
  have hts := atoms_spec (ws := wsX0_init) B.pre
  have hown : s.vm.findClass RX0 = some m.cls := findClass_of_methodNamed B.named
  have hlocks := B.notSynchronized
  have hin : meth.name = "<init>" := (name_of_methodNamed B.named B.method).1
  subst hH
  have hD := hD0.self (sz := s.heap.size)
  generalize hAe : va_A [(h0, .inr (0, [.null, .null, .int 0, .int 0, .int 0, .int 0, .int 0]))] s.heap.size = A at hD ⊢
  have hA : ∀ q : Nat, s.heap.size ≤ q → A q := fun q h => by rw [← hAe]; exact Or.inr h
  have hS : va_S A s.heap s.heap [] := va_S.rf
  have hP : va_P D vwCl ([(h0, .inr (0, [.null, .null, .int 0, .int 0, .int 0, .int 0, .int 0]))] ++ ([] : va_W)) s.heap := hP0
  have hD : va_D A ([(h0, .inr (0, [.null, .null, .int 0, .int 0, .int 0, .int 0, .int 0]))] ++ ([] : va_W)) := hD
  have hl := lv_entry ([.ref h0] : List Value) (n := 1) (Nat.le_of_ble_eq_true rfl)
  rw [lg_entry_eq]
  generalize (lg_sl ([.ref h0] : List Value) ++ List.replicate (1 - (lg_sl ([.ref h0] : List Value)).length) Slot.unset).toArray = ls at hl ⊢
  have hl : lv_has ls 1 [(0, .ref h0)] := hl
  refine lv_aload_n hx hb dX0_init_0 rfl (lv_at hl 0 rfl) ?_
  refine W.objInit hx hb hown (hts _ mX0_init_oi3) (hts _ mX0_init_oim) (hts _ mX0_init_oic) rfl (by rw [hml]; exact hl.1) rfl dX0_init_1 (Nat.le_of_ble_eq_true rfl) (Nat.le_of_ble_eq_true rfl) ?_
  refine W.eq (g2 := F0 m 4 ls []) rfl ?_
  refine lv_aload_n hx hb dX0_init_4 rfl (lv_at hl 0 rfl) ?_
  refine lv_iconst (v := 4) hx hb dX0_init_5 (by decide) ?_
  refine mk_newi 4 hx hb (hts _ mX0_init_acI) hK hP hD hS hA (by decide) rfl (by decide) (Nat.le_of_ble_eq_true rfl) (Nat.le_of_ble_eq_true rfl) dX0_init_6 (fun q_1 H hP hD hS => ?_)
  have hP := va_P_perm (perm_rot _ _ _) hP
  have hD := va_D_perm (perm_rot _ _ _) hD
  have hP : va_P D vwCl ([(h0, .inr (0, [.null, .null, .int 0, .int 0, .int 0, .int 0, .int 0])), (q_1, .inl (cA 0, 4, .inl (fun _ => 0)))] ++ ([] : va_W)) H := hP
  have hD : va_D A ([(h0, .inr (0, [.null, .null, .int 0, .int 0, .int 0, .int 0, .int 0])), (q_1, .inl (cA 0, 4, .inl (fun _ => 0)))] ++ ([] : va_W)) := hD
  refine va_putF (D := D) (ci := 0) (v := .ref q_1) (ty := .array .int) (C := RX0) (T := TX0) (N := 7) hx hb hts iX0_init_X0 tyX0 tyX0_ok nmX0 hown hK hP hD hS 0 rfl rfl 0 (by decide) (hts _ mX0_init_f11) (fun _ h9 => h9) rfl hin rfl (by decide +kernel) rfl rfl (Nat.le_of_ble_eq_true rfl) dX0_init_8 (fun H locs hP hD hS => ?_)
  have hP : va_P D vwCl ([(h0, .inr (0, [.ref q_1, .null, .int 0, .int 0, .int 0, .int 0, .int 0])), (q_1, .inl (cA 0, 4, .inl (fun _ => 0)))] ++ ([] : va_W)) H := hP
  have hD : va_D A ([(h0, .inr (0, [.ref q_1, .null, .int 0, .int 0, .int 0, .int 0, .int 0])), (q_1, .inl (cA 0, 4, .inl (fun _ => 0)))] ++ ([] : va_W)) := hD
  refine lv_aload_n hx hb dX0_init_11 rfl (lv_at hl 0 rfl) ?_
  refine lv_bipush (v := 8) hx hb dX0_init_12 (by decide) ?_
  refine mk_newi 8 hx hb (hts _ mX0_init_acI) hK hP hD hS hA (by decide) rfl (by decide) (Nat.le_of_ble_eq_true rfl) (Nat.le_of_ble_eq_true rfl) dX0_init_14 (fun q_2 H hP hD hS => ?_)
  have hP := va_P_perm (perm_rot _ _ _) hP
  have hD := va_D_perm (perm_rot _ _ _) hD
  have hP : va_P D vwCl ([(h0, .inr (0, [.ref q_1, .null, .int 0, .int 0, .int 0, .int 0, .int 0])), (q_1, .inl (cA 0, 4, .inl (fun _ => 0))), (q_2, .inl (cA 0, 8, .inl (fun _ => 0)))] ++ ([] : va_W)) H := hP
  have hD : va_D A ([(h0, .inr (0, [.ref q_1, .null, .int 0, .int 0, .int 0, .int 0, .int 0])), (q_1, .inl (cA 0, 4, .inl (fun _ => 0))), (q_2, .inl (cA 0, 8, .inl (fun _ => 0)))] ++ ([] : va_W)) := hD
  refine va_putF (D := D) (ci := 0) (v := .ref q_2) (ty := .array .int) (C := RX0) (T := TX0) (N := 7) hx hb hts iX0_init_X0 tyX0 tyX0_ok nmX0 hown hK hP hD hS 0 rfl rfl 1 (by decide) (hts _ mX0_init_f15) (fun _ h9 => h9) rfl hin rfl (by decide +kernel) rfl rfl (Nat.le_of_ble_eq_true rfl) dX0_init_16 (fun H locs hP hD hS => ?_)
  have hP : va_P D vwCl ([(h0, .inr (0, [.ref q_1, .ref q_2, .int 0, .int 0, .int 0, .int 0, .int 0])), (q_1, .inl (cA 0, 4, .inl (fun _ => 0))), (q_2, .inl (cA 0, 8, .inl (fun _ => 0)))] ++ ([] : va_W)) H := hP
  have hD : va_D A ([(h0, .inr (0, [.ref q_1, .ref q_2, .int 0, .int 0, .int 0, .int 0, .int 0])), (q_1, .inl (cA 0, 4, .inl (fun _ => 0))), (q_2, .inl (cA 0, 8, .inl (fun _ => 0)))] ++ ([] : va_W)) := hD
  refine lv_aload_n hx hb dX0_init_19 rfl (lv_at hl 0 rfl) ?_
  obtain ⟨a, h5, h6, h7⟩ : ∃ a : Nat → Nat, a 5 = h0 ∧ a 6 = q_1 ∧ a 7 = q_2 := ⟨fun i => if i = 5 then h0 else if i = 6 then q_1 else q_2, rfl, rfl, rfl⟩
  subst h5
  subst h6
  subst h7
  rw [List.append_nil] at hP hD
  have hP : va_P D vwCl (wMc cA a (fun _ => 0, fun _ => 0, 0, 0, 0, 0, 0)) H := hP
  have hD : va_D A (wMc cA a (fun _ => 0, fun _ => 0, 0, 0, 0, 0, 0)) := hD
  refine mu_V (ci := 0) (q0 := 0) (As := []) (rest := []) (ws' := (wMc cA a beginM)) ⟨hx, hb, hml, hown, hts⟩ (c_X0_begin l D cA _ a (fun _ => 0, fun _ => 0, 0, 0, 0, 0, 0) hP (hD.weaken (fun _ _ _ _ => trivial))) (cwV 0 hts gX0_init_X0_begin rfl rfl rfl (by decide +kernel) ⟨Nat.le_of_ble_eq_true rfl, Nat.le_of_ble_eq_true rfl⟩) hKN hP hD hS hA rfl rfl [0, 1, 2] rfl ((wMc_fst _ _ _).trans (wMc_fst _ _ _).symm) rfl rfl hl.1 rfl (lv_room (Nat.le_of_ble_eq_true rfl)) dX0_init_20 ⟨Nat.le_of_ble_eq_true rfl, Nat.le_of_ble_eq_true rfl⟩ (fun H locs hP hD hS => ?_)
  exact mk_vret a hx hb hr hlocks dX0_init_23 hAe hS rfl hP hD
theorem mX2_init_oi3 : Cond.methodLink RX2 3 objectInit ∈ wsX2_init := by decide +kernel
theorem mX2_init_oim : Cond.instanceMethod objectInit ∈ wsX2_init := by decide +kernel
theorem mX2_init_oic : Cond.code objectInit ⟨#[0xb1]⟩ 1 none ∈ wsX2_init := by decide +kernel
theorem mX2_init_acI : Cond.arrayClass .int ∈ wsX2_init := by decide +kernel
theorem mX2_init_f9 : Cond.fieldLink RX2 9 "WireLoom$State" "rings" "[I" ∈ wsX2_init := by decide +kernel
theorem mX2_init_f15 : Cond.fieldLink RX2 15 "WireLoom$State" "readings" "[I" ∈ wsX2_init := by decide +kernel
theorem mX2_init_f18 : Cond.fieldLink RX2 18 "WireLoom$State" "wear" "[I" ∈ wsX2_init := by decide +kernel
theorem mX2_init_f21 : Cond.fieldLink RX2 21 "WireLoom$State" "settings" "[I" ∈ wsX2_init := by decide +kernel
theorem mX2_init_c24 : Cond.classLink RX2 24 RX0 ∈ wsX2_init := by decide +kernel
theorem mX2_init_inX0 : Cond.instantiable RX0 7 ∈ wsX2_init := by decide +kernel
theorem mX2_init_iiX0 : Cond.initialized RX0 ∈ wsX2_init := by decide +kernel
theorem mX2_init_iniX0 : Cond.initialized yX0_init.cls ∈ wsX2_init := by decide +kernel
theorem mX2_init_imX0 : Cond.instanceMethod yX0_init ∈ wsX2_init := by decide +kernel
theorem mX2_init_ml26 : Cond.methodLink RX2 26 yX0_init ∈ wsX2_init := by decide +kernel
theorem mX2_init_f27 : Cond.fieldLink RX2 27 "WireLoom$State" "machine" "LWireLoom$Machine;" ∈ wsX2_init := by decide +kernel
set_option maxRecDepth 20000 in
theorem iX2_init_X0 : ∀ w ∈ wsX00, w ∈ wsX2_init := by decide +kernel
set_option maxRecDepth 20000 in
theorem iX2_init_X2 : ∀ w ∈ wsX20, w ∈ wsX2_init := by decide +kernel
set_option maxHeartbeats 8000000 in
set_option maxRecDepth 100000 in
theorem c_X2_init (l : Launch) (D : va_G) (cA : Nat → ClassId) (H : Heap) (h0 : Nat) (hP0 : va_P D vwCl [(h0, .inr (2, [.null, .null, .null, .null, .null, .int 0, .int 0, .int 0]))] H) (hD0 : va_D (fun _ => True) [(h0, .inr (2, [.null, .null, .null, .null, .null, .int 0, .int 0, .int 0]))]) : MK (X := Nat → Nat) l yX2_init wsX2_init ({ frames := 2, cells := 7, slots := 61, locals := 41 } : Room) D cA [.ref h0] H [(h0, .inr (2, [.null, .null, .null, .null, .null, .int 0, .int 0, .int 0]))] (fun x => x 0 = h0) (fun x => wSt cA x initS) 7 61 := by
  refine Met.ofW (cc := cX2_init) (maxL := 1) (ret := none) (by decide) rfl ?_
  intro p e s m args below meth c s₁ B hml hv
  obtain ⟨rfl, hH, hKN, hKC⟩ := hv
  have hK := hKN.1
  have hx := B.exec
  have hb := B.bytes
  have hr := B.returns
  have hts := atoms_spec (ws := wsX2_init) B.pre
  have hown : s.vm.findClass RX2 = some m.cls := findClass_of_methodNamed B.named
  have hlocks := B.notSynchronized
  have hin : meth.name = "<init>" := (name_of_methodNamed B.named B.method).1
  subst hH
  have hD := hD0.self (sz := s.heap.size)
  generalize hAe : va_A [(h0, .inr (2, [.null, .null, .null, .null, .null, .int 0, .int 0, .int 0]))] s.heap.size = A at hD ⊢
  have hA : ∀ q : Nat, s.heap.size ≤ q → A q := fun q h => by rw [← hAe]; exact Or.inr h
  have hS : va_S A s.heap s.heap [] := va_S.rf
  have hP : va_P D vwCl ([(h0, .inr (2, [.null, .null, .null, .null, .null, .int 0, .int 0, .int 0]))] ++ ([] : va_W)) s.heap := hP0
  have hD : va_D A ([(h0, .inr (2, [.null, .null, .null, .null, .null, .int 0, .int 0, .int 0]))] ++ ([] : va_W)) := hD
  have hl := lv_entry ([.ref h0] : List Value) (n := 1) (Nat.le_of_ble_eq_true rfl)
  rw [lg_entry_eq]
  generalize (lg_sl ([.ref h0] : List Value) ++ List.replicate (1 - (lg_sl ([.ref h0] : List Value)).length) Slot.unset).toArray = ls at hl ⊢
  have hl : lv_has ls 1 [(0, .ref h0)] := hl
  refine lv_aload_n hx hb dX2_init_0 rfl (lv_at hl 0 rfl) ?_
  refine W.objInit hx hb hown (hts _ mX2_init_oi3) (hts _ mX2_init_oim) (hts _ mX2_init_oic) rfl (by rw [hml]; exact hl.1) rfl dX2_init_1 (Nat.le_of_ble_eq_true rfl) (Nat.le_of_ble_eq_true rfl) ?_
  refine W.eq (g2 := F0 m 4 ls []) rfl ?_
  refine lv_aload_n hx hb dX2_init_4 rfl (lv_at hl 0 rfl) ?_
  refine lv_bipush (v := 16) hx hb dX2_init_5 (by decide) ?_
  refine mk_newi 16 hx hb (hts _ mX2_init_acI) hK hP hD hS hA (by decide) rfl (by decide) (Nat.le_of_ble_eq_true rfl) (Nat.le_of_ble_eq_true rfl) dX2_init_7 (fun q_1 H hP hD hS => ?_)
  have hP := va_P_perm (perm_rot _ _ _) hP
  have hD := va_D_perm (perm_rot _ _ _) hD
  have hP : va_P D vwCl ([(h0, .inr (2, [.null, .null, .null, .null, .null, .int 0, .int 0, .int 0])), (q_1, .inl (cA 0, 16, .inl (fun _ => 0)))] ++ ([] : va_W)) H := hP
  have hD : va_D A ([(h0, .inr (2, [.null, .null, .null, .null, .null, .int 0, .int 0, .int 0])), (q_1, .inl (cA 0, 16, .inl (fun _ => 0)))] ++ ([] : va_W)) := hD
  refine va_putF (D := D) (ci := 2) (v := .ref q_1) (ty := .array .int) (C := RX2) (T := TX2) (N := 8) hx hb hts iX2_init_X2 tyX2 tyX2_ok nmX2 hown hK hP hD hS 0 rfl rfl 0 (by decide) (hts _ mX2_init_f9) (fun _ h9 => h9) rfl hin rfl (by decide +kernel) rfl rfl (Nat.le_of_ble_eq_true rfl) dX2_init_9 (fun H locs hP hD hS => ?_)
  have hP : va_P D vwCl ([(h0, .inr (2, [.ref q_1, .null, .null, .null, .null, .int 0, .int 0, .int 0])), (q_1, .inl (cA 0, 16, .inl (fun _ => 0)))] ++ ([] : va_W)) H := hP
  have hD : va_D A ([(h0, .inr (2, [.ref q_1, .null, .null, .null, .null, .int 0, .int 0, .int 0])), (q_1, .inl (cA 0, 16, .inl (fun _ => 0)))] ++ ([] : va_W)) := hD
  refine lv_aload_n hx hb dX2_init_12 rfl (lv_at hl 0 rfl) ?_
  refine lv_bipush (v := 16) hx hb dX2_init_13 (by decide) ?_
  refine mk_newi 16 hx hb (hts _ mX2_init_acI) hK hP hD hS hA (by decide) rfl (by decide) (Nat.le_of_ble_eq_true rfl) (Nat.le_of_ble_eq_true rfl) dX2_init_15 (fun q_2 H hP hD hS => ?_)
  have hP := va_P_perm (perm_rot _ _ _) hP
  have hD := va_D_perm (perm_rot _ _ _) hD
  have hP : va_P D vwCl ([(h0, .inr (2, [.ref q_1, .null, .null, .null, .null, .int 0, .int 0, .int 0])), (q_1, .inl (cA 0, 16, .inl (fun _ => 0))), (q_2, .inl (cA 0, 16, .inl (fun _ => 0)))] ++ ([] : va_W)) H := hP
  have hD : va_D A ([(h0, .inr (2, [.ref q_1, .null, .null, .null, .null, .int 0, .int 0, .int 0])), (q_1, .inl (cA 0, 16, .inl (fun _ => 0))), (q_2, .inl (cA 0, 16, .inl (fun _ => 0)))] ++ ([] : va_W)) := hD
  refine va_putF (D := D) (ci := 2) (v := .ref q_2) (ty := .array .int) (C := RX2) (T := TX2) (N := 8) hx hb hts iX2_init_X2 tyX2 tyX2_ok nmX2 hown hK hP hD hS 0 rfl rfl 1 (by decide) (hts _ mX2_init_f15) (fun _ h9 => h9) rfl hin rfl (by decide +kernel) rfl rfl (Nat.le_of_ble_eq_true rfl) dX2_init_17 (fun H locs hP hD hS => ?_)
  have hP : va_P D vwCl ([(h0, .inr (2, [.ref q_1, .ref q_2, .null, .null, .null, .int 0, .int 0, .int 0])), (q_1, .inl (cA 0, 16, .inl (fun _ => 0))), (q_2, .inl (cA 0, 16, .inl (fun _ => 0)))] ++ ([] : va_W)) H := hP
  have hD : va_D A ([(h0, .inr (2, [.ref q_1, .ref q_2, .null, .null, .null, .int 0, .int 0, .int 0])), (q_1, .inl (cA 0, 16, .inl (fun _ => 0))), (q_2, .inl (cA 0, 16, .inl (fun _ => 0)))] ++ ([] : va_W)) := hD
  refine lv_aload_n hx hb dX2_init_20 rfl (lv_at hl 0 rfl) ?_
  refine lv_bipush (v := 8) hx hb dX2_init_21 (by decide) ?_
  refine mk_newi 8 hx hb (hts _ mX2_init_acI) hK hP hD hS hA (by decide) rfl (by decide) (Nat.le_of_ble_eq_true rfl) (Nat.le_of_ble_eq_true rfl) dX2_init_23 (fun q_3 H hP hD hS => ?_)
  have hP := va_P_perm (perm_rot _ _ _) hP
  have hD := va_D_perm (perm_rot _ _ _) hD
  have hP : va_P D vwCl ([(h0, .inr (2, [.ref q_1, .ref q_2, .null, .null, .null, .int 0, .int 0, .int 0])), (q_1, .inl (cA 0, 16, .inl (fun _ => 0))), (q_2, .inl (cA 0, 16, .inl (fun _ => 0))), (q_3, .inl (cA 0, 8, .inl (fun _ => 0)))] ++ ([] : va_W)) H := hP
  have hD : va_D A ([(h0, .inr (2, [.ref q_1, .ref q_2, .null, .null, .null, .int 0, .int 0, .int 0])), (q_1, .inl (cA 0, 16, .inl (fun _ => 0))), (q_2, .inl (cA 0, 16, .inl (fun _ => 0))), (q_3, .inl (cA 0, 8, .inl (fun _ => 0)))] ++ ([] : va_W)) := hD
  refine va_putF (D := D) (ci := 2) (v := .ref q_3) (ty := .array .int) (C := RX2) (T := TX2) (N := 8) hx hb hts iX2_init_X2 tyX2 tyX2_ok nmX2 hown hK hP hD hS 0 rfl rfl 2 (by decide) (hts _ mX2_init_f18) (fun _ h9 => h9) rfl hin rfl (by decide +kernel) rfl rfl (Nat.le_of_ble_eq_true rfl) dX2_init_25 (fun H locs hP hD hS => ?_)
  have hP : va_P D vwCl ([(h0, .inr (2, [.ref q_1, .ref q_2, .ref q_3, .null, .null, .int 0, .int 0, .int 0])), (q_1, .inl (cA 0, 16, .inl (fun _ => 0))), (q_2, .inl (cA 0, 16, .inl (fun _ => 0))), (q_3, .inl (cA 0, 8, .inl (fun _ => 0)))] ++ ([] : va_W)) H := hP
  have hD : va_D A ([(h0, .inr (2, [.ref q_1, .ref q_2, .ref q_3, .null, .null, .int 0, .int 0, .int 0])), (q_1, .inl (cA 0, 16, .inl (fun _ => 0))), (q_2, .inl (cA 0, 16, .inl (fun _ => 0))), (q_3, .inl (cA 0, 8, .inl (fun _ => 0)))] ++ ([] : va_W)) := hD
  refine lv_aload_n hx hb dX2_init_28 rfl (lv_at hl 0 rfl) ?_
  refine lv_iconst (v := 2) hx hb dX2_init_29 (by decide) ?_
  refine mk_newi 2 hx hb (hts _ mX2_init_acI) hK hP hD hS hA (by decide) rfl (by decide) (Nat.le_of_ble_eq_true rfl) (Nat.le_of_ble_eq_true rfl) dX2_init_30 (fun q_4 H hP hD hS => ?_)
  have hP := va_P_perm (perm_rot _ _ _) hP
  have hD := va_D_perm (perm_rot _ _ _) hD
  have hP : va_P D vwCl ([(h0, .inr (2, [.ref q_1, .ref q_2, .ref q_3, .null, .null, .int 0, .int 0, .int 0])), (q_1, .inl (cA 0, 16, .inl (fun _ => 0))), (q_2, .inl (cA 0, 16, .inl (fun _ => 0))), (q_3, .inl (cA 0, 8, .inl (fun _ => 0))), (q_4, .inl (cA 0, 2, .inl (fun _ => 0)))] ++ ([] : va_W)) H := hP
  have hD : va_D A ([(h0, .inr (2, [.ref q_1, .ref q_2, .ref q_3, .null, .null, .int 0, .int 0, .int 0])), (q_1, .inl (cA 0, 16, .inl (fun _ => 0))), (q_2, .inl (cA 0, 16, .inl (fun _ => 0))), (q_3, .inl (cA 0, 8, .inl (fun _ => 0))), (q_4, .inl (cA 0, 2, .inl (fun _ => 0)))] ++ ([] : va_W)) := hD
  refine va_putF (D := D) (ci := 2) (v := .ref q_4) (ty := .array .int) (C := RX2) (T := TX2) (N := 8) hx hb hts iX2_init_X2 tyX2 tyX2_ok nmX2 hown hK hP hD hS 0 rfl rfl 3 (by decide) (hts _ mX2_init_f21) (fun _ h9 => h9) rfl hin rfl (by decide +kernel) rfl rfl (Nat.le_of_ble_eq_true rfl) dX2_init_32 (fun H locs hP hD hS => ?_)
  have hP : va_P D vwCl ([(h0, .inr (2, [.ref q_1, .ref q_2, .ref q_3, .ref q_4, .null, .int 0, .int 0, .int 0])), (q_1, .inl (cA 0, 16, .inl (fun _ => 0))), (q_2, .inl (cA 0, 16, .inl (fun _ => 0))), (q_3, .inl (cA 0, 8, .inl (fun _ => 0))), (q_4, .inl (cA 0, 2, .inl (fun _ => 0)))] ++ ([] : va_W)) H := hP
  have hD : va_D A ([(h0, .inr (2, [.ref q_1, .ref q_2, .ref q_3, .ref q_4, .null, .int 0, .int 0, .int 0])), (q_1, .inl (cA 0, 16, .inl (fun _ => 0))), (q_2, .inl (cA 0, 16, .inl (fun _ => 0))), (q_3, .inl (cA 0, 8, .inl (fun _ => 0))), (q_4, .inl (cA 0, 2, .inl (fun _ => 0)))] ++ ([] : va_W)) := hD
  refine lv_aload_n hx hb dX2_init_35 rfl (lv_at hl 0 rfl) ?_
  refine va_new (ci := 0) (fs := [.null, .null, .int 0, .int 0, .int 0, .int 0, .int 0]) (C := RX0) (T := TX0) (N := 7) hx hb hts iX2_init_X0 tyX0 tyX0_ok hown (hts _ mX2_init_c24) (hts _ mX2_init_inX0) (hts _ mX2_init_iiX0) hK hP hD hS hA rfl (fun j hj => by rcases (show j = 0 ∨ j = 1 ∨ j = 2 ∨ j = 3 ∨ j = 4 ∨ j = 5 ∨ j = 6 by omega) with rfl | rfl | rfl | rfl | rfl | rfl | rfl <;> rfl) (Nat.le_of_ble_eq_true rfl) (Nat.le_of_ble_eq_true rfl) dX2_init_36 (fun q_5 H hP hD hS => ?_)
  have hP := va_P_comm hP
  have hD := va_D_comm hD
  have hP : va_P D vwCl ([(q_5, .inr (0, [.null, .null, .int 0, .int 0, .int 0, .int 0, .int 0]))] ++ ([(h0, .inr (2, [.ref q_1, .ref q_2, .ref q_3, .ref q_4, .null, .int 0, .int 0, .int 0])), (q_1, .inl (cA 0, 16, .inl (fun _ => 0))), (q_2, .inl (cA 0, 16, .inl (fun _ => 0))), (q_3, .inl (cA 0, 8, .inl (fun _ => 0))), (q_4, .inl (cA 0, 2, .inl (fun _ => 0)))] ++ ([] : va_W))) H := hP
  have hD : va_D A ([(q_5, .inr (0, [.null, .null, .int 0, .int 0, .int 0, .int 0, .int 0]))] ++ ([(h0, .inr (2, [.ref q_1, .ref q_2, .ref q_3, .ref q_4, .null, .int 0, .int 0, .int 0])), (q_1, .inl (cA 0, 16, .inl (fun _ => 0))), (q_2, .inl (cA 0, 16, .inl (fun _ => 0))), (q_3, .inl (cA 0, 8, .inl (fun _ => 0))), (q_4, .inl (cA 0, 2, .inl (fun _ => 0)))] ++ ([] : va_W))) := hD
  refine lv_dup hx hb dX2_init_39 rfl ?_
  refine mk_I (As := []) (rest := [.ref q_5, .ref h0]) ⟨hx, hb, hml, hown, hts⟩ (c_X0_init l D cA _ q_5  (va_P_l hP) (va_D_l hD)) (cwI 0 hts gX2_init_X0_init rfl rfl rfl (hts _ mX2_init_iniX0) (hts _ mX2_init_ml26) (hts _ mX2_init_imX0) rfl (by decide +kernel) ⟨Nat.le_of_ble_eq_true rfl, Nat.le_of_ble_eq_true rfl⟩) hKN hKC hP hD hS hA rfl hl.1 rfl (lv_room (Nat.le_of_ble_eq_true rfl)) dX2_init_40 ⟨Nat.le_of_ble_eq_true rfl, Nat.le_of_ble_eq_true rfl⟩ (fun a_6 H locs ha hP2 hD2 hS => ?_)
  clear hP hD
  try dsimp only at ha
  subst ha
  have hP := hP2
  have hD := hD2
  clear hP2 hD2
  have hP := va_P_comm hP
  have hD := va_D_comm hD
  rw [List.append_nil] at hP hD
  have hP : va_P D vwCl [(h0, .inr (2, [.ref q_1, .ref q_2, .ref q_3, .ref q_4, .null, .int 0, .int 0, .int 0])), (q_1, .inl (cA 0, 16, .inl (fun _ => 0))), (q_2, .inl (cA 0, 16, .inl (fun _ => 0))), (q_3, .inl (cA 0, 8, .inl (fun _ => 0))), (q_4, .inl (cA 0, 2, .inl (fun _ => 0))), ((a_6 5), .inr (0, [.ref (a_6 6), .ref (a_6 7), .int 0, .int 0, .int 1, .int 0, .int 0])), ((a_6 6), .inl (cA 0, 4, .inl (fun _ => 0))), ((a_6 7), .inl (cA 0, 8, .inl (fun _ => -1)))] H := hP
  have hD : va_D A [(h0, .inr (2, [.ref q_1, .ref q_2, .ref q_3, .ref q_4, .null, .int 0, .int 0, .int 0])), (q_1, .inl (cA 0, 16, .inl (fun _ => 0))), (q_2, .inl (cA 0, 16, .inl (fun _ => 0))), (q_3, .inl (cA 0, 8, .inl (fun _ => 0))), (q_4, .inl (cA 0, 2, .inl (fun _ => 0))), ((a_6 5), .inr (0, [.ref (a_6 6), .ref (a_6 7), .int 0, .int 0, .int 1, .int 0, .int 0])), ((a_6 6), .inl (cA 0, 4, .inl (fun _ => 0))), ((a_6 7), .inl (cA 0, 8, .inl (fun _ => -1)))] := hD
  have hP : va_P D vwCl ([(h0, .inr (2, [.ref q_1, .ref q_2, .ref q_3, .ref q_4, .null, .int 0, .int 0, .int 0])), (q_1, .inl (cA 0, 16, .inl (fun _ => 0))), (q_2, .inl (cA 0, 16, .inl (fun _ => 0))), (q_3, .inl (cA 0, 8, .inl (fun _ => 0))), (q_4, .inl (cA 0, 2, .inl (fun _ => 0))), ((a_6 5), .inr (0, [.ref (a_6 6), .ref (a_6 7), .int 0, .int 0, .int 1, .int 0, .int 0])), ((a_6 6), .inl (cA 0, 4, .inl (fun _ => 0))), ((a_6 7), .inl (cA 0, 8, .inl (fun _ => -1)))] ++ ([] : va_W)) H := hP
  have hD : va_D A ([(h0, .inr (2, [.ref q_1, .ref q_2, .ref q_3, .ref q_4, .null, .int 0, .int 0, .int 0])), (q_1, .inl (cA 0, 16, .inl (fun _ => 0))), (q_2, .inl (cA 0, 16, .inl (fun _ => 0))), (q_3, .inl (cA 0, 8, .inl (fun _ => 0))), (q_4, .inl (cA 0, 2, .inl (fun _ => 0))), ((a_6 5), .inr (0, [.ref (a_6 6), .ref (a_6 7), .int 0, .int 0, .int 1, .int 0, .int 0])), ((a_6 6), .inl (cA 0, 4, .inl (fun _ => 0))), ((a_6 7), .inl (cA 0, 8, .inl (fun _ => -1)))] ++ ([] : va_W)) := hD
  refine va_putF (D := D) (ci := 2) (v := .ref (a_6 5)) (ty := .object "WireLoom$Machine") (C := RX2) (T := TX2) (N := 8) hx hb hts iX2_init_X2 tyX2 tyX2_ok nmX2 hown hK hP hD hS 0 rfl rfl 4 (by decide) (hts _ mX2_init_f27) (fun _ h9 => h9) rfl hin rfl (by decide +kernel) rfl rfl (Nat.le_of_ble_eq_true rfl) dX2_init_43 (fun H locs hP hD hS => ?_)
  have hP : va_P D vwCl ([(h0, .inr (2, [.ref q_1, .ref q_2, .ref q_3, .ref q_4, .ref (a_6 5), .int 0, .int 0, .int 0])), (q_1, .inl (cA 0, 16, .inl (fun _ => 0))), (q_2, .inl (cA 0, 16, .inl (fun _ => 0))), (q_3, .inl (cA 0, 8, .inl (fun _ => 0))), (q_4, .inl (cA 0, 2, .inl (fun _ => 0))), ((a_6 5), .inr (0, [.ref (a_6 6), .ref (a_6 7), .int 0, .int 0, .int 1, .int 0, .int 0])), ((a_6 6), .inl (cA 0, 4, .inl (fun _ => 0))), ((a_6 7), .inl (cA 0, 8, .inl (fun _ => -1)))] ++ ([] : va_W)) H := hP
  have hD : va_D A ([(h0, .inr (2, [.ref q_1, .ref q_2, .ref q_3, .ref q_4, .ref (a_6 5), .int 0, .int 0, .int 0])), (q_1, .inl (cA 0, 16, .inl (fun _ => 0))), (q_2, .inl (cA 0, 16, .inl (fun _ => 0))), (q_3, .inl (cA 0, 8, .inl (fun _ => 0))), (q_4, .inl (cA 0, 2, .inl (fun _ => 0))), ((a_6 5), .inr (0, [.ref (a_6 6), .ref (a_6 7), .int 0, .int 0, .int 1, .int 0, .int 0])), ((a_6 6), .inl (cA 0, 4, .inl (fun _ => 0))), ((a_6 7), .inl (cA 0, 8, .inl (fun _ => -1)))] ++ ([] : va_W)) := hD
  refine lv_aload_n hx hb dX2_init_46 rfl (lv_at hl 0 rfl) ?_
  refine va_get (D := D) (ci := 2) (v := .ref q_4) (C := RX2) (T := TX2) (N := 8) hx hb hts iX2_init_X2 hown hK hP 0 rfl rfl 3 (by decide) (hts _ mX2_init_f21) (fun _ h9 => h9) rfl dX2_init_47 ?_
  refine lv_iconst (v := 0) hx hb dX2_init_50 (by decide) ?_
  refine lv_bipush (v := 6) hx hb dX2_init_51 (by decide) ?_
  refine lz_iast (k := 0) (f := (fun _ => 0)) hx hb hK hP hD hS 4 0 rfl rfl ⟨by decide, by decide⟩ dX2_init_53 (fun H locs hP hD hS => ?_)
  have hP : va_P D vwCl ([(h0, .inr (2, [.ref q_1, .ref q_2, .ref q_3, .ref q_4, .ref (a_6 5), .int 0, .int 0, .int 0])), (q_1, .inl (cA 0, 16, .inl (fun _ => 0))), (q_2, .inl (cA 0, 16, .inl (fun _ => 0))), (q_3, .inl (cA 0, 8, .inl (fun _ => 0))), (q_4, .inl (cA 0, 2, .inl (upd (fun _ => 0) 0 6))), ((a_6 5), .inr (0, [.ref (a_6 6), .ref (a_6 7), .int 0, .int 0, .int 1, .int 0, .int 0])), ((a_6 6), .inl (cA 0, 4, .inl (fun _ => 0))), ((a_6 7), .inl (cA 0, 8, .inl (fun _ => -1)))] ++ ([] : va_W)) H := hP
  have hD : va_D A ([(h0, .inr (2, [.ref q_1, .ref q_2, .ref q_3, .ref q_4, .ref (a_6 5), .int 0, .int 0, .int 0])), (q_1, .inl (cA 0, 16, .inl (fun _ => 0))), (q_2, .inl (cA 0, 16, .inl (fun _ => 0))), (q_3, .inl (cA 0, 8, .inl (fun _ => 0))), (q_4, .inl (cA 0, 2, .inl (upd (fun _ => 0) 0 6))), ((a_6 5), .inr (0, [.ref (a_6 6), .ref (a_6 7), .int 0, .int 0, .int 1, .int 0, .int 0])), ((a_6 6), .inl (cA 0, 4, .inl (fun _ => 0))), ((a_6 7), .inl (cA 0, 8, .inl (fun _ => -1)))] ++ ([] : va_W)) := hD
  rw [List.append_nil] at hP hD
  exact mk_vret (fun i => if i = 0 then h0 else if i = 1 then q_1 else if i = 2 then q_2 else if i = 3 then q_3 else if i = 4 then q_4 else a_6 i) hx hb hr hlocks dX2_init_54 hAe hS rfl hP hD
theorem mX3_init_oi3 : Cond.methodLink RX3 3 objectInit ∈ wsX3_init := by decide +kernel
theorem mX3_init_oim : Cond.instanceMethod objectInit ∈ wsX3_init := by decide +kernel
theorem mX3_init_oic : Cond.code objectInit ⟨#[0xb1]⟩ 1 none ∈ wsX3_init := by decide +kernel
theorem mX3_init_acI : Cond.arrayClass .int ∈ wsX3_init := by decide +kernel
theorem mX3_init_f11 : Cond.fieldLink RX3 11 "WireLoom$Text" "codes" "[I" ∈ wsX3_init := by decide +kernel
theorem mX3_init_f15 : Cond.fieldLink RX3 15 "WireLoom$Text" "words" "[I" ∈ wsX3_init := by decide +kernel
set_option maxRecDepth 20000 in
theorem iX3_init_X3 : ∀ w ∈ wsX30, w ∈ wsX3_init := by decide +kernel
set_option maxHeartbeats 8000000 in
set_option maxRecDepth 100000 in
theorem c_X3_init (l : Launch) (D : va_G) (cA : Nat → ClassId) (H : Heap) (h0 : Nat) (hP0 : va_P D vwCl [(h0, .inr (3, [.null, .null, .int 0, .int 0, .int 0]))] H) (hD0 : va_D (fun _ => True) [(h0, .inr (3, [.null, .null, .int 0, .int 0, .int 0]))]) : MK (X := Nat → Nat) l yX3_init wsX3_init ({ frames := 1, cells := 2, slots := 76, locals := 12 } : Room) D cA [.ref h0] H [(h0, .inr (3, [.null, .null, .int 0, .int 0, .int 0]))] (fun x => x 0 = h0) (fun x => wTx cA x (fun _ => 0, fun _ => 0, 0, 0, 0)) 2 76 := by
  refine Met.ofW (cc := cX3_init) (maxL := 1) (ret := none) (by decide) rfl ?_
  intro p e s m args below meth c s₁ B hml hv
  obtain ⟨rfl, hH, hKN, hKC⟩ := hv
  have hK := hKN.1
  have hx := B.exec
  have hb := B.bytes
  have hr := B.returns
  have hts := atoms_spec (ws := wsX3_init) B.pre
  have hown : s.vm.findClass RX3 = some m.cls := findClass_of_methodNamed B.named
  have hlocks := B.notSynchronized
  have hin : meth.name = "<init>" := (name_of_methodNamed B.named B.method).1
  subst hH
  have hD := hD0.self (sz := s.heap.size)
  generalize hAe : va_A [(h0, .inr (3, [.null, .null, .int 0, .int 0, .int 0]))] s.heap.size = A at hD ⊢
  have hA : ∀ q : Nat, s.heap.size ≤ q → A q := fun q h => by rw [← hAe]; exact Or.inr h
  have hS : va_S A s.heap s.heap [] := va_S.rf
  have hP : va_P D vwCl ([(h0, .inr (3, [.null, .null, .int 0, .int 0, .int 0]))] ++ ([] : va_W)) s.heap := hP0
  have hD : va_D A ([(h0, .inr (3, [.null, .null, .int 0, .int 0, .int 0]))] ++ ([] : va_W)) := hD
  have hl := lv_entry ([.ref h0] : List Value) (n := 1) (Nat.le_of_ble_eq_true rfl)
  rw [lg_entry_eq]
  generalize (lg_sl ([.ref h0] : List Value) ++ List.replicate (1 - (lg_sl ([.ref h0] : List Value)).length) Slot.unset).toArray = ls at hl ⊢
  have hl : lv_has ls 1 [(0, .ref h0)] := hl
  refine lv_aload_n hx hb dX3_init_0 rfl (lv_at hl 0 rfl) ?_
  refine W.objInit hx hb hown (hts _ mX3_init_oi3) (hts _ mX3_init_oim) (hts _ mX3_init_oic) rfl (by rw [hml]; exact hl.1) rfl dX3_init_1 (Nat.le_of_ble_eq_true rfl) (Nat.le_of_ble_eq_true rfl) ?_
  refine W.eq (g2 := F0 m 4 ls []) rfl ?_
  refine lv_aload_n hx hb dX3_init_4 rfl (lv_at hl 0 rfl) ?_
  refine lv_bipush (v := 60) hx hb dX3_init_5 (by decide) ?_
  refine mk_newi 60 hx hb (hts _ mX3_init_acI) hK hP hD hS hA (by decide) rfl (by decide) (Nat.le_of_ble_eq_true rfl) (Nat.le_of_ble_eq_true rfl) dX3_init_7 (fun q_1 H hP hD hS => ?_)
  have hP := va_P_perm (perm_rot _ _ _) hP
  have hD := va_D_perm (perm_rot _ _ _) hD
  have hP : va_P D vwCl ([(h0, .inr (3, [.null, .null, .int 0, .int 0, .int 0])), (q_1, .inl (cA 0, 60, .inl (fun _ => 0)))] ++ ([] : va_W)) H := hP
  have hD : va_D A ([(h0, .inr (3, [.null, .null, .int 0, .int 0, .int 0])), (q_1, .inl (cA 0, 60, .inl (fun _ => 0)))] ++ ([] : va_W)) := hD
  refine va_putF (D := D) (ci := 3) (v := .ref q_1) (ty := .array .int) (C := RX3) (T := TX3) (N := 5) hx hb hts iX3_init_X3 tyX3 tyX3_ok nmX3 hown hK hP hD hS 0 rfl rfl 0 (by decide) (hts _ mX3_init_f11) (fun _ h9 => h9) rfl hin rfl (by decide +kernel) rfl rfl (Nat.le_of_ble_eq_true rfl) dX3_init_9 (fun H locs hP hD hS => ?_)
  have hP : va_P D vwCl ([(h0, .inr (3, [.ref q_1, .null, .int 0, .int 0, .int 0])), (q_1, .inl (cA 0, 60, .inl (fun _ => 0)))] ++ ([] : va_W)) H := hP
  have hD : va_D A ([(h0, .inr (3, [.ref q_1, .null, .int 0, .int 0, .int 0])), (q_1, .inl (cA 0, 60, .inl (fun _ => 0)))] ++ ([] : va_W)) := hD
  refine lv_aload_n hx hb dX3_init_12 rfl (lv_at hl 0 rfl) ?_
  refine lv_bipush (v := 16) hx hb dX3_init_13 (by decide) ?_
  refine mk_newi 16 hx hb (hts _ mX3_init_acI) hK hP hD hS hA (by decide) rfl (by decide) (Nat.le_of_ble_eq_true rfl) (Nat.le_of_ble_eq_true rfl) dX3_init_15 (fun q_2 H hP hD hS => ?_)
  have hP := va_P_perm (perm_rot _ _ _) hP
  have hD := va_D_perm (perm_rot _ _ _) hD
  have hP : va_P D vwCl ([(h0, .inr (3, [.ref q_1, .null, .int 0, .int 0, .int 0])), (q_1, .inl (cA 0, 60, .inl (fun _ => 0))), (q_2, .inl (cA 0, 16, .inl (fun _ => 0)))] ++ ([] : va_W)) H := hP
  have hD : va_D A ([(h0, .inr (3, [.ref q_1, .null, .int 0, .int 0, .int 0])), (q_1, .inl (cA 0, 60, .inl (fun _ => 0))), (q_2, .inl (cA 0, 16, .inl (fun _ => 0)))] ++ ([] : va_W)) := hD
  refine va_putF (D := D) (ci := 3) (v := .ref q_2) (ty := .array .int) (C := RX3) (T := TX3) (N := 5) hx hb hts iX3_init_X3 tyX3 tyX3_ok nmX3 hown hK hP hD hS 0 rfl rfl 1 (by decide) (hts _ mX3_init_f15) (fun _ h9 => h9) rfl hin rfl (by decide +kernel) rfl rfl (Nat.le_of_ble_eq_true rfl) dX3_init_17 (fun H locs hP hD hS => ?_)
  have hP : va_P D vwCl ([(h0, .inr (3, [.ref q_1, .ref q_2, .int 0, .int 0, .int 0])), (q_1, .inl (cA 0, 60, .inl (fun _ => 0))), (q_2, .inl (cA 0, 16, .inl (fun _ => 0)))] ++ ([] : va_W)) H := hP
  have hD : va_D A ([(h0, .inr (3, [.ref q_1, .ref q_2, .int 0, .int 0, .int 0])), (q_1, .inl (cA 0, 60, .inl (fun _ => 0))), (q_2, .inl (cA 0, 16, .inl (fun _ => 0)))] ++ ([] : va_W)) := hD
  rw [List.append_nil] at hP hD
  exact mk_vret (fun i => if i = 0 then h0 else if i = 1 then q_1 else q_2) hx hb hr hlocks dX3_init_20 hAe hS rfl hP hD
theorem vp_cell_extq {cX : ClassId} {n : Nat} {f g : Nat → Option Nat} (h : ∀ j, j < n → f j = g j) : vp_cell cX (n, .inr (.inr (.inr (.inr f)))) = vp_cell cX (n, .inr (.inr (.inr (.inr g)))) := by
  rw [vp_cell_q, vp_cell_q]
  unfold arrV
  congr 1
  apply Array.ext
  · simp
  · intro j h1 h2
    have hj : j < n := by simpa using h1
    simp [h j hj]
theorem va_P_q1 {D : va_G} {c0 : Nat × va_E} {a : Nat} {cX : ClassId} {n : Nat} {f g : Nat → Option Nat} {R : va_W} {H : Heap} (h : ∀ j, j < n → f j = g j) (hP : va_P D vwCl (c0 :: (a, .inl (cX, n, .inr (.inr (.inr (.inr f))))) :: R) H) : va_P D vwCl (c0 :: (a, .inl (cX, n, .inr (.inr (.inr (.inr g))))) :: R) H := by
  intro k q hq
  match k, hq with
  | 0, hq => exact hP 0 q hq
  | 1, hq =>
    cases hq
    have h1 := hP 1 _ rfl
    show H[a]? = some (vp_cell cX (n, .inr (.inr (.inr (.inr g)))))
    rw [← vp_cell_extq h]
    exact h1
  | k + 2, hq => exact hP (k + 2) q hq
theorem va_D_q1 {A : Nat → Prop} {c0 : Nat × va_E} {a : Nat} {x y : va_E} {R : va_W} (hD : va_D A (c0 :: (a, x) :: R)) : va_D A (c0 :: (a, y) :: R) := va_D_fst hD rfl
def wPa0 (cA : Nat → ClassId) (x : (Nat → Nat) × (Nat → Nat → Nat)) : va_W := [(x.1 0, .inr (1, [.ref (x.1 1), .int 0, .int 0])), (x.1 1, .inl (cA 2, 6, .inr (.inr (.inr (.inr (fun i => some (x.2 i 0)))))))] ++ [5, 4, 3, 2, 1, 0].flatMap (fun i => wSt cA (x.2 i) initS)
theorem lt6 {P : Nat → Prop} (h0 : P 0) (h1 : P 1) (h2 : P 2) (h3 : P 3) (h4 : P 4) (h5 : P 5) : ∀ j, j < 6 → P j := by
  intro j hj
  match j, hj with
  | 0, _ => exact h0
  | 1, _ => exact h1
  | 2, _ => exact h2
  | 3, _ => exact h3
  | 4, _ => exact h4
  | 5, _ => exact h5
theorem mX1_init_oi1 : Cond.methodLink RX1 1 objectInit ∈ wsX1_init := by decide +kernel
theorem mX1_init_oim : Cond.instanceMethod objectInit ∈ wsX1_init := by decide +kernel
theorem mX1_init_oic : Cond.code objectInit ⟨#[0xb1]⟩ 1 none ∈ wsX1_init := by decide +kernel
theorem mX1_init_c9 : Cond.classLink RX1 9 RX2 ∈ wsX1_init := by decide +kernel
theorem mX1_init_f11 : Cond.fieldLink RX1 11 "WireLoom$Past" "saved" "[LWireLoom$State;" ∈ wsX1_init := by decide +kernel
theorem mX1_init_inX2 : Cond.instantiable RX2 8 ∈ wsX1_init := by decide +kernel
theorem mX1_init_iiX2 : Cond.initialized RX2 ∈ wsX1_init := by decide +kernel
theorem mX1_init_iniX2 : Cond.initialized yX2_init.cls ∈ wsX1_init := by decide +kernel
theorem mX1_init_imX2 : Cond.instanceMethod yX2_init ∈ wsX1_init := by decide +kernel
theorem mX1_init_ml15 : Cond.methodLink RX1 15 yX2_init ∈ wsX1_init := by decide +kernel
set_option maxRecDepth 20000 in
theorem iX1_init_X1 : ∀ w ∈ wsX10, w ∈ wsX1_init := by decide +kernel
set_option maxRecDepth 20000 in
theorem iX1_init_X2 : ∀ w ∈ wsX20, w ∈ wsX1_init := by decide +kernel
set_option maxHeartbeats 8000000 in
set_option maxRecDepth 100000 in
theorem c_X1_init (l : Launch) (D : va_G) (cA : Nat → ClassId) (H : Heap) (h0 : Nat) (hP0 : va_P D vwCl [(h0, .inr (1, [.null, .int 0, .int 0]))] H) (hD0 : va_D (fun _ => True) [(h0, .inr (1, [.null, .int 0, .int 0]))]) : MK (X := (Nat → Nat) × (Nat → Nat → Nat)) l yX1_init wsX1_init ({ frames := 3, cells := 49, slots := 420, locals := 61 } : Room) D cA [.ref h0] H [(h0, .inr (1, [.null, .int 0, .int 0]))] (fun x => x.1 0 = h0) (fun x => wPa0 cA x) 49 420 := by
  refine Met.ofW (cc := cX1_init) (maxL := 2) (ret := none) (by decide) rfl ?_
  intro p e s m args below meth c s₁ B hml hv
  obtain ⟨rfl, hH, hKN, hKC⟩ := hv
  have hK := hKN.1
  have hx := B.exec
  have hb := B.bytes
  have hr := B.returns
  have hts := atoms_spec (ws := wsX1_init) B.pre
  have hown : s.vm.findClass RX1 = some m.cls := findClass_of_methodNamed B.named
  have hlocks := B.notSynchronized
  have hin : meth.name = "<init>" := (name_of_methodNamed B.named B.method).1
  subst hH
  have hD := hD0.self (sz := s.heap.size)
  generalize hAe : va_A [(h0, .inr (1, [.null, .int 0, .int 0]))] s.heap.size = A at hD ⊢
  have hA : ∀ q : Nat, s.heap.size ≤ q → A q := fun q h => by rw [← hAe]; exact Or.inr h
  have hS : va_S A s.heap s.heap [] := va_S.rf
  have hP : va_P D vwCl ([(h0, .inr (1, [.null, .int 0, .int 0]))] ++ ([] : va_W)) s.heap := hP0
  have hD : va_D A ([(h0, .inr (1, [.null, .int 0, .int 0]))] ++ ([] : va_W)) := hD
  have hl := lv_entry ([.ref h0] : List Value) (n := 2) (Nat.le_of_ble_eq_true rfl)
  rw [lg_entry_eq]
  generalize (lg_sl ([.ref h0] : List Value) ++ List.replicate (2 - (lg_sl ([.ref h0] : List Value)).length) Slot.unset).toArray = ls at hl ⊢
  have hl : lv_has ls 2 [(0, .ref h0)] := hl
  refine lv_aload_n hx hb dX1_init_0 rfl (lv_at hl 0 rfl) ?_
  refine W.objInit hx hb hown (hts _ mX1_init_oi1) (hts _ mX1_init_oim) (hts _ mX1_init_oic) rfl (by rw [hml]; exact hl.1) rfl dX1_init_1 (Nat.le_of_ble_eq_true rfl) (Nat.le_of_ble_eq_true rfl) ?_
  refine W.eq (g2 := F0 m 4 ls []) rfl ?_
  refine lv_aload_n hx hb dX1_init_4 rfl (lv_at hl 0 rfl) ?_
  refine lv_bipush (v := 6) hx hb dX1_init_5 (by decide) ?_
  refine mk_newq 6 hx hb hown (hts _ mX1_init_c9) hKC.1 hK hP hD hS hA (by decide) rfl (by decide) (Nat.le_of_ble_eq_true rfl) (Nat.le_of_ble_eq_true rfl) dX1_init_7 (fun q_1 H hP hD hS => ?_)
  have hP := va_P_perm (perm_rot _ _ _) hP
  have hD := va_D_perm (perm_rot _ _ _) hD
  have hP : va_P D vwCl ([(h0, .inr (1, [.null, .int 0, .int 0])), (q_1, .inl (cA 2, 6, .inr (.inr (.inr (.inr (fun _ => none))))))] ++ ([] : va_W)) H := hP
  have hD : va_D A ([(h0, .inr (1, [.null, .int 0, .int 0])), (q_1, .inl (cA 2, 6, .inr (.inr (.inr (.inr (fun _ => none))))))] ++ ([] : va_W)) := hD
  refine va_putF (D := D) (ci := 1) (v := .ref q_1) (ty := .array (.object "WireLoom$State")) (C := RX1) (T := TX1) (N := 3) hx hb hts iX1_init_X1 tyX1 tyX1_ok nmX1 hown hK hP hD hS 0 rfl rfl 0 (by decide) (hts _ mX1_init_f11) (fun _ h9 => h9) rfl hin rfl (by decide +kernel) rfl rfl (Nat.le_of_ble_eq_true rfl) dX1_init_10 (fun H locs hP hD hS => ?_)
  have hP : va_P D vwCl ([(h0, .inr (1, [.ref q_1, .int 0, .int 0])), (q_1, .inl (cA 2, 6, .inr (.inr (.inr (.inr (fun _ => none))))))] ++ ([] : va_W)) H := hP
  have hD : va_D A ([(h0, .inr (1, [.ref q_1, .int 0, .int 0])), (q_1, .inl (cA 2, 6, .inr (.inr (.inr (.inr (fun _ => none))))))] ++ ([] : va_W)) := hD
  refine lv_iconst (v := 0) hx hb dX1_init_13 (by decide) ?_
  refine lv_istore_n (lv' := [(1, .int 0), (0, .ref h0)]) hx hb dX1_init_14 rfl hl (by decide) rfl (fun ls hl => ?_)
  refine lv_iload_n hx hb dX1_init_15 rfl (lv_at hl 0 rfl) ?_
  refine lv_bipush (v := 6) hx hb dX1_init_16 (by decide) ?_
  refine lv_icmp_ge (tgt := 40) hx hb dX1_init_18 (by decide) (fun h => absurd h (by decide)) (fun _ => ?_)
  refine lv_aload_n hx hb dX1_init_21 rfl (lv_at hl 1 rfl) ?_
  refine va_get (D := D) (ci := 1) (v := .ref q_1) (C := RX1) (T := TX1) (N := 3) hx hb hts iX1_init_X1 hown hK hP 0 rfl rfl 0 (by decide) (hts _ mX1_init_f11) (fun _ h9 => h9) rfl dX1_init_22 ?_
  refine lv_iload_n hx hb dX1_init_25 rfl (lv_at hl 0 rfl) ?_
  refine va_new (ci := 2) (fs := [.null, .null, .null, .null, .null, .int 0, .int 0, .int 0]) (C := RX2) (T := TX2) (N := 8) hx hb hts iX1_init_X2 tyX2 tyX2_ok hown (hts _ mX1_init_c9) (hts _ mX1_init_inX2) (hts _ mX1_init_iiX2) hK hP hD hS hA rfl (fun j hj => by rcases (show j = 0 ∨ j = 1 ∨ j = 2 ∨ j = 3 ∨ j = 4 ∨ j = 5 ∨ j = 6 ∨ j = 7 by omega) with rfl | rfl | rfl | rfl | rfl | rfl | rfl | rfl <;> rfl) (Nat.le_of_ble_eq_true rfl) (Nat.le_of_ble_eq_true rfl) dX1_init_26 (fun q_2 H hP hD hS => ?_)
  have hP := va_P_comm hP
  have hD := va_D_comm hD
  have hP : va_P D vwCl ([(q_2, .inr (2, [.null, .null, .null, .null, .null, .int 0, .int 0, .int 0]))] ++ ([(h0, .inr (1, [.ref q_1, .int 0, .int 0])), (q_1, .inl (cA 2, 6, .inr (.inr (.inr (.inr (fun _ => none))))))] ++ ([] : va_W))) H := hP
  have hD : va_D A ([(q_2, .inr (2, [.null, .null, .null, .null, .null, .int 0, .int 0, .int 0]))] ++ ([(h0, .inr (1, [.ref q_1, .int 0, .int 0])), (q_1, .inl (cA 2, 6, .inr (.inr (.inr (.inr (fun _ => none))))))] ++ ([] : va_W))) := hD
  refine lv_dup hx hb dX1_init_29 rfl ?_
  refine mk_I (As := []) (rest := [.ref q_2, .int 0, .ref q_1]) ⟨hx, hb, hml, hown, hts⟩ (c_X2_init l D cA _ q_2  (va_P_l hP) (va_D_l hD)) (cwI 0 hts gX1_init_X2_init rfl rfl rfl (hts _ mX1_init_iniX2) (hts _ mX1_init_ml15) (hts _ mX1_init_imX2) rfl (by decide +kernel) ⟨Nat.le_of_ble_eq_true rfl, Nat.le_of_ble_eq_true rfl⟩) hKN hKC hP hD hS hA rfl hl.1 rfl (lv_room (Nat.le_of_ble_eq_true rfl)) dX1_init_30 ⟨Nat.le_of_ble_eq_true rfl, Nat.le_of_ble_eq_true rfl⟩ (fun a_3 H locs ha hP2 hD2 hS => ?_)
  clear hP hD
  try dsimp only at ha
  subst ha
  have hP := hP2
  have hD := hD2
  clear hP2 hD2
  have hP := va_P_perm (perm_sink _ _ _) hP
  have hD := va_D_perm (perm_sink _ _ _) hD
  have hP : va_P D vwCl ([(h0, .inr (1, [.ref q_1, .int 0, .int 0])), (q_1, .inl (cA 2, 6, .inr (.inr (.inr (.inr (fun _ => none))))))] ++ (wSt cA a_3 initS ++ ([] : va_W))) H := hP
  have hD : va_D A ([(h0, .inr (1, [.ref q_1, .int 0, .int 0])), (q_1, .inl (cA 2, 6, .inr (.inr (.inr (.inr (fun _ => none))))))] ++ (wSt cA a_3 initS ++ ([] : va_W))) := hD
  refine va_astq (q0 := 1) (t0 := 2) (qk := 2) (ci := 2) (r := (RX2, TX2, 8)) (v := (a_3 0)) hx hb hK hP hD hS rfl rfl rfl rfl (vp_in_nI (n := 0) (N := 6) (by decide) (by decide)) dX1_init_33 (fun H locs hP hD hS => ?_)
  have hP : va_P D vwCl ([(h0, .inr (1, [.ref q_1, .int 0, .int 0])), (q_1, .inl (cA 2, 6, .inr (.inr (.inr (.inr (va_up (fun _ => none) 0 (some (a_3 0))))))))] ++ (wSt cA a_3 initS ++ ([] : va_W))) H := hP
  have hD : va_D A ([(h0, .inr (1, [.ref q_1, .int 0, .int 0])), (q_1, .inl (cA 2, 6, .inr (.inr (.inr (.inr (va_up (fun _ => none) 0 (some (a_3 0))))))))] ++ (wSt cA a_3 initS ++ ([] : va_W))) := hD
  refine lv_iinc (v := 1) (lv' := [(1, .int 1), (0, .ref h0)]) hx hb dX1_init_34 hl (k := 0) rfl (by decide) (by decide) rfl (fun ls hl => ?_)
  refine lv_goto (tgt := 15) hx hb dX1_init_37 (by decide) ?_
  refine lv_iload_n hx hb dX1_init_15 rfl (lv_at hl 0 rfl) ?_
  refine lv_bipush (v := 6) hx hb dX1_init_16 (by decide) ?_
  refine lv_icmp_ge (tgt := 40) hx hb dX1_init_18 (by decide) (fun h => absurd h (by decide)) (fun _ => ?_)
  refine lv_aload_n hx hb dX1_init_21 rfl (lv_at hl 1 rfl) ?_
  refine va_get (D := D) (ci := 1) (v := .ref q_1) (C := RX1) (T := TX1) (N := 3) hx hb hts iX1_init_X1 hown hK hP 0 rfl rfl 0 (by decide) (hts _ mX1_init_f11) (fun _ h9 => h9) rfl dX1_init_22 ?_
  refine lv_iload_n hx hb dX1_init_25 rfl (lv_at hl 0 rfl) ?_
  refine va_new (ci := 2) (fs := [.null, .null, .null, .null, .null, .int 0, .int 0, .int 0]) (C := RX2) (T := TX2) (N := 8) hx hb hts iX1_init_X2 tyX2 tyX2_ok hown (hts _ mX1_init_c9) (hts _ mX1_init_inX2) (hts _ mX1_init_iiX2) hK hP hD hS hA rfl (fun j hj => by rcases (show j = 0 ∨ j = 1 ∨ j = 2 ∨ j = 3 ∨ j = 4 ∨ j = 5 ∨ j = 6 ∨ j = 7 by omega) with rfl | rfl | rfl | rfl | rfl | rfl | rfl | rfl <;> rfl) (Nat.le_of_ble_eq_true rfl) (Nat.le_of_ble_eq_true rfl) dX1_init_26 (fun q_4 H hP hD hS => ?_)
  have hP := va_P_comm hP
  have hD := va_D_comm hD
  have hP : va_P D vwCl ([(q_4, .inr (2, [.null, .null, .null, .null, .null, .int 0, .int 0, .int 0]))] ++ ([(h0, .inr (1, [.ref q_1, .int 0, .int 0])), (q_1, .inl (cA 2, 6, .inr (.inr (.inr (.inr (va_up (fun _ => none) 0 (some (a_3 0))))))))] ++ (wSt cA a_3 initS ++ ([] : va_W)))) H := hP
  have hD : va_D A ([(q_4, .inr (2, [.null, .null, .null, .null, .null, .int 0, .int 0, .int 0]))] ++ ([(h0, .inr (1, [.ref q_1, .int 0, .int 0])), (q_1, .inl (cA 2, 6, .inr (.inr (.inr (.inr (va_up (fun _ => none) 0 (some (a_3 0))))))))] ++ (wSt cA a_3 initS ++ ([] : va_W)))) := hD
  refine lv_dup hx hb dX1_init_29 rfl ?_
  refine mk_I (As := []) (rest := [.ref q_4, .int 1, .ref q_1]) ⟨hx, hb, hml, hown, hts⟩ (c_X2_init l D cA _ q_4  (va_P_l hP) (va_D_l hD)) (cwI 0 hts gX1_init_X2_init rfl rfl rfl (hts _ mX1_init_iniX2) (hts _ mX1_init_ml15) (hts _ mX1_init_imX2) rfl (by decide +kernel) ⟨Nat.le_of_ble_eq_true rfl, Nat.le_of_ble_eq_true rfl⟩) hKN hKC hP hD hS hA rfl hl.1 rfl (lv_room (Nat.le_of_ble_eq_true rfl)) dX1_init_30 ⟨Nat.le_of_ble_eq_true rfl, Nat.le_of_ble_eq_true rfl⟩ (fun a_5 H locs ha hP2 hD2 hS => ?_)
  clear hP hD
  try dsimp only at ha
  subst ha
  have hP := hP2
  have hD := hD2
  clear hP2 hD2
  have hP := va_P_perm (perm_sink _ _ _) hP
  have hD := va_D_perm (perm_sink _ _ _) hD
  have hP : va_P D vwCl ([(h0, .inr (1, [.ref q_1, .int 0, .int 0])), (q_1, .inl (cA 2, 6, .inr (.inr (.inr (.inr (va_up (fun _ => none) 0 (some (a_3 0))))))))] ++ (wSt cA a_5 initS ++ (wSt cA a_3 initS ++ ([] : va_W)))) H := hP
  have hD : va_D A ([(h0, .inr (1, [.ref q_1, .int 0, .int 0])), (q_1, .inl (cA 2, 6, .inr (.inr (.inr (.inr (va_up (fun _ => none) 0 (some (a_3 0))))))))] ++ (wSt cA a_5 initS ++ (wSt cA a_3 initS ++ ([] : va_W)))) := hD
  refine va_astq (q0 := 1) (t0 := 2) (qk := 2) (ci := 2) (r := (RX2, TX2, 8)) (v := (a_5 0)) hx hb hK hP hD hS rfl rfl rfl rfl (vp_in_nI (n := 1) (N := 6) (by decide) (by decide)) dX1_init_33 (fun H locs hP hD hS => ?_)
  have hP : va_P D vwCl ([(h0, .inr (1, [.ref q_1, .int 0, .int 0])), (q_1, .inl (cA 2, 6, .inr (.inr (.inr (.inr (va_up (va_up (fun _ => none) 0 (some (a_3 0))) 1 (some (a_5 0))))))))] ++ (wSt cA a_5 initS ++ (wSt cA a_3 initS ++ ([] : va_W)))) H := hP
  have hD : va_D A ([(h0, .inr (1, [.ref q_1, .int 0, .int 0])), (q_1, .inl (cA 2, 6, .inr (.inr (.inr (.inr (va_up (va_up (fun _ => none) 0 (some (a_3 0))) 1 (some (a_5 0))))))))] ++ (wSt cA a_5 initS ++ (wSt cA a_3 initS ++ ([] : va_W)))) := hD
  refine lv_iinc (v := 2) (lv' := [(1, .int 2), (0, .ref h0)]) hx hb dX1_init_34 hl (k := 0) rfl (by decide) (by decide) rfl (fun ls hl => ?_)
  refine lv_goto (tgt := 15) hx hb dX1_init_37 (by decide) ?_
  refine lv_iload_n hx hb dX1_init_15 rfl (lv_at hl 0 rfl) ?_
  refine lv_bipush (v := 6) hx hb dX1_init_16 (by decide) ?_
  refine lv_icmp_ge (tgt := 40) hx hb dX1_init_18 (by decide) (fun h => absurd h (by decide)) (fun _ => ?_)
  refine lv_aload_n hx hb dX1_init_21 rfl (lv_at hl 1 rfl) ?_
  refine va_get (D := D) (ci := 1) (v := .ref q_1) (C := RX1) (T := TX1) (N := 3) hx hb hts iX1_init_X1 hown hK hP 0 rfl rfl 0 (by decide) (hts _ mX1_init_f11) (fun _ h9 => h9) rfl dX1_init_22 ?_
  refine lv_iload_n hx hb dX1_init_25 rfl (lv_at hl 0 rfl) ?_
  refine va_new (ci := 2) (fs := [.null, .null, .null, .null, .null, .int 0, .int 0, .int 0]) (C := RX2) (T := TX2) (N := 8) hx hb hts iX1_init_X2 tyX2 tyX2_ok hown (hts _ mX1_init_c9) (hts _ mX1_init_inX2) (hts _ mX1_init_iiX2) hK hP hD hS hA rfl (fun j hj => by rcases (show j = 0 ∨ j = 1 ∨ j = 2 ∨ j = 3 ∨ j = 4 ∨ j = 5 ∨ j = 6 ∨ j = 7 by omega) with rfl | rfl | rfl | rfl | rfl | rfl | rfl | rfl <;> rfl) (Nat.le_of_ble_eq_true rfl) (Nat.le_of_ble_eq_true rfl) dX1_init_26 (fun q_6 H hP hD hS => ?_)
  have hP := va_P_comm hP
  have hD := va_D_comm hD
  have hP : va_P D vwCl ([(q_6, .inr (2, [.null, .null, .null, .null, .null, .int 0, .int 0, .int 0]))] ++ ([(h0, .inr (1, [.ref q_1, .int 0, .int 0])), (q_1, .inl (cA 2, 6, .inr (.inr (.inr (.inr (va_up (va_up (fun _ => none) 0 (some (a_3 0))) 1 (some (a_5 0))))))))] ++ (wSt cA a_5 initS ++ (wSt cA a_3 initS ++ ([] : va_W))))) H := hP
  have hD : va_D A ([(q_6, .inr (2, [.null, .null, .null, .null, .null, .int 0, .int 0, .int 0]))] ++ ([(h0, .inr (1, [.ref q_1, .int 0, .int 0])), (q_1, .inl (cA 2, 6, .inr (.inr (.inr (.inr (va_up (va_up (fun _ => none) 0 (some (a_3 0))) 1 (some (a_5 0))))))))] ++ (wSt cA a_5 initS ++ (wSt cA a_3 initS ++ ([] : va_W))))) := hD
  refine lv_dup hx hb dX1_init_29 rfl ?_
  refine mk_I (As := []) (rest := [.ref q_6, .int 2, .ref q_1]) ⟨hx, hb, hml, hown, hts⟩ (c_X2_init l D cA _ q_6  (va_P_l hP) (va_D_l hD)) (cwI 0 hts gX1_init_X2_init rfl rfl rfl (hts _ mX1_init_iniX2) (hts _ mX1_init_ml15) (hts _ mX1_init_imX2) rfl (by decide +kernel) ⟨Nat.le_of_ble_eq_true rfl, Nat.le_of_ble_eq_true rfl⟩) hKN hKC hP hD hS hA rfl hl.1 rfl (lv_room (Nat.le_of_ble_eq_true rfl)) dX1_init_30 ⟨Nat.le_of_ble_eq_true rfl, Nat.le_of_ble_eq_true rfl⟩ (fun a_7 H locs ha hP2 hD2 hS => ?_)
  clear hP hD
  try dsimp only at ha
  subst ha
  have hP := hP2
  have hD := hD2
  clear hP2 hD2
  have hP := va_P_perm (perm_sink _ _ _) hP
  have hD := va_D_perm (perm_sink _ _ _) hD
  have hP : va_P D vwCl ([(h0, .inr (1, [.ref q_1, .int 0, .int 0])), (q_1, .inl (cA 2, 6, .inr (.inr (.inr (.inr (va_up (va_up (fun _ => none) 0 (some (a_3 0))) 1 (some (a_5 0))))))))] ++ (wSt cA a_7 initS ++ (wSt cA a_5 initS ++ (wSt cA a_3 initS ++ ([] : va_W))))) H := hP
  have hD : va_D A ([(h0, .inr (1, [.ref q_1, .int 0, .int 0])), (q_1, .inl (cA 2, 6, .inr (.inr (.inr (.inr (va_up (va_up (fun _ => none) 0 (some (a_3 0))) 1 (some (a_5 0))))))))] ++ (wSt cA a_7 initS ++ (wSt cA a_5 initS ++ (wSt cA a_3 initS ++ ([] : va_W))))) := hD
  refine va_astq (q0 := 1) (t0 := 2) (qk := 2) (ci := 2) (r := (RX2, TX2, 8)) (v := (a_7 0)) hx hb hK hP hD hS rfl rfl rfl rfl (vp_in_nI (n := 2) (N := 6) (by decide) (by decide)) dX1_init_33 (fun H locs hP hD hS => ?_)
  have hP : va_P D vwCl ([(h0, .inr (1, [.ref q_1, .int 0, .int 0])), (q_1, .inl (cA 2, 6, .inr (.inr (.inr (.inr (va_up (va_up (va_up (fun _ => none) 0 (some (a_3 0))) 1 (some (a_5 0))) 2 (some (a_7 0))))))))] ++ (wSt cA a_7 initS ++ (wSt cA a_5 initS ++ (wSt cA a_3 initS ++ ([] : va_W))))) H := hP
  have hD : va_D A ([(h0, .inr (1, [.ref q_1, .int 0, .int 0])), (q_1, .inl (cA 2, 6, .inr (.inr (.inr (.inr (va_up (va_up (va_up (fun _ => none) 0 (some (a_3 0))) 1 (some (a_5 0))) 2 (some (a_7 0))))))))] ++ (wSt cA a_7 initS ++ (wSt cA a_5 initS ++ (wSt cA a_3 initS ++ ([] : va_W))))) := hD
  refine lv_iinc (v := 3) (lv' := [(1, .int 3), (0, .ref h0)]) hx hb dX1_init_34 hl (k := 0) rfl (by decide) (by decide) rfl (fun ls hl => ?_)
  refine lv_goto (tgt := 15) hx hb dX1_init_37 (by decide) ?_
  refine lv_iload_n hx hb dX1_init_15 rfl (lv_at hl 0 rfl) ?_
  refine lv_bipush (v := 6) hx hb dX1_init_16 (by decide) ?_
  refine lv_icmp_ge (tgt := 40) hx hb dX1_init_18 (by decide) (fun h => absurd h (by decide)) (fun _ => ?_)
  refine lv_aload_n hx hb dX1_init_21 rfl (lv_at hl 1 rfl) ?_
  refine va_get (D := D) (ci := 1) (v := .ref q_1) (C := RX1) (T := TX1) (N := 3) hx hb hts iX1_init_X1 hown hK hP 0 rfl rfl 0 (by decide) (hts _ mX1_init_f11) (fun _ h9 => h9) rfl dX1_init_22 ?_
  refine lv_iload_n hx hb dX1_init_25 rfl (lv_at hl 0 rfl) ?_
  refine va_new (ci := 2) (fs := [.null, .null, .null, .null, .null, .int 0, .int 0, .int 0]) (C := RX2) (T := TX2) (N := 8) hx hb hts iX1_init_X2 tyX2 tyX2_ok hown (hts _ mX1_init_c9) (hts _ mX1_init_inX2) (hts _ mX1_init_iiX2) hK hP hD hS hA rfl (fun j hj => by rcases (show j = 0 ∨ j = 1 ∨ j = 2 ∨ j = 3 ∨ j = 4 ∨ j = 5 ∨ j = 6 ∨ j = 7 by omega) with rfl | rfl | rfl | rfl | rfl | rfl | rfl | rfl <;> rfl) (Nat.le_of_ble_eq_true rfl) (Nat.le_of_ble_eq_true rfl) dX1_init_26 (fun q_8 H hP hD hS => ?_)
  have hP := va_P_comm hP
  have hD := va_D_comm hD
  have hP : va_P D vwCl ([(q_8, .inr (2, [.null, .null, .null, .null, .null, .int 0, .int 0, .int 0]))] ++ ([(h0, .inr (1, [.ref q_1, .int 0, .int 0])), (q_1, .inl (cA 2, 6, .inr (.inr (.inr (.inr (va_up (va_up (va_up (fun _ => none) 0 (some (a_3 0))) 1 (some (a_5 0))) 2 (some (a_7 0))))))))] ++ (wSt cA a_7 initS ++ (wSt cA a_5 initS ++ (wSt cA a_3 initS ++ ([] : va_W)))))) H := hP
  have hD : va_D A ([(q_8, .inr (2, [.null, .null, .null, .null, .null, .int 0, .int 0, .int 0]))] ++ ([(h0, .inr (1, [.ref q_1, .int 0, .int 0])), (q_1, .inl (cA 2, 6, .inr (.inr (.inr (.inr (va_up (va_up (va_up (fun _ => none) 0 (some (a_3 0))) 1 (some (a_5 0))) 2 (some (a_7 0))))))))] ++ (wSt cA a_7 initS ++ (wSt cA a_5 initS ++ (wSt cA a_3 initS ++ ([] : va_W)))))) := hD
  refine lv_dup hx hb dX1_init_29 rfl ?_
  refine mk_I (As := []) (rest := [.ref q_8, .int 3, .ref q_1]) ⟨hx, hb, hml, hown, hts⟩ (c_X2_init l D cA _ q_8  (va_P_l hP) (va_D_l hD)) (cwI 0 hts gX1_init_X2_init rfl rfl rfl (hts _ mX1_init_iniX2) (hts _ mX1_init_ml15) (hts _ mX1_init_imX2) rfl (by decide +kernel) ⟨Nat.le_of_ble_eq_true rfl, Nat.le_of_ble_eq_true rfl⟩) hKN hKC hP hD hS hA rfl hl.1 rfl (lv_room (Nat.le_of_ble_eq_true rfl)) dX1_init_30 ⟨Nat.le_of_ble_eq_true rfl, Nat.le_of_ble_eq_true rfl⟩ (fun a_9 H locs ha hP2 hD2 hS => ?_)
  clear hP hD
  try dsimp only at ha
  subst ha
  have hP := hP2
  have hD := hD2
  clear hP2 hD2
  have hP := va_P_perm (perm_sink _ _ _) hP
  have hD := va_D_perm (perm_sink _ _ _) hD
  have hP : va_P D vwCl ([(h0, .inr (1, [.ref q_1, .int 0, .int 0])), (q_1, .inl (cA 2, 6, .inr (.inr (.inr (.inr (va_up (va_up (va_up (fun _ => none) 0 (some (a_3 0))) 1 (some (a_5 0))) 2 (some (a_7 0))))))))] ++ (wSt cA a_9 initS ++ (wSt cA a_7 initS ++ (wSt cA a_5 initS ++ (wSt cA a_3 initS ++ ([] : va_W)))))) H := hP
  have hD : va_D A ([(h0, .inr (1, [.ref q_1, .int 0, .int 0])), (q_1, .inl (cA 2, 6, .inr (.inr (.inr (.inr (va_up (va_up (va_up (fun _ => none) 0 (some (a_3 0))) 1 (some (a_5 0))) 2 (some (a_7 0))))))))] ++ (wSt cA a_9 initS ++ (wSt cA a_7 initS ++ (wSt cA a_5 initS ++ (wSt cA a_3 initS ++ ([] : va_W)))))) := hD
  refine va_astq (q0 := 1) (t0 := 2) (qk := 2) (ci := 2) (r := (RX2, TX2, 8)) (v := (a_9 0)) hx hb hK hP hD hS rfl rfl rfl rfl (vp_in_nI (n := 3) (N := 6) (by decide) (by decide)) dX1_init_33 (fun H locs hP hD hS => ?_)
  have hP : va_P D vwCl ([(h0, .inr (1, [.ref q_1, .int 0, .int 0])), (q_1, .inl (cA 2, 6, .inr (.inr (.inr (.inr (va_up (va_up (va_up (va_up (fun _ => none) 0 (some (a_3 0))) 1 (some (a_5 0))) 2 (some (a_7 0))) 3 (some (a_9 0))))))))] ++ (wSt cA a_9 initS ++ (wSt cA a_7 initS ++ (wSt cA a_5 initS ++ (wSt cA a_3 initS ++ ([] : va_W)))))) H := hP
  have hD : va_D A ([(h0, .inr (1, [.ref q_1, .int 0, .int 0])), (q_1, .inl (cA 2, 6, .inr (.inr (.inr (.inr (va_up (va_up (va_up (va_up (fun _ => none) 0 (some (a_3 0))) 1 (some (a_5 0))) 2 (some (a_7 0))) 3 (some (a_9 0))))))))] ++ (wSt cA a_9 initS ++ (wSt cA a_7 initS ++ (wSt cA a_5 initS ++ (wSt cA a_3 initS ++ ([] : va_W)))))) := hD
  refine lv_iinc (v := 4) (lv' := [(1, .int 4), (0, .ref h0)]) hx hb dX1_init_34 hl (k := 0) rfl (by decide) (by decide) rfl (fun ls hl => ?_)
  refine lv_goto (tgt := 15) hx hb dX1_init_37 (by decide) ?_
  refine lv_iload_n hx hb dX1_init_15 rfl (lv_at hl 0 rfl) ?_
  refine lv_bipush (v := 6) hx hb dX1_init_16 (by decide) ?_
  refine lv_icmp_ge (tgt := 40) hx hb dX1_init_18 (by decide) (fun h => absurd h (by decide)) (fun _ => ?_)
  refine lv_aload_n hx hb dX1_init_21 rfl (lv_at hl 1 rfl) ?_
  refine va_get (D := D) (ci := 1) (v := .ref q_1) (C := RX1) (T := TX1) (N := 3) hx hb hts iX1_init_X1 hown hK hP 0 rfl rfl 0 (by decide) (hts _ mX1_init_f11) (fun _ h9 => h9) rfl dX1_init_22 ?_
  refine lv_iload_n hx hb dX1_init_25 rfl (lv_at hl 0 rfl) ?_
  refine va_new (ci := 2) (fs := [.null, .null, .null, .null, .null, .int 0, .int 0, .int 0]) (C := RX2) (T := TX2) (N := 8) hx hb hts iX1_init_X2 tyX2 tyX2_ok hown (hts _ mX1_init_c9) (hts _ mX1_init_inX2) (hts _ mX1_init_iiX2) hK hP hD hS hA rfl (fun j hj => by rcases (show j = 0 ∨ j = 1 ∨ j = 2 ∨ j = 3 ∨ j = 4 ∨ j = 5 ∨ j = 6 ∨ j = 7 by omega) with rfl | rfl | rfl | rfl | rfl | rfl | rfl | rfl <;> rfl) (Nat.le_of_ble_eq_true rfl) (Nat.le_of_ble_eq_true rfl) dX1_init_26 (fun q_10 H hP hD hS => ?_)
  have hP := va_P_comm hP
  have hD := va_D_comm hD
  have hP : va_P D vwCl ([(q_10, .inr (2, [.null, .null, .null, .null, .null, .int 0, .int 0, .int 0]))] ++ ([(h0, .inr (1, [.ref q_1, .int 0, .int 0])), (q_1, .inl (cA 2, 6, .inr (.inr (.inr (.inr (va_up (va_up (va_up (va_up (fun _ => none) 0 (some (a_3 0))) 1 (some (a_5 0))) 2 (some (a_7 0))) 3 (some (a_9 0))))))))] ++ (wSt cA a_9 initS ++ (wSt cA a_7 initS ++ (wSt cA a_5 initS ++ (wSt cA a_3 initS ++ ([] : va_W))))))) H := hP
  have hD : va_D A ([(q_10, .inr (2, [.null, .null, .null, .null, .null, .int 0, .int 0, .int 0]))] ++ ([(h0, .inr (1, [.ref q_1, .int 0, .int 0])), (q_1, .inl (cA 2, 6, .inr (.inr (.inr (.inr (va_up (va_up (va_up (va_up (fun _ => none) 0 (some (a_3 0))) 1 (some (a_5 0))) 2 (some (a_7 0))) 3 (some (a_9 0))))))))] ++ (wSt cA a_9 initS ++ (wSt cA a_7 initS ++ (wSt cA a_5 initS ++ (wSt cA a_3 initS ++ ([] : va_W))))))) := hD
  refine lv_dup hx hb dX1_init_29 rfl ?_
  refine mk_I (As := []) (rest := [.ref q_10, .int 4, .ref q_1]) ⟨hx, hb, hml, hown, hts⟩ (c_X2_init l D cA _ q_10  (va_P_l hP) (va_D_l hD)) (cwI 0 hts gX1_init_X2_init rfl rfl rfl (hts _ mX1_init_iniX2) (hts _ mX1_init_ml15) (hts _ mX1_init_imX2) rfl (by decide +kernel) ⟨Nat.le_of_ble_eq_true rfl, Nat.le_of_ble_eq_true rfl⟩) hKN hKC hP hD hS hA rfl hl.1 rfl (lv_room (Nat.le_of_ble_eq_true rfl)) dX1_init_30 ⟨Nat.le_of_ble_eq_true rfl, Nat.le_of_ble_eq_true rfl⟩ (fun a_11 H locs ha hP2 hD2 hS => ?_)
  clear hP hD
  try dsimp only at ha
  subst ha
  have hP := hP2
  have hD := hD2
  clear hP2 hD2
  have hP := va_P_perm (perm_sink _ _ _) hP
  have hD := va_D_perm (perm_sink _ _ _) hD
  have hP : va_P D vwCl ([(h0, .inr (1, [.ref q_1, .int 0, .int 0])), (q_1, .inl (cA 2, 6, .inr (.inr (.inr (.inr (va_up (va_up (va_up (va_up (fun _ => none) 0 (some (a_3 0))) 1 (some (a_5 0))) 2 (some (a_7 0))) 3 (some (a_9 0))))))))] ++ (wSt cA a_11 initS ++ (wSt cA a_9 initS ++ (wSt cA a_7 initS ++ (wSt cA a_5 initS ++ (wSt cA a_3 initS ++ ([] : va_W))))))) H := hP
  have hD : va_D A ([(h0, .inr (1, [.ref q_1, .int 0, .int 0])), (q_1, .inl (cA 2, 6, .inr (.inr (.inr (.inr (va_up (va_up (va_up (va_up (fun _ => none) 0 (some (a_3 0))) 1 (some (a_5 0))) 2 (some (a_7 0))) 3 (some (a_9 0))))))))] ++ (wSt cA a_11 initS ++ (wSt cA a_9 initS ++ (wSt cA a_7 initS ++ (wSt cA a_5 initS ++ (wSt cA a_3 initS ++ ([] : va_W))))))) := hD
  refine va_astq (q0 := 1) (t0 := 2) (qk := 2) (ci := 2) (r := (RX2, TX2, 8)) (v := (a_11 0)) hx hb hK hP hD hS rfl rfl rfl rfl (vp_in_nI (n := 4) (N := 6) (by decide) (by decide)) dX1_init_33 (fun H locs hP hD hS => ?_)
  have hP : va_P D vwCl ([(h0, .inr (1, [.ref q_1, .int 0, .int 0])), (q_1, .inl (cA 2, 6, .inr (.inr (.inr (.inr (va_up (va_up (va_up (va_up (va_up (fun _ => none) 0 (some (a_3 0))) 1 (some (a_5 0))) 2 (some (a_7 0))) 3 (some (a_9 0))) 4 (some (a_11 0))))))))] ++ (wSt cA a_11 initS ++ (wSt cA a_9 initS ++ (wSt cA a_7 initS ++ (wSt cA a_5 initS ++ (wSt cA a_3 initS ++ ([] : va_W))))))) H := hP
  have hD : va_D A ([(h0, .inr (1, [.ref q_1, .int 0, .int 0])), (q_1, .inl (cA 2, 6, .inr (.inr (.inr (.inr (va_up (va_up (va_up (va_up (va_up (fun _ => none) 0 (some (a_3 0))) 1 (some (a_5 0))) 2 (some (a_7 0))) 3 (some (a_9 0))) 4 (some (a_11 0))))))))] ++ (wSt cA a_11 initS ++ (wSt cA a_9 initS ++ (wSt cA a_7 initS ++ (wSt cA a_5 initS ++ (wSt cA a_3 initS ++ ([] : va_W))))))) := hD
  refine lv_iinc (v := 5) (lv' := [(1, .int 5), (0, .ref h0)]) hx hb dX1_init_34 hl (k := 0) rfl (by decide) (by decide) rfl (fun ls hl => ?_)
  refine lv_goto (tgt := 15) hx hb dX1_init_37 (by decide) ?_
  refine lv_iload_n hx hb dX1_init_15 rfl (lv_at hl 0 rfl) ?_
  refine lv_bipush (v := 6) hx hb dX1_init_16 (by decide) ?_
  refine lv_icmp_ge (tgt := 40) hx hb dX1_init_18 (by decide) (fun h => absurd h (by decide)) (fun _ => ?_)
  refine lv_aload_n hx hb dX1_init_21 rfl (lv_at hl 1 rfl) ?_
  refine va_get (D := D) (ci := 1) (v := .ref q_1) (C := RX1) (T := TX1) (N := 3) hx hb hts iX1_init_X1 hown hK hP 0 rfl rfl 0 (by decide) (hts _ mX1_init_f11) (fun _ h9 => h9) rfl dX1_init_22 ?_
  refine lv_iload_n hx hb dX1_init_25 rfl (lv_at hl 0 rfl) ?_
  refine va_new (ci := 2) (fs := [.null, .null, .null, .null, .null, .int 0, .int 0, .int 0]) (C := RX2) (T := TX2) (N := 8) hx hb hts iX1_init_X2 tyX2 tyX2_ok hown (hts _ mX1_init_c9) (hts _ mX1_init_inX2) (hts _ mX1_init_iiX2) hK hP hD hS hA rfl (fun j hj => by rcases (show j = 0 ∨ j = 1 ∨ j = 2 ∨ j = 3 ∨ j = 4 ∨ j = 5 ∨ j = 6 ∨ j = 7 by omega) with rfl | rfl | rfl | rfl | rfl | rfl | rfl | rfl <;> rfl) (Nat.le_of_ble_eq_true rfl) (Nat.le_of_ble_eq_true rfl) dX1_init_26 (fun q_12 H hP hD hS => ?_)
  have hP := va_P_comm hP
  have hD := va_D_comm hD
  have hP : va_P D vwCl ([(q_12, .inr (2, [.null, .null, .null, .null, .null, .int 0, .int 0, .int 0]))] ++ ([(h0, .inr (1, [.ref q_1, .int 0, .int 0])), (q_1, .inl (cA 2, 6, .inr (.inr (.inr (.inr (va_up (va_up (va_up (va_up (va_up (fun _ => none) 0 (some (a_3 0))) 1 (some (a_5 0))) 2 (some (a_7 0))) 3 (some (a_9 0))) 4 (some (a_11 0))))))))] ++ (wSt cA a_11 initS ++ (wSt cA a_9 initS ++ (wSt cA a_7 initS ++ (wSt cA a_5 initS ++ (wSt cA a_3 initS ++ ([] : va_W)))))))) H := hP
  have hD : va_D A ([(q_12, .inr (2, [.null, .null, .null, .null, .null, .int 0, .int 0, .int 0]))] ++ ([(h0, .inr (1, [.ref q_1, .int 0, .int 0])), (q_1, .inl (cA 2, 6, .inr (.inr (.inr (.inr (va_up (va_up (va_up (va_up (va_up (fun _ => none) 0 (some (a_3 0))) 1 (some (a_5 0))) 2 (some (a_7 0))) 3 (some (a_9 0))) 4 (some (a_11 0))))))))] ++ (wSt cA a_11 initS ++ (wSt cA a_9 initS ++ (wSt cA a_7 initS ++ (wSt cA a_5 initS ++ (wSt cA a_3 initS ++ ([] : va_W)))))))) := hD
  refine lv_dup hx hb dX1_init_29 rfl ?_
  refine mk_I (As := []) (rest := [.ref q_12, .int 5, .ref q_1]) ⟨hx, hb, hml, hown, hts⟩ (c_X2_init l D cA _ q_12  (va_P_l hP) (va_D_l hD)) (cwI 0 hts gX1_init_X2_init rfl rfl rfl (hts _ mX1_init_iniX2) (hts _ mX1_init_ml15) (hts _ mX1_init_imX2) rfl (by decide +kernel) ⟨Nat.le_of_ble_eq_true rfl, Nat.le_of_ble_eq_true rfl⟩) hKN hKC hP hD hS hA rfl hl.1 rfl (lv_room (Nat.le_of_ble_eq_true rfl)) dX1_init_30 ⟨Nat.le_of_ble_eq_true rfl, Nat.le_of_ble_eq_true rfl⟩ (fun a_13 H locs ha hP2 hD2 hS => ?_)
  clear hP hD
  try dsimp only at ha
  subst ha
  have hP := hP2
  have hD := hD2
  clear hP2 hD2
  have hP := va_P_perm (perm_sink _ _ _) hP
  have hD := va_D_perm (perm_sink _ _ _) hD
  have hP : va_P D vwCl ([(h0, .inr (1, [.ref q_1, .int 0, .int 0])), (q_1, .inl (cA 2, 6, .inr (.inr (.inr (.inr (va_up (va_up (va_up (va_up (va_up (fun _ => none) 0 (some (a_3 0))) 1 (some (a_5 0))) 2 (some (a_7 0))) 3 (some (a_9 0))) 4 (some (a_11 0))))))))] ++ (wSt cA a_13 initS ++ (wSt cA a_11 initS ++ (wSt cA a_9 initS ++ (wSt cA a_7 initS ++ (wSt cA a_5 initS ++ (wSt cA a_3 initS ++ ([] : va_W)))))))) H := hP
  have hD : va_D A ([(h0, .inr (1, [.ref q_1, .int 0, .int 0])), (q_1, .inl (cA 2, 6, .inr (.inr (.inr (.inr (va_up (va_up (va_up (va_up (va_up (fun _ => none) 0 (some (a_3 0))) 1 (some (a_5 0))) 2 (some (a_7 0))) 3 (some (a_9 0))) 4 (some (a_11 0))))))))] ++ (wSt cA a_13 initS ++ (wSt cA a_11 initS ++ (wSt cA a_9 initS ++ (wSt cA a_7 initS ++ (wSt cA a_5 initS ++ (wSt cA a_3 initS ++ ([] : va_W)))))))) := hD
  refine va_astq (q0 := 1) (t0 := 2) (qk := 2) (ci := 2) (r := (RX2, TX2, 8)) (v := (a_13 0)) hx hb hK hP hD hS rfl rfl rfl rfl (vp_in_nI (n := 5) (N := 6) (by decide) (by decide)) dX1_init_33 (fun H locs hP hD hS => ?_)
  have hP : va_P D vwCl ([(h0, .inr (1, [.ref q_1, .int 0, .int 0])), (q_1, .inl (cA 2, 6, .inr (.inr (.inr (.inr (va_up (va_up (va_up (va_up (va_up (va_up (fun _ => none) 0 (some (a_3 0))) 1 (some (a_5 0))) 2 (some (a_7 0))) 3 (some (a_9 0))) 4 (some (a_11 0))) 5 (some (a_13 0))))))))] ++ (wSt cA a_13 initS ++ (wSt cA a_11 initS ++ (wSt cA a_9 initS ++ (wSt cA a_7 initS ++ (wSt cA a_5 initS ++ (wSt cA a_3 initS ++ ([] : va_W)))))))) H := hP
  have hD : va_D A ([(h0, .inr (1, [.ref q_1, .int 0, .int 0])), (q_1, .inl (cA 2, 6, .inr (.inr (.inr (.inr (va_up (va_up (va_up (va_up (va_up (va_up (fun _ => none) 0 (some (a_3 0))) 1 (some (a_5 0))) 2 (some (a_7 0))) 3 (some (a_9 0))) 4 (some (a_11 0))) 5 (some (a_13 0))))))))] ++ (wSt cA a_13 initS ++ (wSt cA a_11 initS ++ (wSt cA a_9 initS ++ (wSt cA a_7 initS ++ (wSt cA a_5 initS ++ (wSt cA a_3 initS ++ ([] : va_W)))))))) := hD
  refine lv_iinc (v := 6) (lv' := [(1, .int 6), (0, .ref h0)]) hx hb dX1_init_34 hl (k := 0) rfl (by decide) (by decide) rfl (fun ls hl => ?_)
  refine lv_goto (tgt := 15) hx hb dX1_init_37 (by decide) ?_
  refine lv_iload_n hx hb dX1_init_15 rfl (lv_at hl 0 rfl) ?_
  refine lv_bipush (v := 6) hx hb dX1_init_16 (by decide) ?_
  refine lv_icmp_ge (tgt := 40) hx hb dX1_init_18 (by decide) (fun _ => ?_) (fun h => absurd (by decide) h)
  have hP := va_P_q1 (g := fun i => some (((fun i => if i = 0 then a_3 else if i = 1 then a_5 else if i = 2 then a_7 else if i = 3 then a_9 else if i = 4 then a_11 else a_13) : Nat → Nat → Nat) i 0)) (lt6 rfl rfl rfl rfl rfl rfl) hP
  have hD := va_D_q1 (y := .inl (cA 2, 6, .inr (.inr (.inr (.inr (fun i => some (((fun i => if i = 0 then a_3 else if i = 1 then a_5 else if i = 2 then a_7 else if i = 3 then a_9 else if i = 4 then a_11 else a_13) : Nat → Nat → Nat) i 0))))))) hD
  exact mk_vret ((fun i => if i = 0 then h0 else q_1 : Nat → Nat), ((fun i => if i = 0 then a_3 else if i = 1 then a_5 else if i = 2 then a_7 else if i = 3 then a_9 else if i = 4 then a_11 else a_13) : Nat → Nat → Nat)) hx hb hr hlocks dX1_init_40 hAe hS rfl hP hD
def initL : LV := (fun _ => initS, (0, 0), (fun _ => 0, fun _ => 0, 0, 0, 0), (fun _ => 0, fun _ => 0))
theorem lt2 {P : Nat → Prop} (h0 : P 0) (h1 : P 1) : ∀ j, j < 2 → P j := by
  intro j hj
  match j, hj with
  | 0, _ => exact h0
  | 1, _ => exact h1
def mkAd (r : Nat → Nat) (a0 a1 a2 a3 t : Nat → Nat) (x : (Nat → Nat) × (Nat → Nat → Nat)) : Nat → Nat → Nat := fun i => if i = 0 then a0 else if i = 1 then a1 else if i = 2 then a2 else if i = 3 then a3 else if i = 10 then r else if i = 11 then x.1 else if i = 12 then t else x.2 (i - 4)
def wPa1 (cA : Nat → ClassId) (Ad : Nat → Nat → Nat) (x : (Nat → Nat) × (Nat → Nat → Nat)) : va_W := wPa cA Ad (0, 0) ++ [5, 4, 3, 2, 1, 0].flatMap (fun i => wSt cA (x.2 i) initS)
theorem all_mk (cA : Nat → ClassId) (r a0 a1 a2 a3 t : Nat → Nat) (x : (Nat → Nat) × (Nat → Nat → Nat)) :
    (wLm cA (mkAd r a0 a1 a2 a3 t x) (fun _ => 0, fun _ => 0) ++ (wSt cA a3 initS ++ (wSt cA a2 initS ++ (wTx cA t (fun _ => 0, fun _ => 0, 0, 0, 0) ++ (wPa1 cA (mkAd r a0 a1 a2 a3 t x) x ++ (wSt cA a1 initS ++ (wSt cA a0 initS ++ []))))))).Perm (all cA (mkAd r a0 a1 a2 a3 t x) initL) := by
  have e1 : wPa1 cA (mkAd r a0 a1 a2 a3 t x) x = wPa cA (mkAd r a0 a1 a2 a3 t x) (0, 0) ++ (wSt cA (x.2 5) initS ++ (wSt cA (x.2 4) initS ++ (wSt cA (x.2 3) initS ++ (wSt cA (x.2 2) initS ++ (wSt cA (x.2 1) initS ++ (wSt cA (x.2 0) initS ++ [])))))) := rfl
  rw [e1]
  simp only [List.append_assoc, List.nil_append]
  have h : ([10, 3, 2, 12, 11, 9, 8, 7, 6, 5, 4, 1, 0] : List Nat).Perm (List.range 13) := by decide
  exact List.Perm.flatMap_right (blk cA (mkAd r a0 a1 a2 a3 t x) initL) h
theorem perm_to4 (P a b c d r : va_W) : (P ++ (a ++ (b ++ (c ++ (d ++ r))))).Perm (a ++ (b ++ (c ++ (d ++ (P ++ r))))) :=
  (perm_sink P a _).trans ((List.Perm.append_left a (perm_sink P b _)).trans ((List.Perm.append_left a (List.Perm.append_left b (perm_sink P c _))).trans (List.Perm.append_left a (List.Perm.append_left b (List.Perm.append_left c (perm_sink P d r))))))
theorem all_mkP {D : va_G} {H : Heap} (cA : Nat → ClassId) (r a0 a1 a2 a3 t : Nat → Nat) (x : (Nat → Nat) × (Nat → Nat → Nat))
    (h : va_P D vwCl (wLm cA (mkAd r a0 a1 a2 a3 t x) (fun _ => 0, fun _ => 0) ++ (wSt cA a3 initS ++ (wSt cA a2 initS ++ (wTx cA t (fun _ => 0, fun _ => 0, 0, 0, 0) ++ (wPa0 cA x ++ (wSt cA a1 initS ++ (wSt cA a0 initS ++ []))))))) H) : va_P D vwCl (all cA (mkAd r a0 a1 a2 a3 t x) initL) H := by
  have h2 := va_P_perm (perm_to4 (wPa0 cA x) _ _ _ _ _).symm h
  have h3 := va_P_q1 (g := fun i => some (mkAd r a0 a1 a2 a3 t x (i + 4) 0)) (lt6 rfl rfl rfl rfl rfl rfl) h2
  have h4 := va_P_perm (perm_to4 (wPa1 cA (mkAd r a0 a1 a2 a3 t x) x) (wLm cA (mkAd r a0 a1 a2 a3 t x) (fun _ => 0, fun _ => 0)) (wSt cA a3 initS) (wSt cA a2 initS) (wTx cA t (fun _ => 0, fun _ => 0, 0, 0, 0)) (wSt cA a1 initS ++ (wSt cA a0 initS ++ []))) h3
  exact va_P_perm (all_mk cA r a0 a1 a2 a3 t x) h4
theorem all_mkD {A : Nat → Prop} (cA : Nat → ClassId) (r a0 a1 a2 a3 t : Nat → Nat) (x : (Nat → Nat) × (Nat → Nat → Nat))
    (h : va_D A (wLm cA (mkAd r a0 a1 a2 a3 t x) (fun _ => 0, fun _ => 0) ++ (wSt cA a3 initS ++ (wSt cA a2 initS ++ (wTx cA t (fun _ => 0, fun _ => 0, 0, 0, 0) ++ (wPa0 cA x ++ (wSt cA a1 initS ++ (wSt cA a0 initS ++ [])))))))) : va_D A (all cA (mkAd r a0 a1 a2 a3 t x) initL) := by
  have h2 := va_D_perm (perm_to4 (wPa0 cA x) _ _ _ _ _).symm h
  have h3 := va_D_q1 (y := .inl (cA 2, 6, .inr (.inr (.inr (.inr (fun i => some (mkAd r a0 a1 a2 a3 t x (i + 4) 0))))))) h2
  have h4 := va_D_perm (perm_to4 (wPa1 cA (mkAd r a0 a1 a2 a3 t x) x) (wLm cA (mkAd r a0 a1 a2 a3 t x) (fun _ => 0, fun _ => 0)) (wSt cA a3 initS) (wSt cA a2 initS) (wTx cA t (fun _ => 0, fun _ => 0, 0, 0, 0)) (wSt cA a1 initS ++ (wSt cA a0 initS ++ []))) h3
  exact va_D_perm (all_mk cA r a0 a1 a2 a3 t x) h4
theorem mX4_init_oi1 : Cond.methodLink RX4 1 objectInit ∈ wsX4_init := by decide +kernel
theorem mX4_init_oim : Cond.instanceMethod objectInit ∈ wsX4_init := by decide +kernel
theorem mX4_init_oic : Cond.code objectInit ⟨#[0xb1]⟩ 1 none ∈ wsX4_init := by decide +kernel
theorem mX4_init_c7 : Cond.classLink RX4 7 RX2 ∈ wsX4_init := by decide +kernel
theorem mX4_init_inX2 : Cond.instantiable RX2 8 ∈ wsX4_init := by decide +kernel
theorem mX4_init_iiX2 : Cond.initialized RX2 ∈ wsX4_init := by decide +kernel
theorem mX4_init_iniX2 : Cond.initialized yX2_init.cls ∈ wsX4_init := by decide +kernel
theorem mX4_init_imX2 : Cond.instanceMethod yX2_init ∈ wsX4_init := by decide +kernel
theorem mX4_init_ml9 : Cond.methodLink RX4 9 yX2_init ∈ wsX4_init := by decide +kernel
theorem mX4_init_f10 : Cond.fieldLink RX4 10 "WireLoom" "now" "LWireLoom$State;" ∈ wsX4_init := by decide +kernel
theorem mX4_init_f16 : Cond.fieldLink RX4 16 "WireLoom" "trial" "LWireLoom$State;" ∈ wsX4_init := by decide +kernel
theorem mX4_init_c19 : Cond.classLink RX4 19 RX1 ∈ wsX4_init := by decide +kernel
theorem mX4_init_inX1 : Cond.instantiable RX1 3 ∈ wsX4_init := by decide +kernel
theorem mX4_init_iiX1 : Cond.initialized RX1 ∈ wsX4_init := by decide +kernel
theorem mX4_init_iniX1 : Cond.initialized yX1_init.cls ∈ wsX4_init := by decide +kernel
theorem mX4_init_imX1 : Cond.instanceMethod yX1_init ∈ wsX4_init := by decide +kernel
theorem mX4_init_ml21 : Cond.methodLink RX4 21 yX1_init ∈ wsX4_init := by decide +kernel
theorem mX4_init_f22 : Cond.fieldLink RX4 22 "WireLoom" "past" "LWireLoom$Past;" ∈ wsX4_init := by decide +kernel
theorem mX4_init_f26 : Cond.fieldLink RX4 26 "WireLoom" "snapshots" "[LWireLoom$State;" ∈ wsX4_init := by decide +kernel
theorem mX4_init_acZ : Cond.arrayClass .boolean ∈ wsX4_init := by decide +kernel
theorem mX4_init_f30 : Cond.fieldLink RX4 30 "WireLoom" "kept" "[Z" ∈ wsX4_init := by decide +kernel
theorem mX4_init_c34 : Cond.classLink RX4 34 RX3 ∈ wsX4_init := by decide +kernel
theorem mX4_init_inX3 : Cond.instantiable RX3 5 ∈ wsX4_init := by decide +kernel
theorem mX4_init_iiX3 : Cond.initialized RX3 ∈ wsX4_init := by decide +kernel
theorem mX4_init_iniT : Cond.initialized yX3_init.cls ∈ wsX4_init := by decide +kernel
theorem mX4_init_imT : Cond.instanceMethod yX3_init ∈ wsX4_init := by decide +kernel
theorem mX4_init_f37 : Cond.fieldLink RX4 37 "WireLoom" "buffer" "LWireLoom$Text;" ∈ wsX4_init := by decide +kernel
theorem mX4_init_acI : Cond.arrayClass .int ∈ wsX4_init := by decide +kernel
theorem mX4_init_f41 : Cond.fieldLink RX4 41 "WireLoom" "wordsTold" "[I" ∈ wsX4_init := by decide +kernel
set_option maxRecDepth 20000 in
theorem iX4_init_X1 : ∀ w ∈ wsX10, w ∈ wsX4_init := by decide +kernel
set_option maxRecDepth 20000 in
theorem iX4_init_X2 : ∀ w ∈ wsX20, w ∈ wsX4_init := by decide +kernel
set_option maxRecDepth 20000 in
theorem iX4_init_X3 : ∀ w ∈ wsX30, w ∈ wsX4_init := by decide +kernel
set_option maxRecDepth 20000 in
theorem iX4_init_X4 : ∀ w ∈ wsX40, w ∈ wsX4_init := by decide +kernel
set_option maxHeartbeats 8000000 in
set_option maxRecDepth 100000 in
theorem c_X4_init (l : Launch) (D : va_G) (cA : Nat → ClassId) (H : Heap) (h0 : Nat) (hP0 : va_P D vwCl [(h0, .inr (4, [.null, .null, .null, .null, .null, .null, .null]))] H) (hD0 : va_D (fun _ => True) [(h0, .inr (4, [.null, .null, .null, .null, .null, .null, .null]))]) : MK (X := Nat → Nat → Nat) l yX4_init wsX4_init ({ frames := 4, cells := 88, slots := 800, locals := 82 } : Room) D cA [.ref h0] H [(h0, .inr (4, [.null, .null, .null, .null, .null, .null, .null]))] (fun x => x 10 0 = h0) (fun x => all cA x initL) 88 800 := by
  refine Met.ofW (cc := cX4_init) (maxL := 2) (ret := none) (by decide) rfl ?_
  intro p e s m args below meth c s₁ B hml hv
  obtain ⟨rfl, hH, hKN, hKC⟩ := hv
  have hK := hKN.1
  have hx := B.exec
  have hb := B.bytes
  have hr := B.returns
  have hts := atoms_spec (ws := wsX4_init) B.pre
  have hown : s.vm.findClass RX4 = some m.cls := findClass_of_methodNamed B.named
  have hlocks := B.notSynchronized
  have hin : meth.name = "<init>" := (name_of_methodNamed B.named B.method).1
  subst hH
  have hD := hD0.self (sz := s.heap.size)
  generalize hAe : va_A [(h0, .inr (4, [.null, .null, .null, .null, .null, .null, .null]))] s.heap.size = A at hD ⊢
  have hA : ∀ q : Nat, s.heap.size ≤ q → A q := fun q h => by rw [← hAe]; exact Or.inr h
  have hS : va_S A s.heap s.heap [] := va_S.rf
  have hP : va_P D vwCl ([(h0, .inr (4, [.null, .null, .null, .null, .null, .null, .null]))] ++ ([] : va_W)) s.heap := hP0
  have hD : va_D A ([(h0, .inr (4, [.null, .null, .null, .null, .null, .null, .null]))] ++ ([] : va_W)) := hD
  have hl := lv_entry ([.ref h0] : List Value) (n := 2) (Nat.le_of_ble_eq_true rfl)
  rw [lg_entry_eq]
  generalize (lg_sl ([.ref h0] : List Value) ++ List.replicate (2 - (lg_sl ([.ref h0] : List Value)).length) Slot.unset).toArray = ls at hl ⊢
  have hl : lv_has ls 2 [(0, .ref h0)] := hl
  refine lv_aload_n hx hb dX4_init_0 rfl (lv_at hl 0 rfl) ?_
  refine W.objInit hx hb hown (hts _ mX4_init_oi1) (hts _ mX4_init_oim) (hts _ mX4_init_oic) rfl (by rw [hml]; exact hl.1) rfl dX4_init_1 (Nat.le_of_ble_eq_true rfl) (Nat.le_of_ble_eq_true rfl) ?_
  refine W.eq (g2 := F0 m 4 ls []) rfl ?_
  refine lv_aload_n hx hb dX4_init_4 rfl (lv_at hl 0 rfl) ?_
  refine va_new (ci := 2) (fs := [.null, .null, .null, .null, .null, .int 0, .int 0, .int 0]) (C := RX2) (T := TX2) (N := 8) hx hb hts iX4_init_X2 tyX2 tyX2_ok hown (hts _ mX4_init_c7) (hts _ mX4_init_inX2) (hts _ mX4_init_iiX2) hK hP hD hS hA rfl (fun j hj => by rcases (show j = 0 ∨ j = 1 ∨ j = 2 ∨ j = 3 ∨ j = 4 ∨ j = 5 ∨ j = 6 ∨ j = 7 by omega) with rfl | rfl | rfl | rfl | rfl | rfl | rfl | rfl <;> rfl) (Nat.le_of_ble_eq_true rfl) (Nat.le_of_ble_eq_true rfl) dX4_init_5 (fun q_1 H hP hD hS => ?_)
  have hP := va_P_comm hP
  have hD := va_D_comm hD
  have hP : va_P D vwCl ([(q_1, .inr (2, [.null, .null, .null, .null, .null, .int 0, .int 0, .int 0]))] ++ ([(h0, .inr (4, [.null, .null, .null, .null, .null, .null, .null]))] ++ ([] : va_W))) H := hP
  have hD : va_D A ([(q_1, .inr (2, [.null, .null, .null, .null, .null, .int 0, .int 0, .int 0]))] ++ ([(h0, .inr (4, [.null, .null, .null, .null, .null, .null, .null]))] ++ ([] : va_W))) := hD
  refine lv_dup hx hb dX4_init_8 rfl ?_
  refine mk_I (As := []) (rest := [.ref q_1, .ref h0]) ⟨hx, hb, hml, hown, hts⟩ (c_X2_init l D cA _ q_1  (va_P_l hP) (va_D_l hD)) (cwI 0 hts gX4_init_X2_init rfl rfl rfl (hts _ mX4_init_iniX2) (hts _ mX4_init_ml9) (hts _ mX4_init_imX2) rfl (by decide +kernel) ⟨Nat.le_of_ble_eq_true rfl, Nat.le_of_ble_eq_true rfl⟩) hKN hKC hP hD hS hA rfl hl.1 rfl (lv_room (Nat.le_of_ble_eq_true rfl)) dX4_init_9 ⟨Nat.le_of_ble_eq_true rfl, Nat.le_of_ble_eq_true rfl⟩ (fun a_2 H locs ha hP2 hD2 hS => ?_)
  clear hP hD
  try dsimp only at ha
  subst ha
  have hP := hP2
  have hD := hD2
  clear hP2 hD2
  have hP := va_P_perm (perm_sink _ _ _) hP
  have hD := va_D_perm (perm_sink _ _ _) hD
  have hP : va_P D vwCl ([(h0, .inr (4, [.null, .null, .null, .null, .null, .null, .null]))] ++ (wSt cA a_2 initS ++ ([] : va_W))) H := hP
  have hD : va_D A ([(h0, .inr (4, [.null, .null, .null, .null, .null, .null, .null]))] ++ (wSt cA a_2 initS ++ ([] : va_W))) := hD
  refine va_putF (D := D) (ci := 4) (v := .ref (a_2 0)) (ty := .object "WireLoom$State") (C := RX4) (T := TX4) (N := 7) hx hb hts iX4_init_X4 tyX4 tyX4_ok nmX4 hown hK hP hD hS 0 rfl rfl 0 (by decide) (hts _ mX4_init_f10) (fun _ h9 => h9) rfl hin rfl (by decide +kernel) rfl rfl (Nat.le_of_ble_eq_true rfl) dX4_init_12 (fun H locs hP hD hS => ?_)
  have hP : va_P D vwCl ([(h0, .inr (4, [.ref (a_2 0), .null, .null, .null, .null, .null, .null]))] ++ (wSt cA a_2 initS ++ ([] : va_W))) H := hP
  have hD : va_D A ([(h0, .inr (4, [.ref (a_2 0), .null, .null, .null, .null, .null, .null]))] ++ (wSt cA a_2 initS ++ ([] : va_W))) := hD
  refine lv_aload_n hx hb dX4_init_15 rfl (lv_at hl 0 rfl) ?_
  refine va_new (ci := 2) (fs := [.null, .null, .null, .null, .null, .int 0, .int 0, .int 0]) (C := RX2) (T := TX2) (N := 8) hx hb hts iX4_init_X2 tyX2 tyX2_ok hown (hts _ mX4_init_c7) (hts _ mX4_init_inX2) (hts _ mX4_init_iiX2) hK hP hD hS hA rfl (fun j hj => by rcases (show j = 0 ∨ j = 1 ∨ j = 2 ∨ j = 3 ∨ j = 4 ∨ j = 5 ∨ j = 6 ∨ j = 7 by omega) with rfl | rfl | rfl | rfl | rfl | rfl | rfl | rfl <;> rfl) (Nat.le_of_ble_eq_true rfl) (Nat.le_of_ble_eq_true rfl) dX4_init_16 (fun q_3 H hP hD hS => ?_)
  have hP := va_P_comm hP
  have hD := va_D_comm hD
  have hP : va_P D vwCl ([(q_3, .inr (2, [.null, .null, .null, .null, .null, .int 0, .int 0, .int 0]))] ++ ([(h0, .inr (4, [.ref (a_2 0), .null, .null, .null, .null, .null, .null]))] ++ (wSt cA a_2 initS ++ ([] : va_W)))) H := hP
  have hD : va_D A ([(q_3, .inr (2, [.null, .null, .null, .null, .null, .int 0, .int 0, .int 0]))] ++ ([(h0, .inr (4, [.ref (a_2 0), .null, .null, .null, .null, .null, .null]))] ++ (wSt cA a_2 initS ++ ([] : va_W)))) := hD
  refine lv_dup hx hb dX4_init_19 rfl ?_
  refine mk_I (As := []) (rest := [.ref q_3, .ref h0]) ⟨hx, hb, hml, hown, hts⟩ (c_X2_init l D cA _ q_3  (va_P_l hP) (va_D_l hD)) (cwI 0 hts gX4_init_X2_init rfl rfl rfl (hts _ mX4_init_iniX2) (hts _ mX4_init_ml9) (hts _ mX4_init_imX2) rfl (by decide +kernel) ⟨Nat.le_of_ble_eq_true rfl, Nat.le_of_ble_eq_true rfl⟩) hKN hKC hP hD hS hA rfl hl.1 rfl (lv_room (Nat.le_of_ble_eq_true rfl)) dX4_init_20 ⟨Nat.le_of_ble_eq_true rfl, Nat.le_of_ble_eq_true rfl⟩ (fun a_4 H locs ha hP2 hD2 hS => ?_)
  clear hP hD
  try dsimp only at ha
  subst ha
  have hP := hP2
  have hD := hD2
  clear hP2 hD2
  have hP := va_P_perm (perm_sink _ _ _) hP
  have hD := va_D_perm (perm_sink _ _ _) hD
  have hP : va_P D vwCl ([(h0, .inr (4, [.ref (a_2 0), .null, .null, .null, .null, .null, .null]))] ++ (wSt cA a_4 initS ++ (wSt cA a_2 initS ++ ([] : va_W)))) H := hP
  have hD : va_D A ([(h0, .inr (4, [.ref (a_2 0), .null, .null, .null, .null, .null, .null]))] ++ (wSt cA a_4 initS ++ (wSt cA a_2 initS ++ ([] : va_W)))) := hD
  refine va_putF (D := D) (ci := 4) (v := .ref (a_4 0)) (ty := .object "WireLoom$State") (C := RX4) (T := TX4) (N := 7) hx hb hts iX4_init_X4 tyX4 tyX4_ok nmX4 hown hK hP hD hS 0 rfl rfl 1 (by decide) (hts _ mX4_init_f16) (fun _ h9 => h9) rfl hin rfl (by decide +kernel) rfl rfl (Nat.le_of_ble_eq_true rfl) dX4_init_23 (fun H locs hP hD hS => ?_)
  have hP : va_P D vwCl ([(h0, .inr (4, [.ref (a_2 0), .ref (a_4 0), .null, .null, .null, .null, .null]))] ++ (wSt cA a_4 initS ++ (wSt cA a_2 initS ++ ([] : va_W)))) H := hP
  have hD : va_D A ([(h0, .inr (4, [.ref (a_2 0), .ref (a_4 0), .null, .null, .null, .null, .null]))] ++ (wSt cA a_4 initS ++ (wSt cA a_2 initS ++ ([] : va_W)))) := hD
  refine lv_aload_n hx hb dX4_init_26 rfl (lv_at hl 0 rfl) ?_
  refine va_new (ci := 1) (fs := [.null, .int 0, .int 0]) (C := RX1) (T := TX1) (N := 3) hx hb hts iX4_init_X1 tyX1 tyX1_ok hown (hts _ mX4_init_c19) (hts _ mX4_init_inX1) (hts _ mX4_init_iiX1) hK hP hD hS hA rfl (fun j hj => by rcases (show j = 0 ∨ j = 1 ∨ j = 2 by omega) with rfl | rfl | rfl <;> rfl) (Nat.le_of_ble_eq_true rfl) (Nat.le_of_ble_eq_true rfl) dX4_init_27 (fun q_5 H hP hD hS => ?_)
  have hP := va_P_comm hP
  have hD := va_D_comm hD
  have hP : va_P D vwCl ([(q_5, .inr (1, [.null, .int 0, .int 0]))] ++ ([(h0, .inr (4, [.ref (a_2 0), .ref (a_4 0), .null, .null, .null, .null, .null]))] ++ (wSt cA a_4 initS ++ (wSt cA a_2 initS ++ ([] : va_W))))) H := hP
  have hD : va_D A ([(q_5, .inr (1, [.null, .int 0, .int 0]))] ++ ([(h0, .inr (4, [.ref (a_2 0), .ref (a_4 0), .null, .null, .null, .null, .null]))] ++ (wSt cA a_4 initS ++ (wSt cA a_2 initS ++ ([] : va_W))))) := hD
  refine lv_dup hx hb dX4_init_30 rfl ?_
  refine mk_I (As := []) (rest := [.ref q_5, .ref h0]) ⟨hx, hb, hml, hown, hts⟩ (c_X1_init l D cA _ q_5  (va_P_l hP) (va_D_l hD)) (cwI 0 hts gX4_init_X1_init rfl rfl rfl (hts _ mX4_init_iniX1) (hts _ mX4_init_ml21) (hts _ mX4_init_imX1) rfl (by decide +kernel) ⟨Nat.le_of_ble_eq_true rfl, Nat.le_of_ble_eq_true rfl⟩) hKN hKC hP hD hS hA rfl hl.1 rfl (lv_room (Nat.le_of_ble_eq_true rfl)) dX4_init_31 ⟨Nat.le_of_ble_eq_true rfl, Nat.le_of_ble_eq_true rfl⟩ (fun a_6 H locs ha hP2 hD2 hS => ?_)
  clear hP hD
  try dsimp only at ha
  subst ha
  have hP := hP2
  have hD := hD2
  clear hP2 hD2
  have hP := va_P_perm (perm_sink _ _ _) hP
  have hD := va_D_perm (perm_sink _ _ _) hD
  have hP : va_P D vwCl ([(h0, .inr (4, [.ref (a_2 0), .ref (a_4 0), .null, .null, .null, .null, .null]))] ++ (wPa0 cA a_6 ++ (wSt cA a_4 initS ++ (wSt cA a_2 initS ++ ([] : va_W))))) H := hP
  have hD : va_D A ([(h0, .inr (4, [.ref (a_2 0), .ref (a_4 0), .null, .null, .null, .null, .null]))] ++ (wPa0 cA a_6 ++ (wSt cA a_4 initS ++ (wSt cA a_2 initS ++ ([] : va_W))))) := hD
  refine va_putF (D := D) (ci := 4) (v := .ref (a_6.1 0)) (ty := .object "WireLoom$Past") (C := RX4) (T := TX4) (N := 7) hx hb hts iX4_init_X4 tyX4 tyX4_ok nmX4 hown hK hP hD hS 0 rfl rfl 2 (by decide) (hts _ mX4_init_f22) (fun _ h9 => h9) rfl hin rfl (by decide +kernel) rfl rfl (Nat.le_of_ble_eq_true rfl) dX4_init_34 (fun H locs hP hD hS => ?_)
  have hP : va_P D vwCl ([(h0, .inr (4, [.ref (a_2 0), .ref (a_4 0), .ref (a_6.1 0), .null, .null, .null, .null]))] ++ (wPa0 cA a_6 ++ (wSt cA a_4 initS ++ (wSt cA a_2 initS ++ ([] : va_W))))) H := hP
  have hD : va_D A ([(h0, .inr (4, [.ref (a_2 0), .ref (a_4 0), .ref (a_6.1 0), .null, .null, .null, .null]))] ++ (wPa0 cA a_6 ++ (wSt cA a_4 initS ++ (wSt cA a_2 initS ++ ([] : va_W))))) := hD
  refine lv_aload_n hx hb dX4_init_37 rfl (lv_at hl 0 rfl) ?_
  refine lv_iconst (v := 2) hx hb dX4_init_38 (by decide) ?_
  refine mk_newq 2 hx hb hown (hts _ mX4_init_c7) hKC.1 hK hP hD hS hA (by decide) rfl (by decide) (Nat.le_of_ble_eq_true rfl) (Nat.le_of_ble_eq_true rfl) dX4_init_39 (fun q_7 H hP hD hS => ?_)
  have hP := va_P_perm (perm_rot _ _ _) hP
  have hD := va_D_perm (perm_rot _ _ _) hD
  have hP : va_P D vwCl ([(h0, .inr (4, [.ref (a_2 0), .ref (a_4 0), .ref (a_6.1 0), .null, .null, .null, .null])), (q_7, .inl (cA 2, 2, .inr (.inr (.inr (.inr (fun _ => none))))))] ++ (wPa0 cA a_6 ++ (wSt cA a_4 initS ++ (wSt cA a_2 initS ++ ([] : va_W))))) H := hP
  have hD : va_D A ([(h0, .inr (4, [.ref (a_2 0), .ref (a_4 0), .ref (a_6.1 0), .null, .null, .null, .null])), (q_7, .inl (cA 2, 2, .inr (.inr (.inr (.inr (fun _ => none))))))] ++ (wPa0 cA a_6 ++ (wSt cA a_4 initS ++ (wSt cA a_2 initS ++ ([] : va_W))))) := hD
  refine va_putF (D := D) (ci := 4) (v := .ref q_7) (ty := .array (.object "WireLoom$State")) (C := RX4) (T := TX4) (N := 7) hx hb hts iX4_init_X4 tyX4 tyX4_ok nmX4 hown hK hP hD hS 0 rfl rfl 3 (by decide) (hts _ mX4_init_f26) (fun _ h9 => h9) rfl hin rfl (by decide +kernel) rfl rfl (Nat.le_of_ble_eq_true rfl) dX4_init_42 (fun H locs hP hD hS => ?_)
  have hP : va_P D vwCl ([(h0, .inr (4, [.ref (a_2 0), .ref (a_4 0), .ref (a_6.1 0), .ref q_7, .null, .null, .null])), (q_7, .inl (cA 2, 2, .inr (.inr (.inr (.inr (fun _ => none))))))] ++ (wPa0 cA a_6 ++ (wSt cA a_4 initS ++ (wSt cA a_2 initS ++ ([] : va_W))))) H := hP
  have hD : va_D A ([(h0, .inr (4, [.ref (a_2 0), .ref (a_4 0), .ref (a_6.1 0), .ref q_7, .null, .null, .null])), (q_7, .inl (cA 2, 2, .inr (.inr (.inr (.inr (fun _ => none))))))] ++ (wPa0 cA a_6 ++ (wSt cA a_4 initS ++ (wSt cA a_2 initS ++ ([] : va_W))))) := hD
  refine lv_aload_n hx hb dX4_init_45 rfl (lv_at hl 0 rfl) ?_
  refine lv_iconst (v := 2) hx hb dX4_init_46 (by decide) ?_
  refine mk_newz 2 hx hb (hts _ mX4_init_acZ) hK hP hD hS hA (by decide) rfl (by decide) (Nat.le_of_ble_eq_true rfl) (Nat.le_of_ble_eq_true rfl) dX4_init_47 (fun q_8 H hP hD hS => ?_)
  have hP := va_P_perm (perm_rot _ _ _) hP
  have hD := va_D_perm (perm_rot _ _ _) hD
  have hP : va_P D vwCl ([(h0, .inr (4, [.ref (a_2 0), .ref (a_4 0), .ref (a_6.1 0), .ref q_7, .null, .null, .null])), (q_7, .inl (cA 2, 2, .inr (.inr (.inr (.inr (fun _ => none)))))), (q_8, .inl (cA 1, 2, .inl (fun _ => 0)))] ++ (wPa0 cA a_6 ++ (wSt cA a_4 initS ++ (wSt cA a_2 initS ++ ([] : va_W))))) H := hP
  have hD : va_D A ([(h0, .inr (4, [.ref (a_2 0), .ref (a_4 0), .ref (a_6.1 0), .ref q_7, .null, .null, .null])), (q_7, .inl (cA 2, 2, .inr (.inr (.inr (.inr (fun _ => none)))))), (q_8, .inl (cA 1, 2, .inl (fun _ => 0)))] ++ (wPa0 cA a_6 ++ (wSt cA a_4 initS ++ (wSt cA a_2 initS ++ ([] : va_W))))) := hD
  refine va_putF (D := D) (ci := 4) (v := .ref q_8) (ty := .array .boolean) (C := RX4) (T := TX4) (N := 7) hx hb hts iX4_init_X4 tyX4 tyX4_ok nmX4 hown hK hP hD hS 0 rfl rfl 4 (by decide) (hts _ mX4_init_f30) (fun _ h9 => h9) rfl hin rfl (by decide +kernel) rfl rfl (Nat.le_of_ble_eq_true rfl) dX4_init_49 (fun H locs hP hD hS => ?_)
  have hP : va_P D vwCl ([(h0, .inr (4, [.ref (a_2 0), .ref (a_4 0), .ref (a_6.1 0), .ref q_7, .ref q_8, .null, .null])), (q_7, .inl (cA 2, 2, .inr (.inr (.inr (.inr (fun _ => none)))))), (q_8, .inl (cA 1, 2, .inl (fun _ => 0)))] ++ (wPa0 cA a_6 ++ (wSt cA a_4 initS ++ (wSt cA a_2 initS ++ ([] : va_W))))) H := hP
  have hD : va_D A ([(h0, .inr (4, [.ref (a_2 0), .ref (a_4 0), .ref (a_6.1 0), .ref q_7, .ref q_8, .null, .null])), (q_7, .inl (cA 2, 2, .inr (.inr (.inr (.inr (fun _ => none)))))), (q_8, .inl (cA 1, 2, .inl (fun _ => 0)))] ++ (wPa0 cA a_6 ++ (wSt cA a_4 initS ++ (wSt cA a_2 initS ++ ([] : va_W))))) := hD
  refine lv_aload_n hx hb dX4_init_52 rfl (lv_at hl 0 rfl) ?_
  refine va_new (ci := 3) (fs := [.null, .null, .int 0, .int 0, .int 0]) (C := RX3) (T := TX3) (N := 5) hx hb hts iX4_init_X3 tyX3 tyX3_ok hown (hts _ mX4_init_c34) (hts _ mX4_init_inX3) (hts _ mX4_init_iiX3) hK hP hD hS hA rfl (fun j hj => by rcases (show j = 0 ∨ j = 1 ∨ j = 2 ∨ j = 3 ∨ j = 4 by omega) with rfl | rfl | rfl | rfl | rfl <;> rfl) (Nat.le_of_ble_eq_true rfl) (Nat.le_of_ble_eq_true rfl) dX4_init_53 (fun q_9 H hP hD hS => ?_)
  have hP := va_P_comm hP
  have hD := va_D_comm hD
  have hP : va_P D vwCl ([(q_9, .inr (3, [.null, .null, .int 0, .int 0, .int 0]))] ++ ([(h0, .inr (4, [.ref (a_2 0), .ref (a_4 0), .ref (a_6.1 0), .ref q_7, .ref q_8, .null, .null])), (q_7, .inl (cA 2, 2, .inr (.inr (.inr (.inr (fun _ => none)))))), (q_8, .inl (cA 1, 2, .inl (fun _ => 0)))] ++ (wPa0 cA a_6 ++ (wSt cA a_4 initS ++ (wSt cA a_2 initS ++ ([] : va_W)))))) H := hP
  have hD : va_D A ([(q_9, .inr (3, [.null, .null, .int 0, .int 0, .int 0]))] ++ ([(h0, .inr (4, [.ref (a_2 0), .ref (a_4 0), .ref (a_6.1 0), .ref q_7, .ref q_8, .null, .null])), (q_7, .inl (cA 2, 2, .inr (.inr (.inr (.inr (fun _ => none)))))), (q_8, .inl (cA 1, 2, .inl (fun _ => 0)))] ++ (wPa0 cA a_6 ++ (wSt cA a_4 initS ++ (wSt cA a_2 initS ++ ([] : va_W)))))) := hD
  refine lv_dup hx hb dX4_init_56 rfl ?_
  refine mk_IN (As := []) (rest := [.ref q_9, .ref h0]) ⟨hx, hb, hml, hown, hts⟩ (c_X3_init l D cA _ q_9  (va_P_l hP) (va_D_l hD)) ⟨va_cnB 0 hts gX4_init_X3_init_n36 rfl rfl rfl hKC.2 (hts _ mX4_init_iniT) (by decide +kernel) ⟨Nat.le_of_ble_eq_true rfl, Nat.le_of_ble_eq_true rfl⟩, rfl, hts _ mX4_init_imT⟩ hKN hKC hP hD hS hA rfl hl.1 rfl (lv_room (Nat.le_of_ble_eq_true rfl)) dX4_init_57 ⟨Nat.le_of_ble_eq_true rfl, Nat.le_of_ble_eq_true rfl⟩ (fun a_10 H locs ha hP2 hD2 hS => ?_)
  clear hP hD
  try dsimp only at ha
  subst ha
  have hP := hP2
  have hD := hD2
  clear hP2 hD2
  have hP := va_P_perm (perm_sink _ _ _) hP
  have hD := va_D_perm (perm_sink _ _ _) hD
  have hP : va_P D vwCl ([(h0, .inr (4, [.ref (a_2 0), .ref (a_4 0), .ref (a_6.1 0), .ref q_7, .ref q_8, .null, .null])), (q_7, .inl (cA 2, 2, .inr (.inr (.inr (.inr (fun _ => none)))))), (q_8, .inl (cA 1, 2, .inl (fun _ => 0)))] ++ (wTx cA a_10 (fun _ => 0, fun _ => 0, 0, 0, 0) ++ (wPa0 cA a_6 ++ (wSt cA a_4 initS ++ (wSt cA a_2 initS ++ ([] : va_W)))))) H := hP
  have hD : va_D A ([(h0, .inr (4, [.ref (a_2 0), .ref (a_4 0), .ref (a_6.1 0), .ref q_7, .ref q_8, .null, .null])), (q_7, .inl (cA 2, 2, .inr (.inr (.inr (.inr (fun _ => none)))))), (q_8, .inl (cA 1, 2, .inl (fun _ => 0)))] ++ (wTx cA a_10 (fun _ => 0, fun _ => 0, 0, 0, 0) ++ (wPa0 cA a_6 ++ (wSt cA a_4 initS ++ (wSt cA a_2 initS ++ ([] : va_W)))))) := hD
  refine va_putF (D := D) (ci := 4) (v := .ref (a_10 0)) (ty := .object "WireLoom$Text") (C := RX4) (T := TX4) (N := 7) hx hb hts iX4_init_X4 tyX4 tyX4_ok nmX4 hown hK hP hD hS 0 rfl rfl 5 (by decide) (hts _ mX4_init_f37) (fun _ h9 => h9) rfl hin rfl (by decide +kernel) rfl rfl (Nat.le_of_ble_eq_true rfl) dX4_init_60 (fun H locs hP hD hS => ?_)
  have hP : va_P D vwCl ([(h0, .inr (4, [.ref (a_2 0), .ref (a_4 0), .ref (a_6.1 0), .ref q_7, .ref q_8, .ref (a_10 0), .null])), (q_7, .inl (cA 2, 2, .inr (.inr (.inr (.inr (fun _ => none)))))), (q_8, .inl (cA 1, 2, .inl (fun _ => 0)))] ++ (wTx cA a_10 (fun _ => 0, fun _ => 0, 0, 0, 0) ++ (wPa0 cA a_6 ++ (wSt cA a_4 initS ++ (wSt cA a_2 initS ++ ([] : va_W)))))) H := hP
  have hD : va_D A ([(h0, .inr (4, [.ref (a_2 0), .ref (a_4 0), .ref (a_6.1 0), .ref q_7, .ref q_8, .ref (a_10 0), .null])), (q_7, .inl (cA 2, 2, .inr (.inr (.inr (.inr (fun _ => none)))))), (q_8, .inl (cA 1, 2, .inl (fun _ => 0)))] ++ (wTx cA a_10 (fun _ => 0, fun _ => 0, 0, 0, 0) ++ (wPa0 cA a_6 ++ (wSt cA a_4 initS ++ (wSt cA a_2 initS ++ ([] : va_W)))))) := hD
  refine lv_aload_n hx hb dX4_init_63 rfl (lv_at hl 0 rfl) ?_
  refine lv_bipush (v := 16) hx hb dX4_init_64 (by decide) ?_
  refine mk_newi 16 hx hb (hts _ mX4_init_acI) hK hP hD hS hA (by decide) rfl (by decide) (Nat.le_of_ble_eq_true rfl) (Nat.le_of_ble_eq_true rfl) dX4_init_66 (fun q_11 H hP hD hS => ?_)
  have hP := va_P_perm (perm_rot _ _ _) hP
  have hD := va_D_perm (perm_rot _ _ _) hD
  have hP : va_P D vwCl ([(h0, .inr (4, [.ref (a_2 0), .ref (a_4 0), .ref (a_6.1 0), .ref q_7, .ref q_8, .ref (a_10 0), .null])), (q_7, .inl (cA 2, 2, .inr (.inr (.inr (.inr (fun _ => none)))))), (q_8, .inl (cA 1, 2, .inl (fun _ => 0))), (q_11, .inl (cA 0, 16, .inl (fun _ => 0)))] ++ (wTx cA a_10 (fun _ => 0, fun _ => 0, 0, 0, 0) ++ (wPa0 cA a_6 ++ (wSt cA a_4 initS ++ (wSt cA a_2 initS ++ ([] : va_W)))))) H := hP
  have hD : va_D A ([(h0, .inr (4, [.ref (a_2 0), .ref (a_4 0), .ref (a_6.1 0), .ref q_7, .ref q_8, .ref (a_10 0), .null])), (q_7, .inl (cA 2, 2, .inr (.inr (.inr (.inr (fun _ => none)))))), (q_8, .inl (cA 1, 2, .inl (fun _ => 0))), (q_11, .inl (cA 0, 16, .inl (fun _ => 0)))] ++ (wTx cA a_10 (fun _ => 0, fun _ => 0, 0, 0, 0) ++ (wPa0 cA a_6 ++ (wSt cA a_4 initS ++ (wSt cA a_2 initS ++ ([] : va_W)))))) := hD
  refine va_putF (D := D) (ci := 4) (v := .ref q_11) (ty := .array .int) (C := RX4) (T := TX4) (N := 7) hx hb hts iX4_init_X4 tyX4 tyX4_ok nmX4 hown hK hP hD hS 0 rfl rfl 6 (by decide) (hts _ mX4_init_f41) (fun _ h9 => h9) rfl hin rfl (by decide +kernel) rfl rfl (Nat.le_of_ble_eq_true rfl) dX4_init_68 (fun H locs hP hD hS => ?_)
  have hP : va_P D vwCl ([(h0, .inr (4, [.ref (a_2 0), .ref (a_4 0), .ref (a_6.1 0), .ref q_7, .ref q_8, .ref (a_10 0), .ref q_11])), (q_7, .inl (cA 2, 2, .inr (.inr (.inr (.inr (fun _ => none)))))), (q_8, .inl (cA 1, 2, .inl (fun _ => 0))), (q_11, .inl (cA 0, 16, .inl (fun _ => 0)))] ++ (wTx cA a_10 (fun _ => 0, fun _ => 0, 0, 0, 0) ++ (wPa0 cA a_6 ++ (wSt cA a_4 initS ++ (wSt cA a_2 initS ++ ([] : va_W)))))) H := hP
  have hD : va_D A ([(h0, .inr (4, [.ref (a_2 0), .ref (a_4 0), .ref (a_6.1 0), .ref q_7, .ref q_8, .ref (a_10 0), .ref q_11])), (q_7, .inl (cA 2, 2, .inr (.inr (.inr (.inr (fun _ => none)))))), (q_8, .inl (cA 1, 2, .inl (fun _ => 0))), (q_11, .inl (cA 0, 16, .inl (fun _ => 0)))] ++ (wTx cA a_10 (fun _ => 0, fun _ => 0, 0, 0, 0) ++ (wPa0 cA a_6 ++ (wSt cA a_4 initS ++ (wSt cA a_2 initS ++ ([] : va_W)))))) := hD
  refine lv_iconst (v := 0) hx hb dX4_init_71 (by decide) ?_
  refine lv_istore_n (lv' := [(1, .int 0), (0, .ref h0)]) hx hb dX4_init_72 rfl hl (by decide) rfl (fun ls hl => ?_)
  refine lv_iload_n hx hb dX4_init_73 rfl (lv_at hl 0 rfl) ?_
  refine lv_iconst (v := 2) hx hb dX4_init_74 (by decide) ?_
  refine lv_icmp_ge (tgt := 97) hx hb dX4_init_75 (by decide) (fun h => absurd h (by decide)) (fun _ => ?_)
  refine lv_aload_n hx hb dX4_init_78 rfl (lv_at hl 1 rfl) ?_
  refine va_get (D := D) (ci := 4) (v := .ref q_7) (C := RX4) (T := TX4) (N := 7) hx hb hts iX4_init_X4 hown hK hP 0 rfl rfl 3 (by decide) (hts _ mX4_init_f26) (fun _ h9 => h9) rfl dX4_init_79 ?_
  refine lv_iload_n hx hb dX4_init_82 rfl (lv_at hl 0 rfl) ?_
  refine va_new (ci := 2) (fs := [.null, .null, .null, .null, .null, .int 0, .int 0, .int 0]) (C := RX2) (T := TX2) (N := 8) hx hb hts iX4_init_X2 tyX2 tyX2_ok hown (hts _ mX4_init_c7) (hts _ mX4_init_inX2) (hts _ mX4_init_iiX2) hK hP hD hS hA rfl (fun j hj => by rcases (show j = 0 ∨ j = 1 ∨ j = 2 ∨ j = 3 ∨ j = 4 ∨ j = 5 ∨ j = 6 ∨ j = 7 by omega) with rfl | rfl | rfl | rfl | rfl | rfl | rfl | rfl <;> rfl) (Nat.le_of_ble_eq_true rfl) (Nat.le_of_ble_eq_true rfl) dX4_init_83 (fun q_12 H hP hD hS => ?_)
  have hP := va_P_comm hP
  have hD := va_D_comm hD
  have hP : va_P D vwCl ([(q_12, .inr (2, [.null, .null, .null, .null, .null, .int 0, .int 0, .int 0]))] ++ ([(h0, .inr (4, [.ref (a_2 0), .ref (a_4 0), .ref (a_6.1 0), .ref q_7, .ref q_8, .ref (a_10 0), .ref q_11])), (q_7, .inl (cA 2, 2, .inr (.inr (.inr (.inr (fun _ => none)))))), (q_8, .inl (cA 1, 2, .inl (fun _ => 0))), (q_11, .inl (cA 0, 16, .inl (fun _ => 0)))] ++ (wTx cA a_10 (fun _ => 0, fun _ => 0, 0, 0, 0) ++ (wPa0 cA a_6 ++ (wSt cA a_4 initS ++ (wSt cA a_2 initS ++ ([] : va_W))))))) H := hP
  have hD : va_D A ([(q_12, .inr (2, [.null, .null, .null, .null, .null, .int 0, .int 0, .int 0]))] ++ ([(h0, .inr (4, [.ref (a_2 0), .ref (a_4 0), .ref (a_6.1 0), .ref q_7, .ref q_8, .ref (a_10 0), .ref q_11])), (q_7, .inl (cA 2, 2, .inr (.inr (.inr (.inr (fun _ => none)))))), (q_8, .inl (cA 1, 2, .inl (fun _ => 0))), (q_11, .inl (cA 0, 16, .inl (fun _ => 0)))] ++ (wTx cA a_10 (fun _ => 0, fun _ => 0, 0, 0, 0) ++ (wPa0 cA a_6 ++ (wSt cA a_4 initS ++ (wSt cA a_2 initS ++ ([] : va_W))))))) := hD
  refine lv_dup hx hb dX4_init_86 rfl ?_
  refine mk_I (As := []) (rest := [.ref q_12, .int 0, .ref q_7]) ⟨hx, hb, hml, hown, hts⟩ (c_X2_init l D cA _ q_12  (va_P_l hP) (va_D_l hD)) (cwI 0 hts gX4_init_X2_init rfl rfl rfl (hts _ mX4_init_iniX2) (hts _ mX4_init_ml9) (hts _ mX4_init_imX2) rfl (by decide +kernel) ⟨Nat.le_of_ble_eq_true rfl, Nat.le_of_ble_eq_true rfl⟩) hKN hKC hP hD hS hA rfl hl.1 rfl (lv_room (Nat.le_of_ble_eq_true rfl)) dX4_init_87 ⟨Nat.le_of_ble_eq_true rfl, Nat.le_of_ble_eq_true rfl⟩ (fun a_13 H locs ha hP2 hD2 hS => ?_)
  clear hP hD
  try dsimp only at ha
  subst ha
  have hP := hP2
  have hD := hD2
  clear hP2 hD2
  have hP := va_P_perm (perm_sink _ _ _) hP
  have hD := va_D_perm (perm_sink _ _ _) hD
  have hP : va_P D vwCl ([(h0, .inr (4, [.ref (a_2 0), .ref (a_4 0), .ref (a_6.1 0), .ref q_7, .ref q_8, .ref (a_10 0), .ref q_11])), (q_7, .inl (cA 2, 2, .inr (.inr (.inr (.inr (fun _ => none)))))), (q_8, .inl (cA 1, 2, .inl (fun _ => 0))), (q_11, .inl (cA 0, 16, .inl (fun _ => 0)))] ++ (wSt cA a_13 initS ++ (wTx cA a_10 (fun _ => 0, fun _ => 0, 0, 0, 0) ++ (wPa0 cA a_6 ++ (wSt cA a_4 initS ++ (wSt cA a_2 initS ++ ([] : va_W))))))) H := hP
  have hD : va_D A ([(h0, .inr (4, [.ref (a_2 0), .ref (a_4 0), .ref (a_6.1 0), .ref q_7, .ref q_8, .ref (a_10 0), .ref q_11])), (q_7, .inl (cA 2, 2, .inr (.inr (.inr (.inr (fun _ => none)))))), (q_8, .inl (cA 1, 2, .inl (fun _ => 0))), (q_11, .inl (cA 0, 16, .inl (fun _ => 0)))] ++ (wSt cA a_13 initS ++ (wTx cA a_10 (fun _ => 0, fun _ => 0, 0, 0, 0) ++ (wPa0 cA a_6 ++ (wSt cA a_4 initS ++ (wSt cA a_2 initS ++ ([] : va_W))))))) := hD
  refine va_astq (q0 := 1) (t0 := 2) (qk := 4) (ci := 2) (r := (RX2, TX2, 8)) (v := (a_13 0)) hx hb hK hP hD hS rfl rfl rfl rfl (vp_in_nI (n := 0) (N := 2) (by decide) (by decide)) dX4_init_90 (fun H locs hP hD hS => ?_)
  have hP : va_P D vwCl ([(h0, .inr (4, [.ref (a_2 0), .ref (a_4 0), .ref (a_6.1 0), .ref q_7, .ref q_8, .ref (a_10 0), .ref q_11])), (q_7, .inl (cA 2, 2, .inr (.inr (.inr (.inr (va_up (fun _ => none) 0 (some (a_13 0)))))))), (q_8, .inl (cA 1, 2, .inl (fun _ => 0))), (q_11, .inl (cA 0, 16, .inl (fun _ => 0)))] ++ (wSt cA a_13 initS ++ (wTx cA a_10 (fun _ => 0, fun _ => 0, 0, 0, 0) ++ (wPa0 cA a_6 ++ (wSt cA a_4 initS ++ (wSt cA a_2 initS ++ ([] : va_W))))))) H := hP
  have hD : va_D A ([(h0, .inr (4, [.ref (a_2 0), .ref (a_4 0), .ref (a_6.1 0), .ref q_7, .ref q_8, .ref (a_10 0), .ref q_11])), (q_7, .inl (cA 2, 2, .inr (.inr (.inr (.inr (va_up (fun _ => none) 0 (some (a_13 0)))))))), (q_8, .inl (cA 1, 2, .inl (fun _ => 0))), (q_11, .inl (cA 0, 16, .inl (fun _ => 0)))] ++ (wSt cA a_13 initS ++ (wTx cA a_10 (fun _ => 0, fun _ => 0, 0, 0, 0) ++ (wPa0 cA a_6 ++ (wSt cA a_4 initS ++ (wSt cA a_2 initS ++ ([] : va_W))))))) := hD
  refine lv_iinc (v := 1) (lv' := [(1, .int 1), (0, .ref h0)]) hx hb dX4_init_91 hl (k := 0) rfl (by decide) (by decide) rfl (fun ls hl => ?_)
  refine lv_goto (tgt := 73) hx hb dX4_init_94 (by decide) ?_
  refine lv_iload_n hx hb dX4_init_73 rfl (lv_at hl 0 rfl) ?_
  refine lv_iconst (v := 2) hx hb dX4_init_74 (by decide) ?_
  refine lv_icmp_ge (tgt := 97) hx hb dX4_init_75 (by decide) (fun h => absurd h (by decide)) (fun _ => ?_)
  refine lv_aload_n hx hb dX4_init_78 rfl (lv_at hl 1 rfl) ?_
  refine va_get (D := D) (ci := 4) (v := .ref q_7) (C := RX4) (T := TX4) (N := 7) hx hb hts iX4_init_X4 hown hK hP 0 rfl rfl 3 (by decide) (hts _ mX4_init_f26) (fun _ h9 => h9) rfl dX4_init_79 ?_
  refine lv_iload_n hx hb dX4_init_82 rfl (lv_at hl 0 rfl) ?_
  refine va_new (ci := 2) (fs := [.null, .null, .null, .null, .null, .int 0, .int 0, .int 0]) (C := RX2) (T := TX2) (N := 8) hx hb hts iX4_init_X2 tyX2 tyX2_ok hown (hts _ mX4_init_c7) (hts _ mX4_init_inX2) (hts _ mX4_init_iiX2) hK hP hD hS hA rfl (fun j hj => by rcases (show j = 0 ∨ j = 1 ∨ j = 2 ∨ j = 3 ∨ j = 4 ∨ j = 5 ∨ j = 6 ∨ j = 7 by omega) with rfl | rfl | rfl | rfl | rfl | rfl | rfl | rfl <;> rfl) (Nat.le_of_ble_eq_true rfl) (Nat.le_of_ble_eq_true rfl) dX4_init_83 (fun q_14 H hP hD hS => ?_)
  have hP := va_P_comm hP
  have hD := va_D_comm hD
  have hP : va_P D vwCl ([(q_14, .inr (2, [.null, .null, .null, .null, .null, .int 0, .int 0, .int 0]))] ++ ([(h0, .inr (4, [.ref (a_2 0), .ref (a_4 0), .ref (a_6.1 0), .ref q_7, .ref q_8, .ref (a_10 0), .ref q_11])), (q_7, .inl (cA 2, 2, .inr (.inr (.inr (.inr (va_up (fun _ => none) 0 (some (a_13 0)))))))), (q_8, .inl (cA 1, 2, .inl (fun _ => 0))), (q_11, .inl (cA 0, 16, .inl (fun _ => 0)))] ++ (wSt cA a_13 initS ++ (wTx cA a_10 (fun _ => 0, fun _ => 0, 0, 0, 0) ++ (wPa0 cA a_6 ++ (wSt cA a_4 initS ++ (wSt cA a_2 initS ++ ([] : va_W)))))))) H := hP
  have hD : va_D A ([(q_14, .inr (2, [.null, .null, .null, .null, .null, .int 0, .int 0, .int 0]))] ++ ([(h0, .inr (4, [.ref (a_2 0), .ref (a_4 0), .ref (a_6.1 0), .ref q_7, .ref q_8, .ref (a_10 0), .ref q_11])), (q_7, .inl (cA 2, 2, .inr (.inr (.inr (.inr (va_up (fun _ => none) 0 (some (a_13 0)))))))), (q_8, .inl (cA 1, 2, .inl (fun _ => 0))), (q_11, .inl (cA 0, 16, .inl (fun _ => 0)))] ++ (wSt cA a_13 initS ++ (wTx cA a_10 (fun _ => 0, fun _ => 0, 0, 0, 0) ++ (wPa0 cA a_6 ++ (wSt cA a_4 initS ++ (wSt cA a_2 initS ++ ([] : va_W)))))))) := hD
  refine lv_dup hx hb dX4_init_86 rfl ?_
  refine mk_I (As := []) (rest := [.ref q_14, .int 1, .ref q_7]) ⟨hx, hb, hml, hown, hts⟩ (c_X2_init l D cA _ q_14  (va_P_l hP) (va_D_l hD)) (cwI 0 hts gX4_init_X2_init rfl rfl rfl (hts _ mX4_init_iniX2) (hts _ mX4_init_ml9) (hts _ mX4_init_imX2) rfl (by decide +kernel) ⟨Nat.le_of_ble_eq_true rfl, Nat.le_of_ble_eq_true rfl⟩) hKN hKC hP hD hS hA rfl hl.1 rfl (lv_room (Nat.le_of_ble_eq_true rfl)) dX4_init_87 ⟨Nat.le_of_ble_eq_true rfl, Nat.le_of_ble_eq_true rfl⟩ (fun a_15 H locs ha hP2 hD2 hS => ?_)
  clear hP hD
  try dsimp only at ha
  subst ha
  have hP := hP2
  have hD := hD2
  clear hP2 hD2
  have hP := va_P_perm (perm_sink _ _ _) hP
  have hD := va_D_perm (perm_sink _ _ _) hD
  have hP : va_P D vwCl ([(h0, .inr (4, [.ref (a_2 0), .ref (a_4 0), .ref (a_6.1 0), .ref q_7, .ref q_8, .ref (a_10 0), .ref q_11])), (q_7, .inl (cA 2, 2, .inr (.inr (.inr (.inr (va_up (fun _ => none) 0 (some (a_13 0)))))))), (q_8, .inl (cA 1, 2, .inl (fun _ => 0))), (q_11, .inl (cA 0, 16, .inl (fun _ => 0)))] ++ (wSt cA a_15 initS ++ (wSt cA a_13 initS ++ (wTx cA a_10 (fun _ => 0, fun _ => 0, 0, 0, 0) ++ (wPa0 cA a_6 ++ (wSt cA a_4 initS ++ (wSt cA a_2 initS ++ ([] : va_W)))))))) H := hP
  have hD : va_D A ([(h0, .inr (4, [.ref (a_2 0), .ref (a_4 0), .ref (a_6.1 0), .ref q_7, .ref q_8, .ref (a_10 0), .ref q_11])), (q_7, .inl (cA 2, 2, .inr (.inr (.inr (.inr (va_up (fun _ => none) 0 (some (a_13 0)))))))), (q_8, .inl (cA 1, 2, .inl (fun _ => 0))), (q_11, .inl (cA 0, 16, .inl (fun _ => 0)))] ++ (wSt cA a_15 initS ++ (wSt cA a_13 initS ++ (wTx cA a_10 (fun _ => 0, fun _ => 0, 0, 0, 0) ++ (wPa0 cA a_6 ++ (wSt cA a_4 initS ++ (wSt cA a_2 initS ++ ([] : va_W)))))))) := hD
  refine va_astq (q0 := 1) (t0 := 2) (qk := 4) (ci := 2) (r := (RX2, TX2, 8)) (v := (a_15 0)) hx hb hK hP hD hS rfl rfl rfl rfl (vp_in_nI (n := 1) (N := 2) (by decide) (by decide)) dX4_init_90 (fun H locs hP hD hS => ?_)
  have hP : va_P D vwCl ([(h0, .inr (4, [.ref (a_2 0), .ref (a_4 0), .ref (a_6.1 0), .ref q_7, .ref q_8, .ref (a_10 0), .ref q_11])), (q_7, .inl (cA 2, 2, .inr (.inr (.inr (.inr (va_up (va_up (fun _ => none) 0 (some (a_13 0))) 1 (some (a_15 0)))))))), (q_8, .inl (cA 1, 2, .inl (fun _ => 0))), (q_11, .inl (cA 0, 16, .inl (fun _ => 0)))] ++ (wSt cA a_15 initS ++ (wSt cA a_13 initS ++ (wTx cA a_10 (fun _ => 0, fun _ => 0, 0, 0, 0) ++ (wPa0 cA a_6 ++ (wSt cA a_4 initS ++ (wSt cA a_2 initS ++ ([] : va_W)))))))) H := hP
  have hD : va_D A ([(h0, .inr (4, [.ref (a_2 0), .ref (a_4 0), .ref (a_6.1 0), .ref q_7, .ref q_8, .ref (a_10 0), .ref q_11])), (q_7, .inl (cA 2, 2, .inr (.inr (.inr (.inr (va_up (va_up (fun _ => none) 0 (some (a_13 0))) 1 (some (a_15 0)))))))), (q_8, .inl (cA 1, 2, .inl (fun _ => 0))), (q_11, .inl (cA 0, 16, .inl (fun _ => 0)))] ++ (wSt cA a_15 initS ++ (wSt cA a_13 initS ++ (wTx cA a_10 (fun _ => 0, fun _ => 0, 0, 0, 0) ++ (wPa0 cA a_6 ++ (wSt cA a_4 initS ++ (wSt cA a_2 initS ++ ([] : va_W)))))))) := hD
  refine lv_iinc (v := 2) (lv' := [(1, .int 2), (0, .ref h0)]) hx hb dX4_init_91 hl (k := 0) rfl (by decide) (by decide) rfl (fun ls hl => ?_)
  refine lv_goto (tgt := 73) hx hb dX4_init_94 (by decide) ?_
  refine lv_iload_n hx hb dX4_init_73 rfl (lv_at hl 0 rfl) ?_
  refine lv_iconst (v := 2) hx hb dX4_init_74 (by decide) ?_
  refine lv_icmp_ge (tgt := 97) hx hb dX4_init_75 (by decide) (fun _ => ?_) (fun h => absurd (by decide) h)
  have hP := va_P_q1 (g := fun i => some ((mkAd (fun i => if i = 0 then h0 else if i = 1 then q_7 else if i = 2 then q_8 else q_11) a_2 a_4 a_13 a_15 a_10 a_6) (i + 2) 0)) (lt2 rfl rfl) hP
  have hD := va_D_q1 (y := .inl (cA 2, 2, .inr (.inr (.inr (.inr (fun i => some ((mkAd (fun i => if i = 0 then h0 else if i = 1 then q_7 else if i = 2 then q_8 else q_11) a_2 a_4 a_13 a_15 a_10 a_6) (i + 2) 0))))))) hD
  exact mk_vret (mkAd (fun i => if i = 0 then h0 else if i = 1 then q_7 else if i = 2 then q_8 else q_11) a_2 a_4 a_13 a_15 a_10 a_6) hx hb hr hlocks dX4_init_97 hAe hS rfl (all_mkP cA (fun i => if i = 0 then h0 else if i = 1 then q_7 else if i = 2 then q_8 else q_11) a_2 a_4 a_13 a_15 a_10 a_6 hP) (all_mkD cA (fun i => if i = 0 then h0 else if i = 1 then q_7 else if i = 2 then q_8 else q_11) a_2 a_4 a_13 a_15 a_10 a_6 hD)
