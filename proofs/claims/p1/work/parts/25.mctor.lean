-- the reference's constructor
def f0 : Nat → Int32 := upd (upd (fun _ => 0) 25 6) 33 1
def initMd : MDV := (0, f0, 0, fun _ => 0, fun _ => 0, 0, fun _ => 0, 0, 0, 0)
theorem f0_FR : FR f0 0 := fun j _ => by
  rw [Nat.zero_add]
  unfold f0 upd f0J
  by_cases h1 : j = 33
  · subst h1; rfl
  · rw [if_neg h1]
    by_cases h2 : j = 25
    · rw [if_pos h2, if_pos h2]
    · rw [if_neg h2, if_neg h2, if_neg h1]
theorem mX5_init_oi1 : Cond.methodLink RX5 1 objectInit ∈ wsX5_init := by decide +kernel
theorem mX5_init_oim : Cond.instanceMethod objectInit ∈ wsX5_init := by decide +kernel
theorem mX5_init_oic : Cond.code objectInit ⟨#[0xb1]⟩ 1 none ∈ wsX5_init := by decide +kernel
theorem mX5_init_acI : Cond.arrayClass .int ∈ wsX5_init := by decide +kernel
theorem mX5_init_f7 : Cond.fieldLink RX5 7 "WireLoomModel" "s" "[I" ∈ wsX5_init := by decide +kernel
theorem mX5_init_acZ : Cond.arrayClass .boolean ∈ wsX5_init := by decide +kernel
theorem mX5_init_f13 : Cond.fieldLink RX5 13 "WireLoomModel" "isKept" "[Z" ∈ wsX5_init := by decide +kernel
theorem mX5_init_f17 : Cond.fieldLink RX5 17 "WireLoomModel" "text" "[I" ∈ wsX5_init := by decide +kernel
theorem mX5_init_f20 : Cond.fieldLink RX5 20 "WireLoomModel" "words" "[I" ∈ wsX5_init := by decide +kernel
set_option maxRecDepth 20000 in
theorem iX5_init_X5 : ∀ w ∈ wsX50, w ∈ wsX5_init := by decide +kernel
set_option maxHeartbeats 8000000 in
set_option maxRecDepth 100000 in
theorem c_X5_init (l : Launch) (D : va_G) (cA : Nat → ClassId) (H : Heap) (h0 : Nat) (hP0 : va_P D vwCl [(h0, .inr (5, [.int 0, .null, .int 0, .null, .null, .int 0, .null, .int 0, .int 0, .long 0]))] H) (hD0 : va_D (fun _ => True) [(h0, .inr (5, [.int 0, .null, .int 0, .null, .null, .int 0, .null, .int 0, .int 0, .long 0]))]) : MK (X := Nat → Nat) l yX5_init wsX5_init ({ frames := 1, cells := 4, slots := 698, locals := 12 } : Room) D cA [.ref h0] H [(h0, .inr (5, [.int 0, .null, .int 0, .null, .null, .int 0, .null, .int 0, .int 0, .long 0]))] (fun x => x 0 = h0) (fun x => wMd cA x initMd) 4 698 := by
  refine Met.ofW (cc := cX5_init) (maxL := 1) (ret := none) (by decide) rfl ?_
  intro p e s m args below meth c s₁ B hml hv
  obtain ⟨rfl, hH, hKN, hKC⟩ := hv
  have hK := hKN.1
  have hx := B.exec
  have hb := B.bytes
  have hr := B.returns
  have hts := atoms_spec (ws := wsX5_init) B.pre
  have hown : s.vm.findClass RX5 = some m.cls := findClass_of_methodNamed B.named
  have hlocks := B.notSynchronized
  have hin : meth.name = "<init>" := (name_of_methodNamed B.named B.method).1
  subst hH
  have hD := hD0.self (sz := s.heap.size)
  generalize hAe : va_A [(h0, .inr (5, [.int 0, .null, .int 0, .null, .null, .int 0, .null, .int 0, .int 0, .long 0]))] s.heap.size = A at hD ⊢
  have hA : ∀ q : Nat, s.heap.size ≤ q → A q := fun q h => by rw [← hAe]; exact Or.inr h
  have hS : va_S A s.heap s.heap [] := va_S.rf
  have hP : va_P D vwCl ([(h0, .inr (5, [.int 0, .null, .int 0, .null, .null, .int 0, .null, .int 0, .int 0, .long 0]))] ++ ([] : va_W)) s.heap := hP0
  have hD : va_D A ([(h0, .inr (5, [.int 0, .null, .int 0, .null, .null, .int 0, .null, .int 0, .int 0, .long 0]))] ++ ([] : va_W)) := hD
  have hl := lv_entry ([.ref h0] : List Value) (n := 1) (Nat.le_of_ble_eq_true rfl)
  rw [lg_entry_eq]
  generalize (lg_sl ([.ref h0] : List Value) ++ List.replicate (1 - (lg_sl ([.ref h0] : List Value)).length) Slot.unset).toArray = ls at hl ⊢
  have hl : lv_has ls 1 [(0, .ref h0)] := hl
  refine lv_aload_n hx hb dX5_init_0 rfl (lv_at hl 0 rfl) ?_
  refine W.objInit hx hb hown (hts _ mX5_init_oi1) (hts _ mX5_init_oim) (hts _ mX5_init_oic) rfl (by rw [hml]; exact hl.1) rfl dX5_init_1 (Nat.le_of_ble_eq_true rfl) (Nat.le_of_ble_eq_true rfl) ?_
  refine W.eq (g2 := F0 m 4 ls []) rfl ?_
  refine lv_aload_n hx hb dX5_init_4 rfl (lv_at hl 0 rfl) ?_
  refine lv_sipush (v := 620) hx hb dX5_init_5 (by decide) ?_
  refine mk_newi 620 hx hb (hts _ mX5_init_acI) hK hP hD hS hA (by decide) rfl (by decide) (Nat.le_of_ble_eq_true rfl) (Nat.le_of_ble_eq_true rfl) dX5_init_8 (fun q_1 H hP hD hS => ?_)
  have hP := va_P_perm (perm_rot _ _ _) hP
  have hD := va_D_perm (perm_rot _ _ _) hD
  have hP : va_P D vwCl ([(h0, .inr (5, [.int 0, .null, .int 0, .null, .null, .int 0, .null, .int 0, .int 0, .long 0])), (q_1, .inl (cA 0, 620, .inl (fun _ => 0)))] ++ ([] : va_W)) H := hP
  have hD : va_D A ([(h0, .inr (5, [.int 0, .null, .int 0, .null, .null, .int 0, .null, .int 0, .int 0, .long 0])), (q_1, .inl (cA 0, 620, .inl (fun _ => 0)))] ++ ([] : va_W)) := hD
  refine va_putF (D := D) (ci := 5) (v := .ref q_1) (ty := .array .int) (C := RX5) (T := TX5) (N := 10) hx hb hts iX5_init_X5 tyX5 tyX5_ok nmX5 hown hK hP hD hS 0 rfl rfl 1 (by decide) (hts _ mX5_init_f7) (fun _ h9 => h9) rfl hin rfl (by decide +kernel) rfl rfl (Nat.le_of_ble_eq_true rfl) dX5_init_10 (fun H locs hP hD hS => ?_)
  have hP : va_P D vwCl ([(h0, .inr (5, [.int 0, .ref q_1, .int 0, .null, .null, .int 0, .null, .int 0, .int 0, .long 0])), (q_1, .inl (cA 0, 620, .inl (fun _ => 0)))] ++ ([] : va_W)) H := hP
  have hD : va_D A ([(h0, .inr (5, [.int 0, .ref q_1, .int 0, .null, .null, .int 0, .null, .int 0, .int 0, .long 0])), (q_1, .inl (cA 0, 620, .inl (fun _ => 0)))] ++ ([] : va_W)) := hD
  refine lv_aload_n hx hb dX5_init_13 rfl (lv_at hl 0 rfl) ?_
  refine lv_iconst (v := 2) hx hb dX5_init_14 (by decide) ?_
  refine mk_newz 2 hx hb (hts _ mX5_init_acZ) hK hP hD hS hA (by decide) rfl (by decide) (Nat.le_of_ble_eq_true rfl) (Nat.le_of_ble_eq_true rfl) dX5_init_15 (fun q_2 H hP hD hS => ?_)
  have hP := va_P_perm (perm_rot _ _ _) hP
  have hD := va_D_perm (perm_rot _ _ _) hD
  have hP : va_P D vwCl ([(h0, .inr (5, [.int 0, .ref q_1, .int 0, .null, .null, .int 0, .null, .int 0, .int 0, .long 0])), (q_1, .inl (cA 0, 620, .inl (fun _ => 0))), (q_2, .inl (cA 1, 2, .inl (fun _ => 0)))] ++ ([] : va_W)) H := hP
  have hD : va_D A ([(h0, .inr (5, [.int 0, .ref q_1, .int 0, .null, .null, .int 0, .null, .int 0, .int 0, .long 0])), (q_1, .inl (cA 0, 620, .inl (fun _ => 0))), (q_2, .inl (cA 1, 2, .inl (fun _ => 0)))] ++ ([] : va_W)) := hD
  refine va_putF (D := D) (ci := 5) (v := .ref q_2) (ty := .array .boolean) (C := RX5) (T := TX5) (N := 10) hx hb hts iX5_init_X5 tyX5 tyX5_ok nmX5 hown hK hP hD hS 0 rfl rfl 3 (by decide) (hts _ mX5_init_f13) (fun _ h9 => h9) rfl hin rfl (by decide +kernel) rfl rfl (Nat.le_of_ble_eq_true rfl) dX5_init_17 (fun H locs hP hD hS => ?_)
  have hP : va_P D vwCl ([(h0, .inr (5, [.int 0, .ref q_1, .int 0, .ref q_2, .null, .int 0, .null, .int 0, .int 0, .long 0])), (q_1, .inl (cA 0, 620, .inl (fun _ => 0))), (q_2, .inl (cA 1, 2, .inl (fun _ => 0)))] ++ ([] : va_W)) H := hP
  have hD : va_D A ([(h0, .inr (5, [.int 0, .ref q_1, .int 0, .ref q_2, .null, .int 0, .null, .int 0, .int 0, .long 0])), (q_1, .inl (cA 0, 620, .inl (fun _ => 0))), (q_2, .inl (cA 1, 2, .inl (fun _ => 0)))] ++ ([] : va_W)) := hD
  refine lv_aload_n hx hb dX5_init_20 rfl (lv_at hl 0 rfl) ?_
  refine lv_bipush (v := 60) hx hb dX5_init_21 (by decide) ?_
  refine mk_newi 60 hx hb (hts _ mX5_init_acI) hK hP hD hS hA (by decide) rfl (by decide) (Nat.le_of_ble_eq_true rfl) (Nat.le_of_ble_eq_true rfl) dX5_init_23 (fun q_3 H hP hD hS => ?_)
  have hP := va_P_perm (perm_rot _ _ _) hP
  have hD := va_D_perm (perm_rot _ _ _) hD
  have hP : va_P D vwCl ([(h0, .inr (5, [.int 0, .ref q_1, .int 0, .ref q_2, .null, .int 0, .null, .int 0, .int 0, .long 0])), (q_1, .inl (cA 0, 620, .inl (fun _ => 0))), (q_2, .inl (cA 1, 2, .inl (fun _ => 0))), (q_3, .inl (cA 0, 60, .inl (fun _ => 0)))] ++ ([] : va_W)) H := hP
  have hD : va_D A ([(h0, .inr (5, [.int 0, .ref q_1, .int 0, .ref q_2, .null, .int 0, .null, .int 0, .int 0, .long 0])), (q_1, .inl (cA 0, 620, .inl (fun _ => 0))), (q_2, .inl (cA 1, 2, .inl (fun _ => 0))), (q_3, .inl (cA 0, 60, .inl (fun _ => 0)))] ++ ([] : va_W)) := hD
  refine va_putF (D := D) (ci := 5) (v := .ref q_3) (ty := .array .int) (C := RX5) (T := TX5) (N := 10) hx hb hts iX5_init_X5 tyX5 tyX5_ok nmX5 hown hK hP hD hS 0 rfl rfl 4 (by decide) (hts _ mX5_init_f17) (fun _ h9 => h9) rfl hin rfl (by decide +kernel) rfl rfl (Nat.le_of_ble_eq_true rfl) dX5_init_25 (fun H locs hP hD hS => ?_)
  have hP : va_P D vwCl ([(h0, .inr (5, [.int 0, .ref q_1, .int 0, .ref q_2, .ref q_3, .int 0, .null, .int 0, .int 0, .long 0])), (q_1, .inl (cA 0, 620, .inl (fun _ => 0))), (q_2, .inl (cA 1, 2, .inl (fun _ => 0))), (q_3, .inl (cA 0, 60, .inl (fun _ => 0)))] ++ ([] : va_W)) H := hP
  have hD : va_D A ([(h0, .inr (5, [.int 0, .ref q_1, .int 0, .ref q_2, .ref q_3, .int 0, .null, .int 0, .int 0, .long 0])), (q_1, .inl (cA 0, 620, .inl (fun _ => 0))), (q_2, .inl (cA 1, 2, .inl (fun _ => 0))), (q_3, .inl (cA 0, 60, .inl (fun _ => 0)))] ++ ([] : va_W)) := hD
  refine lv_aload_n hx hb dX5_init_28 rfl (lv_at hl 0 rfl) ?_
  refine lv_bipush (v := 16) hx hb dX5_init_29 (by decide) ?_
  refine mk_newi 16 hx hb (hts _ mX5_init_acI) hK hP hD hS hA (by decide) rfl (by decide) (Nat.le_of_ble_eq_true rfl) (Nat.le_of_ble_eq_true rfl) dX5_init_31 (fun q_4 H hP hD hS => ?_)
  have hP := va_P_perm (perm_rot _ _ _) hP
  have hD := va_D_perm (perm_rot _ _ _) hD
  have hP : va_P D vwCl ([(h0, .inr (5, [.int 0, .ref q_1, .int 0, .ref q_2, .ref q_3, .int 0, .null, .int 0, .int 0, .long 0])), (q_1, .inl (cA 0, 620, .inl (fun _ => 0))), (q_2, .inl (cA 1, 2, .inl (fun _ => 0))), (q_3, .inl (cA 0, 60, .inl (fun _ => 0))), (q_4, .inl (cA 0, 16, .inl (fun _ => 0)))] ++ ([] : va_W)) H := hP
  have hD : va_D A ([(h0, .inr (5, [.int 0, .ref q_1, .int 0, .ref q_2, .ref q_3, .int 0, .null, .int 0, .int 0, .long 0])), (q_1, .inl (cA 0, 620, .inl (fun _ => 0))), (q_2, .inl (cA 1, 2, .inl (fun _ => 0))), (q_3, .inl (cA 0, 60, .inl (fun _ => 0))), (q_4, .inl (cA 0, 16, .inl (fun _ => 0)))] ++ ([] : va_W)) := hD
  refine va_putF (D := D) (ci := 5) (v := .ref q_4) (ty := .array .int) (C := RX5) (T := TX5) (N := 10) hx hb hts iX5_init_X5 tyX5 tyX5_ok nmX5 hown hK hP hD hS 0 rfl rfl 6 (by decide) (hts _ mX5_init_f20) (fun _ h9 => h9) rfl hin rfl (by decide +kernel) rfl rfl (Nat.le_of_ble_eq_true rfl) dX5_init_33 (fun H locs hP hD hS => ?_)
  have hP : va_P D vwCl ([(h0, .inr (5, [.int 0, .ref q_1, .int 0, .ref q_2, .ref q_3, .int 0, .ref q_4, .int 0, .int 0, .long 0])), (q_1, .inl (cA 0, 620, .inl (fun _ => 0))), (q_2, .inl (cA 1, 2, .inl (fun _ => 0))), (q_3, .inl (cA 0, 60, .inl (fun _ => 0))), (q_4, .inl (cA 0, 16, .inl (fun _ => 0)))] ++ ([] : va_W)) H := hP
  have hD : va_D A ([(h0, .inr (5, [.int 0, .ref q_1, .int 0, .ref q_2, .ref q_3, .int 0, .ref q_4, .int 0, .int 0, .long 0])), (q_1, .inl (cA 0, 620, .inl (fun _ => 0))), (q_2, .inl (cA 1, 2, .inl (fun _ => 0))), (q_3, .inl (cA 0, 60, .inl (fun _ => 0))), (q_4, .inl (cA 0, 16, .inl (fun _ => 0)))] ++ ([] : va_W)) := hD
  refine lv_aload_n hx hb dX5_init_36 rfl (lv_at hl 0 rfl) ?_
  refine va_get (D := D) (ci := 5) (v := .ref q_1) (C := RX5) (T := TX5) (N := 10) hx hb hts iX5_init_X5 hown hK hP 0 rfl rfl 1 (by decide) (hts _ mX5_init_f7) (fun _ h9 => h9) rfl dX5_init_37 ?_
  refine lv_bipush (v := 25) hx hb dX5_init_40 (by decide) ?_
  refine lv_bipush (v := 6) hx hb dX5_init_42 (by decide) ?_
  refine lz_iast (k := 25) (f := (fun _ => 0)) hx hb hK hP hD hS 1 0 rfl rfl ⟨by decide, by decide⟩ dX5_init_44 (fun H locs hP hD hS => ?_)
  have hP : va_P D vwCl ([(h0, .inr (5, [.int 0, .ref q_1, .int 0, .ref q_2, .ref q_3, .int 0, .ref q_4, .int 0, .int 0, .long 0])), (q_1, .inl (cA 0, 620, .inl (upd (fun _ => 0) 25 6))), (q_2, .inl (cA 1, 2, .inl (fun _ => 0))), (q_3, .inl (cA 0, 60, .inl (fun _ => 0))), (q_4, .inl (cA 0, 16, .inl (fun _ => 0)))] ++ ([] : va_W)) H := hP
  have hD : va_D A ([(h0, .inr (5, [.int 0, .ref q_1, .int 0, .ref q_2, .ref q_3, .int 0, .ref q_4, .int 0, .int 0, .long 0])), (q_1, .inl (cA 0, 620, .inl (upd (fun _ => 0) 25 6))), (q_2, .inl (cA 1, 2, .inl (fun _ => 0))), (q_3, .inl (cA 0, 60, .inl (fun _ => 0))), (q_4, .inl (cA 0, 16, .inl (fun _ => 0)))] ++ ([] : va_W)) := hD
  refine lv_aload_n hx hb dX5_init_45 rfl (lv_at hl 0 rfl) ?_
  refine va_get (D := D) (ci := 5) (v := .ref q_1) (C := RX5) (T := TX5) (N := 10) hx hb hts iX5_init_X5 hown hK hP 0 rfl rfl 1 (by decide) (hts _ mX5_init_f7) (fun _ h9 => h9) rfl dX5_init_46 ?_
  refine lv_bipush (v := 33) hx hb dX5_init_49 (by decide) ?_
  refine lv_iconst (v := 1) hx hb dX5_init_51 (by decide) ?_
  refine lz_iast (k := 33) (f := (upd (fun _ => 0) 25 6)) hx hb hK hP hD hS 1 0 rfl rfl ⟨by decide, by decide⟩ dX5_init_52 (fun H locs hP hD hS => ?_)
  have hP : va_P D vwCl ([(h0, .inr (5, [.int 0, .ref q_1, .int 0, .ref q_2, .ref q_3, .int 0, .ref q_4, .int 0, .int 0, .long 0])), (q_1, .inl (cA 0, 620, .inl (upd (upd (fun _ => 0) 25 6) 33 1))), (q_2, .inl (cA 1, 2, .inl (fun _ => 0))), (q_3, .inl (cA 0, 60, .inl (fun _ => 0))), (q_4, .inl (cA 0, 16, .inl (fun _ => 0)))] ++ ([] : va_W)) H := hP
  have hD : va_D A ([(h0, .inr (5, [.int 0, .ref q_1, .int 0, .ref q_2, .ref q_3, .int 0, .ref q_4, .int 0, .int 0, .long 0])), (q_1, .inl (cA 0, 620, .inl (upd (upd (fun _ => 0) 25 6) 33 1))), (q_2, .inl (cA 1, 2, .inl (fun _ => 0))), (q_3, .inl (cA 0, 60, .inl (fun _ => 0))), (q_4, .inl (cA 0, 16, .inl (fun _ => 0)))] ++ ([] : va_W)) := hD
  rw [List.append_nil] at hP hD
  exact mk_vret (fun i => if i = 0 then h0 else if i = 1 then q_1 else if i = 2 then q_2 else if i = 3 then q_3 else q_4) hx hb hr hlocks dX5_init_53 hAe hS rfl hP hD
