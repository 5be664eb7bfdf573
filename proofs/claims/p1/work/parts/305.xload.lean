-- load of an empty buffer: it writes the buffer's phase, then throws
theorem mX4_load_f37 : Cond.fieldLink RX4 37 "WireLoom" "buffer" "LWireLoom$Text;" ∈ wsX4_load := by decide +kernel
theorem mX4_load_x79 : Cond.classLink RX4 79 "java/lang/IllegalArgumentException" ∈ wsX4_load := by decide +kernel
theorem mX4_load_xi79 : Cond.initialized "java/lang/IllegalArgumentException" ∈ wsX4_load := by decide +kernel
set_option maxRecDepth 20000 in
theorem iX4_load_X4 : ∀ w ∈ wsX40, w ∈ wsX4_load := by decide +kernel
set_option maxHeartbeats 4000000 in
set_option maxRecDepth 100000 in
theorem x_load2 (l : Launch) (hl0 : l.stackTraces = false) (D : va_G) (cA : Nat → ClassId) (H : Heap) (Ad : Nat → Nat → Nat) (f : Nat → SV) (o z : Nat) (cd wd : Nat → Int32) (wc ph : Int32) (rt : (Nat → Int32) × (Nat → Int32)) (t : Nat) (ht : t < 16) (hP0 : va_P D vwCl (all cA Ad (f, ((nI o), (nI z)), (cd, wd, 0, wc, ph), rt)) H) (hD0 : va_D (fun _ => True) (all cA Ad (f, ((nI o), (nI z)), (cd, wd, 0, wc, ph), rt))) : XTW l yX4_load wsX4_load ({ frames := 6, cells := 1, slots := 6, locals := 82 } : Room) D cA [.ref (Ad 10 0), .int (nI t)] H (va_A (all cA Ad (f, ((nI o), (nI z)), (cd, wd, 0, wc, ph), rt)) H.size) "java/lang/IllegalArgumentException" := by
  refine vx_ofW (cc := cX4_load) (maxL := 4) (ret := (some .int)) (by decide) rfl ?_
  intro p e s m args below meth c s₁ B hml htab hv
  obtain ⟨rfl, hH, hKN, hKX, hXZ⟩ := hv
  have hK := hKN.1
  have hx := B.exec
  have hb := B.bytes
  have hts := atoms_spec (ws := wsX4_load) B.pre
  have hown : s.vm.findClass RX4 = some m.cls := findClass_of_methodNamed B.named
  have hlocks := B.notSynchronized
  subst hH
  have hWD := hD0.self (sz := s.heap.size)
  generalize hAe : va_A (all cA Ad (f, ((nI o), (nI z)), (cd, wd, 0, wc, ph), rt)) s.heap.size = A at hWD hXZ ⊢
  have hA : ∀ q : Nat, s.heap.size ≤ q → A q := fun q h => by rw [← hAe]; exact Or.inr h
  have hS : va_S A s.heap s.heap [] := va_S.rf
  have hWP : va_P D vwCl (all cA Ad (f, ((nI o), (nI z)), (cd, wd, 0, wc, ph), rt)) s.heap := hP0
  have hl := lv_entry ([.ref (Ad 10 0), .int (nI t)] : List Value) (n := 4) (Nat.le_of_ble_eq_true rfl)
  rw [lg_entry_eq]
  generalize (lg_sl ([.ref (Ad 10 0), .int (nI t)] : List Value) ++ List.replicate (4 - (lg_sl ([.ref (Ad 10 0), .int (nI t)] : List Value)).length) Slot.unset).toArray = ls at hl ⊢
  have hl : lv_has ls 4 [(0, .ref (Ad 10 0)), (1, .int (nI t))] := hl
  refine lv_iload_n hx hb dX4_load_0 rfl (lv_at hl 1 rfl) ?_
  refine ro_S (As := [.int (nI t)]) (rest := []) ⟨hx, hb, hml, hown, hts⟩ (c_X4_isThread l D cA _ (nI t)) (cwS2 1 hts gX4_load_X4_isThread rfl rfl rfl (by decide +kernel) ⟨Nat.le_of_ble_eq_true rfl, Nat.le_of_ble_eq_true rfl⟩) hKN rfl hl.1 rfl (lv_room (Nat.le_of_ble_eq_true rfl)) dX4_load_1 ⟨Nat.zero_le _, Nat.zero_le _⟩ ?_
  refine lz_top (v := 1) (inF_ok (k := t) (a := 0) (b := 15) (by omega) (by omega) (by decide)) ?_
  refine lv_if_ne (tgt := 17) hx hb dX4_load_4 (by decide) (fun _ => ?_) (fun h => absurd h (by decide))
  refine lv_aload_n hx hb dX4_load_17 rfl (lv_at hl 0 rfl) ?_
  have hP : va_P D vwCl ((wLm cA Ad rt) ++ (rst cA Ad (f, ((nI o), (nI z)), (cd, wd, 0, wc, ph), rt) 10)) s.heap := lw_fP 10 (by decide) hWP
  have hD : va_D A ((wLm cA Ad rt) ++ (rst cA Ad (f, ((nI o), (nI z)), (cd, wd, 0, wc, ph), rt) 10)) := lw_fD 10 (by decide) hWD
  refine va_get (D := D) (ci := 4) (v := .ref (Ad 12 0)) (C := RX4) (T := TX4) (N := 7) hx hb hts iX4_load_X4 hown hK hP 0 rfl rfl 5 (by decide) (hts _ mX4_load_f37) (fun _ h9 => h9) rfl dX4_load_18 ?_
  have hP : va_P D vwCl ((wTx cA (Ad 12) (cd, wd, 0, wc, ph)) ++ (rst cA Ad (f, ((nI o), (nI z)), (cd, wd, 0, wc, ph), rt) 12)) s.heap := lw_fP 12 (by decide) hWP
  have hD : va_D A ((wTx cA (Ad 12) (cd, wd, 0, wc, ph)) ++ (rst cA Ad (f, ((nI o), (nI z)), (cd, wd, 0, wc, ph), rt) 12)) := lw_fD 12 (by decide) hWD
  refine mu_Va (ci := 3) (q0 := 0) (As := []) (rest := []) ⟨hx, hb, hml, hown, hts⟩ (c_X3_tellsProgram l D cA _ (Ad 12) cd wd wc ph (va_P_l hP) (va_D_l hD)) (cwV 0 hts gX4_load_X3_tellsProgram rfl rfl rfl (by decide +kernel) ⟨Nat.le_of_ble_eq_true rfl, Nat.le_of_ble_eq_true rfl⟩) hKN hP hD hS hA rfl rfl ((wTx_fst _ _ _).trans (wTx_fst _ _ _).symm) rfl hl.1 rfl (lv_room (Nat.le_of_ble_eq_true rfl)) dX4_load_21 ⟨Nat.zero_le _, Nat.zero_le _⟩ (fun H locs hP hD hS => ?_)
  have hP : va_P D vwCl ((wTx cA (Ad 12) (cd, wd, 0, 0, 0)) ++ (rst cA Ad (f, ((nI o), (nI z)), (cd, wd, 0, wc, ph), rt) 12)) H := hP
  have hD : va_D A ((wTx cA (Ad 12) (cd, wd, 0, 0, 0)) ++ (rst cA Ad (f, ((nI o), (nI z)), (cd, wd, 0, wc, ph), rt) 12)) := hD
  refine lv_if_ne (tgt := 37) hx hb dX4_load_24 (by decide) (fun h => absurd (by decide) h) (fun _ => ?_)
  have hWP : va_P D vwCl (all cA Ad (f, ((nI o), (nI z)), (cd, wd, 0, 0, 0), rt)) H := lw_uP 12 (f, ((nI o), (nI z)), (cd, wd, 0, 0, 0), rt) (by decide) bc_tx hP
  have hWD : va_D A (all cA Ad (f, ((nI o), (nI z)), (cd, wd, 0, 0, 0), rt)) := lw_uD 12 (f, ((nI o), (nI z)), (cd, wd, 0, 0, 0), rt) (by decide) bc_tx hD
  obtain ⟨sa, hstr⟩ := hKX.1 (149, "the buffer does not tell a program") (by decide)
  exact vx_throwS (names := ["java/lang/RuntimeException", "java/lang/Exception"]) (text := "the buffer does not tell a program") (A := A) hx hb hl0 hown (by decide +kernel) (by decide +kernel) (hts _ mX4_load_x79) (hts _ mX4_load_xi79) hstr (vx_hat (fun w h => hts w (List.mem_cons_of_mem _ (List.mem_append_right _ h))) (B := KXw) (by decide +kernel) hKX.use) (by decide +kernel) hXZ.1 hXZ.2 hS (hl.1.trans hml.symm) dX4_load_27 dX4_load_30 dX4_load_31 dX4_load_33 dX4_load_36 (fun x hx9 => (htab x hx9).elim) (Nat.le_of_ble_eq_true rfl) (Nat.le_of_ble_eq_true rfl) (Nat.le_of_ble_eq_true rfl) (Nat.le_of_ble_eq_true rfl) hlocks (fun t _ h1 h2 => ⟨rfl, Nat.le_trans hS.1 h1, fun q hq hn => (h2 q (Nat.lt_of_lt_of_le hq hS.1)).trans (hS.2.1 q hq hn)⟩) hS.2.2 (Nat.le_of_ble_eq_true rfl) (Nat.le_of_ble_eq_true rfl)
theorem mX5_thrown_f23 : Cond.fieldLink RX5 23 "WireLoomModel" "thrown" "I" ∈ wsX5_thrown := by decide +kernel
set_option maxRecDepth 20000 in
theorem iX5_thrown_X5 : ∀ w ∈ wsX50, w ∈ wsX5_thrown := by decide +kernel
set_option maxHeartbeats 4000000 in
set_option maxRecDepth 100000 in
theorem c_X5_thrown (l : Launch) (D : va_G) (cA : Nat → ClassId) (H : Heap) (a : Nat → Nat) (u : MDV) (hP0 : va_P D vwCl (wMd cA a u) H) : RO l yX5_thrown wsX5_thrown ({ frames := 0, cells := 0, slots := 0, locals := 0 } : Room) D cA [.ref (a 0)] H (some (.int u.1)) := by
  refine Met.ofW (cc := cX5_thrown) (maxL := 1) (ret := (some .int)) (by decide) rfl ?_
  intro p e s m args below meth c s₁ B hml hv
  obtain ⟨rfl, hH, hKN⟩ := hv
  have hK := hKN.1
  have hx := B.exec
  have hb := B.bytes
  have hr := B.returns
  have hts := atoms_spec (ws := wsX5_thrown) B.pre
  have hown : s.vm.findClass RX5 = some m.cls := findClass_of_methodNamed B.named
  have hlocks := B.notSynchronized
  subst hH
  have hH : s.heap = s.heap := rfl
  have hP := hP0
  have hl := lv_entry ([.ref (a 0)] : List Value) (n := 1) (Nat.le_of_ble_eq_true rfl)
  rw [lg_entry_eq]
  generalize (lg_sl ([.ref (a 0)] : List Value) ++ List.replicate (1 - (lg_sl ([.ref (a 0)] : List Value)).length) Slot.unset).toArray = ls at hl ⊢
  have hl : lv_has ls 1 [(0, .ref (a 0))] := hl
  refine lv_aload_n hx hb dX5_thrown_0 rfl (lv_at hl 0 rfl) ?_
  refine va_get (D := D) (ci := 5) (v := .int u.1) (C := RX5) (T := TX5) (N := 10) hx hb hts iX5_thrown_X5 hown hK hP 0 rfl rfl 0 (by decide) (hts _ mX5_thrown_f23) (fun _ h9 => h9) rfl dX5_thrown_1 ?_
  exact ro_iret hx hb hr hlocks hH dX5_thrown_4 rfl
