-- the loom: the machine, snapshots, undo, the buffer, counts, what would be
section ZAST
variable {p : Program} {l : Launch} {e : Env} {R : Room} {s : State} {m : MethodId} {args : Array Value} {below : List Frame} {meth : Method} {c : Code} {H : Heap} {locs : List Loc} {cells slots : Nat} {Q : State → Prop}
variable {cc : ByteArray} {rest : List Value} {pc : Nat} {ls : Array Slot} {D : va_G} {cA : Nat → ClassId}
theorem lz_zast {A : Nat → Prop} {H0 : Heap} {wsW : va_W} {a : Nat} (k : Nat) {f : Nat → Int32} (hexec : p.tables.exec = Jvm.exec) (hb : c.code = cc) (hK : va_K D vwCl (KT cA) s) (hP : va_P D vwCl wsW H) (hD : va_D A wsW) (hS : va_S A H0 H locs) (q0 t0 : Nat) {cX : ClassId} {n : Nat} (ha : wsW[q0]? = some (a, .inl (cX, n, .inl f))) (ht : (KT cA)[t0]? = some (cX, .boolean)) (hk : k < n ∧ n < 2 ^ 31) (hdg : decode cc pc = .ok (.bastore, 1))
    (kk : ∀ (H1 : Heap) (locs1 : List Loc), va_P D vwCl (wsW.set q0 (a, .inl (cX, n, .inl (upd f k 1)))) H1 → va_D A (wsW.set q0 (a, .inl (cX, n, .inl (upd f k 1)))) → va_S A H0 H1 locs1 → W p l e R s m args below meth c H1 locs1 cells slots Q (F0 m (pc + 1) ls rest)) : W p l e R s m args below meth c H locs cells slots Q (F0 m pc ls (.int 1 :: .int (nI k) :: .ref a :: rest)) := by
  refine va_zast hexec hb hK hP hD hS q0 t0 ha ht (vp_in_nI hk.1 hk.2) hdg ?_
  rw [nI_clamp (Nat.lt_trans hk.1 hk.2)]
  exact kk
end ZAST
theorem upS_upS (f : Nat → SV) (i : Nat) (v w : SV) : upS (upS f i v) i w = upS f i w := by
  funext k
  unfold upS
  by_cases h : k = i
  · rw [if_pos h, if_pos h]
  · rw [if_neg h, if_neg h, if_neg h]
theorem mX4_start_f22 : Cond.fieldLink RX4 22 "WireLoom" "past" "LWireLoom$Past;" ∈ wsX4_start := by decide +kernel
theorem mX4_start_f10 : Cond.fieldLink RX4 10 "WireLoom" "now" "LWireLoom$State;" ∈ wsX4_start := by decide +kernel
theorem mX4_start_f110 : Cond.fieldLink RX4 110 "WireLoom$State" "machine" "LWireLoom$Machine;" ∈ wsX4_start := by decide +kernel
theorem mX4_start_f114 : Cond.fieldLink RX4 114 "WireLoom$Machine" "steps" "I" ∈ wsX4_start := by decide +kernel
set_option maxRecDepth 20000 in
theorem iX4_start_X0 : ∀ w ∈ wsX00, w ∈ wsX4_start := by decide +kernel
set_option maxRecDepth 20000 in
theorem iX4_start_X2 : ∀ w ∈ wsX20, w ∈ wsX4_start := by decide +kernel
set_option maxRecDepth 20000 in
theorem iX4_start_X4 : ∀ w ∈ wsX40, w ∈ wsX4_start := by decide +kernel
set_option maxHeartbeats 4000000 in
set_option maxRecDepth 100000 in
theorem c_X4_start (l : Launch) (D : va_G) (cA : Nat → ClassId) (H : Heap) (Ad : Nat → Nat → Nat) (f : Nat → SV) (o z : Nat) (tx : TV) (rt : (Nat → Int32) × (Nat → Int32)) (ho : o < 6) (hz6 : z ≤ 6) (hz : (f 0).2.2.2.2.2.2.2.2.2.2.2.1 = 0 ∨ (f 0).2.2.2.2.2.2.2.2.2.2.2.1 = 1) (hP0 : va_P D vwCl (all cA Ad (f, ((nI o), (nI z)), tx, rt)) H) (hD0 : va_D (fun _ => True) (all cA Ad (f, ((nI o), (nI z)), tx, rt))) : MU l yX4_start wsX4_start ({ frames := 4, cells := 0, slots := 0, locals := 93 } : Room) D cA [.ref (Ad 10 0)] H (all cA Ad (f, ((nI o), (nI z)), tx, rt)) (all cA Ad (upS (pushF f ((o + z) % 6)) 0 (setMc (f 0) beginM), (nI (if z < 6 then o else (o + 1) % 6), nI (if z < 6 then z + 1 else z)), tx, rt)) (some (.int ((f 0).2.2.2.2.2.2.2.2.2.2.2.2.1))) := by
  refine Met.ofW (cc := cX4_start) (maxL := 2) (ret := (some .int)) (by decide) rfl ?_
  intro p e s m args below meth c s₁ B hml hv
  obtain ⟨rfl, hH, hKN⟩ := hv
  have hK := hKN.1
  have hx := B.exec
  have hb := B.bytes
  have hr := B.returns
  have hts := atoms_spec (ws := wsX4_start) B.pre
  have hown : s.vm.findClass RX4 = some m.cls := findClass_of_methodNamed B.named
  have hlocks := B.notSynchronized
  subst hH
  have hWD := hD0.self (sz := s.heap.size)
  generalize hAe : va_A (all cA Ad (f, ((nI o), (nI z)), tx, rt)) s.heap.size = A at hWD ⊢
  have hA : ∀ q : Nat, s.heap.size ≤ q → A q := fun q h => by rw [← hAe]; exact Or.inr h
  have hS : va_S A s.heap s.heap [] := va_S.rf
  have hWP : va_P D vwCl (all cA Ad (f, ((nI o), (nI z)), tx, rt)) s.heap := hP0
  have hl := lv_entry ([.ref (Ad 10 0)] : List Value) (n := 2) (Nat.le_of_ble_eq_true rfl)
  rw [lg_entry_eq]
  generalize (lg_sl ([.ref (Ad 10 0)] : List Value) ++ List.replicate (2 - (lg_sl ([.ref (Ad 10 0)] : List Value)).length) Slot.unset).toArray = ls at hl ⊢
  have hl : lv_has ls 2 [(0, .ref (Ad 10 0))] := hl
  refine lv_aload_n hx hb dX4_start_0 rfl (lv_at hl 0 rfl) ?_
  have hP : va_P D vwCl ((wLm cA Ad rt) ++ (rst cA Ad (f, ((nI o), (nI z)), tx, rt) 10)) s.heap := lw_fP 10 (by decide) hWP
  have hD : va_D A ((wLm cA Ad rt) ++ (rst cA Ad (f, ((nI o), (nI z)), tx, rt) 10)) := lw_fD 10 (by decide) hWD
  refine va_get (D := D) (ci := 4) (v := .ref (Ad 11 0)) (C := RX4) (T := TX4) (N := 7) hx hb hts iX4_start_X4 hown hK hP 0 rfl rfl 2 (by decide) (hts _ mX4_start_f22) (fun _ h9 => h9) rfl dX4_start_1 ?_
  refine lv_aload_n hx hb dX4_start_4 rfl (lv_at hl 0 rfl) ?_
  refine va_get (D := D) (ci := 4) (v := .ref (Ad 0 0)) (C := RX4) (T := TX4) (N := 7) hx hb hts iX4_start_X4 hown hK hP 0 rfl rfl 0 (by decide) (hts _ mX4_start_f10) (fun _ h9 => h9) rfl dX4_start_5 ?_
  refine mu_Vw (ci := 1) (q0 := 0) (As := [.ref (Ad 0 0)]) (rest := []) ⟨hx, hb, hml, hown, hts⟩ (c_X1_push l D cA _ Ad f o z tx rt ho hz6 hz hWP (hWD.weaken (fun _ _ _ _ => trivial))) (cwV 1 hts gX4_start_X1_push rfl rfl rfl (by decide +kernel) ⟨Nat.le_of_ble_eq_true rfl, Nat.le_of_ble_eq_true rfl⟩) hKN hWP hWD hS hA (lw_fP 11 (by decide) hWP : va_P D vwCl ((wPa cA Ad ((nI o), (nI z))) ++ (rst cA Ad (f, ((nI o), (nI z)), tx, rt) 11)) s.heap) rfl rfl (all_fst _ _ _ _) rfl hl.1 rfl (lv_room (Nat.le_of_ble_eq_true rfl)) dX4_start_8 ⟨Nat.zero_le _, Nat.zero_le _⟩ (fun H locs hWP hWD hS => ?_)
  have hWP : va_P D vwCl (all cA Ad ((pushF f ((o + z) % 6)), ((nI (if z < 6 then o else (o + 1) % 6)), (nI (if z < 6 then z + 1 else z))), tx, rt)) H := by rw [pushF_eq] at hWP; exact hWP
  have hWD : va_D A (all cA Ad ((pushF f ((o + z) % 6)), ((nI (if z < 6 then o else (o + 1) % 6)), (nI (if z < 6 then z + 1 else z))), tx, rt)) := by rw [pushF_eq] at hWD; exact hWD
  refine lv_aload_n hx hb dX4_start_11 rfl (lv_at hl 0 rfl) ?_
  have hP : va_P D vwCl ((wLm cA Ad rt) ++ (rst cA Ad ((pushF f ((o + z) % 6)), ((nI (if z < 6 then o else (o + 1) % 6)), (nI (if z < 6 then z + 1 else z))), tx, rt) 10)) H := lw_fP 10 (by decide) hWP
  have hD : va_D A ((wLm cA Ad rt) ++ (rst cA Ad ((pushF f ((o + z) % 6)), ((nI (if z < 6 then o else (o + 1) % 6)), (nI (if z < 6 then z + 1 else z))), tx, rt) 10)) := lw_fD 10 (by decide) hWD
  refine va_get (D := D) (ci := 4) (v := .ref (Ad 0 0)) (C := RX4) (T := TX4) (N := 7) hx hb hts iX4_start_X4 hown hK hP 0 rfl rfl 0 (by decide) (hts _ mX4_start_f10) (fun _ h9 => h9) rfl dX4_start_12 ?_
  have hP : va_P D vwCl ((wSt cA (Ad 0) (f 0)) ++ (rst cA Ad ((pushF f ((o + z) % 6)), ((nI (if z < 6 then o else (o + 1) % 6)), (nI (if z < 6 then z + 1 else z))), tx, rt) 0)) H := lw_fP 0 (by decide) hWP
  have hD : va_D A ((wSt cA (Ad 0) (f 0)) ++ (rst cA Ad ((pushF f ((o + z) % 6)), ((nI (if z < 6 then o else (o + 1) % 6)), (nI (if z < 6 then z + 1 else z))), tx, rt) 0)) := lw_fD 0 (by decide) hWD
  refine va_get (D := D) (ci := 2) (v := .ref ((Ad 0) 5)) (C := RX2) (T := TX2) (N := 8) hx hb hts iX4_start_X2 hown hK hP 0 rfl rfl 4 (by decide) (hts _ mX4_start_f110) (fun _ h9 => h9) rfl dX4_start_15 ?_
  refine va_get (D := D) (ci := 0) (v := .int ((f 0).2.2.2.2.2.2.2.2.2.2.2.2.1)) (C := RX0) (T := TX0) (N := 7) hx hb hts iX4_start_X0 hown hK hP 5 rfl rfl 5 (by decide) (hts _ mX4_start_f114) (fun _ h9 => h9) rfl dX4_start_18 ?_
  refine lv_istore_n (lv' := [(1, .int ((f 0).2.2.2.2.2.2.2.2.2.2.2.2.1)), (0, .ref (Ad 10 0))]) hx hb dX4_start_21 rfl hl (by decide) rfl (fun ls hl => ?_)
  refine lv_aload_n hx hb dX4_start_22 rfl (lv_at hl 1 rfl) ?_
  have hP : va_P D vwCl ((wLm cA Ad rt) ++ (rst cA Ad ((pushF f ((o + z) % 6)), ((nI (if z < 6 then o else (o + 1) % 6)), (nI (if z < 6 then z + 1 else z))), tx, rt) 10)) H := lw_fP 10 (by decide) hWP
  have hD : va_D A ((wLm cA Ad rt) ++ (rst cA Ad ((pushF f ((o + z) % 6)), ((nI (if z < 6 then o else (o + 1) % 6)), (nI (if z < 6 then z + 1 else z))), tx, rt) 10)) := lw_fD 10 (by decide) hWD
  refine va_get (D := D) (ci := 4) (v := .ref (Ad 0 0)) (C := RX4) (T := TX4) (N := 7) hx hb hts iX4_start_X4 hown hK hP 0 rfl rfl 0 (by decide) (hts _ mX4_start_f10) (fun _ h9 => h9) rfl dX4_start_23 ?_
  have hP : va_P D vwCl ((wSt cA (Ad 0) (f 0)) ++ (rst cA Ad ((pushF f ((o + z) % 6)), ((nI (if z < 6 then o else (o + 1) % 6)), (nI (if z < 6 then z + 1 else z))), tx, rt) 0)) H := lw_fP 0 (by decide) hWP
  have hD : va_D A ((wSt cA (Ad 0) (f 0)) ++ (rst cA Ad ((pushF f ((o + z) % 6)), ((nI (if z < 6 then o else (o + 1) % 6)), (nI (if z < 6 then z + 1 else z))), tx, rt) 0)) := lw_fD 0 (by decide) hWD
  refine va_get (D := D) (ci := 2) (v := .ref ((Ad 0) 5)) (C := RX2) (T := TX2) (N := 8) hx hb hts iX4_start_X2 hown hK hP 0 rfl rfl 4 (by decide) (hts _ mX4_start_f110) (fun _ h9 => h9) rfl dX4_start_26 ?_
  refine mu_V (ci := 0) (q0 := 5) (As := []) (rest := []) (ws' := ((wSt cA (Ad 0) ((f 0).1, (f 0).2.1, (f 0).2.2.1, (f 0).2.2.2.1, (f 0).2.2.2.2.1, (f 0).2.2.2.2.2.1, (f 0).2.2.2.2.2.2.1, (fun _ => 0), (fun _ => -1), 0, 0, 1, 0, 0)) ++ (rst cA Ad ((pushF f ((o + z) % 6)), ((nI (if z < 6 then o else (o + 1) % 6)), (nI (if z < 6 then z + 1 else z))), tx, rt) 0))) ⟨hx, hb, hml, hown, hts⟩ (c_X0_begin l D cA _ (Ad 0) ((f 0).2.2.2.2.2.2.2.1, (f 0).2.2.2.2.2.2.2.2.1, (f 0).2.2.2.2.2.2.2.2.2.1, (f 0).2.2.2.2.2.2.2.2.2.2.1, (f 0).2.2.2.2.2.2.2.2.2.2.2.1, (f 0).2.2.2.2.2.2.2.2.2.2.2.2.1, (f 0).2.2.2.2.2.2.2.2.2.2.2.2.2) (hP.sub (ws' := (wMc cA (Ad 0) ((f 0).2.2.2.2.2.2.2.1, (f 0).2.2.2.2.2.2.2.2.1, (f 0).2.2.2.2.2.2.2.2.2.1, (f 0).2.2.2.2.2.2.2.2.2.2.1, (f 0).2.2.2.2.2.2.2.2.2.2.2.1, (f 0).2.2.2.2.2.2.2.2.2.2.2.2.1, (f 0).2.2.2.2.2.2.2.2.2.2.2.2.2))) [5, 6, 7] rfl) ((hD.sub (ws' := (wMc cA (Ad 0) ((f 0).2.2.2.2.2.2.2.1, (f 0).2.2.2.2.2.2.2.2.1, (f 0).2.2.2.2.2.2.2.2.2.1, (f 0).2.2.2.2.2.2.2.2.2.2.1, (f 0).2.2.2.2.2.2.2.2.2.2.2.1, (f 0).2.2.2.2.2.2.2.2.2.2.2.2.1, (f 0).2.2.2.2.2.2.2.2.2.2.2.2.2))) [5, 6, 7] (by decide) rfl).weaken (fun _ _ _ _ => trivial))) (cwV 0 hts gX4_start_X0_begin rfl rfl rfl (by decide +kernel) ⟨Nat.le_of_ble_eq_true rfl, Nat.le_of_ble_eq_true rfl⟩) hKN hP hD hS hA rfl rfl [5, 6, 7] rfl ((wMc_fst _ _ _).trans (wMc_fst _ _ _).symm) rfl rfl hl.1 rfl (lv_room (Nat.le_of_ble_eq_true rfl)) dX4_start_29 ⟨Nat.zero_le _, Nat.zero_le _⟩ (fun H locs hP hD hS => ?_)
  have hP : va_P D vwCl ((wSt cA (Ad 0) ((f 0).1, (f 0).2.1, (f 0).2.2.1, (f 0).2.2.2.1, (f 0).2.2.2.2.1, (f 0).2.2.2.2.2.1, (f 0).2.2.2.2.2.2.1, (fun _ => 0), (fun _ => -1), 0, 0, 1, 0, 0)) ++ (rst cA Ad ((pushF f ((o + z) % 6)), ((nI (if z < 6 then o else (o + 1) % 6)), (nI (if z < 6 then z + 1 else z))), tx, rt) 0)) H := hP
  have hD : va_D A ((wSt cA (Ad 0) ((f 0).1, (f 0).2.1, (f 0).2.2.1, (f 0).2.2.2.1, (f 0).2.2.2.2.1, (f 0).2.2.2.2.2.1, (f 0).2.2.2.2.2.2.1, (fun _ => 0), (fun _ => -1), 0, 0, 1, 0, 0)) ++ (rst cA Ad ((pushF f ((o + z) % 6)), ((nI (if z < 6 then o else (o + 1) % 6)), (nI (if z < 6 then z + 1 else z))), tx, rt) 0)) := hD
  refine lv_iload_n hx hb dX4_start_32 rfl (lv_at hl 0 rfl) ?_
  have hWP : va_P D vwCl (all cA Ad ((upS (pushF f ((o + z) % 6)) 0 ((f 0).1, (f 0).2.1, (f 0).2.2.1, (f 0).2.2.2.1, (f 0).2.2.2.2.1, (f 0).2.2.2.2.2.1, (f 0).2.2.2.2.2.2.1, (fun _ => 0), (fun _ => -1), 0, 0, 1, 0, 0)), ((nI (if z < 6 then o else (o + 1) % 6)), (nI (if z < 6 then z + 1 else z))), tx, rt)) H := lw_uP 0 ((upS (pushF f ((o + z) % 6)) 0 ((f 0).1, (f 0).2.1, (f 0).2.2.1, (f 0).2.2.2.1, (f 0).2.2.2.2.1, (f 0).2.2.2.2.2.1, (f 0).2.2.2.2.2.2.1, (fun _ => 0), (fun _ => -1), 0, 0, 1, 0, 0)), ((nI (if z < 6 then o else (o + 1) % 6)), (nI (if z < 6 then z + 1 else z))), tx, rt) (by decide) (bc_st 0 _ (by decide)) hP
  have hWD : va_D A (all cA Ad ((upS (pushF f ((o + z) % 6)) 0 ((f 0).1, (f 0).2.1, (f 0).2.2.1, (f 0).2.2.2.1, (f 0).2.2.2.2.1, (f 0).2.2.2.2.2.1, (f 0).2.2.2.2.2.2.1, (fun _ => 0), (fun _ => -1), 0, 0, 1, 0, 0)), ((nI (if z < 6 then o else (o + 1) % 6)), (nI (if z < 6 then z + 1 else z))), tx, rt)) := lw_uD 0 ((upS (pushF f ((o + z) % 6)) 0 ((f 0).1, (f 0).2.1, (f 0).2.2.1, (f 0).2.2.2.1, (f 0).2.2.2.2.1, (f 0).2.2.2.2.2.1, (f 0).2.2.2.2.2.2.1, (fun _ => 0), (fun _ => -1), 0, 0, 1, 0, 0)), ((nI (if z < 6 then o else (o + 1) % 6)), (nI (if z < 6 then z + 1 else z))), tx, rt) (by decide) (bc_st 0 _ (by decide)) hD
  exact mu_iret hx hb hr hlocks dX4_start_33 hAe hS hWP rfl
theorem mX4_go_f22 : Cond.fieldLink RX4 22 "WireLoom" "past" "LWireLoom$Past;" ∈ wsX4_go := by decide +kernel
theorem mX4_go_f10 : Cond.fieldLink RX4 10 "WireLoom" "now" "LWireLoom$State;" ∈ wsX4_go := by decide +kernel
set_option maxRecDepth 20000 in
theorem iX4_go_X4 : ∀ w ∈ wsX40, w ∈ wsX4_go := by decide +kernel
set_option maxHeartbeats 4000000 in
set_option maxRecDepth 100000 in
theorem c_X4_go (l : Launch) (D : va_G) (cA : Nat → ClassId) (H : Heap) (Ad : Nat → Nat → Nat) (f : Nat → SV) (o z : Nat) (tx : TV) (rt : (Nat → Int32) × (Nat → Int32)) (ho : o < 6) (hz6 : z ≤ 6) (hz : (f 0).2.2.2.2.2.2.2.2.2.2.2.1 = 0 ∨ (f 0).2.2.2.2.2.2.2.2.2.2.2.1 = 1) (hpo : PlOk (f 0)) (N : Nat) (hN1 : 1 ≤ N) (hN : N ≤ 99) (hP0 : va_P D vwCl (all cA Ad (f, ((nI o), (nI z)), tx, rt)) H) (hD0 : va_D (fun _ => True) (all cA Ad (f, ((nI o), (nI z)), tx, rt))) : MU l yX4_go wsX4_go ({ frames := 6, cells := 0, slots := 0, locals := 139 } : Room) D cA [.ref (Ad 10 0), .int (nI N)] H (all cA Ad (f, ((nI o), (nI z)), tx, rt)) (all cA Ad (upS (pushF f ((o + z) % 6)) 0 ((runS N (f 0)).2), (nI (if z < 6 then o else (o + 1) % 6), nI (if z < 6 then z + 1 else z)), tx, rt)) (some (.int (nI (runS N (f 0)).1))) := by
  refine Met.ofW (cc := cX4_go) (maxL := 2) (ret := (some .int)) (by decide) rfl ?_
  intro p e s m args below meth c s₁ B hml hv
  obtain ⟨rfl, hH, hKN⟩ := hv
  have hK := hKN.1
  have hx := B.exec
  have hb := B.bytes
  have hr := B.returns
  have hts := atoms_spec (ws := wsX4_go) B.pre
  have hown : s.vm.findClass RX4 = some m.cls := findClass_of_methodNamed B.named
  have hlocks := B.notSynchronized
  subst hH
  have hWD := hD0.self (sz := s.heap.size)
  generalize hAe : va_A (all cA Ad (f, ((nI o), (nI z)), tx, rt)) s.heap.size = A at hWD ⊢
  have hA : ∀ q : Nat, s.heap.size ≤ q → A q := fun q h => by rw [← hAe]; exact Or.inr h
  have hS : va_S A s.heap s.heap [] := va_S.rf
  have hWP : va_P D vwCl (all cA Ad (f, ((nI o), (nI z)), tx, rt)) s.heap := hP0
  have hl := lv_entry ([.ref (Ad 10 0), .int (nI N)] : List Value) (n := 2) (Nat.le_of_ble_eq_true rfl)
  rw [lg_entry_eq]
  generalize (lg_sl ([.ref (Ad 10 0), .int (nI N)] : List Value) ++ List.replicate (2 - (lg_sl ([.ref (Ad 10 0), .int (nI N)] : List Value)).length) Slot.unset).toArray = ls at hl ⊢
  have hl : lv_has ls 2 [(0, .ref (Ad 10 0)), (1, .int (nI N))] := hl
  refine lv_iload_n hx hb dX4_go_0 rfl (lv_at hl 1 rfl) ?_
  refine lv_iconst (v := 1) hx hb dX4_go_1 (by decide) ?_
  refine lv_bipush (v := 99) hx hb dX4_go_2 (by decide) ?_
  refine ro_S (As := [.int (nI N), .int 1, .int 99]) (rest := []) ⟨hx, hb, hml, hown, hts⟩ (c_X4_isWithin l D cA _ (nI N) 1 99) (cwS2 3 hts gX4_go_X4_isWithin rfl rfl rfl (by decide +kernel) ⟨Nat.le_of_ble_eq_true rfl, Nat.le_of_ble_eq_true rfl⟩) hKN rfl hl.1 rfl (lv_room (Nat.le_of_ble_eq_true rfl)) dX4_go_4 ⟨Nat.zero_le _, Nat.zero_le _⟩ ?_
  refine lz_top (v := 1) (inF_ok (k := N) (a := 1) (b := 99) (by omega) (by omega) (by decide)) ?_
  refine lv_if_ne (tgt := 20) hx hb dX4_go_7 (by decide) (fun _ => ?_) (fun h => absurd h (by decide))
  refine lv_aload_n hx hb dX4_go_20 rfl (lv_at hl 0 rfl) ?_
  have hP : va_P D vwCl ((wLm cA Ad rt) ++ (rst cA Ad (f, ((nI o), (nI z)), tx, rt) 10)) s.heap := lw_fP 10 (by decide) hWP
  have hD : va_D A ((wLm cA Ad rt) ++ (rst cA Ad (f, ((nI o), (nI z)), tx, rt) 10)) := lw_fD 10 (by decide) hWD
  refine va_get (D := D) (ci := 4) (v := .ref (Ad 11 0)) (C := RX4) (T := TX4) (N := 7) hx hb hts iX4_go_X4 hown hK hP 0 rfl rfl 2 (by decide) (hts _ mX4_go_f22) (fun _ h9 => h9) rfl dX4_go_21 ?_
  refine lv_aload_n hx hb dX4_go_24 rfl (lv_at hl 0 rfl) ?_
  refine va_get (D := D) (ci := 4) (v := .ref (Ad 0 0)) (C := RX4) (T := TX4) (N := 7) hx hb hts iX4_go_X4 hown hK hP 0 rfl rfl 0 (by decide) (hts _ mX4_go_f10) (fun _ h9 => h9) rfl dX4_go_25 ?_
  refine mu_Vw (ci := 1) (q0 := 0) (As := [.ref (Ad 0 0)]) (rest := []) ⟨hx, hb, hml, hown, hts⟩ (c_X1_push l D cA _ Ad f o z tx rt ho hz6 hz hWP (hWD.weaken (fun _ _ _ _ => trivial))) (cwV 1 hts gX4_go_X1_push rfl rfl rfl (by decide +kernel) ⟨Nat.le_of_ble_eq_true rfl, Nat.le_of_ble_eq_true rfl⟩) hKN hWP hWD hS hA (lw_fP 11 (by decide) hWP : va_P D vwCl ((wPa cA Ad ((nI o), (nI z))) ++ (rst cA Ad (f, ((nI o), (nI z)), tx, rt) 11)) s.heap) rfl rfl (all_fst _ _ _ _) rfl hl.1 rfl (lv_room (Nat.le_of_ble_eq_true rfl)) dX4_go_28 ⟨Nat.zero_le _, Nat.zero_le _⟩ (fun H locs hWP hWD hS => ?_)
  have hWP : va_P D vwCl (all cA Ad ((pushF f ((o + z) % 6)), ((nI (if z < 6 then o else (o + 1) % 6)), (nI (if z < 6 then z + 1 else z))), tx, rt)) H := by rw [pushF_eq] at hWP; exact hWP
  have hWD : va_D A (all cA Ad ((pushF f ((o + z) % 6)), ((nI (if z < 6 then o else (o + 1) % 6)), (nI (if z < 6 then z + 1 else z))), tx, rt)) := by rw [pushF_eq] at hWD; exact hWD
  refine lv_aload_n hx hb dX4_go_31 rfl (lv_at hl 0 rfl) ?_
  have hP : va_P D vwCl ((wLm cA Ad rt) ++ (rst cA Ad ((pushF f ((o + z) % 6)), ((nI (if z < 6 then o else (o + 1) % 6)), (nI (if z < 6 then z + 1 else z))), tx, rt) 10)) H := lw_fP 10 (by decide) hWP
  have hD : va_D A ((wLm cA Ad rt) ++ (rst cA Ad ((pushF f ((o + z) % 6)), ((nI (if z < 6 then o else (o + 1) % 6)), (nI (if z < 6 then z + 1 else z))), tx, rt) 10)) := lw_fD 10 (by decide) hWD
  refine va_get (D := D) (ci := 4) (v := .ref (Ad 0 0)) (C := RX4) (T := TX4) (N := 7) hx hb hts iX4_go_X4 hown hK hP 0 rfl rfl 0 (by decide) (hts _ mX4_go_f10) (fun _ h9 => h9) rfl dX4_go_32 ?_
  refine lv_iload_n hx hb dX4_go_35 rfl (lv_at hl 1 rfl) ?_
  have hP : va_P D vwCl ((wSt cA (Ad 0) (f 0)) ++ (rst cA Ad ((pushF f ((o + z) % 6)), ((nI (if z < 6 then o else (o + 1) % 6)), (nI (if z < 6 then z + 1 else z))), tx, rt) 0)) H := lw_fP 0 (by decide) hWP
  have hD : va_D A ((wSt cA (Ad 0) (f 0)) ++ (rst cA Ad ((pushF f ((o + z) % 6)), ((nI (if z < 6 then o else (o + 1) % 6)), (nI (if z < 6 then z + 1 else z))), tx, rt) 0)) := lw_fD 0 (by decide) hWD
  refine mu_Va (ci := 2) (q0 := 0) (As := [.int (nI N)]) (rest := []) ⟨hx, hb, hml, hown, hts⟩ (c_X2_run l D cA _ (Ad 0) (f 0) N (by omega) hpo (va_P_l hP) (va_D_l hD)) (cwV 1 hts gX4_go_X2_run rfl rfl rfl (by decide +kernel) ⟨Nat.le_of_ble_eq_true rfl, Nat.le_of_ble_eq_true rfl⟩) hKN hP hD hS hA rfl rfl ((wSt_fst _ _ _).trans (wSt_fst _ _ _).symm) rfl hl.1 rfl (lv_room (Nat.le_of_ble_eq_true rfl)) dX4_go_36 ⟨Nat.zero_le _, Nat.zero_le _⟩ (fun H locs hP hD hS => ?_)
  have hP : va_P D vwCl ((wSt cA (Ad 0) (((runS N (f 0)).2).1, ((runS N (f 0)).2).2.1, ((runS N (f 0)).2).2.2.1, ((runS N (f 0)).2).2.2.2.1, ((runS N (f 0)).2).2.2.2.2.1, ((runS N (f 0)).2).2.2.2.2.2.1, ((runS N (f 0)).2).2.2.2.2.2.2.1, ((runS N (f 0)).2).2.2.2.2.2.2.2.1, ((runS N (f 0)).2).2.2.2.2.2.2.2.2.1, ((runS N (f 0)).2).2.2.2.2.2.2.2.2.2.1, ((runS N (f 0)).2).2.2.2.2.2.2.2.2.2.2.1, ((runS N (f 0)).2).2.2.2.2.2.2.2.2.2.2.2.1, ((runS N (f 0)).2).2.2.2.2.2.2.2.2.2.2.2.2.1, ((runS N (f 0)).2).2.2.2.2.2.2.2.2.2.2.2.2.2)) ++ (rst cA Ad ((pushF f ((o + z) % 6)), ((nI (if z < 6 then o else (o + 1) % 6)), (nI (if z < 6 then z + 1 else z))), tx, rt) 0)) H := hP
  have hD : va_D A ((wSt cA (Ad 0) (((runS N (f 0)).2).1, ((runS N (f 0)).2).2.1, ((runS N (f 0)).2).2.2.1, ((runS N (f 0)).2).2.2.2.1, ((runS N (f 0)).2).2.2.2.2.1, ((runS N (f 0)).2).2.2.2.2.2.1, ((runS N (f 0)).2).2.2.2.2.2.2.1, ((runS N (f 0)).2).2.2.2.2.2.2.2.1, ((runS N (f 0)).2).2.2.2.2.2.2.2.2.1, ((runS N (f 0)).2).2.2.2.2.2.2.2.2.2.1, ((runS N (f 0)).2).2.2.2.2.2.2.2.2.2.2.1, ((runS N (f 0)).2).2.2.2.2.2.2.2.2.2.2.2.1, ((runS N (f 0)).2).2.2.2.2.2.2.2.2.2.2.2.2.1, ((runS N (f 0)).2).2.2.2.2.2.2.2.2.2.2.2.2.2)) ++ (rst cA Ad ((pushF f ((o + z) % 6)), ((nI (if z < 6 then o else (o + 1) % 6)), (nI (if z < 6 then z + 1 else z))), tx, rt) 0)) := hD
  have hWP : va_P D vwCl (all cA Ad ((upS (pushF f ((o + z) % 6)) 0 (((runS N (f 0)).2).1, ((runS N (f 0)).2).2.1, ((runS N (f 0)).2).2.2.1, ((runS N (f 0)).2).2.2.2.1, ((runS N (f 0)).2).2.2.2.2.1, ((runS N (f 0)).2).2.2.2.2.2.1, ((runS N (f 0)).2).2.2.2.2.2.2.1, ((runS N (f 0)).2).2.2.2.2.2.2.2.1, ((runS N (f 0)).2).2.2.2.2.2.2.2.2.1, ((runS N (f 0)).2).2.2.2.2.2.2.2.2.2.1, ((runS N (f 0)).2).2.2.2.2.2.2.2.2.2.2.1, ((runS N (f 0)).2).2.2.2.2.2.2.2.2.2.2.2.1, ((runS N (f 0)).2).2.2.2.2.2.2.2.2.2.2.2.2.1, ((runS N (f 0)).2).2.2.2.2.2.2.2.2.2.2.2.2.2)), ((nI (if z < 6 then o else (o + 1) % 6)), (nI (if z < 6 then z + 1 else z))), tx, rt)) H := lw_uP 0 ((upS (pushF f ((o + z) % 6)) 0 (((runS N (f 0)).2).1, ((runS N (f 0)).2).2.1, ((runS N (f 0)).2).2.2.1, ((runS N (f 0)).2).2.2.2.1, ((runS N (f 0)).2).2.2.2.2.1, ((runS N (f 0)).2).2.2.2.2.2.1, ((runS N (f 0)).2).2.2.2.2.2.2.1, ((runS N (f 0)).2).2.2.2.2.2.2.2.1, ((runS N (f 0)).2).2.2.2.2.2.2.2.2.1, ((runS N (f 0)).2).2.2.2.2.2.2.2.2.2.1, ((runS N (f 0)).2).2.2.2.2.2.2.2.2.2.2.1, ((runS N (f 0)).2).2.2.2.2.2.2.2.2.2.2.2.1, ((runS N (f 0)).2).2.2.2.2.2.2.2.2.2.2.2.2.1, ((runS N (f 0)).2).2.2.2.2.2.2.2.2.2.2.2.2.2)), ((nI (if z < 6 then o else (o + 1) % 6)), (nI (if z < 6 then z + 1 else z))), tx, rt) (by decide) (bc_st 0 _ (by decide)) hP
  have hWD : va_D A (all cA Ad ((upS (pushF f ((o + z) % 6)) 0 (((runS N (f 0)).2).1, ((runS N (f 0)).2).2.1, ((runS N (f 0)).2).2.2.1, ((runS N (f 0)).2).2.2.2.1, ((runS N (f 0)).2).2.2.2.2.1, ((runS N (f 0)).2).2.2.2.2.2.1, ((runS N (f 0)).2).2.2.2.2.2.2.1, ((runS N (f 0)).2).2.2.2.2.2.2.2.1, ((runS N (f 0)).2).2.2.2.2.2.2.2.2.1, ((runS N (f 0)).2).2.2.2.2.2.2.2.2.2.1, ((runS N (f 0)).2).2.2.2.2.2.2.2.2.2.2.1, ((runS N (f 0)).2).2.2.2.2.2.2.2.2.2.2.2.1, ((runS N (f 0)).2).2.2.2.2.2.2.2.2.2.2.2.2.1, ((runS N (f 0)).2).2.2.2.2.2.2.2.2.2.2.2.2.2)), ((nI (if z < 6 then o else (o + 1) % 6)), (nI (if z < 6 then z + 1 else z))), tx, rt)) := lw_uD 0 ((upS (pushF f ((o + z) % 6)) 0 (((runS N (f 0)).2).1, ((runS N (f 0)).2).2.1, ((runS N (f 0)).2).2.2.1, ((runS N (f 0)).2).2.2.2.1, ((runS N (f 0)).2).2.2.2.2.1, ((runS N (f 0)).2).2.2.2.2.2.1, ((runS N (f 0)).2).2.2.2.2.2.2.1, ((runS N (f 0)).2).2.2.2.2.2.2.2.1, ((runS N (f 0)).2).2.2.2.2.2.2.2.2.1, ((runS N (f 0)).2).2.2.2.2.2.2.2.2.2.1, ((runS N (f 0)).2).2.2.2.2.2.2.2.2.2.2.1, ((runS N (f 0)).2).2.2.2.2.2.2.2.2.2.2.2.1, ((runS N (f 0)).2).2.2.2.2.2.2.2.2.2.2.2.2.1, ((runS N (f 0)).2).2.2.2.2.2.2.2.2.2.2.2.2.2)), ((nI (if z < 6 then o else (o + 1) % 6)), (nI (if z < 6 then z + 1 else z))), tx, rt) (by decide) (bc_st 0 _ (by decide)) hD
  exact mu_iret hx hb hr hlocks dX4_go_39 hAe hS hWP rfl
theorem mX4_keep_f26 : Cond.fieldLink RX4 26 "WireLoom" "snapshots" "[LWireLoom$State;" ∈ wsX4_keep := by decide +kernel
theorem mX4_keep_f10 : Cond.fieldLink RX4 10 "WireLoom" "now" "LWireLoom$State;" ∈ wsX4_keep := by decide +kernel
theorem mX4_keep_f30 : Cond.fieldLink RX4 30 "WireLoom" "kept" "[Z" ∈ wsX4_keep := by decide +kernel
set_option maxRecDepth 20000 in
theorem iX4_keep_X4 : ∀ w ∈ wsX40, w ∈ wsX4_keep := by decide +kernel
set_option maxHeartbeats 4000000 in
set_option maxRecDepth 100000 in
theorem c_X4_keep0 (l : Launch) (D : va_G) (cA : Nat → ClassId) (H : Heap) (Ad : Nat → Nat → Nat) (f : Nat → SV) (o z : Nat) (tx : TV) (rt : (Nat → Int32) × (Nat → Int32)) (hz : (f 0).2.2.2.2.2.2.2.2.2.2.2.1 = 0 ∨ (f 0).2.2.2.2.2.2.2.2.2.2.2.1 = 1) (hP0 : va_P D vwCl (all cA Ad (f, ((nI o), (nI z)), tx, rt)) H) (hD0 : va_D (fun _ => True) (all cA Ad (f, ((nI o), (nI z)), tx, rt))) : MU l yX4_keep wsX4_keep ({ frames := 3, cells := 0, slots := 0, locals := 72 } : Room) D cA [.ref (Ad 10 0), .int 0] H (all cA Ad (f, ((nI o), (nI z)), tx, rt)) (all cA Ad (upS f 2 (f 0), ((nI o), (nI z)), tx, (upd rt.1 0 1, rt.2))) (some (.int (cbtT (f 0) 16))) := by
  refine Met.ofW (cc := cX4_keep) (maxL := 2) (ret := (some .int)) (by decide) rfl ?_
  intro p e s m args below meth c s₁ B hml hv
  obtain ⟨rfl, hH, hKN⟩ := hv
  have hK := hKN.1
  have hx := B.exec
  have hb := B.bytes
  have hr := B.returns
  have hts := atoms_spec (ws := wsX4_keep) B.pre
  have hown : s.vm.findClass RX4 = some m.cls := findClass_of_methodNamed B.named
  have hlocks := B.notSynchronized
  subst hH
  have hWD := hD0.self (sz := s.heap.size)
  generalize hAe : va_A (all cA Ad (f, ((nI o), (nI z)), tx, rt)) s.heap.size = A at hWD ⊢
  have hA : ∀ q : Nat, s.heap.size ≤ q → A q := fun q h => by rw [← hAe]; exact Or.inr h
  have hS : va_S A s.heap s.heap [] := va_S.rf
  have hWP : va_P D vwCl (all cA Ad (f, ((nI o), (nI z)), tx, rt)) s.heap := hP0
  have hl := lv_entry ([.ref (Ad 10 0), .int 0] : List Value) (n := 2) (Nat.le_of_ble_eq_true rfl)
  rw [lg_entry_eq]
  generalize (lg_sl ([.ref (Ad 10 0), .int 0] : List Value) ++ List.replicate (2 - (lg_sl ([.ref (Ad 10 0), .int 0] : List Value)).length) Slot.unset).toArray = ls at hl ⊢
  have hl : lv_has ls 2 [(0, .ref (Ad 10 0)), (1, .int 0)] := hl
  refine lv_iload_n hx hb dX4_keep_0 rfl (lv_at hl 1 rfl) ?_
  refine ro_S (As := [.int 0]) (rest := []) ⟨hx, hb, hml, hown, hts⟩ (c_X4_isSlot l D cA _ 0) (cwS2 1 hts gX4_keep_X4_isSlot rfl rfl rfl (by decide +kernel) ⟨Nat.le_of_ble_eq_true rfl, Nat.le_of_ble_eq_true rfl⟩) hKN rfl hl.1 rfl (lv_room (Nat.le_of_ble_eq_true rfl)) dX4_keep_1 ⟨Nat.zero_le _, Nat.zero_le _⟩ ?_
  refine lz_top (v := 1) (inF_ok (k := 0) (a := 0) (b := 1) (by omega) (by omega) (by decide)) ?_
  refine lv_if_ne (tgt := 17) hx hb dX4_keep_4 (by decide) (fun _ => ?_) (fun h => absurd h (by decide))
  refine lv_aload_n hx hb dX4_keep_17 rfl (lv_at hl 0 rfl) ?_
  have hP : va_P D vwCl ((wLm cA Ad rt) ++ (rst cA Ad (f, ((nI o), (nI z)), tx, rt) 10)) s.heap := lw_fP 10 (by decide) hWP
  have hD : va_D A ((wLm cA Ad rt) ++ (rst cA Ad (f, ((nI o), (nI z)), tx, rt) 10)) := lw_fD 10 (by decide) hWD
  refine va_get (D := D) (ci := 4) (v := .ref (Ad 10 1)) (C := RX4) (T := TX4) (N := 7) hx hb hts iX4_keep_X4 hown hK hP 0 rfl rfl 3 (by decide) (hts _ mX4_keep_f26) (fun _ h9 => h9) rfl dX4_keep_18 ?_
  refine lv_iload_n hx hb dX4_keep_21 rfl (lv_at hl 1 rfl) ?_
  refine lz_aldr (k := 0) (f := (fun i => some (Ad (i + 2) 0))) (q := Ad 2 0) hx hb hK hP 1 rfl rfl rfl ⟨by decide, by decide⟩ dX4_keep_22 ?_
  refine lv_aload_n hx hb dX4_keep_23 rfl (lv_at hl 0 rfl) ?_
  refine va_get (D := D) (ci := 4) (v := .ref (Ad 0 0)) (C := RX4) (T := TX4) (N := 7) hx hb hts iX4_keep_X4 hown hK hP 0 rfl rfl 0 (by decide) (hts _ mX4_keep_f10) (fun _ h9 => h9) rfl dX4_keep_24 ?_
  have hP : va_P D vwCl (((wSt cA (Ad 2) (f 2)) ++ (wSt cA (Ad 0) (f 0))) ++ (rst2 cA Ad (f, ((nI o), (nI z)), tx, rt) 2 0)) s.heap := lw_fP2 2 0 (by decide) hWP
  have hD : va_D A (((wSt cA (Ad 2) (f 2)) ++ (wSt cA (Ad 0) (f 0))) ++ (rst2 cA Ad (f, ((nI o), (nI z)), tx, rt) 2 0)) := lw_fD2 2 0 (by decide) hWD
  refine mu_Va (ci := 2) (q0 := 0) (As := [.ref (Ad 0 0)]) (rest := []) ⟨hx, hb, hml, hown, hts⟩ (c_X2_become l D cA _ (Ad 2) (Ad 0) (f 2) (f 0) hz (va_P_l hP) (va_D_l hD)) (cwV 1 hts gX4_keep_X2_become rfl rfl rfl (by decide +kernel) ⟨Nat.le_of_ble_eq_true rfl, Nat.le_of_ble_eq_true rfl⟩) hKN hP hD hS hA rfl rfl (fst_app ((wSt_fst _ _ _).trans (wSt_fst _ _ _).symm) ((wSt_fst _ _ _).trans (wSt_fst _ _ _).symm)) rfl hl.1 rfl (lv_room (Nat.le_of_ble_eq_true rfl)) dX4_keep_27 ⟨Nat.zero_le _, Nat.zero_le _⟩ (fun H locs hP hD hS => ?_)
  have hP : va_P D vwCl (((wSt cA (Ad 2) (f 0)) ++ (wSt cA (Ad 0) (f 0))) ++ (rst2 cA Ad (f, ((nI o), (nI z)), tx, rt) 2 0)) H := hP
  have hD : va_D A (((wSt cA (Ad 2) (f 0)) ++ (wSt cA (Ad 0) (f 0))) ++ (rst2 cA Ad (f, ((nI o), (nI z)), tx, rt) 2 0)) := hD
  refine lv_aload_n hx hb dX4_keep_30 rfl (lv_at hl 0 rfl) ?_
  have hWP : va_P D vwCl (all cA Ad ((upS f 2 (f 0)), ((nI o), (nI z)), tx, rt)) H := lw_uP2 2 0 ((upS f 2 (f 0)), ((nI o), (nI z)), tx, rt) (by decide) (bc_st 2 _ (by decide)) hP
  have hWD : va_D A (all cA Ad ((upS f 2 (f 0)), ((nI o), (nI z)), tx, rt)) := lw_uD2 2 0 ((upS f 2 (f 0)), ((nI o), (nI z)), tx, rt) (by decide) (bc_st 2 _ (by decide)) hD
  have hP : va_P D vwCl ((wLm cA Ad rt) ++ (rst cA Ad ((upS f 2 (f 0)), ((nI o), (nI z)), tx, rt) 10)) H := lw_fP 10 (by decide) hWP
  have hD : va_D A ((wLm cA Ad rt) ++ (rst cA Ad ((upS f 2 (f 0)), ((nI o), (nI z)), tx, rt) 10)) := lw_fD 10 (by decide) hWD
  refine va_get (D := D) (ci := 4) (v := .ref (Ad 10 2)) (C := RX4) (T := TX4) (N := 7) hx hb hts iX4_keep_X4 hown hK hP 0 rfl rfl 4 (by decide) (hts _ mX4_keep_f30) (fun _ h9 => h9) rfl dX4_keep_31 ?_
  refine lv_iload_n hx hb dX4_keep_34 rfl (lv_at hl 1 rfl) ?_
  refine lv_iconst (v := 1) hx hb dX4_keep_35 (by decide) ?_
  refine lz_zast (k := 0) (f := rt.1) hx hb hK hP hD hS 2 1 rfl rfl ⟨by decide, by decide⟩ dX4_keep_36 (fun H locs hP hD hS => ?_)
  have hP : va_P D vwCl ((wLm cA Ad ((upd rt.1 0 1), rt.2)) ++ (rst cA Ad ((upS f 2 (f 0)), ((nI o), (nI z)), tx, rt) 10)) H := hP
  have hD : va_D A ((wLm cA Ad ((upd rt.1 0 1), rt.2)) ++ (rst cA Ad ((upS f 2 (f 0)), ((nI o), (nI z)), tx, rt) 10)) := hD
  refine lv_aload_n hx hb dX4_keep_37 rfl (lv_at hl 0 rfl) ?_
  refine va_get (D := D) (ci := 4) (v := .ref (Ad 0 0)) (C := RX4) (T := TX4) (N := 7) hx hb hts iX4_keep_X4 hown hK hP 0 rfl rfl 0 (by decide) (hts _ mX4_keep_f10) (fun _ h9 => h9) rfl dX4_keep_38 ?_
  have hWP : va_P D vwCl (all cA Ad ((upS f 2 (f 0)), ((nI o), (nI z)), tx, ((upd rt.1 0 1), rt.2))) H := lw_uP 10 ((upS f 2 (f 0)), ((nI o), (nI z)), tx, ((upd rt.1 0 1), rt.2)) (by decide) bc_rt hP
  have hWD : va_D A (all cA Ad ((upS f 2 (f 0)), ((nI o), (nI z)), tx, ((upd rt.1 0 1), rt.2))) := lw_uD 10 ((upS f 2 (f 0)), ((nI o), (nI z)), tx, ((upd rt.1 0 1), rt.2)) (by decide) bc_rt hD
  have hP : va_P D vwCl ((wSt cA (Ad 0) (f 0)) ++ (rst cA Ad ((upS f 2 (f 0)), ((nI o), (nI z)), tx, ((upd rt.1 0 1), rt.2)) 0)) H := lw_fP 0 (by decide) hWP
  have hD : va_D A ((wSt cA (Ad 0) (f 0)) ++ (rst cA Ad ((upS f 2 (f 0)), ((nI o), (nI z)), tx, ((upd rt.1 0 1), rt.2)) 0)) := lw_fD 0 (by decide) hWD
  refine ro_V (ci := 2) (q0 := 0) (As := []) (rest := []) ⟨hx, hb, hml, hown, hts⟩ (c_X2_crossingsByThreads l D cA _ (Ad 0) (f 0) (va_P_l hP) ) (cwV 0 hts gX4_keep_X2_crossingsByThreads rfl rfl rfl (by decide +kernel) ⟨Nat.le_of_ble_eq_true rfl, Nat.le_of_ble_eq_true rfl⟩) hKN hP rfl rfl rfl hl.1 rfl (lv_room (Nat.le_of_ble_eq_true rfl)) dX4_keep_41 ⟨Nat.zero_le _, Nat.zero_le _⟩ ?_
  exact mu_iret hx hb hr hlocks dX4_keep_44 hAe hS hWP rfl
theorem mX4_goBack_f30 : Cond.fieldLink RX4 30 "WireLoom" "kept" "[Z" ∈ wsX4_goBack := by decide +kernel
theorem mX4_goBack_f22 : Cond.fieldLink RX4 22 "WireLoom" "past" "LWireLoom$Past;" ∈ wsX4_goBack := by decide +kernel
theorem mX4_goBack_f10 : Cond.fieldLink RX4 10 "WireLoom" "now" "LWireLoom$State;" ∈ wsX4_goBack := by decide +kernel
theorem mX4_goBack_f26 : Cond.fieldLink RX4 26 "WireLoom" "snapshots" "[LWireLoom$State;" ∈ wsX4_goBack := by decide +kernel
set_option maxRecDepth 20000 in
theorem iX4_goBack_X4 : ∀ w ∈ wsX40, w ∈ wsX4_goBack := by decide +kernel
set_option maxHeartbeats 4000000 in
set_option maxRecDepth 100000 in
theorem c_X4_goBack0 (l : Launch) (D : va_G) (cA : Nat → ClassId) (H : Heap) (Ad : Nat → Nat → Nat) (f : Nat → SV) (o z : Nat) (tx : TV) (rt : (Nat → Int32) × (Nat → Int32)) (ho : o < 6) (hz6 : z ≤ 6) (hz : (f 0).2.2.2.2.2.2.2.2.2.2.2.1 = 0 ∨ (f 0).2.2.2.2.2.2.2.2.2.2.2.1 = 1) (hzs : (f 2).2.2.2.2.2.2.2.2.2.2.2.1 = 0 ∨ (f 2).2.2.2.2.2.2.2.2.2.2.2.1 = 1) (hkp : rt.1 0 = 1) (hP0 : va_P D vwCl (all cA Ad (f, ((nI o), (nI z)), tx, rt)) H) (hD0 : va_D (fun _ => True) (all cA Ad (f, ((nI o), (nI z)), tx, rt))) : MU l yX4_goBack wsX4_goBack ({ frames := 4, cells := 0, slots := 0, locals := 93 } : Room) D cA [.ref (Ad 10 0), .int 0] H (all cA Ad (f, ((nI o), (nI z)), tx, rt)) (all cA Ad (upS (pushF f ((o + z) % 6)) 0 (f 2), (nI (if z < 6 then o else (o + 1) % 6), nI (if z < 6 then z + 1 else z)), tx, rt)) (some (.int (cbtT (f 2) 16))) := by
  refine Met.ofW (cc := cX4_goBack) (maxL := 2) (ret := (some .int)) (by decide) rfl ?_
  intro p e s m args below meth c s₁ B hml hv
  obtain ⟨rfl, hH, hKN⟩ := hv
  have hK := hKN.1
  have hx := B.exec
  have hb := B.bytes
  have hr := B.returns
  have hts := atoms_spec (ws := wsX4_goBack) B.pre
  have hown : s.vm.findClass RX4 = some m.cls := findClass_of_methodNamed B.named
  have hlocks := B.notSynchronized
  subst hH
  have hWD := hD0.self (sz := s.heap.size)
  generalize hAe : va_A (all cA Ad (f, ((nI o), (nI z)), tx, rt)) s.heap.size = A at hWD ⊢
  have hA : ∀ q : Nat, s.heap.size ≤ q → A q := fun q h => by rw [← hAe]; exact Or.inr h
  have hS : va_S A s.heap s.heap [] := va_S.rf
  have hWP : va_P D vwCl (all cA Ad (f, ((nI o), (nI z)), tx, rt)) s.heap := hP0
  have hl := lv_entry ([.ref (Ad 10 0), .int 0] : List Value) (n := 2) (Nat.le_of_ble_eq_true rfl)
  rw [lg_entry_eq]
  generalize (lg_sl ([.ref (Ad 10 0), .int 0] : List Value) ++ List.replicate (2 - (lg_sl ([.ref (Ad 10 0), .int 0] : List Value)).length) Slot.unset).toArray = ls at hl ⊢
  have hl : lv_has ls 2 [(0, .ref (Ad 10 0)), (1, .int 0)] := hl
  refine lv_iload_n hx hb dX4_goBack_0 rfl (lv_at hl 1 rfl) ?_
  refine ro_S (As := [.int 0]) (rest := []) ⟨hx, hb, hml, hown, hts⟩ (c_X4_isSlot l D cA _ 0) (cwS2 1 hts gX4_goBack_X4_isSlot rfl rfl rfl (by decide +kernel) ⟨Nat.le_of_ble_eq_true rfl, Nat.le_of_ble_eq_true rfl⟩) hKN rfl hl.1 rfl (lv_room (Nat.le_of_ble_eq_true rfl)) dX4_goBack_1 ⟨Nat.zero_le _, Nat.zero_le _⟩ ?_
  refine lz_top (v := 1) (inF_ok (k := 0) (a := 0) (b := 1) (by omega) (by omega) (by decide)) ?_
  refine lv_if_ne (tgt := 17) hx hb dX4_goBack_4 (by decide) (fun _ => ?_) (fun h => absurd h (by decide))
  refine lv_aload_n hx hb dX4_goBack_17 rfl (lv_at hl 0 rfl) ?_
  have hP : va_P D vwCl ((wLm cA Ad rt) ++ (rst cA Ad (f, ((nI o), (nI z)), tx, rt) 10)) s.heap := lw_fP 10 (by decide) hWP
  have hD : va_D A ((wLm cA Ad rt) ++ (rst cA Ad (f, ((nI o), (nI z)), tx, rt) 10)) := lw_fD 10 (by decide) hWD
  refine va_get (D := D) (ci := 4) (v := .ref (Ad 10 2)) (C := RX4) (T := TX4) (N := 7) hx hb hts iX4_goBack_X4 hown hK hP 0 rfl rfl 4 (by decide) (hts _ mX4_goBack_f30) (fun _ h9 => h9) rfl dX4_goBack_18 ?_
  refine lv_iload_n hx hb dX4_goBack_21 rfl (lv_at hl 1 rfl) ?_
  refine lz_zald (k := 0) (f := rt.1) hx hb hK hP 2 1 rfl rfl ⟨by decide, by decide⟩ dX4_goBack_22 ?_
  refine lz_top (v := 1) hkp ?_
  refine lv_if_ne (tgt := 36) hx hb dX4_goBack_23 (by decide) (fun _ => ?_) (fun h => absurd h (by decide))
  refine lv_aload_n hx hb dX4_goBack_36 rfl (lv_at hl 0 rfl) ?_
  refine va_get (D := D) (ci := 4) (v := .ref (Ad 11 0)) (C := RX4) (T := TX4) (N := 7) hx hb hts iX4_goBack_X4 hown hK hP 0 rfl rfl 2 (by decide) (hts _ mX4_goBack_f22) (fun _ h9 => h9) rfl dX4_goBack_37 ?_
  refine lv_aload_n hx hb dX4_goBack_40 rfl (lv_at hl 0 rfl) ?_
  refine va_get (D := D) (ci := 4) (v := .ref (Ad 0 0)) (C := RX4) (T := TX4) (N := 7) hx hb hts iX4_goBack_X4 hown hK hP 0 rfl rfl 0 (by decide) (hts _ mX4_goBack_f10) (fun _ h9 => h9) rfl dX4_goBack_41 ?_
  refine mu_Vw (ci := 1) (q0 := 0) (As := [.ref (Ad 0 0)]) (rest := []) ⟨hx, hb, hml, hown, hts⟩ (c_X1_push l D cA _ Ad f o z tx rt ho hz6 hz hWP (hWD.weaken (fun _ _ _ _ => trivial))) (cwV 1 hts gX4_goBack_X1_push rfl rfl rfl (by decide +kernel) ⟨Nat.le_of_ble_eq_true rfl, Nat.le_of_ble_eq_true rfl⟩) hKN hWP hWD hS hA (lw_fP 11 (by decide) hWP : va_P D vwCl ((wPa cA Ad ((nI o), (nI z))) ++ (rst cA Ad (f, ((nI o), (nI z)), tx, rt) 11)) s.heap) rfl rfl (all_fst _ _ _ _) rfl hl.1 rfl (lv_room (Nat.le_of_ble_eq_true rfl)) dX4_goBack_44 ⟨Nat.zero_le _, Nat.zero_le _⟩ (fun H locs hWP hWD hS => ?_)
  have hWP : va_P D vwCl (all cA Ad ((pushF f ((o + z) % 6)), ((nI (if z < 6 then o else (o + 1) % 6)), (nI (if z < 6 then z + 1 else z))), tx, rt)) H := by rw [pushF_eq] at hWP; exact hWP
  have hWD : va_D A (all cA Ad ((pushF f ((o + z) % 6)), ((nI (if z < 6 then o else (o + 1) % 6)), (nI (if z < 6 then z + 1 else z))), tx, rt)) := by rw [pushF_eq] at hWD; exact hWD
  refine lv_aload_n hx hb dX4_goBack_47 rfl (lv_at hl 0 rfl) ?_
  have hP : va_P D vwCl ((wLm cA Ad rt) ++ (rst cA Ad ((pushF f ((o + z) % 6)), ((nI (if z < 6 then o else (o + 1) % 6)), (nI (if z < 6 then z + 1 else z))), tx, rt) 10)) H := lw_fP 10 (by decide) hWP
  have hD : va_D A ((wLm cA Ad rt) ++ (rst cA Ad ((pushF f ((o + z) % 6)), ((nI (if z < 6 then o else (o + 1) % 6)), (nI (if z < 6 then z + 1 else z))), tx, rt) 10)) := lw_fD 10 (by decide) hWD
  refine va_get (D := D) (ci := 4) (v := .ref (Ad 0 0)) (C := RX4) (T := TX4) (N := 7) hx hb hts iX4_goBack_X4 hown hK hP 0 rfl rfl 0 (by decide) (hts _ mX4_goBack_f10) (fun _ h9 => h9) rfl dX4_goBack_48 ?_
  refine lv_aload_n hx hb dX4_goBack_51 rfl (lv_at hl 0 rfl) ?_
  refine va_get (D := D) (ci := 4) (v := .ref (Ad 10 1)) (C := RX4) (T := TX4) (N := 7) hx hb hts iX4_goBack_X4 hown hK hP 0 rfl rfl 3 (by decide) (hts _ mX4_goBack_f26) (fun _ h9 => h9) rfl dX4_goBack_52 ?_
  refine lv_iload_n hx hb dX4_goBack_55 rfl (lv_at hl 1 rfl) ?_
  refine lz_aldr (k := 0) (f := (fun i => some (Ad (i + 2) 0))) (q := Ad 2 0) hx hb hK hP 1 rfl rfl rfl ⟨by decide, by decide⟩ dX4_goBack_56 ?_
  have hP : va_P D vwCl (((wSt cA (Ad 0) (f 0)) ++ (wSt cA (Ad 2) (f 2))) ++ (rst2 cA Ad ((pushF f ((o + z) % 6)), ((nI (if z < 6 then o else (o + 1) % 6)), (nI (if z < 6 then z + 1 else z))), tx, rt) 0 2)) H := lw_fP2 0 2 (by decide) hWP
  have hD : va_D A (((wSt cA (Ad 0) (f 0)) ++ (wSt cA (Ad 2) (f 2))) ++ (rst2 cA Ad ((pushF f ((o + z) % 6)), ((nI (if z < 6 then o else (o + 1) % 6)), (nI (if z < 6 then z + 1 else z))), tx, rt) 0 2)) := lw_fD2 0 2 (by decide) hWD
  refine mu_Va (ci := 2) (q0 := 0) (As := [.ref (Ad 2 0)]) (rest := []) ⟨hx, hb, hml, hown, hts⟩ (c_X2_become l D cA _ (Ad 0) (Ad 2) (f 0) (f 2) hzs (va_P_l hP) (va_D_l hD)) (cwV 1 hts gX4_goBack_X2_become rfl rfl rfl (by decide +kernel) ⟨Nat.le_of_ble_eq_true rfl, Nat.le_of_ble_eq_true rfl⟩) hKN hP hD hS hA rfl rfl (fst_app ((wSt_fst _ _ _).trans (wSt_fst _ _ _).symm) ((wSt_fst _ _ _).trans (wSt_fst _ _ _).symm)) rfl hl.1 rfl (lv_room (Nat.le_of_ble_eq_true rfl)) dX4_goBack_57 ⟨Nat.zero_le _, Nat.zero_le _⟩ (fun H locs hP hD hS => ?_)
  have hP : va_P D vwCl (((wSt cA (Ad 0) (f 2)) ++ (wSt cA (Ad 2) (f 2))) ++ (rst2 cA Ad ((pushF f ((o + z) % 6)), ((nI (if z < 6 then o else (o + 1) % 6)), (nI (if z < 6 then z + 1 else z))), tx, rt) 0 2)) H := hP
  have hD : va_D A (((wSt cA (Ad 0) (f 2)) ++ (wSt cA (Ad 2) (f 2))) ++ (rst2 cA Ad ((pushF f ((o + z) % 6)), ((nI (if z < 6 then o else (o + 1) % 6)), (nI (if z < 6 then z + 1 else z))), tx, rt) 0 2)) := hD
  refine lv_aload_n hx hb dX4_goBack_60 rfl (lv_at hl 0 rfl) ?_
  have hWP : va_P D vwCl (all cA Ad ((upS (pushF f ((o + z) % 6)) 0 (f 2)), ((nI (if z < 6 then o else (o + 1) % 6)), (nI (if z < 6 then z + 1 else z))), tx, rt)) H := lw_uP2 0 2 ((upS (pushF f ((o + z) % 6)) 0 (f 2)), ((nI (if z < 6 then o else (o + 1) % 6)), (nI (if z < 6 then z + 1 else z))), tx, rt) (by decide) (bc_st 0 _ (by decide)) hP
  have hWD : va_D A (all cA Ad ((upS (pushF f ((o + z) % 6)) 0 (f 2)), ((nI (if z < 6 then o else (o + 1) % 6)), (nI (if z < 6 then z + 1 else z))), tx, rt)) := lw_uD2 0 2 ((upS (pushF f ((o + z) % 6)) 0 (f 2)), ((nI (if z < 6 then o else (o + 1) % 6)), (nI (if z < 6 then z + 1 else z))), tx, rt) (by decide) (bc_st 0 _ (by decide)) hD
  have hP : va_P D vwCl ((wLm cA Ad rt) ++ (rst cA Ad ((upS (pushF f ((o + z) % 6)) 0 (f 2)), ((nI (if z < 6 then o else (o + 1) % 6)), (nI (if z < 6 then z + 1 else z))), tx, rt) 10)) H := lw_fP 10 (by decide) hWP
  have hD : va_D A ((wLm cA Ad rt) ++ (rst cA Ad ((upS (pushF f ((o + z) % 6)) 0 (f 2)), ((nI (if z < 6 then o else (o + 1) % 6)), (nI (if z < 6 then z + 1 else z))), tx, rt) 10)) := lw_fD 10 (by decide) hWD
  refine va_get (D := D) (ci := 4) (v := .ref (Ad 0 0)) (C := RX4) (T := TX4) (N := 7) hx hb hts iX4_goBack_X4 hown hK hP 0 rfl rfl 0 (by decide) (hts _ mX4_goBack_f10) (fun _ h9 => h9) rfl dX4_goBack_61 ?_
  have hP : va_P D vwCl ((wSt cA (Ad 0) (f 2)) ++ (rst cA Ad ((upS (pushF f ((o + z) % 6)) 0 (f 2)), ((nI (if z < 6 then o else (o + 1) % 6)), (nI (if z < 6 then z + 1 else z))), tx, rt) 0)) H := lw_fP 0 (by decide) hWP
  have hD : va_D A ((wSt cA (Ad 0) (f 2)) ++ (rst cA Ad ((upS (pushF f ((o + z) % 6)) 0 (f 2)), ((nI (if z < 6 then o else (o + 1) % 6)), (nI (if z < 6 then z + 1 else z))), tx, rt) 0)) := lw_fD 0 (by decide) hWD
  refine ro_V (ci := 2) (q0 := 0) (As := []) (rest := []) ⟨hx, hb, hml, hown, hts⟩ (c_X2_crossingsByThreads l D cA _ (Ad 0) (f 2) (va_P_l hP) ) (cwV 0 hts gX4_goBack_X2_crossingsByThreads rfl rfl rfl (by decide +kernel) ⟨Nat.le_of_ble_eq_true rfl, Nat.le_of_ble_eq_true rfl⟩) hKN hP rfl rfl rfl hl.1 rfl (lv_room (Nat.le_of_ble_eq_true rfl)) dX4_goBack_64 ⟨Nat.zero_le _, Nat.zero_le _⟩ ?_
  exact mu_iret hx hb hr hlocks dX4_goBack_67 hAe hS hWP rfl
set_option maxHeartbeats 4000000 in
set_option maxRecDepth 100000 in
theorem c_X4_keep1 (l : Launch) (D : va_G) (cA : Nat → ClassId) (H : Heap) (Ad : Nat → Nat → Nat) (f : Nat → SV) (o z : Nat) (tx : TV) (rt : (Nat → Int32) × (Nat → Int32)) (hz : (f 0).2.2.2.2.2.2.2.2.2.2.2.1 = 0 ∨ (f 0).2.2.2.2.2.2.2.2.2.2.2.1 = 1) (hP0 : va_P D vwCl (all cA Ad (f, ((nI o), (nI z)), tx, rt)) H) (hD0 : va_D (fun _ => True) (all cA Ad (f, ((nI o), (nI z)), tx, rt))) : MU l yX4_keep wsX4_keep ({ frames := 3, cells := 0, slots := 0, locals := 72 } : Room) D cA [.ref (Ad 10 0), .int 1] H (all cA Ad (f, ((nI o), (nI z)), tx, rt)) (all cA Ad (upS f 3 (f 0), ((nI o), (nI z)), tx, (upd rt.1 1 1, rt.2))) (some (.int (cbtT (f 0) 16))) := by
  refine Met.ofW (cc := cX4_keep) (maxL := 2) (ret := (some .int)) (by decide) rfl ?_
  intro p e s m args below meth c s₁ B hml hv
  obtain ⟨rfl, hH, hKN⟩ := hv
  have hK := hKN.1
  have hx := B.exec
  have hb := B.bytes
  have hr := B.returns
  have hts := atoms_spec (ws := wsX4_keep) B.pre
  have hown : s.vm.findClass RX4 = some m.cls := findClass_of_methodNamed B.named
  have hlocks := B.notSynchronized
  subst hH
  have hWD := hD0.self (sz := s.heap.size)
  generalize hAe : va_A (all cA Ad (f, ((nI o), (nI z)), tx, rt)) s.heap.size = A at hWD ⊢
  have hA : ∀ q : Nat, s.heap.size ≤ q → A q := fun q h => by rw [← hAe]; exact Or.inr h
  have hS : va_S A s.heap s.heap [] := va_S.rf
  have hWP : va_P D vwCl (all cA Ad (f, ((nI o), (nI z)), tx, rt)) s.heap := hP0
  have hl := lv_entry ([.ref (Ad 10 0), .int 1] : List Value) (n := 2) (Nat.le_of_ble_eq_true rfl)
  rw [lg_entry_eq]
  generalize (lg_sl ([.ref (Ad 10 0), .int 1] : List Value) ++ List.replicate (2 - (lg_sl ([.ref (Ad 10 0), .int 1] : List Value)).length) Slot.unset).toArray = ls at hl ⊢
  have hl : lv_has ls 2 [(0, .ref (Ad 10 0)), (1, .int 1)] := hl
  refine lv_iload_n hx hb dX4_keep_0 rfl (lv_at hl 1 rfl) ?_
  refine ro_S (As := [.int 1]) (rest := []) ⟨hx, hb, hml, hown, hts⟩ (c_X4_isSlot l D cA _ 1) (cwS2 1 hts gX4_keep_X4_isSlot rfl rfl rfl (by decide +kernel) ⟨Nat.le_of_ble_eq_true rfl, Nat.le_of_ble_eq_true rfl⟩) hKN rfl hl.1 rfl (lv_room (Nat.le_of_ble_eq_true rfl)) dX4_keep_1 ⟨Nat.zero_le _, Nat.zero_le _⟩ ?_
  refine lz_top (v := 1) (inF_ok (k := 1) (a := 0) (b := 1) (by omega) (by omega) (by decide)) ?_
  refine lv_if_ne (tgt := 17) hx hb dX4_keep_4 (by decide) (fun _ => ?_) (fun h => absurd h (by decide))
  refine lv_aload_n hx hb dX4_keep_17 rfl (lv_at hl 0 rfl) ?_
  have hP : va_P D vwCl ((wLm cA Ad rt) ++ (rst cA Ad (f, ((nI o), (nI z)), tx, rt) 10)) s.heap := lw_fP 10 (by decide) hWP
  have hD : va_D A ((wLm cA Ad rt) ++ (rst cA Ad (f, ((nI o), (nI z)), tx, rt) 10)) := lw_fD 10 (by decide) hWD
  refine va_get (D := D) (ci := 4) (v := .ref (Ad 10 1)) (C := RX4) (T := TX4) (N := 7) hx hb hts iX4_keep_X4 hown hK hP 0 rfl rfl 3 (by decide) (hts _ mX4_keep_f26) (fun _ h9 => h9) rfl dX4_keep_18 ?_
  refine lv_iload_n hx hb dX4_keep_21 rfl (lv_at hl 1 rfl) ?_
  refine lz_aldr (k := 1) (f := (fun i => some (Ad (i + 2) 0))) (q := Ad 3 0) hx hb hK hP 1 rfl rfl rfl ⟨by decide, by decide⟩ dX4_keep_22 ?_
  refine lv_aload_n hx hb dX4_keep_23 rfl (lv_at hl 0 rfl) ?_
  refine va_get (D := D) (ci := 4) (v := .ref (Ad 0 0)) (C := RX4) (T := TX4) (N := 7) hx hb hts iX4_keep_X4 hown hK hP 0 rfl rfl 0 (by decide) (hts _ mX4_keep_f10) (fun _ h9 => h9) rfl dX4_keep_24 ?_
  have hP : va_P D vwCl (((wSt cA (Ad 3) (f 3)) ++ (wSt cA (Ad 0) (f 0))) ++ (rst2 cA Ad (f, ((nI o), (nI z)), tx, rt) 3 0)) s.heap := lw_fP2 3 0 (by decide) hWP
  have hD : va_D A (((wSt cA (Ad 3) (f 3)) ++ (wSt cA (Ad 0) (f 0))) ++ (rst2 cA Ad (f, ((nI o), (nI z)), tx, rt) 3 0)) := lw_fD2 3 0 (by decide) hWD
  refine mu_Va (ci := 2) (q0 := 0) (As := [.ref (Ad 0 0)]) (rest := []) ⟨hx, hb, hml, hown, hts⟩ (c_X2_become l D cA _ (Ad 3) (Ad 0) (f 3) (f 0) hz (va_P_l hP) (va_D_l hD)) (cwV 1 hts gX4_keep_X2_become rfl rfl rfl (by decide +kernel) ⟨Nat.le_of_ble_eq_true rfl, Nat.le_of_ble_eq_true rfl⟩) hKN hP hD hS hA rfl rfl (fst_app ((wSt_fst _ _ _).trans (wSt_fst _ _ _).symm) ((wSt_fst _ _ _).trans (wSt_fst _ _ _).symm)) rfl hl.1 rfl (lv_room (Nat.le_of_ble_eq_true rfl)) dX4_keep_27 ⟨Nat.zero_le _, Nat.zero_le _⟩ (fun H locs hP hD hS => ?_)
  have hP : va_P D vwCl (((wSt cA (Ad 3) (f 0)) ++ (wSt cA (Ad 0) (f 0))) ++ (rst2 cA Ad (f, ((nI o), (nI z)), tx, rt) 3 0)) H := hP
  have hD : va_D A (((wSt cA (Ad 3) (f 0)) ++ (wSt cA (Ad 0) (f 0))) ++ (rst2 cA Ad (f, ((nI o), (nI z)), tx, rt) 3 0)) := hD
  refine lv_aload_n hx hb dX4_keep_30 rfl (lv_at hl 0 rfl) ?_
  have hWP : va_P D vwCl (all cA Ad ((upS f 3 (f 0)), ((nI o), (nI z)), tx, rt)) H := lw_uP2 3 0 ((upS f 3 (f 0)), ((nI o), (nI z)), tx, rt) (by decide) (bc_st 3 _ (by decide)) hP
  have hWD : va_D A (all cA Ad ((upS f 3 (f 0)), ((nI o), (nI z)), tx, rt)) := lw_uD2 3 0 ((upS f 3 (f 0)), ((nI o), (nI z)), tx, rt) (by decide) (bc_st 3 _ (by decide)) hD
  have hP : va_P D vwCl ((wLm cA Ad rt) ++ (rst cA Ad ((upS f 3 (f 0)), ((nI o), (nI z)), tx, rt) 10)) H := lw_fP 10 (by decide) hWP
  have hD : va_D A ((wLm cA Ad rt) ++ (rst cA Ad ((upS f 3 (f 0)), ((nI o), (nI z)), tx, rt) 10)) := lw_fD 10 (by decide) hWD
  refine va_get (D := D) (ci := 4) (v := .ref (Ad 10 2)) (C := RX4) (T := TX4) (N := 7) hx hb hts iX4_keep_X4 hown hK hP 0 rfl rfl 4 (by decide) (hts _ mX4_keep_f30) (fun _ h9 => h9) rfl dX4_keep_31 ?_
  refine lv_iload_n hx hb dX4_keep_34 rfl (lv_at hl 1 rfl) ?_
  refine lv_iconst (v := 1) hx hb dX4_keep_35 (by decide) ?_
  refine lz_zast (k := 1) (f := rt.1) hx hb hK hP hD hS 2 1 rfl rfl ⟨by decide, by decide⟩ dX4_keep_36 (fun H locs hP hD hS => ?_)
  have hP : va_P D vwCl ((wLm cA Ad ((upd rt.1 1 1), rt.2)) ++ (rst cA Ad ((upS f 3 (f 0)), ((nI o), (nI z)), tx, rt) 10)) H := hP
  have hD : va_D A ((wLm cA Ad ((upd rt.1 1 1), rt.2)) ++ (rst cA Ad ((upS f 3 (f 0)), ((nI o), (nI z)), tx, rt) 10)) := hD
  refine lv_aload_n hx hb dX4_keep_37 rfl (lv_at hl 0 rfl) ?_
  refine va_get (D := D) (ci := 4) (v := .ref (Ad 0 0)) (C := RX4) (T := TX4) (N := 7) hx hb hts iX4_keep_X4 hown hK hP 0 rfl rfl 0 (by decide) (hts _ mX4_keep_f10) (fun _ h9 => h9) rfl dX4_keep_38 ?_
  have hWP : va_P D vwCl (all cA Ad ((upS f 3 (f 0)), ((nI o), (nI z)), tx, ((upd rt.1 1 1), rt.2))) H := lw_uP 10 ((upS f 3 (f 0)), ((nI o), (nI z)), tx, ((upd rt.1 1 1), rt.2)) (by decide) bc_rt hP
  have hWD : va_D A (all cA Ad ((upS f 3 (f 0)), ((nI o), (nI z)), tx, ((upd rt.1 1 1), rt.2))) := lw_uD 10 ((upS f 3 (f 0)), ((nI o), (nI z)), tx, ((upd rt.1 1 1), rt.2)) (by decide) bc_rt hD
  have hP : va_P D vwCl ((wSt cA (Ad 0) (f 0)) ++ (rst cA Ad ((upS f 3 (f 0)), ((nI o), (nI z)), tx, ((upd rt.1 1 1), rt.2)) 0)) H := lw_fP 0 (by decide) hWP
  have hD : va_D A ((wSt cA (Ad 0) (f 0)) ++ (rst cA Ad ((upS f 3 (f 0)), ((nI o), (nI z)), tx, ((upd rt.1 1 1), rt.2)) 0)) := lw_fD 0 (by decide) hWD
  refine ro_V (ci := 2) (q0 := 0) (As := []) (rest := []) ⟨hx, hb, hml, hown, hts⟩ (c_X2_crossingsByThreads l D cA _ (Ad 0) (f 0) (va_P_l hP) ) (cwV 0 hts gX4_keep_X2_crossingsByThreads rfl rfl rfl (by decide +kernel) ⟨Nat.le_of_ble_eq_true rfl, Nat.le_of_ble_eq_true rfl⟩) hKN hP rfl rfl rfl hl.1 rfl (lv_room (Nat.le_of_ble_eq_true rfl)) dX4_keep_41 ⟨Nat.zero_le _, Nat.zero_le _⟩ ?_
  exact mu_iret hx hb hr hlocks dX4_keep_44 hAe hS hWP rfl
set_option maxHeartbeats 4000000 in
set_option maxRecDepth 100000 in
theorem c_X4_goBack1 (l : Launch) (D : va_G) (cA : Nat → ClassId) (H : Heap) (Ad : Nat → Nat → Nat) (f : Nat → SV) (o z : Nat) (tx : TV) (rt : (Nat → Int32) × (Nat → Int32)) (ho : o < 6) (hz6 : z ≤ 6) (hz : (f 0).2.2.2.2.2.2.2.2.2.2.2.1 = 0 ∨ (f 0).2.2.2.2.2.2.2.2.2.2.2.1 = 1) (hzs : (f 3).2.2.2.2.2.2.2.2.2.2.2.1 = 0 ∨ (f 3).2.2.2.2.2.2.2.2.2.2.2.1 = 1) (hkp : rt.1 1 = 1) (hP0 : va_P D vwCl (all cA Ad (f, ((nI o), (nI z)), tx, rt)) H) (hD0 : va_D (fun _ => True) (all cA Ad (f, ((nI o), (nI z)), tx, rt))) : MU l yX4_goBack wsX4_goBack ({ frames := 4, cells := 0, slots := 0, locals := 93 } : Room) D cA [.ref (Ad 10 0), .int 1] H (all cA Ad (f, ((nI o), (nI z)), tx, rt)) (all cA Ad (upS (pushF f ((o + z) % 6)) 0 (f 3), (nI (if z < 6 then o else (o + 1) % 6), nI (if z < 6 then z + 1 else z)), tx, rt)) (some (.int (cbtT (f 3) 16))) := by
  refine Met.ofW (cc := cX4_goBack) (maxL := 2) (ret := (some .int)) (by decide) rfl ?_
  intro p e s m args below meth c s₁ B hml hv
  obtain ⟨rfl, hH, hKN⟩ := hv
  have hK := hKN.1
  have hx := B.exec
  have hb := B.bytes
  have hr := B.returns
  have hts := atoms_spec (ws := wsX4_goBack) B.pre
  have hown : s.vm.findClass RX4 = some m.cls := findClass_of_methodNamed B.named
  have hlocks := B.notSynchronized
  subst hH
  have hWD := hD0.self (sz := s.heap.size)
  generalize hAe : va_A (all cA Ad (f, ((nI o), (nI z)), tx, rt)) s.heap.size = A at hWD ⊢
  have hA : ∀ q : Nat, s.heap.size ≤ q → A q := fun q h => by rw [← hAe]; exact Or.inr h
  have hS : va_S A s.heap s.heap [] := va_S.rf
  have hWP : va_P D vwCl (all cA Ad (f, ((nI o), (nI z)), tx, rt)) s.heap := hP0
  have hl := lv_entry ([.ref (Ad 10 0), .int 1] : List Value) (n := 2) (Nat.le_of_ble_eq_true rfl)
  rw [lg_entry_eq]
  generalize (lg_sl ([.ref (Ad 10 0), .int 1] : List Value) ++ List.replicate (2 - (lg_sl ([.ref (Ad 10 0), .int 1] : List Value)).length) Slot.unset).toArray = ls at hl ⊢
  have hl : lv_has ls 2 [(0, .ref (Ad 10 0)), (1, .int 1)] := hl
  refine lv_iload_n hx hb dX4_goBack_0 rfl (lv_at hl 1 rfl) ?_
  refine ro_S (As := [.int 1]) (rest := []) ⟨hx, hb, hml, hown, hts⟩ (c_X4_isSlot l D cA _ 1) (cwS2 1 hts gX4_goBack_X4_isSlot rfl rfl rfl (by decide +kernel) ⟨Nat.le_of_ble_eq_true rfl, Nat.le_of_ble_eq_true rfl⟩) hKN rfl hl.1 rfl (lv_room (Nat.le_of_ble_eq_true rfl)) dX4_goBack_1 ⟨Nat.zero_le _, Nat.zero_le _⟩ ?_
  refine lz_top (v := 1) (inF_ok (k := 1) (a := 0) (b := 1) (by omega) (by omega) (by decide)) ?_
  refine lv_if_ne (tgt := 17) hx hb dX4_goBack_4 (by decide) (fun _ => ?_) (fun h => absurd h (by decide))
  refine lv_aload_n hx hb dX4_goBack_17 rfl (lv_at hl 0 rfl) ?_
  have hP : va_P D vwCl ((wLm cA Ad rt) ++ (rst cA Ad (f, ((nI o), (nI z)), tx, rt) 10)) s.heap := lw_fP 10 (by decide) hWP
  have hD : va_D A ((wLm cA Ad rt) ++ (rst cA Ad (f, ((nI o), (nI z)), tx, rt) 10)) := lw_fD 10 (by decide) hWD
  refine va_get (D := D) (ci := 4) (v := .ref (Ad 10 2)) (C := RX4) (T := TX4) (N := 7) hx hb hts iX4_goBack_X4 hown hK hP 0 rfl rfl 4 (by decide) (hts _ mX4_goBack_f30) (fun _ h9 => h9) rfl dX4_goBack_18 ?_
  refine lv_iload_n hx hb dX4_goBack_21 rfl (lv_at hl 1 rfl) ?_
  refine lz_zald (k := 1) (f := rt.1) hx hb hK hP 2 1 rfl rfl ⟨by decide, by decide⟩ dX4_goBack_22 ?_
  refine lz_top (v := 1) hkp ?_
  refine lv_if_ne (tgt := 36) hx hb dX4_goBack_23 (by decide) (fun _ => ?_) (fun h => absurd h (by decide))
  refine lv_aload_n hx hb dX4_goBack_36 rfl (lv_at hl 0 rfl) ?_
  refine va_get (D := D) (ci := 4) (v := .ref (Ad 11 0)) (C := RX4) (T := TX4) (N := 7) hx hb hts iX4_goBack_X4 hown hK hP 0 rfl rfl 2 (by decide) (hts _ mX4_goBack_f22) (fun _ h9 => h9) rfl dX4_goBack_37 ?_
  refine lv_aload_n hx hb dX4_goBack_40 rfl (lv_at hl 0 rfl) ?_
  refine va_get (D := D) (ci := 4) (v := .ref (Ad 0 0)) (C := RX4) (T := TX4) (N := 7) hx hb hts iX4_goBack_X4 hown hK hP 0 rfl rfl 0 (by decide) (hts _ mX4_goBack_f10) (fun _ h9 => h9) rfl dX4_goBack_41 ?_
  refine mu_Vw (ci := 1) (q0 := 0) (As := [.ref (Ad 0 0)]) (rest := []) ⟨hx, hb, hml, hown, hts⟩ (c_X1_push l D cA _ Ad f o z tx rt ho hz6 hz hWP (hWD.weaken (fun _ _ _ _ => trivial))) (cwV 1 hts gX4_goBack_X1_push rfl rfl rfl (by decide +kernel) ⟨Nat.le_of_ble_eq_true rfl, Nat.le_of_ble_eq_true rfl⟩) hKN hWP hWD hS hA (lw_fP 11 (by decide) hWP : va_P D vwCl ((wPa cA Ad ((nI o), (nI z))) ++ (rst cA Ad (f, ((nI o), (nI z)), tx, rt) 11)) s.heap) rfl rfl (all_fst _ _ _ _) rfl hl.1 rfl (lv_room (Nat.le_of_ble_eq_true rfl)) dX4_goBack_44 ⟨Nat.zero_le _, Nat.zero_le _⟩ (fun H locs hWP hWD hS => ?_)
  have hWP : va_P D vwCl (all cA Ad ((pushF f ((o + z) % 6)), ((nI (if z < 6 then o else (o + 1) % 6)), (nI (if z < 6 then z + 1 else z))), tx, rt)) H := by rw [pushF_eq] at hWP; exact hWP
  have hWD : va_D A (all cA Ad ((pushF f ((o + z) % 6)), ((nI (if z < 6 then o else (o + 1) % 6)), (nI (if z < 6 then z + 1 else z))), tx, rt)) := by rw [pushF_eq] at hWD; exact hWD
  refine lv_aload_n hx hb dX4_goBack_47 rfl (lv_at hl 0 rfl) ?_
  have hP : va_P D vwCl ((wLm cA Ad rt) ++ (rst cA Ad ((pushF f ((o + z) % 6)), ((nI (if z < 6 then o else (o + 1) % 6)), (nI (if z < 6 then z + 1 else z))), tx, rt) 10)) H := lw_fP 10 (by decide) hWP
  have hD : va_D A ((wLm cA Ad rt) ++ (rst cA Ad ((pushF f ((o + z) % 6)), ((nI (if z < 6 then o else (o + 1) % 6)), (nI (if z < 6 then z + 1 else z))), tx, rt) 10)) := lw_fD 10 (by decide) hWD
  refine va_get (D := D) (ci := 4) (v := .ref (Ad 0 0)) (C := RX4) (T := TX4) (N := 7) hx hb hts iX4_goBack_X4 hown hK hP 0 rfl rfl 0 (by decide) (hts _ mX4_goBack_f10) (fun _ h9 => h9) rfl dX4_goBack_48 ?_
  refine lv_aload_n hx hb dX4_goBack_51 rfl (lv_at hl 0 rfl) ?_
  refine va_get (D := D) (ci := 4) (v := .ref (Ad 10 1)) (C := RX4) (T := TX4) (N := 7) hx hb hts iX4_goBack_X4 hown hK hP 0 rfl rfl 3 (by decide) (hts _ mX4_goBack_f26) (fun _ h9 => h9) rfl dX4_goBack_52 ?_
  refine lv_iload_n hx hb dX4_goBack_55 rfl (lv_at hl 1 rfl) ?_
  refine lz_aldr (k := 1) (f := (fun i => some (Ad (i + 2) 0))) (q := Ad 3 0) hx hb hK hP 1 rfl rfl rfl ⟨by decide, by decide⟩ dX4_goBack_56 ?_
  have hP : va_P D vwCl (((wSt cA (Ad 0) (f 0)) ++ (wSt cA (Ad 3) (f 3))) ++ (rst2 cA Ad ((pushF f ((o + z) % 6)), ((nI (if z < 6 then o else (o + 1) % 6)), (nI (if z < 6 then z + 1 else z))), tx, rt) 0 3)) H := lw_fP2 0 3 (by decide) hWP
  have hD : va_D A (((wSt cA (Ad 0) (f 0)) ++ (wSt cA (Ad 3) (f 3))) ++ (rst2 cA Ad ((pushF f ((o + z) % 6)), ((nI (if z < 6 then o else (o + 1) % 6)), (nI (if z < 6 then z + 1 else z))), tx, rt) 0 3)) := lw_fD2 0 3 (by decide) hWD
  refine mu_Va (ci := 2) (q0 := 0) (As := [.ref (Ad 3 0)]) (rest := []) ⟨hx, hb, hml, hown, hts⟩ (c_X2_become l D cA _ (Ad 0) (Ad 3) (f 0) (f 3) hzs (va_P_l hP) (va_D_l hD)) (cwV 1 hts gX4_goBack_X2_become rfl rfl rfl (by decide +kernel) ⟨Nat.le_of_ble_eq_true rfl, Nat.le_of_ble_eq_true rfl⟩) hKN hP hD hS hA rfl rfl (fst_app ((wSt_fst _ _ _).trans (wSt_fst _ _ _).symm) ((wSt_fst _ _ _).trans (wSt_fst _ _ _).symm)) rfl hl.1 rfl (lv_room (Nat.le_of_ble_eq_true rfl)) dX4_goBack_57 ⟨Nat.zero_le _, Nat.zero_le _⟩ (fun H locs hP hD hS => ?_)
  have hP : va_P D vwCl (((wSt cA (Ad 0) (f 3)) ++ (wSt cA (Ad 3) (f 3))) ++ (rst2 cA Ad ((pushF f ((o + z) % 6)), ((nI (if z < 6 then o else (o + 1) % 6)), (nI (if z < 6 then z + 1 else z))), tx, rt) 0 3)) H := hP
  have hD : va_D A (((wSt cA (Ad 0) (f 3)) ++ (wSt cA (Ad 3) (f 3))) ++ (rst2 cA Ad ((pushF f ((o + z) % 6)), ((nI (if z < 6 then o else (o + 1) % 6)), (nI (if z < 6 then z + 1 else z))), tx, rt) 0 3)) := hD
  refine lv_aload_n hx hb dX4_goBack_60 rfl (lv_at hl 0 rfl) ?_
  have hWP : va_P D vwCl (all cA Ad ((upS (pushF f ((o + z) % 6)) 0 (f 3)), ((nI (if z < 6 then o else (o + 1) % 6)), (nI (if z < 6 then z + 1 else z))), tx, rt)) H := lw_uP2 0 3 ((upS (pushF f ((o + z) % 6)) 0 (f 3)), ((nI (if z < 6 then o else (o + 1) % 6)), (nI (if z < 6 then z + 1 else z))), tx, rt) (by decide) (bc_st 0 _ (by decide)) hP
  have hWD : va_D A (all cA Ad ((upS (pushF f ((o + z) % 6)) 0 (f 3)), ((nI (if z < 6 then o else (o + 1) % 6)), (nI (if z < 6 then z + 1 else z))), tx, rt)) := lw_uD2 0 3 ((upS (pushF f ((o + z) % 6)) 0 (f 3)), ((nI (if z < 6 then o else (o + 1) % 6)), (nI (if z < 6 then z + 1 else z))), tx, rt) (by decide) (bc_st 0 _ (by decide)) hD
  have hP : va_P D vwCl ((wLm cA Ad rt) ++ (rst cA Ad ((upS (pushF f ((o + z) % 6)) 0 (f 3)), ((nI (if z < 6 then o else (o + 1) % 6)), (nI (if z < 6 then z + 1 else z))), tx, rt) 10)) H := lw_fP 10 (by decide) hWP
  have hD : va_D A ((wLm cA Ad rt) ++ (rst cA Ad ((upS (pushF f ((o + z) % 6)) 0 (f 3)), ((nI (if z < 6 then o else (o + 1) % 6)), (nI (if z < 6 then z + 1 else z))), tx, rt) 10)) := lw_fD 10 (by decide) hWD
  refine va_get (D := D) (ci := 4) (v := .ref (Ad 0 0)) (C := RX4) (T := TX4) (N := 7) hx hb hts iX4_goBack_X4 hown hK hP 0 rfl rfl 0 (by decide) (hts _ mX4_goBack_f10) (fun _ h9 => h9) rfl dX4_goBack_61 ?_
  have hP : va_P D vwCl ((wSt cA (Ad 0) (f 3)) ++ (rst cA Ad ((upS (pushF f ((o + z) % 6)) 0 (f 3)), ((nI (if z < 6 then o else (o + 1) % 6)), (nI (if z < 6 then z + 1 else z))), tx, rt) 0)) H := lw_fP 0 (by decide) hWP
  have hD : va_D A ((wSt cA (Ad 0) (f 3)) ++ (rst cA Ad ((upS (pushF f ((o + z) % 6)) 0 (f 3)), ((nI (if z < 6 then o else (o + 1) % 6)), (nI (if z < 6 then z + 1 else z))), tx, rt) 0)) := lw_fD 0 (by decide) hWD
  refine ro_V (ci := 2) (q0 := 0) (As := []) (rest := []) ⟨hx, hb, hml, hown, hts⟩ (c_X2_crossingsByThreads l D cA _ (Ad 0) (f 3) (va_P_l hP) ) (cwV 0 hts gX4_goBack_X2_crossingsByThreads rfl rfl rfl (by decide +kernel) ⟨Nat.le_of_ble_eq_true rfl, Nat.le_of_ble_eq_true rfl⟩) hKN hP rfl rfl rfl hl.1 rfl (lv_room (Nat.le_of_ble_eq_true rfl)) dX4_goBack_64 ⟨Nat.zero_le _, Nat.zero_le _⟩ ?_
  exact mu_iret hx hb hr hlocks dX4_goBack_67 hAe hS hWP rfl
theorem mX4_undo_f22 : Cond.fieldLink RX4 22 "WireLoom" "past" "LWireLoom$Past;" ∈ wsX4_undo := by decide +kernel
theorem mX4_undo_f178 : Cond.fieldLink RX4 178 "WireLoom$Past" "size" "I" ∈ wsX4_undo := by decide +kernel
theorem mX4_undo_f10 : Cond.fieldLink RX4 10 "WireLoom" "now" "LWireLoom$State;" ∈ wsX4_undo := by decide +kernel
set_option maxRecDepth 20000 in
theorem iX4_undo_X1 : ∀ w ∈ wsX10, w ∈ wsX4_undo := by decide +kernel
set_option maxRecDepth 20000 in
theorem iX4_undo_X4 : ∀ w ∈ wsX40, w ∈ wsX4_undo := by decide +kernel
set_option maxHeartbeats 4000000 in
set_option maxRecDepth 100000 in
theorem c_X4_undo (l : Launch) (D : va_G) (cA : Nat → ClassId) (H : Heap) (Ad : Nat → Nat → Nat) (f : Nat → SV) (o z : Nat) (tx : TV) (rt : (Nat → Int32) × (Nat → Int32)) (ho : o < 6) (hz6 : z < 6) (hz : (f (4 + (o + z) % 6)).2.2.2.2.2.2.2.2.2.2.2.1 = 0 ∨ (f (4 + (o + z) % 6)).2.2.2.2.2.2.2.2.2.2.2.1 = 1) (hP0 : va_P D vwCl (all cA Ad (f, ((nI o), (nI (z + 1))), tx, rt)) H) (hD0 : va_D (fun _ => True) (all cA Ad (f, ((nI o), (nI (z + 1))), tx, rt))) : MU l yX4_undo wsX4_undo ({ frames := 4, cells := 0, slots := 0, locals := 93 } : Room) D cA [.ref (Ad 10 0)] H (all cA Ad (f, ((nI o), (nI (z + 1))), tx, rt)) (all cA Ad (upS f 0 (f (4 + (o + z) % 6)), ((nI o), (nI z)), tx, rt)) (some (.int (nI z))) := by
  refine Met.ofW (cc := cX4_undo) (maxL := 1) (ret := (some .int)) (by decide) rfl ?_
  intro p e s m args below meth c s₁ B hml hv
  obtain ⟨rfl, hH, hKN⟩ := hv
  have hK := hKN.1
  have hx := B.exec
  have hb := B.bytes
  have hr := B.returns
  have hts := atoms_spec (ws := wsX4_undo) B.pre
  have hown : s.vm.findClass RX4 = some m.cls := findClass_of_methodNamed B.named
  have hlocks := B.notSynchronized
  subst hH
  have hWD := hD0.self (sz := s.heap.size)
  generalize hAe : va_A (all cA Ad (f, ((nI o), (nI (z + 1))), tx, rt)) s.heap.size = A at hWD ⊢
  have hA : ∀ q : Nat, s.heap.size ≤ q → A q := fun q h => by rw [← hAe]; exact Or.inr h
  have hS : va_S A s.heap s.heap [] := va_S.rf
  have hWP : va_P D vwCl (all cA Ad (f, ((nI o), (nI (z + 1))), tx, rt)) s.heap := hP0
  have hl := lv_entry ([.ref (Ad 10 0)] : List Value) (n := 1) (Nat.le_of_ble_eq_true rfl)
  rw [lg_entry_eq]
  generalize (lg_sl ([.ref (Ad 10 0)] : List Value) ++ List.replicate (1 - (lg_sl ([.ref (Ad 10 0)] : List Value)).length) Slot.unset).toArray = ls at hl ⊢
  have hl : lv_has ls 1 [(0, .ref (Ad 10 0))] := hl
  refine lv_aload_n hx hb dX4_undo_0 rfl (lv_at hl 0 rfl) ?_
  have hP : va_P D vwCl ((wLm cA Ad rt) ++ (rst cA Ad (f, ((nI o), (nI (z + 1))), tx, rt) 10)) s.heap := lw_fP 10 (by decide) hWP
  have hD : va_D A ((wLm cA Ad rt) ++ (rst cA Ad (f, ((nI o), (nI (z + 1))), tx, rt) 10)) := lw_fD 10 (by decide) hWD
  refine va_get (D := D) (ci := 4) (v := .ref (Ad 11 0)) (C := RX4) (T := TX4) (N := 7) hx hb hts iX4_undo_X4 hown hK hP 0 rfl rfl 2 (by decide) (hts _ mX4_undo_f22) (fun _ h9 => h9) rfl dX4_undo_1 ?_
  have hP : va_P D vwCl ((wPa cA Ad ((nI o), (nI (z + 1)))) ++ (rst cA Ad (f, ((nI o), (nI (z + 1))), tx, rt) 11)) s.heap := lw_fP 11 (by decide) hWP
  have hD : va_D A ((wPa cA Ad ((nI o), (nI (z + 1)))) ++ (rst cA Ad (f, ((nI o), (nI (z + 1))), tx, rt) 11)) := lw_fD 11 (by decide) hWD
  refine va_get (D := D) (ci := 1) (v := .int (nI (z + 1))) (C := RX1) (T := TX1) (N := 3) hx hb hts iX4_undo_X1 hown hK hP 0 rfl rfl 2 (by decide) (hts _ mX4_undo_f178) (fun _ h9 => h9) rfl dX4_undo_4 ?_
  refine lv_if_ne (tgt := 20) hx hb dX4_undo_7 (by decide) (fun _ => ?_) (fun h => absurd h (nI_ne0 (n := z + 1) (by omega) (by omega)))
  refine lv_aload_n hx hb dX4_undo_20 rfl (lv_at hl 0 rfl) ?_
  have hP : va_P D vwCl ((wLm cA Ad rt) ++ (rst cA Ad (f, ((nI o), (nI (z + 1))), tx, rt) 10)) s.heap := lw_fP 10 (by decide) hWP
  have hD : va_D A ((wLm cA Ad rt) ++ (rst cA Ad (f, ((nI o), (nI (z + 1))), tx, rt) 10)) := lw_fD 10 (by decide) hWD
  refine va_get (D := D) (ci := 4) (v := .ref (Ad 11 0)) (C := RX4) (T := TX4) (N := 7) hx hb hts iX4_undo_X4 hown hK hP 0 rfl rfl 2 (by decide) (hts _ mX4_undo_f22) (fun _ h9 => h9) rfl dX4_undo_21 ?_
  refine lv_aload_n hx hb dX4_undo_24 rfl (lv_at hl 0 rfl) ?_
  refine va_get (D := D) (ci := 4) (v := .ref (Ad 0 0)) (C := RX4) (T := TX4) (N := 7) hx hb hts iX4_undo_X4 hown hK hP 0 rfl rfl 0 (by decide) (hts _ mX4_undo_f10) (fun _ h9 => h9) rfl dX4_undo_25 ?_
  refine mu_Vw (ci := 1) (q0 := 0) (As := [.ref (Ad 0 0)]) (rest := []) ⟨hx, hb, hml, hown, hts⟩ (c_X1_popInto l D cA _ Ad f o z tx rt ho hz6 hz hWP (hWD.weaken (fun _ _ _ _ => trivial))) (cwV 1 hts gX4_undo_X1_popInto rfl rfl rfl (by decide +kernel) ⟨Nat.le_of_ble_eq_true rfl, Nat.le_of_ble_eq_true rfl⟩) hKN hWP hWD hS hA (lw_fP 11 (by decide) hWP : va_P D vwCl ((wPa cA Ad ((nI o), (nI (z + 1)))) ++ (rst cA Ad (f, ((nI o), (nI (z + 1))), tx, rt) 11)) s.heap) rfl rfl (all_fst _ _ _ _) rfl hl.1 rfl (lv_room (Nat.le_of_ble_eq_true rfl)) dX4_undo_28 ⟨Nat.zero_le _, Nat.zero_le _⟩ (fun H locs hWP hWD hS => ?_)
  have hWP : va_P D vwCl (all cA Ad ((upS f 0 (f (4 + (o + z) % 6))), ((nI o), (nI z)), tx, rt)) H := hWP
  have hWD : va_D A (all cA Ad ((upS f 0 (f (4 + (o + z) % 6))), ((nI o), (nI z)), tx, rt)) := hWD
  refine lv_aload_n hx hb dX4_undo_31 rfl (lv_at hl 0 rfl) ?_
  have hP : va_P D vwCl ((wLm cA Ad rt) ++ (rst cA Ad ((upS f 0 (f (4 + (o + z) % 6))), ((nI o), (nI z)), tx, rt) 10)) H := lw_fP 10 (by decide) hWP
  have hD : va_D A ((wLm cA Ad rt) ++ (rst cA Ad ((upS f 0 (f (4 + (o + z) % 6))), ((nI o), (nI z)), tx, rt) 10)) := lw_fD 10 (by decide) hWD
  refine va_get (D := D) (ci := 4) (v := .ref (Ad 11 0)) (C := RX4) (T := TX4) (N := 7) hx hb hts iX4_undo_X4 hown hK hP 0 rfl rfl 2 (by decide) (hts _ mX4_undo_f22) (fun _ h9 => h9) rfl dX4_undo_32 ?_
  have hP : va_P D vwCl ((wPa cA Ad ((nI o), (nI z))) ++ (rst cA Ad ((upS f 0 (f (4 + (o + z) % 6))), ((nI o), (nI z)), tx, rt) 11)) H := lw_fP 11 (by decide) hWP
  have hD : va_D A ((wPa cA Ad ((nI o), (nI z))) ++ (rst cA Ad ((upS f 0 (f (4 + (o + z) % 6))), ((nI o), (nI z)), tx, rt) 11)) := lw_fD 11 (by decide) hWD
  refine va_get (D := D) (ci := 1) (v := .int (nI z)) (C := RX1) (T := TX1) (N := 3) hx hb hts iX4_undo_X1 hown hK hP 0 rfl rfl 2 (by decide) (hts _ mX4_undo_f178) (fun _ h9 => h9) rfl dX4_undo_35 ?_
  exact mu_iret hx hb hr hlocks dX4_undo_38 hAe hS hWP rfl





theorem mX4_pairsTellingTheSame_f41 : Cond.fieldLink RX4 41 "WireLoom" "wordsTold" "[I" ∈ wsX4_pairsTellingTheSame := by decide +kernel
theorem mX4_pairsTellingTheSame_f10 : Cond.fieldLink RX4 10 "WireLoom" "now" "LWireLoom$State;" ∈ wsX4_pairsTellingTheSame := by decide +kernel
set_option maxRecDepth 20000 in
theorem iX4_pairsTellingTheSame_X4 : ∀ w ∈ wsX40, w ∈ wsX4_pairsTellingTheSame := by decide +kernel
set_option maxHeartbeats 4000000 in
set_option maxRecDepth 100000 in
theorem c_X4_pairsTellingTheSame (l : Launch) (D : va_G) (cA : Nat → ClassId) (H : Heap) (Ad : Nat → Nat → Nat) (f : Nat → SV) (o z : Nat) (tx : TV) (rt : (Nat → Int32) × (Nat → Int32)) (hP0 : va_P D vwCl (all cA Ad (f, ((nI o), (nI z)), tx, rt)) H) (hD0 : va_D (fun _ => True) (all cA Ad (f, ((nI o), (nI z)), tx, rt))) : MU l yX4_pairsTellingTheSame wsX4_pairsTellingTheSame ({ frames := 4, cells := 0, slots := 0, locals := 94 } : Room) D cA [.ref (Ad 10 0)] H (all cA Ad (f, ((nI o), (nI z)), tx, rt)) (all cA Ad (f, ((nI o), (nI z)), tx, (rt.1, wtT (f 0) rt.2 16))) (some (.int (ptT (f 0) rt.2 16))) := by
  refine Met.ofW (cc := cX4_pairsTellingTheSame) (maxL := 4) (ret := (some .int)) (by decide) rfl ?_
  intro p e s m args below meth c s₁ B hml hv
  obtain ⟨rfl, hH, hKN⟩ := hv
  have hK := hKN.1
  have hx := B.exec
  have hb := B.bytes
  have hr := B.returns
  have hts := atoms_spec (ws := wsX4_pairsTellingTheSame) B.pre
  have hown : s.vm.findClass RX4 = some m.cls := findClass_of_methodNamed B.named
  have hlocks := B.notSynchronized
  subst hH
  have hWD := hD0.self (sz := s.heap.size)
  generalize hAe : va_A (all cA Ad (f, ((nI o), (nI z)), tx, rt)) s.heap.size = A at hWD ⊢
  have hA : ∀ q : Nat, s.heap.size ≤ q → A q := fun q h => by rw [← hAe]; exact Or.inr h
  have hS : va_S A s.heap s.heap [] := va_S.rf
  have hWP : va_P D vwCl (all cA Ad (f, ((nI o), (nI z)), tx, rt)) s.heap := hP0
  have hl := lv_entry ([.ref (Ad 10 0)] : List Value) (n := 4) (Nat.le_of_ble_eq_true rfl)
  rw [lg_entry_eq]
  generalize (lg_sl ([.ref (Ad 10 0)] : List Value) ++ List.replicate (4 - (lg_sl ([.ref (Ad 10 0)] : List Value)).length) Slot.unset).toArray = ls at hl ⊢
  have hl : lv_has ls 4 [(0, .ref (Ad 10 0))] := hl
  refine lv_iconst (v := 0) hx hb dX4_pairsTellingTheSame_0 (by decide) ?_
  refine lv_istore_n (lv' := [(1, .int 0), (0, .ref (Ad 10 0))]) hx hb dX4_pairsTellingTheSame_1 rfl hl (by decide) rfl (fun ls hl => ?_)
  refine lv_iconst (v := 0) hx hb dX4_pairsTellingTheSame_2 (by decide) ?_
  refine lv_istore_n (lv' := [(2, .int 0), (1, .int 0), (0, .ref (Ad 10 0))]) hx hb dX4_pairsTellingTheSame_3 rfl hl (by decide) rfl (fun ls hl => ?_)
  have loop4 : ∀ (n4 k4 : Nat), k4 + n4 = 16 → ∀ (H : Heap) (locs : List Loc), va_P D vwCl (all cA Ad (f, ((nI o), (nI z)), tx, (rt.1, (wtT (f 0) rt.2 k4)))) H → va_D A (all cA Ad (f, ((nI o), (nI z)), tx, (rt.1, (wtT (f 0) rt.2 k4)))) → va_S A s.heap H locs → ∀ (ls : Array Slot), lv_has ls 4 [(2, .int (nI k4)), (1, .int (ptT (f 0) rt.2 k4)), (0, .ref (Ad 10 0))] → W p l e ({ frames := 4, cells := 0, slots := 0, locals := 94 } : Room) s m ([.ref (Ad 10 0)] : List Value).toArray below meth c H locs 0 0 (MQ below (muQ D s.heap (all cA Ad (f, ((nI o), (nI z)), tx, rt)) (all cA Ad (f, ((nI o), (nI z)), tx, (rt.1, wtT (f 0) rt.2 16))) (some (.int (ptT (f 0) rt.2 16)))) ([.ref (Ad 10 0)] : List Value).toArray s 0 0 A) (F0 m 4 ls []) := by
    intro n4
    induction n4 with
    | zero =>
      intro k4 hk4 H locs hWP hWD hS ls hl
      obtain rfl : 16 = k4 := by omega
      refine lv_iload_n hx hb dX4_pairsTellingTheSame_4 rfl (lv_at hl 0 rfl) ?_
      refine lv_bipush (v := 16) hx hb dX4_pairsTellingTheSame_5 (by decide) ?_
      refine lv_icmp_ge (tgt := 61) hx hb dX4_pairsTellingTheSame_7 (by decide) (fun _ => ?_) (fun h => absurd (by decide) h)
      refine lv_iload_n hx hb dX4_pairsTellingTheSame_61 rfl (lv_at hl 1 rfl) ?_
      exact mu_iret hx hb hr hlocks dX4_pairsTellingTheSame_62 hAe hS hWP rfl
    | succ n4 ih4 =>
      intro k4 hk4 H locs hWP hWD hS ls hl
      have hlt4 : k4 < 16 := by omega
      refine lv_iload_n hx hb dX4_pairsTellingTheSame_4 rfl (lv_at hl 0 rfl) ?_
      refine lv_bipush (v := 16) hx hb dX4_pairsTellingTheSame_5 (by decide) ?_
      refine lv_icmp_ge (tgt := 61) hx hb dX4_pairsTellingTheSame_7 (by decide) (fun h => absurd h (nI_ge hlt4 (by first | decide | omega))) (fun _ => ?_)
      refine lv_aload_n hx hb dX4_pairsTellingTheSame_10 rfl (lv_at hl 2 rfl) ?_
      have hP : va_P D vwCl ((wLm cA Ad (rt.1, (wtT (f 0) rt.2 k4))) ++ (rst cA Ad (f, ((nI o), (nI z)), tx, (rt.1, (wtT (f 0) rt.2 k4))) 10)) H := lw_fP 10 (by decide) hWP
      have hD : va_D A ((wLm cA Ad (rt.1, (wtT (f 0) rt.2 k4))) ++ (rst cA Ad (f, ((nI o), (nI z)), tx, (rt.1, (wtT (f 0) rt.2 k4))) 10)) := lw_fD 10 (by decide) hWD
      refine va_get (D := D) (ci := 4) (v := .ref (Ad 10 3)) (C := RX4) (T := TX4) (N := 7) hx hb hts iX4_pairsTellingTheSame_X4 hown hK hP 0 rfl rfl 6 (by decide) (hts _ mX4_pairsTellingTheSame_f41) (fun _ h9 => h9) rfl dX4_pairsTellingTheSame_11 ?_
      refine lv_iload_n hx hb dX4_pairsTellingTheSame_14 rfl (lv_at hl 0 rfl) ?_
      refine lv_aload_n hx hb dX4_pairsTellingTheSame_15 rfl (lv_at hl 2 rfl) ?_
      refine va_get (D := D) (ci := 4) (v := .ref (Ad 0 0)) (C := RX4) (T := TX4) (N := 7) hx hb hts iX4_pairsTellingTheSame_X4 hown hK hP 0 rfl rfl 0 (by decide) (hts _ mX4_pairsTellingTheSame_f10) (fun _ h9 => h9) rfl dX4_pairsTellingTheSame_16 ?_
      refine lv_iload_n hx hb dX4_pairsTellingTheSame_19 rfl (lv_at hl 0 rfl) ?_
      have hP : va_P D vwCl ((wSt cA (Ad 0) (f 0)) ++ (rst cA Ad (f, ((nI o), (nI z)), tx, (rt.1, (wtT (f 0) rt.2 k4))) 0)) H := lw_fP 0 (by decide) hWP
      have hD : va_D A ((wSt cA (Ad 0) (f 0)) ++ (rst cA Ad (f, ((nI o), (nI z)), tx, (rt.1, (wtT (f 0) rt.2 k4))) 0)) := lw_fD 0 (by decide) hWD
      refine ro_V (ci := 2) (q0 := 0) (As := [.int (nI k4)]) (rest := [.int (nI k4), .ref (Ad 10 3)]) ⟨hx, hb, hml, hown, hts⟩ (c_X2_tells l D cA _ (Ad 0) (f 0) k4 (by omega) (va_P_l hP) ) (cwV 1 hts gX4_pairsTellingTheSame_X2_tells rfl rfl rfl (by decide +kernel) ⟨Nat.le_of_ble_eq_true rfl, Nat.le_of_ble_eq_true rfl⟩) hKN hP rfl rfl rfl hl.1 rfl (lv_room (Nat.le_of_ble_eq_true rfl)) dX4_pairsTellingTheSame_20 ⟨Nat.zero_le _, Nat.zero_le _⟩ ?_
      have hP : va_P D vwCl ((wLm cA Ad (rt.1, (wtT (f 0) rt.2 k4))) ++ (rst cA Ad (f, ((nI o), (nI z)), tx, (rt.1, (wtT (f 0) rt.2 k4))) 10)) H := lw_fP 10 (by decide) hWP
      have hD : va_D A ((wLm cA Ad (rt.1, (wtT (f 0) rt.2 k4))) ++ (rst cA Ad (f, ((nI o), (nI z)), tx, (rt.1, (wtT (f 0) rt.2 k4))) 10)) := lw_fD 10 (by decide) hWD
      refine lz_iast (k := k4) (f := (wtT (f 0) rt.2 k4)) hx hb hK hP hD hS 3 0 rfl rfl ⟨by omega, by decide⟩ dX4_pairsTellingTheSame_23 (fun H locs hP hD hS => ?_)
      have hP : va_P D vwCl ((wLm cA Ad (rt.1, (upd (wtT (f 0) rt.2 k4) k4 (tellsS (f 0) k4)))) ++ (rst cA Ad (f, ((nI o), (nI z)), tx, (rt.1, (wtT (f 0) rt.2 k4))) 10)) H := hP
      have hD : va_D A ((wLm cA Ad (rt.1, (upd (wtT (f 0) rt.2 k4) k4 (tellsS (f 0) k4)))) ++ (rst cA Ad (f, ((nI o), (nI z)), tx, (rt.1, (wtT (f 0) rt.2 k4))) 10)) := hD
      refine lv_iconst (v := 0) hx hb dX4_pairsTellingTheSame_24 (by decide) ?_
      refine lv_istore_n (lv' := [(3, .int 0), (2, .int (nI k4)), (1, .int (ptT (f 0) rt.2 k4)), (0, .ref (Ad 10 0))]) hx hb dX4_pairsTellingTheSame_25 rfl hl (by decide) rfl (fun ls hl => ?_)
      have hWP : va_P D vwCl (all cA Ad (f, ((nI o), (nI z)), tx, (rt.1, (upd (wtT (f 0) rt.2 k4) k4 (tellsS (f 0) k4))))) H := lw_uP 10 (f, ((nI o), (nI z)), tx, (rt.1, (upd (wtT (f 0) rt.2 k4) k4 (tellsS (f 0) k4)))) (by decide) bc_rt hP
      have hWD : va_D A (all cA Ad (f, ((nI o), (nI z)), tx, (rt.1, (upd (wtT (f 0) rt.2 k4) k4 (tellsS (f 0) k4))))) := lw_uD 10 (f, ((nI o), (nI z)), tx, (rt.1, (upd (wtT (f 0) rt.2 k4) k4 (tellsS (f 0) k4)))) (by decide) bc_rt hD
      have loop26 : ∀ (n26 k26 : Nat), k26 + n26 = k4 → ∀ (H : Heap) (locs : List Loc), va_P D vwCl (all cA Ad (f, ((nI o), (nI z)), tx, (rt.1, (upd (wtT (f 0) rt.2 k4) k4 (tellsS (f 0) k4))))) H → va_D A (all cA Ad (f, ((nI o), (nI z)), tx, (rt.1, (upd (wtT (f 0) rt.2 k4) k4 (tellsS (f 0) k4))))) → va_S A s.heap H locs → ∀ (ls : Array Slot), lv_has ls 4 [(3, .int (nI k26)), (2, .int (nI k4)), (1, .int (ptI (upd (wtT (f 0) rt.2 k4) k4 (tellsS (f 0) k4)) k4 (ptT (f 0) rt.2 k4) k26)), (0, .ref (Ad 10 0))] → W p l e ({ frames := 4, cells := 0, slots := 0, locals := 94 } : Room) s m ([.ref (Ad 10 0)] : List Value).toArray below meth c H locs 0 0 (MQ below (muQ D s.heap (all cA Ad (f, ((nI o), (nI z)), tx, rt)) (all cA Ad (f, ((nI o), (nI z)), tx, (rt.1, wtT (f 0) rt.2 16))) (some (.int (ptT (f 0) rt.2 16)))) ([.ref (Ad 10 0)] : List Value).toArray s 0 0 A) (F0 m 26 ls []) := by
        intro n26
        induction n26 with
        | zero =>
          intro k26 hk26 H locs hWP hWD hS ls hl
          obtain rfl : k4 = k26 := by omega
          refine lv_iload_n hx hb dX4_pairsTellingTheSame_26 rfl (lv_at hl 0 rfl) ?_
          refine lv_iload_n hx hb dX4_pairsTellingTheSame_27 rfl (lv_at hl 1 rfl) ?_
          refine lv_icmp_ge (tgt := 55) hx hb dX4_pairsTellingTheSame_28 (by decide) (fun _ => ?_) (fun h => absurd (nI_le (Nat.le_refl _) (by first | decide | omega)) h)
          refine lv_iinc (v := (nI (k4 + 1))) (lv' := [(2, .int (nI (k4 + 1))), (3, .int (nI k4)), (1, .int (ptI (upd (wtT (f 0) rt.2 k4) k4 (tellsS (f 0) k4)) k4 (ptT (f 0) rt.2 k4) k4)), (0, .ref (Ad 10 0))]) hx hb dX4_pairsTellingTheSame_55 hl (k := 1) rfl (nI_1 _) (by decide) rfl (fun ls hl => ?_)
          refine lv_goto (tgt := 4) hx hb dX4_pairsTellingTheSame_58 (by decide) ?_
          have e_1 : (ptT (f 0) rt.2 (k4 + 1)) = (ptI (upd (wtT (f 0) rt.2 k4) k4 (tellsS (f 0) k4)) k4 (ptT (f 0) rt.2 k4) k4) := rfl
          have e_2 : ((f, ((nI o), (nI z)), tx, (rt.1, (wtT (f 0) rt.2 (k4 + 1)))) : LV) = (f, ((nI o), (nI z)), tx, (rt.1, (upd (wtT (f 0) rt.2 k4) k4 (tellsS (f 0) k4)))) := rfl
          exact ih4 (k4 + 1) (by omega) _ _ (by rw [e_2]; exact hWP) (by rw [e_2]; exact hWD) hS ls (by rw [e_1]; exact (lv_sub hl [0, 2, 3] rfl))
        | succ n26 ih26 =>
          intro k26 hk26 H locs hWP hWD hS ls hl
          have hlt26 : k26 < k4 := by omega
          refine lv_iload_n hx hb dX4_pairsTellingTheSame_26 rfl (lv_at hl 0 rfl) ?_
          refine lv_iload_n hx hb dX4_pairsTellingTheSame_27 rfl (lv_at hl 1 rfl) ?_
          refine lv_icmp_ge (tgt := 55) hx hb dX4_pairsTellingTheSame_28 (by decide) (fun h => absurd h (nI_ge hlt26 (by first | decide | omega))) (fun _ => ?_)
          refine lv_aload_n hx hb dX4_pairsTellingTheSame_31 rfl (lv_at hl 3 rfl) ?_
          have hP : va_P D vwCl ((wLm cA Ad (rt.1, (upd (wtT (f 0) rt.2 k4) k4 (tellsS (f 0) k4)))) ++ (rst cA Ad (f, ((nI o), (nI z)), tx, (rt.1, (upd (wtT (f 0) rt.2 k4) k4 (tellsS (f 0) k4)))) 10)) H := lw_fP 10 (by decide) hWP
          have hD : va_D A ((wLm cA Ad (rt.1, (upd (wtT (f 0) rt.2 k4) k4 (tellsS (f 0) k4)))) ++ (rst cA Ad (f, ((nI o), (nI z)), tx, (rt.1, (upd (wtT (f 0) rt.2 k4) k4 (tellsS (f 0) k4)))) 10)) := lw_fD 10 (by decide) hWD
          refine va_get (D := D) (ci := 4) (v := .ref (Ad 10 3)) (C := RX4) (T := TX4) (N := 7) hx hb hts iX4_pairsTellingTheSame_X4 hown hK hP 0 rfl rfl 6 (by decide) (hts _ mX4_pairsTellingTheSame_f41) (fun _ h9 => h9) rfl dX4_pairsTellingTheSame_32 ?_
          refine lv_iload_n hx hb dX4_pairsTellingTheSame_35 rfl (lv_at hl 0 rfl) ?_
          refine lz_iald (k := k26) (f := (upd (wtT (f 0) rt.2 k4) k4 (tellsS (f 0) k4))) hx hb hK hP 3 0 rfl rfl ⟨by omega, by decide⟩ dX4_pairsTellingTheSame_36 ?_
          refine lv_aload_n hx hb dX4_pairsTellingTheSame_37 rfl (lv_at hl 3 rfl) ?_
          refine va_get (D := D) (ci := 4) (v := .ref (Ad 10 3)) (C := RX4) (T := TX4) (N := 7) hx hb hts iX4_pairsTellingTheSame_X4 hown hK hP 0 rfl rfl 6 (by decide) (hts _ mX4_pairsTellingTheSame_f41) (fun _ h9 => h9) rfl dX4_pairsTellingTheSame_38 ?_
          refine lv_iload_n hx hb dX4_pairsTellingTheSame_41 rfl (lv_at hl 1 rfl) ?_
          refine lz_iald (k := k4) (f := (upd (wtT (f 0) rt.2 k4) k4 (tellsS (f 0) k4))) hx hb hK hP 3 0 rfl rfl ⟨by omega, by decide⟩ dX4_pairsTellingTheSame_42 ?_
          refine lv_icmp_ne (tgt := 49) hx hb dX4_pairsTellingTheSame_43 (by decide) (fun c_43 => ?_) (fun c_43 => ?_)
          · refine lv_iinc (v := (nI (k26 + 1))) (lv' := [(3, .int (nI (k26 + 1))), (2, .int (nI k4)), (1, .int (ptI (upd (wtT (f 0) rt.2 k4) k4 (tellsS (f 0) k4)) k4 (ptT (f 0) rt.2 k4) k26)), (0, .ref (Ad 10 0))]) hx hb dX4_pairsTellingTheSame_49 hl (k := 0) rfl (nI_1 _) (by decide) rfl (fun ls hl => ?_)
            refine lv_goto (tgt := 26) hx hb dX4_pairsTellingTheSame_52 (by decide) ?_
            have e_3 : (ptI (upd (wtT (f 0) rt.2 k4) k4 (tellsS (f 0) k4)) k4 (ptT (f 0) rt.2 k4) (k26 + 1)) = (ptI (upd (wtT (f 0) rt.2 k4) k4 (tellsS (f 0) k4)) k4 (ptT (f 0) rt.2 k4) k26) := by rw [ptI_succ] <;> simp only [c_43, if_true, if_false]
            exact ih26 (k26 + 1) (by omega) _ _ hWP hWD hS ls (by rw [e_3]; exact (lv_sub hl [0, 1, 2, 3] rfl))
          · refine lv_iinc (v := ((ptI (upd (wtT (f 0) rt.2 k4) k4 (tellsS (f 0) k4)) k4 (ptT (f 0) rt.2 k4) k26) + 1)) (lv' := [(1, .int ((ptI (upd (wtT (f 0) rt.2 k4) k4 (tellsS (f 0) k4)) k4 (ptT (f 0) rt.2 k4) k26) + 1)), (3, .int (nI k26)), (2, .int (nI k4)), (0, .ref (Ad 10 0))]) hx hb dX4_pairsTellingTheSame_46 hl (k := 2) rfl rfl (by decide) rfl (fun ls hl => ?_)
            refine lv_iinc (v := (nI (k26 + 1))) (lv' := [(3, .int (nI (k26 + 1))), (1, .int ((ptI (upd (wtT (f 0) rt.2 k4) k4 (tellsS (f 0) k4)) k4 (ptT (f 0) rt.2 k4) k26) + 1)), (2, .int (nI k4)), (0, .ref (Ad 10 0))]) hx hb dX4_pairsTellingTheSame_49 hl (k := 1) rfl (nI_1 _) (by decide) rfl (fun ls hl => ?_)
            refine lv_goto (tgt := 26) hx hb dX4_pairsTellingTheSame_52 (by decide) ?_
            have e_5 : (ptI (upd (wtT (f 0) rt.2 k4) k4 (tellsS (f 0) k4)) k4 (ptT (f 0) rt.2 k4) (k26 + 1)) = ((ptI (upd (wtT (f 0) rt.2 k4) k4 (tellsS (f 0) k4)) k4 (ptT (f 0) rt.2 k4) k26) + 1) := by rw [ptI_succ] <;> simp only [c_43, if_true, if_false]
            exact ih26 (k26 + 1) (by omega) _ _ hWP hWD hS ls (by rw [e_5]; exact (lv_sub hl [0, 2, 1, 3] rfl))
      exact loop26 k4 0 (by omega) _ _ hWP hWD hS ls (lv_sub hl [0, 1, 2, 3] rfl)
  exact loop4 16 0 (by omega) _ _ hWP hWD hS ls (lv_sub hl [0, 1, 2] rfl)
theorem mX4_count_f10 : Cond.fieldLink RX4 10 "WireLoom" "now" "LWireLoom$State;" ∈ wsX4_count := by decide +kernel
theorem mX4_count_f250 : Cond.fieldLink RX4 250 "WireLoom$State" "crossingsChanged" "I" ∈ wsX4_count := by decide +kernel
theorem mX4_count_f253 : Cond.fieldLink RX4 253 "WireLoom$State" "readingsDone" "I" ∈ wsX4_count := by decide +kernel
theorem mX4_count_f88 : Cond.fieldLink RX4 88 "WireLoom$State" "guarded" "I" ∈ wsX4_count := by decide +kernel
theorem mX4_count_f22 : Cond.fieldLink RX4 22 "WireLoom" "past" "LWireLoom$Past;" ∈ wsX4_count := by decide +kernel
theorem mX4_count_f178 : Cond.fieldLink RX4 178 "WireLoom$Past" "size" "I" ∈ wsX4_count := by decide +kernel
set_option maxRecDepth 20000 in
theorem iX4_count_X1 : ∀ w ∈ wsX10, w ∈ wsX4_count := by decide +kernel
set_option maxRecDepth 20000 in
theorem iX4_count_X2 : ∀ w ∈ wsX20, w ∈ wsX4_count := by decide +kernel
set_option maxRecDepth 20000 in
theorem iX4_count_X4 : ∀ w ∈ wsX40, w ∈ wsX4_count := by decide +kernel
set_option maxHeartbeats 4000000 in
set_option maxRecDepth 100000 in
theorem c_X4_count (l : Launch) (D : va_G) (cA : Nat → ClassId) (H : Heap) (Ad : Nat → Nat → Nat) (f : Nat → SV) (o z : Nat) (tx : TV) (rt : (Nat → Int32) × (Nat → Int32)) (w : Nat) (hw : w < 10) (hP0 : va_P D vwCl (all cA Ad (f, ((nI o), (nI z)), tx, rt)) H) (hD0 : va_D (fun _ => True) (all cA Ad (f, ((nI o), (nI z)), tx, rt))) : MU l yX4_count wsX4_count ({ frames := 5, cells := 0, slots := 0, locals := 117 } : Room) D cA [.ref (Ad 10 0), .int (nI w)] H (all cA Ad (f, ((nI o), (nI z)), tx, rt)) (all cA Ad (f, ((nI o), (nI z)), tx, (rt.1, if w = 7 then wtT (f 0) rt.2 16 else rt.2))) (some (.int (countS (f 0) z rt.2 w))) := by
  refine Met.ofW (cc := cX4_count) (maxL := 2) (ret := (some .int)) (by decide) rfl ?_
  intro p e s m args below meth c s₁ B hml hv
  obtain ⟨rfl, hH, hKN⟩ := hv
  have hK := hKN.1
  have hx := B.exec
  have hb := B.bytes
  have hr := B.returns
  have hts := atoms_spec (ws := wsX4_count) B.pre
  have hown : s.vm.findClass RX4 = some m.cls := findClass_of_methodNamed B.named
  have hlocks := B.notSynchronized
  subst hH
  have hWD := hD0.self (sz := s.heap.size)
  generalize hAe : va_A (all cA Ad (f, ((nI o), (nI z)), tx, rt)) s.heap.size = A at hWD ⊢
  have hA : ∀ q : Nat, s.heap.size ≤ q → A q := fun q h => by rw [← hAe]; exact Or.inr h
  have hS : va_S A s.heap s.heap [] := va_S.rf
  have hWP : va_P D vwCl (all cA Ad (f, ((nI o), (nI z)), tx, rt)) s.heap := hP0
  have hl := lv_entry ([.ref (Ad 10 0), .int (nI w)] : List Value) (n := 2) (Nat.le_of_ble_eq_true rfl)
  rw [lg_entry_eq]
  generalize (lg_sl ([.ref (Ad 10 0), .int (nI w)] : List Value) ++ List.replicate (2 - (lg_sl ([.ref (Ad 10 0), .int (nI w)] : List Value)).length) Slot.unset).toArray = ls at hl ⊢
  have hl : lv_has ls 2 [(0, .ref (Ad 10 0)), (1, .int (nI w))] := hl
  refine lv_iload_n hx hb dX4_count_0 rfl (lv_at hl 1 rfl) ?_
  have hc_1 : w = 0 ∨ w = 1 ∨ w = 2 ∨ w = 3 ∨ w = 4 ∨ w = 5 ∨ w = 6 ∨ w = 7 ∨ w = 8 ∨ w = 9 := (by omega)
  rcases hc_1 with rfl | rfl | rfl | rfl | rfl | rfl | rfl | rfl | rfl | rfl
  · refine lz_top (v := 0) rfl ?_
    refine lv_tableIn (tgt := 56) (off := 55) hx hb dX4_count_1 (by decide) (by decide) rfl (by decide) ?_
    refine lv_aload_n hx hb dX4_count_56 rfl (lv_at hl 0 rfl) ?_
    have hP : va_P D vwCl ((wLm cA Ad rt) ++ (rst cA Ad (f, ((nI o), (nI z)), tx, rt) 10)) s.heap := lw_fP 10 (by decide) hWP
    have hD : va_D A ((wLm cA Ad rt) ++ (rst cA Ad (f, ((nI o), (nI z)), tx, rt) 10)) := lw_fD 10 (by decide) hWD
    refine va_get (D := D) (ci := 4) (v := .ref (Ad 0 0)) (C := RX4) (T := TX4) (N := 7) hx hb hts iX4_count_X4 hown hK hP 0 rfl rfl 0 (by decide) (hts _ mX4_count_f10) (fun _ h9 => h9) rfl dX4_count_57 ?_
    have hP : va_P D vwCl ((wSt cA (Ad 0) (f 0)) ++ (rst cA Ad (f, ((nI o), (nI z)), tx, rt) 0)) s.heap := lw_fP 0 (by decide) hWP
    have hD : va_D A ((wSt cA (Ad 0) (f 0)) ++ (rst cA Ad (f, ((nI o), (nI z)), tx, rt) 0)) := lw_fD 0 (by decide) hWD
    refine ro_V (ci := 2) (q0 := 0) (As := []) (rest := []) ⟨hx, hb, hml, hown, hts⟩ (c_X2_crossingsByThreads l D cA _ (Ad 0) (f 0) (va_P_l hP) ) (cwV 0 hts gX4_count_X2_crossingsByThreads rfl rfl rfl (by decide +kernel) ⟨Nat.le_of_ble_eq_true rfl, Nat.le_of_ble_eq_true rfl⟩) hKN hP rfl rfl rfl hl.1 rfl (lv_room (Nat.le_of_ble_eq_true rfl)) dX4_count_60 ⟨Nat.zero_le _, Nat.zero_le _⟩ ?_
    exact mu_iret hx hb hr hlocks dX4_count_63 hAe hS hWP rfl
  · refine lz_top (v := 1) rfl ?_
    refine lv_tableIn (tgt := 64) (off := 63) hx hb dX4_count_1 (by decide) (by decide) rfl (by decide) ?_
    refine lv_aload_n hx hb dX4_count_64 rfl (lv_at hl 0 rfl) ?_
    have hP : va_P D vwCl ((wLm cA Ad rt) ++ (rst cA Ad (f, ((nI o), (nI z)), tx, rt) 10)) s.heap := lw_fP 10 (by decide) hWP
    have hD : va_D A ((wLm cA Ad rt) ++ (rst cA Ad (f, ((nI o), (nI z)), tx, rt) 10)) := lw_fD 10 (by decide) hWD
    refine va_get (D := D) (ci := 4) (v := .ref (Ad 0 0)) (C := RX4) (T := TX4) (N := 7) hx hb hts iX4_count_X4 hown hK hP 0 rfl rfl 0 (by decide) (hts _ mX4_count_f10) (fun _ h9 => h9) rfl dX4_count_65 ?_
    have hP : va_P D vwCl ((wSt cA (Ad 0) (f 0)) ++ (rst cA Ad (f, ((nI o), (nI z)), tx, rt) 0)) s.heap := lw_fP 0 (by decide) hWP
    have hD : va_D A ((wSt cA (Ad 0) (f 0)) ++ (rst cA Ad (f, ((nI o), (nI z)), tx, rt) 0)) := lw_fD 0 (by decide) hWD
    refine ro_V (ci := 2) (q0 := 0) (As := []) (rest := []) ⟨hx, hb, hml, hown, hts⟩ (c_X2_crossingsByRings l D cA _ (Ad 0) (f 0) (va_P_l hP) ) (cwV 0 hts gX4_count_X2_crossingsByRings rfl rfl rfl (by decide +kernel) ⟨Nat.le_of_ble_eq_true rfl, Nat.le_of_ble_eq_true rfl⟩) hKN hP rfl rfl rfl hl.1 rfl (lv_room (Nat.le_of_ble_eq_true rfl)) dX4_count_68 ⟨Nat.zero_le _, Nat.zero_le _⟩ ?_
    exact mu_iret hx hb hr hlocks dX4_count_71 hAe hS hWP rfl
  · refine lz_top (v := 2) rfl ?_
    refine lv_tableIn (tgt := 72) (off := 71) hx hb dX4_count_1 (by decide) (by decide) rfl (by decide) ?_
    refine lv_aload_n hx hb dX4_count_72 rfl (lv_at hl 0 rfl) ?_
    have hP : va_P D vwCl ((wLm cA Ad rt) ++ (rst cA Ad (f, ((nI o), (nI z)), tx, rt) 10)) s.heap := lw_fP 10 (by decide) hWP
    have hD : va_D A ((wLm cA Ad rt) ++ (rst cA Ad (f, ((nI o), (nI z)), tx, rt) 10)) := lw_fD 10 (by decide) hWD
    refine va_get (D := D) (ci := 4) (v := .ref (Ad 0 0)) (C := RX4) (T := TX4) (N := 7) hx hb hts iX4_count_X4 hown hK hP 0 rfl rfl 0 (by decide) (hts _ mX4_count_f10) (fun _ h9 => h9) rfl dX4_count_73 ?_
    have hP : va_P D vwCl ((wSt cA (Ad 0) (f 0)) ++ (rst cA Ad (f, ((nI o), (nI z)), tx, rt) 0)) s.heap := lw_fP 0 (by decide) hWP
    have hD : va_D A ((wSt cA (Ad 0) (f 0)) ++ (rst cA Ad (f, ((nI o), (nI z)), tx, rt) 0)) := lw_fD 0 (by decide) hWD
    refine va_get (D := D) (ci := 2) (v := .int ((f 0).2.2.2.2.2.1)) (C := RX2) (T := TX2) (N := 8) hx hb hts iX4_count_X2 hown hK hP 0 rfl rfl 6 (by decide) (hts _ mX4_count_f250) (fun _ h9 => h9) rfl dX4_count_76 ?_
    exact mu_iret hx hb hr hlocks dX4_count_79 hAe hS hWP rfl
  · refine lz_top (v := 3) rfl ?_
    refine lv_tableIn (tgt := 80) (off := 79) hx hb dX4_count_1 (by decide) (by decide) rfl (by decide) ?_
    refine lv_aload_n hx hb dX4_count_80 rfl (lv_at hl 0 rfl) ?_
    have hP : va_P D vwCl ((wLm cA Ad rt) ++ (rst cA Ad (f, ((nI o), (nI z)), tx, rt) 10)) s.heap := lw_fP 10 (by decide) hWP
    have hD : va_D A ((wLm cA Ad rt) ++ (rst cA Ad (f, ((nI o), (nI z)), tx, rt) 10)) := lw_fD 10 (by decide) hWD
    refine va_get (D := D) (ci := 4) (v := .ref (Ad 0 0)) (C := RX4) (T := TX4) (N := 7) hx hb hts iX4_count_X4 hown hK hP 0 rfl rfl 0 (by decide) (hts _ mX4_count_f10) (fun _ h9 => h9) rfl dX4_count_81 ?_
    have hP : va_P D vwCl ((wSt cA (Ad 0) (f 0)) ++ (rst cA Ad (f, ((nI o), (nI z)), tx, rt) 0)) s.heap := lw_fP 0 (by decide) hWP
    have hD : va_D A ((wSt cA (Ad 0) (f 0)) ++ (rst cA Ad (f, ((nI o), (nI z)), tx, rt) 0)) := lw_fD 0 (by decide) hWD
    refine va_get (D := D) (ci := 2) (v := .int ((f 0).2.2.2.2.2.2.1)) (C := RX2) (T := TX2) (N := 8) hx hb hts iX4_count_X2 hown hK hP 0 rfl rfl 7 (by decide) (hts _ mX4_count_f253) (fun _ h9 => h9) rfl dX4_count_84 ?_
    exact mu_iret hx hb hr hlocks dX4_count_87 hAe hS hWP rfl
  · refine lz_top (v := 4) rfl ?_
    refine lv_tableIn (tgt := 88) (off := 87) hx hb dX4_count_1 (by decide) (by decide) rfl (by decide) ?_
    refine lv_aload_n hx hb dX4_count_88 rfl (lv_at hl 0 rfl) ?_
    have hP : va_P D vwCl ((wLm cA Ad rt) ++ (rst cA Ad (f, ((nI o), (nI z)), tx, rt) 10)) s.heap := lw_fP 10 (by decide) hWP
    have hD : va_D A ((wLm cA Ad rt) ++ (rst cA Ad (f, ((nI o), (nI z)), tx, rt) 10)) := lw_fD 10 (by decide) hWD
    refine va_get (D := D) (ci := 4) (v := .ref (Ad 0 0)) (C := RX4) (T := TX4) (N := 7) hx hb hts iX4_count_X4 hown hK hP 0 rfl rfl 0 (by decide) (hts _ mX4_count_f10) (fun _ h9 => h9) rfl dX4_count_89 ?_
    have hP : va_P D vwCl ((wSt cA (Ad 0) (f 0)) ++ (rst cA Ad (f, ((nI o), (nI z)), tx, rt) 0)) s.heap := lw_fP 0 (by decide) hWP
    have hD : va_D A ((wSt cA (Ad 0) (f 0)) ++ (rst cA Ad (f, ((nI o), (nI z)), tx, rt) 0)) := lw_fD 0 (by decide) hWD
    refine ro_V (ci := 2) (q0 := 0) (As := []) (rest := []) ⟨hx, hb, hml, hown, hts⟩ (c_X2_threadsRight l D cA _ (Ad 0) (f 0) (va_P_l hP) ) (cwV 0 hts gX4_count_X2_threadsRight rfl rfl rfl (by decide +kernel) ⟨Nat.le_of_ble_eq_true rfl, Nat.le_of_ble_eq_true rfl⟩) hKN hP rfl rfl rfl hl.1 rfl (lv_room (Nat.le_of_ble_eq_true rfl)) dX4_count_92 ⟨Nat.zero_le _, Nat.zero_le _⟩ ?_
    exact mu_iret hx hb hr hlocks dX4_count_95 hAe hS hWP rfl
  · refine lz_top (v := 5) rfl ?_
    refine lv_tableIn (tgt := 96) (off := 95) hx hb dX4_count_1 (by decide) (by decide) rfl (by decide) ?_
    refine lv_aload_n hx hb dX4_count_96 rfl (lv_at hl 0 rfl) ?_
    have hP : va_P D vwCl ((wLm cA Ad rt) ++ (rst cA Ad (f, ((nI o), (nI z)), tx, rt) 10)) s.heap := lw_fP 10 (by decide) hWP
    have hD : va_D A ((wLm cA Ad rt) ++ (rst cA Ad (f, ((nI o), (nI z)), tx, rt) 10)) := lw_fD 10 (by decide) hWD
    refine va_get (D := D) (ci := 4) (v := .ref (Ad 0 0)) (C := RX4) (T := TX4) (N := 7) hx hb hts iX4_count_X4 hown hK hP 0 rfl rfl 0 (by decide) (hts _ mX4_count_f10) (fun _ h9 => h9) rfl dX4_count_97 ?_
    have hP : va_P D vwCl ((wSt cA (Ad 0) (f 0)) ++ (rst cA Ad (f, ((nI o), (nI z)), tx, rt) 0)) s.heap := lw_fP 0 (by decide) hWP
    have hD : va_D A ((wSt cA (Ad 0) (f 0)) ++ (rst cA Ad (f, ((nI o), (nI z)), tx, rt) 0)) := lw_fD 0 (by decide) hWD
    refine va_get (D := D) (ci := 2) (v := .int ((f 0).2.2.2.2.1)) (C := RX2) (T := TX2) (N := 8) hx hb hts iX4_count_X2 hown hK hP 0 rfl rfl 5 (by decide) (hts _ mX4_count_f88) (fun _ h9 => h9) rfl dX4_count_100 ?_
    refine ro_S (As := [.int ((f 0).2.2.2.2.1)]) (rest := []) ⟨hx, hb, hml, hown, hts⟩ (c_J6_bitCount_0f7a4 l D cA _ ((f 0).2.2.2.2.1)) (cwS2 1 hts gX4_count_J6_bitCount_0f7a4 rfl rfl rfl (by decide +kernel) ⟨Nat.le_of_ble_eq_true rfl, Nat.le_of_ble_eq_true rfl⟩) hKN rfl hl.1 rfl (lv_room (Nat.le_of_ble_eq_true rfl)) dX4_count_103 ⟨Nat.zero_le _, Nat.zero_le _⟩ ?_
    exact mu_iret hx hb hr hlocks dX4_count_106 hAe hS hWP rfl
  · refine lz_top (v := 6) rfl ?_
    refine lv_tableIn (tgt := 107) (off := 106) hx hb dX4_count_1 (by decide) (by decide) rfl (by decide) ?_
    refine lv_aload_n hx hb dX4_count_107 rfl (lv_at hl 0 rfl) ?_
    have hP : va_P D vwCl ((wLm cA Ad rt) ++ (rst cA Ad (f, ((nI o), (nI z)), tx, rt) 10)) s.heap := lw_fP 10 (by decide) hWP
    have hD : va_D A ((wLm cA Ad rt) ++ (rst cA Ad (f, ((nI o), (nI z)), tx, rt) 10)) := lw_fD 10 (by decide) hWD
    refine va_get (D := D) (ci := 4) (v := .ref (Ad 0 0)) (C := RX4) (T := TX4) (N := 7) hx hb hts iX4_count_X4 hown hK hP 0 rfl rfl 0 (by decide) (hts _ mX4_count_f10) (fun _ h9 => h9) rfl dX4_count_108 ?_
    have hP : va_P D vwCl ((wSt cA (Ad 0) (f 0)) ++ (rst cA Ad (f, ((nI o), (nI z)), tx, rt) 0)) s.heap := lw_fP 0 (by decide) hWP
    have hD : va_D A ((wSt cA (Ad 0) (f 0)) ++ (rst cA Ad (f, ((nI o), (nI z)), tx, rt) 0)) := lw_fD 0 (by decide) hWD
    refine ro_V (ci := 2) (q0 := 0) (As := []) (rest := []) ⟨hx, hb, hml, hown, hts⟩ (c_X2_greatestWear l D cA _ (Ad 0) (f 0) (va_P_l hP) ) (cwV 0 hts gX4_count_X2_greatestWear rfl rfl rfl (by decide +kernel) ⟨Nat.le_of_ble_eq_true rfl, Nat.le_of_ble_eq_true rfl⟩) hKN hP rfl rfl rfl hl.1 rfl (lv_room (Nat.le_of_ble_eq_true rfl)) dX4_count_111 ⟨Nat.zero_le _, Nat.zero_le _⟩ ?_
    exact mu_iret hx hb hr hlocks dX4_count_114 hAe hS hWP rfl
  · refine lz_top (v := 7) rfl ?_
    refine lv_tableIn (tgt := 115) (off := 114) hx hb dX4_count_1 (by decide) (by decide) rfl (by decide) ?_
    refine lv_aload_n hx hb dX4_count_115 rfl (lv_at hl 0 rfl) ?_
    refine mu_Vw (ci := 4) (q0 := 0) (As := []) (rest := []) ⟨hx, hb, hml, hown, hts⟩ (c_X4_pairsTellingTheSame l D cA _ Ad f o z tx rt hWP (hWD.weaken (fun _ _ _ _ => trivial))) (cwV 0 hts gX4_count_X4_pairsTellingTheSame rfl rfl rfl (by decide +kernel) ⟨Nat.le_of_ble_eq_true rfl, Nat.le_of_ble_eq_true rfl⟩) hKN hWP hWD hS hA (lw_fP 10 (by decide) hWP : va_P D vwCl ((wLm cA Ad rt) ++ (rst cA Ad (f, ((nI o), (nI z)), tx, rt) 10)) s.heap) rfl rfl (all_fst _ _ _ _) rfl hl.1 rfl (lv_room (Nat.le_of_ble_eq_true rfl)) dX4_count_116 ⟨Nat.zero_le _, Nat.zero_le _⟩ (fun H locs hWP hWD hS => ?_)
    have hWP : va_P D vwCl (all cA Ad (f, ((nI o), (nI z)), tx, (rt.1, (wtT (f 0) rt.2 16)))) H := hWP
    have hWD : va_D A (all cA Ad (f, ((nI o), (nI z)), tx, (rt.1, (wtT (f 0) rt.2 16)))) := hWD
    refine lz_top (v := (ptT (f 0) rt.2 16)) rfl ?_
    exact mu_iret hx hb hr hlocks dX4_count_119 hAe hS hWP rfl
  · refine lz_top (v := 8) rfl ?_
    refine lv_tableIn (tgt := 120) (off := 119) hx hb dX4_count_1 (by decide) (by decide) rfl (by decide) ?_
    refine lv_aload_n hx hb dX4_count_120 rfl (lv_at hl 0 rfl) ?_
    have hP : va_P D vwCl ((wLm cA Ad rt) ++ (rst cA Ad (f, ((nI o), (nI z)), tx, rt) 10)) s.heap := lw_fP 10 (by decide) hWP
    have hD : va_D A ((wLm cA Ad rt) ++ (rst cA Ad (f, ((nI o), (nI z)), tx, rt) 10)) := lw_fD 10 (by decide) hWD
    refine va_get (D := D) (ci := 4) (v := .ref (Ad 0 0)) (C := RX4) (T := TX4) (N := 7) hx hb hts iX4_count_X4 hown hK hP 0 rfl rfl 0 (by decide) (hts _ mX4_count_f10) (fun _ h9 => h9) rfl dX4_count_121 ?_
    have hP : va_P D vwCl ((wSt cA (Ad 0) (f 0)) ++ (rst cA Ad (f, ((nI o), (nI z)), tx, rt) 0)) s.heap := lw_fP 0 (by decide) hWP
    have hD : va_D A ((wSt cA (Ad 0) (f 0)) ++ (rst cA Ad (f, ((nI o), (nI z)), tx, rt) 0)) := lw_fD 0 (by decide) hWD
    refine ro_V (ci := 2) (q0 := 0) (As := []) (rest := []) ⟨hx, hb, hml, hown, hts⟩ (c_X2_fewestUnlikeBits l D cA _ (Ad 0) (f 0) (va_P_l hP) ) (cwV 0 hts gX4_count_X2_fewestUnlikeBits rfl rfl rfl (by decide +kernel) ⟨Nat.le_of_ble_eq_true rfl, Nat.le_of_ble_eq_true rfl⟩) hKN hP rfl rfl rfl hl.1 rfl (lv_room (Nat.le_of_ble_eq_true rfl)) dX4_count_124 ⟨Nat.zero_le _, Nat.zero_le _⟩ ?_
    exact mu_iret hx hb hr hlocks dX4_count_127 hAe hS hWP rfl
  · refine lz_top (v := 9) rfl ?_
    refine lv_tableIn (tgt := 128) (off := 127) hx hb dX4_count_1 (by decide) (by decide) rfl (by decide) ?_
    refine lv_aload_n hx hb dX4_count_128 rfl (lv_at hl 0 rfl) ?_
    have hP : va_P D vwCl ((wLm cA Ad rt) ++ (rst cA Ad (f, ((nI o), (nI z)), tx, rt) 10)) s.heap := lw_fP 10 (by decide) hWP
    have hD : va_D A ((wLm cA Ad rt) ++ (rst cA Ad (f, ((nI o), (nI z)), tx, rt) 10)) := lw_fD 10 (by decide) hWD
    refine va_get (D := D) (ci := 4) (v := .ref (Ad 11 0)) (C := RX4) (T := TX4) (N := 7) hx hb hts iX4_count_X4 hown hK hP 0 rfl rfl 2 (by decide) (hts _ mX4_count_f22) (fun _ h9 => h9) rfl dX4_count_129 ?_
    have hP : va_P D vwCl ((wPa cA Ad ((nI o), (nI z))) ++ (rst cA Ad (f, ((nI o), (nI z)), tx, rt) 11)) s.heap := lw_fP 11 (by decide) hWP
    have hD : va_D A ((wPa cA Ad ((nI o), (nI z))) ++ (rst cA Ad (f, ((nI o), (nI z)), tx, rt) 11)) := lw_fD 11 (by decide) hWD
    refine va_get (D := D) (ci := 1) (v := .int (nI z)) (C := RX1) (T := TX1) (N := 3) hx hb hts iX4_count_X1 hown hK hP 0 rfl rfl 2 (by decide) (hts _ mX4_count_f178) (fun _ h9 => h9) rfl dX4_count_132 ?_
    exact mu_iret hx hb hr hlocks dX4_count_135 hAe hS hWP rfl
theorem mX4_bestGuard_f16 : Cond.fieldLink RX4 16 "WireLoom" "trial" "LWireLoom$State;" ∈ wsX4_bestGuard := by decide +kernel
theorem mX4_bestGuard_f10 : Cond.fieldLink RX4 10 "WireLoom" "now" "LWireLoom$State;" ∈ wsX4_bestGuard := by decide +kernel
theorem mX4_bestGuard_f88 : Cond.fieldLink RX4 88 "WireLoom$State" "guarded" "I" ∈ wsX4_bestGuard := by decide +kernel
set_option maxRecDepth 20000 in
theorem iX4_bestGuard_X2 : ∀ w ∈ wsX20, w ∈ wsX4_bestGuard := by decide +kernel
set_option maxRecDepth 20000 in
theorem iX4_bestGuard_X4 : ∀ w ∈ wsX40, w ∈ wsX4_bestGuard := by decide +kernel
set_option maxHeartbeats 4000000 in
set_option maxRecDepth 100000 in
theorem c_X4_bestGuard (l : Launch) (D : va_G) (cA : Nat → ClassId) (H : Heap) (Ad : Nat → Nat → Nat) (f : Nat → SV) (o z : Nat) (tx : TV) (rt : (Nat → Int32) × (Nat → Int32)) (hz : (f 0).2.2.2.2.2.2.2.2.2.2.2.1 = 0 ∨ (f 0).2.2.2.2.2.2.2.2.2.2.2.1 = 1) (hP0 : va_P D vwCl (all cA Ad (f, ((nI o), (nI z)), tx, rt)) H) (hD0 : va_D (fun _ => True) (all cA Ad (f, ((nI o), (nI z)), tx, rt))) : MU l yX4_bestGuard wsX4_bestGuard ({ frames := 4, cells := 0, slots := 0, locals := 95 } : Room) D cA [.ref (Ad 10 0)] H (all cA Ad (f, ((nI o), (nI z)), tx, rt)) (all cA Ad (upS f 1 (setGd (f 0) (bgT (f 0) 16).2.2), ((nI o), (nI z)), tx, rt)) (some (.int ((bgT (f 0) 16).1))) := by
  refine Met.ofW (cc := cX4_bestGuard) (maxL := 5) (ret := (some .int)) (by decide) rfl ?_
  intro p e s m args below meth c s₁ B hml hv
  obtain ⟨rfl, hH, hKN⟩ := hv
  have hK := hKN.1
  have hx := B.exec
  have hb := B.bytes
  have hr := B.returns
  have hts := atoms_spec (ws := wsX4_bestGuard) B.pre
  have hown : s.vm.findClass RX4 = some m.cls := findClass_of_methodNamed B.named
  have hlocks := B.notSynchronized
  subst hH
  have hWD := hD0.self (sz := s.heap.size)
  generalize hAe : va_A (all cA Ad (f, ((nI o), (nI z)), tx, rt)) s.heap.size = A at hWD ⊢
  have hA : ∀ q : Nat, s.heap.size ≤ q → A q := fun q h => by rw [← hAe]; exact Or.inr h
  have hS : va_S A s.heap s.heap [] := va_S.rf
  have hWP : va_P D vwCl (all cA Ad (f, ((nI o), (nI z)), tx, rt)) s.heap := hP0
  have hl := lv_entry ([.ref (Ad 10 0)] : List Value) (n := 5) (Nat.le_of_ble_eq_true rfl)
  rw [lg_entry_eq]
  generalize (lg_sl ([.ref (Ad 10 0)] : List Value) ++ List.replicate (5 - (lg_sl ([.ref (Ad 10 0)] : List Value)).length) Slot.unset).toArray = ls at hl ⊢
  have hl : lv_has ls 5 [(0, .ref (Ad 10 0))] := hl
  refine lv_iconst (v := (-1)) hx hb dX4_bestGuard_0 (by decide) ?_
  refine lv_istore_n (lv' := [(1, .int (-1)), (0, .ref (Ad 10 0))]) hx hb dX4_bestGuard_1 rfl hl (by decide) rfl (fun ls hl => ?_)
  refine lv_iconst (v := (-1)) hx hb dX4_bestGuard_2 (by decide) ?_
  refine lv_istore_n (lv' := [(2, .int (-1)), (1, .int (-1)), (0, .ref (Ad 10 0))]) hx hb dX4_bestGuard_3 rfl hl (by decide) rfl (fun ls hl => ?_)
  refine lv_aload_n hx hb dX4_bestGuard_4 rfl (lv_at hl 2 rfl) ?_
  have hP : va_P D vwCl ((wLm cA Ad rt) ++ (rst cA Ad (f, ((nI o), (nI z)), tx, rt) 10)) s.heap := lw_fP 10 (by decide) hWP
  have hD : va_D A ((wLm cA Ad rt) ++ (rst cA Ad (f, ((nI o), (nI z)), tx, rt) 10)) := lw_fD 10 (by decide) hWD
  refine va_get (D := D) (ci := 4) (v := .ref (Ad 1 0)) (C := RX4) (T := TX4) (N := 7) hx hb hts iX4_bestGuard_X4 hown hK hP 0 rfl rfl 1 (by decide) (hts _ mX4_bestGuard_f16) (fun _ h9 => h9) rfl dX4_bestGuard_5 ?_
  refine lv_aload_n hx hb dX4_bestGuard_8 rfl (lv_at hl 2 rfl) ?_
  refine va_get (D := D) (ci := 4) (v := .ref (Ad 0 0)) (C := RX4) (T := TX4) (N := 7) hx hb hts iX4_bestGuard_X4 hown hK hP 0 rfl rfl 0 (by decide) (hts _ mX4_bestGuard_f10) (fun _ h9 => h9) rfl dX4_bestGuard_9 ?_
  have hP : va_P D vwCl (((wSt cA (Ad 1) (f 1)) ++ (wSt cA (Ad 0) (f 0))) ++ (rst2 cA Ad (f, ((nI o), (nI z)), tx, rt) 1 0)) s.heap := lw_fP2 1 0 (by decide) hWP
  have hD : va_D A (((wSt cA (Ad 1) (f 1)) ++ (wSt cA (Ad 0) (f 0))) ++ (rst2 cA Ad (f, ((nI o), (nI z)), tx, rt) 1 0)) := lw_fD2 1 0 (by decide) hWD
  refine mu_Va (ci := 2) (q0 := 0) (As := [.ref (Ad 0 0)]) (rest := []) ⟨hx, hb, hml, hown, hts⟩ (c_X2_become l D cA _ (Ad 1) (Ad 0) (f 1) (f 0) hz (va_P_l hP) (va_D_l hD)) (cwV 1 hts gX4_bestGuard_X2_become rfl rfl rfl (by decide +kernel) ⟨Nat.le_of_ble_eq_true rfl, Nat.le_of_ble_eq_true rfl⟩) hKN hP hD hS hA rfl rfl (fst_app ((wSt_fst _ _ _).trans (wSt_fst _ _ _).symm) ((wSt_fst _ _ _).trans (wSt_fst _ _ _).symm)) rfl hl.1 rfl (lv_room (Nat.le_of_ble_eq_true rfl)) dX4_bestGuard_12 ⟨Nat.zero_le _, Nat.zero_le _⟩ (fun H locs hP hD hS => ?_)
  have hP : va_P D vwCl (((wSt cA (Ad 1) (f 0)) ++ (wSt cA (Ad 0) (f 0))) ++ (rst2 cA Ad (f, ((nI o), (nI z)), tx, rt) 1 0)) H := hP
  have hD : va_D A (((wSt cA (Ad 1) (f 0)) ++ (wSt cA (Ad 0) (f 0))) ++ (rst2 cA Ad (f, ((nI o), (nI z)), tx, rt) 1 0)) := hD
  refine lv_iconst (v := 0) hx hb dX4_bestGuard_15 (by decide) ?_
  refine lv_istore_n (lv' := [(3, .int 0), (2, .int (-1)), (1, .int (-1)), (0, .ref (Ad 10 0))]) hx hb dX4_bestGuard_16 rfl hl (by decide) rfl (fun ls hl => ?_)
  have hWP : va_P D vwCl (all cA Ad ((upS f 1 (f 0)), ((nI o), (nI z)), tx, rt)) H := lw_uP2 1 0 ((upS f 1 (f 0)), ((nI o), (nI z)), tx, rt) (by decide) (bc_st 1 _ (by decide)) hP
  have hWD : va_D A (all cA Ad ((upS f 1 (f 0)), ((nI o), (nI z)), tx, rt)) := lw_uD2 1 0 ((upS f 1 (f 0)), ((nI o), (nI z)), tx, rt) (by decide) (bc_st 1 _ (by decide)) hD
  have loop17 : ∀ (n17 k17 : Nat), k17 + n17 = 16 → ∀ (H : Heap) (locs : List Loc), va_P D vwCl (all cA Ad ((upS (upS f 1 (f 0)) 1 (setGd (f 0) (bgT (f 0) k17).2.2)), ((nI o), (nI z)), tx, rt)) H → va_D A (all cA Ad ((upS (upS f 1 (f 0)) 1 (setGd (f 0) (bgT (f 0) k17).2.2)), ((nI o), (nI z)), tx, rt)) → va_S A s.heap H locs → ∀ (ls : Array Slot), lv_has ls 5 [(3, .int (nI k17)), (2, .int ((bgT (f 0) k17).2.1)), (1, .int ((bgT (f 0) k17).1)), (0, .ref (Ad 10 0))] → W p l e ({ frames := 4, cells := 0, slots := 0, locals := 95 } : Room) s m ([.ref (Ad 10 0)] : List Value).toArray below meth c H locs 0 0 (MQ below (muQ D s.heap (all cA Ad (f, ((nI o), (nI z)), tx, rt)) (all cA Ad (upS f 1 (setGd (f 0) (bgT (f 0) 16).2.2), ((nI o), (nI z)), tx, rt)) (some (.int ((bgT (f 0) 16).1)))) ([.ref (Ad 10 0)] : List Value).toArray s 0 0 A) (F0 m 17 ls []) := by
    intro n17
    induction n17 with
    | zero =>
      intro k17 hk17 H locs hWP hWD hS ls hl
      obtain rfl : 16 = k17 := by omega
      refine lv_iload_n hx hb dX4_bestGuard_17 rfl (lv_at hl 0 rfl) ?_
      refine lv_bipush (v := 16) hx hb dX4_bestGuard_18 (by decide) ?_
      refine lv_icmp_ge (tgt := 81) hx hb dX4_bestGuard_20 (by decide) (fun _ => ?_) (fun h => absurd (by decide) h)
      refine lv_iload_n hx hb dX4_bestGuard_81 rfl (lv_at hl 2 rfl) ?_
      exact mu_iret hx hb hr hlocks dX4_bestGuard_82 hAe hS (by rw [upS_upS] at hWP; exact hWP) rfl
    | succ n17 ih17 =>
      intro k17 hk17 H locs hWP hWD hS ls hl
      have hlt17 : k17 < 16 := by omega
      refine lv_iload_n hx hb dX4_bestGuard_17 rfl (lv_at hl 0 rfl) ?_
      refine lv_bipush (v := 16) hx hb dX4_bestGuard_18 (by decide) ?_
      refine lv_icmp_ge (tgt := 81) hx hb dX4_bestGuard_20 (by decide) (fun h => absurd h (nI_ge hlt17 (by first | decide | omega))) (fun _ => ?_)
      refine lv_aload_n hx hb dX4_bestGuard_23 rfl (lv_at hl 3 rfl) ?_
      have hP : va_P D vwCl ((wLm cA Ad rt) ++ (rst cA Ad ((upS (upS f 1 (f 0)) 1 (setGd (f 0) (bgT (f 0) k17).2.2)), ((nI o), (nI z)), tx, rt) 10)) H := lw_fP 10 (by decide) hWP
      have hD : va_D A ((wLm cA Ad rt) ++ (rst cA Ad ((upS (upS f 1 (f 0)) 1 (setGd (f 0) (bgT (f 0) k17).2.2)), ((nI o), (nI z)), tx, rt) 10)) := lw_fD 10 (by decide) hWD
      refine va_get (D := D) (ci := 4) (v := .ref (Ad 0 0)) (C := RX4) (T := TX4) (N := 7) hx hb hts iX4_bestGuard_X4 hown hK hP 0 rfl rfl 0 (by decide) (hts _ mX4_bestGuard_f10) (fun _ h9 => h9) rfl dX4_bestGuard_24 ?_
      have hP : va_P D vwCl ((wSt cA (Ad 0) (f 0)) ++ (rst cA Ad ((upS (upS f 1 (f 0)) 1 (setGd (f 0) (bgT (f 0) k17).2.2)), ((nI o), (nI z)), tx, rt) 0)) H := lw_fP 0 (by decide) hWP
      have hD : va_D A ((wSt cA (Ad 0) (f 0)) ++ (rst cA Ad ((upS (upS f 1 (f 0)) 1 (setGd (f 0) (bgT (f 0) k17).2.2)), ((nI o), (nI z)), tx, rt) 0)) := lw_fD 0 (by decide) hWD
      refine va_get (D := D) (ci := 2) (v := .int ((f 0).2.2.2.2.1)) (C := RX2) (T := TX2) (N := 8) hx hb hts iX4_bestGuard_X2 hown hK hP 0 rfl rfl 5 (by decide) (hts _ mX4_bestGuard_f88) (fun _ h9 => h9) rfl dX4_bestGuard_27 ?_
      refine lv_iload_n hx hb dX4_bestGuard_30 rfl (lv_at hl 0 rfl) ?_
      refine ro_S (As := [.int ((f 0).2.2.2.2.1), .int (nI k17)]) (rest := []) ⟨hx, hb, hml, hown, hts⟩ (c_X4_bit l D cA _ ((f 0).2.2.2.2.1) (nI k17)) (cwS2 2 hts gX4_bestGuard_X4_bit rfl rfl rfl (by decide +kernel) ⟨Nat.le_of_ble_eq_true rfl, Nat.le_of_ble_eq_true rfl⟩) hKN rfl hl.1 rfl (lv_room (Nat.le_of_ble_eq_true rfl)) dX4_bestGuard_31 ⟨Nat.zero_le _, Nat.zero_le _⟩ ?_
      refine lv_if_ne (tgt := 75) hx hb dX4_bestGuard_34 (by decide) (fun c_34 => ?_) (fun c_34 => ?_)
      · refine lv_iinc (v := (nI (k17 + 1))) (lv' := [(3, .int (nI (k17 + 1))), (2, .int ((bgT (f 0) k17).2.1)), (1, .int ((bgT (f 0) k17).1)), (0, .ref (Ad 10 0))]) hx hb dX4_bestGuard_75 hl (k := 0) rfl (nI_1 _) (by decide) rfl (fun ls hl => ?_)
        refine lv_goto (tgt := 17) hx hb dX4_bestGuard_78 (by decide) ?_
        have e_1 : (bgT (f 0) (k17 + 1)).1 = (bgT (f 0) k17).1 := by rw [bgT_succ] <;> simp only [c_34, if_true, if_false]
        have e_2 : (bgT (f 0) (k17 + 1)).2.1 = (bgT (f 0) k17).2.1 := by rw [bgT_succ] <;> simp only [c_34, if_true, if_false]
        have e_3 : (((upS (upS f 1 (f 0)) 1 (setGd (f 0) (bgT (f 0) (k17 + 1)).2.2)), ((nI o), (nI z)), tx, rt) : LV) = ((upS (upS f 1 (f 0)) 1 (setGd (f 0) (bgT (f 0) k17).2.2)), ((nI o), (nI z)), tx, rt) := by rw [bgT_succ] <;> simp only [c_34, if_true, if_false, upS_upS]
        exact ih17 (k17 + 1) (by omega) _ _ (by rw [e_3]; exact hWP) (by rw [e_3]; exact hWD) hS ls (by rw [e_1, e_2]; exact (lv_sub hl [0, 1, 2, 3] rfl))
      · refine lv_aload_n hx hb dX4_bestGuard_37 rfl (lv_at hl 3 rfl) ?_
        have hP : va_P D vwCl ((wLm cA Ad rt) ++ (rst cA Ad ((upS (upS f 1 (f 0)) 1 (setGd (f 0) (bgT (f 0) k17).2.2)), ((nI o), (nI z)), tx, rt) 10)) H := lw_fP 10 (by decide) hWP
        have hD : va_D A ((wLm cA Ad rt) ++ (rst cA Ad ((upS (upS f 1 (f 0)) 1 (setGd (f 0) (bgT (f 0) k17).2.2)), ((nI o), (nI z)), tx, rt) 10)) := lw_fD 10 (by decide) hWD
        refine va_get (D := D) (ci := 4) (v := .ref (Ad 1 0)) (C := RX4) (T := TX4) (N := 7) hx hb hts iX4_bestGuard_X4 hown hK hP 0 rfl rfl 1 (by decide) (hts _ mX4_bestGuard_f16) (fun _ h9 => h9) rfl dX4_bestGuard_38 ?_
        refine lv_aload_n hx hb dX4_bestGuard_41 rfl (lv_at hl 3 rfl) ?_
        refine va_get (D := D) (ci := 4) (v := .ref (Ad 0 0)) (C := RX4) (T := TX4) (N := 7) hx hb hts iX4_bestGuard_X4 hown hK hP 0 rfl rfl 0 (by decide) (hts _ mX4_bestGuard_f10) (fun _ h9 => h9) rfl dX4_bestGuard_42 ?_
        have hP : va_P D vwCl ((wSt cA (Ad 0) (f 0)) ++ (rst cA Ad ((upS (upS f 1 (f 0)) 1 (setGd (f 0) (bgT (f 0) k17).2.2)), ((nI o), (nI z)), tx, rt) 0)) H := lw_fP 0 (by decide) hWP
        have hD : va_D A ((wSt cA (Ad 0) (f 0)) ++ (rst cA Ad ((upS (upS f 1 (f 0)) 1 (setGd (f 0) (bgT (f 0) k17).2.2)), ((nI o), (nI z)), tx, rt) 0)) := lw_fD 0 (by decide) hWD
        refine va_get (D := D) (ci := 2) (v := .int ((f 0).2.2.2.2.1)) (C := RX2) (T := TX2) (N := 8) hx hb hts iX4_bestGuard_X2 hown hK hP 0 rfl rfl 5 (by decide) (hts _ mX4_bestGuard_f88) (fun _ h9 => h9) rfl dX4_bestGuard_45 ?_
        refine lv_iconst (v := 1) hx hb dX4_bestGuard_48 (by decide) ?_
        refine lv_iload_n hx hb dX4_bestGuard_49 rfl (lv_at hl 0 rfl) ?_
        refine lv_ishl hx hb dX4_bestGuard_50 ?_
        refine lv_ior hx hb dX4_bestGuard_51 ?_
        have hP : va_P D vwCl ((wSt cA (Ad 1) (setGd (f 0) (bgT (f 0) k17).2.2)) ++ (rst cA Ad ((upS (upS f 1 (f 0)) 1 (setGd (f 0) (bgT (f 0) k17).2.2)), ((nI o), (nI z)), tx, rt) 1)) H := lw_fP 1 (by decide) hWP
        have hD : va_D A ((wSt cA (Ad 1) (setGd (f 0) (bgT (f 0) k17).2.2)) ++ (rst cA Ad ((upS (upS f 1 (f 0)) 1 (setGd (f 0) (bgT (f 0) k17).2.2)), ((nI o), (nI z)), tx, rt) 1)) := lw_fD 1 (by decide) hWD
        refine va_put (D := D) (ci := 2) (v := .int ((f 0).2.2.2.2.1 ||| (1 <<< ((nI k17) &&& 31)))) (ty := .int) (C := RX2) (T := TX2) (N := 8) hx hb hts iX4_bestGuard_X2 tyX2 tyX2_ok nmX2 hown hK hP hD hS 0 rfl rfl 5 (by decide) (hts _ mX4_bestGuard_f88) (fun _ h9 => h9) rfl (by decide +kernel) rfl rfl (Nat.le_of_ble_eq_true rfl) dX4_bestGuard_52 (fun H locs hP hD hS => ?_)
        have hP : va_P D vwCl ((wSt cA (Ad 1) (setGd (f 0) ((f 0).2.2.2.2.1 ||| (1 <<< (nI k17 &&& 31))))) ++ (rst cA Ad ((upS (upS f 1 (f 0)) 1 (setGd (f 0) (bgT (f 0) k17).2.2)), ((nI o), (nI z)), tx, rt) 1)) H := hP
        have hD : va_D A ((wSt cA (Ad 1) (setGd (f 0) ((f 0).2.2.2.2.1 ||| (1 <<< (nI k17 &&& 31))))) ++ (rst cA Ad ((upS (upS f 1 (f 0)) 1 (setGd (f 0) (bgT (f 0) k17).2.2)), ((nI o), (nI z)), tx, rt) 1)) := hD
        refine lv_aload_n hx hb dX4_bestGuard_55 rfl (lv_at hl 3 rfl) ?_
        have hWP : va_P D vwCl (all cA Ad ((upS (upS (upS f 1 (f 0)) 1 (setGd (f 0) (bgT (f 0) k17).2.2)) 1 (setGd (f 0) ((f 0).2.2.2.2.1 ||| (1 <<< (nI k17 &&& 31))))), ((nI o), (nI z)), tx, rt)) H := lw_uP 1 ((upS (upS (upS f 1 (f 0)) 1 (setGd (f 0) (bgT (f 0) k17).2.2)) 1 (setGd (f 0) ((f 0).2.2.2.2.1 ||| (1 <<< (nI k17 &&& 31))))), ((nI o), (nI z)), tx, rt) (by decide) (bc_st 1 _ (by decide)) hP
        have hWD : va_D A (all cA Ad ((upS (upS (upS f 1 (f 0)) 1 (setGd (f 0) (bgT (f 0) k17).2.2)) 1 (setGd (f 0) ((f 0).2.2.2.2.1 ||| (1 <<< (nI k17 &&& 31))))), ((nI o), (nI z)), tx, rt)) := lw_uD 1 ((upS (upS (upS f 1 (f 0)) 1 (setGd (f 0) (bgT (f 0) k17).2.2)) 1 (setGd (f 0) ((f 0).2.2.2.2.1 ||| (1 <<< (nI k17 &&& 31))))), ((nI o), (nI z)), tx, rt) (by decide) (bc_st 1 _ (by decide)) hD
        have hP : va_P D vwCl ((wLm cA Ad rt) ++ (rst cA Ad ((upS (upS (upS f 1 (f 0)) 1 (setGd (f 0) (bgT (f 0) k17).2.2)) 1 (setGd (f 0) ((f 0).2.2.2.2.1 ||| (1 <<< (nI k17 &&& 31))))), ((nI o), (nI z)), tx, rt) 10)) H := lw_fP 10 (by decide) hWP
        have hD : va_D A ((wLm cA Ad rt) ++ (rst cA Ad ((upS (upS (upS f 1 (f 0)) 1 (setGd (f 0) (bgT (f 0) k17).2.2)) 1 (setGd (f 0) ((f 0).2.2.2.2.1 ||| (1 <<< (nI k17 &&& 31))))), ((nI o), (nI z)), tx, rt) 10)) := lw_fD 10 (by decide) hWD
        refine va_get (D := D) (ci := 4) (v := .ref (Ad 1 0)) (C := RX4) (T := TX4) (N := 7) hx hb hts iX4_bestGuard_X4 hown hK hP 0 rfl rfl 1 (by decide) (hts _ mX4_bestGuard_f16) (fun _ h9 => h9) rfl dX4_bestGuard_56 ?_
        have hP : va_P D vwCl ((wSt cA (Ad 1) (setGd (f 0) ((f 0).2.2.2.2.1 ||| (1 <<< (nI k17 &&& 31))))) ++ (rst cA Ad ((upS (upS (upS f 1 (f 0)) 1 (setGd (f 0) (bgT (f 0) k17).2.2)) 1 (setGd (f 0) ((f 0).2.2.2.2.1 ||| (1 <<< (nI k17 &&& 31))))), ((nI o), (nI z)), tx, rt) 1)) H := lw_fP 1 (by decide) hWP
        have hD : va_D A ((wSt cA (Ad 1) (setGd (f 0) ((f 0).2.2.2.2.1 ||| (1 <<< (nI k17 &&& 31))))) ++ (rst cA Ad ((upS (upS (upS f 1 (f 0)) 1 (setGd (f 0) (bgT (f 0) k17).2.2)) 1 (setGd (f 0) ((f 0).2.2.2.2.1 ||| (1 <<< (nI k17 &&& 31))))), ((nI o), (nI z)), tx, rt) 1)) := lw_fD 1 (by decide) hWD
        refine ro_V (ci := 2) (q0 := 0) (As := []) (rest := []) ⟨hx, hb, hml, hown, hts⟩ (c_X2_threadsRight l D cA _ (Ad 1) (setGd (f 0) ((f 0).2.2.2.2.1 ||| (1 <<< (nI k17 &&& 31)))) (va_P_l hP) ) (cwV 0 hts gX4_bestGuard_X2_threadsRight rfl rfl rfl (by decide +kernel) ⟨Nat.le_of_ble_eq_true rfl, Nat.le_of_ble_eq_true rfl⟩) hKN hP rfl rfl rfl hl.1 rfl (lv_room (Nat.le_of_ble_eq_true rfl)) dX4_bestGuard_59 ⟨Nat.zero_le _, Nat.zero_le _⟩ ?_
        refine lv_istore (lv' := [(4, .int (rightT (setGd (f 0) ((f 0).2.2.2.2.1 ||| (1 <<< (nI k17 &&& 31)))) 16)), (3, .int (nI k17)), (2, .int ((bgT (f 0) k17).2.1)), (1, .int ((bgT (f 0) k17).1)), (0, .ref (Ad 10 0))]) hx hb dX4_bestGuard_62 hl (by decide) rfl (fun ls hl => ?_)
        refine lv_iload hx hb dX4_bestGuard_64 (lv_at hl 0 rfl) ?_
        refine lv_iload_n hx hb dX4_bestGuard_66 rfl (lv_at hl 2 rfl) ?_
        refine lv_icmp_le (tgt := 75) hx hb dX4_bestGuard_67 (by decide) (fun c_67 => ?_) (fun c_67 => ?_)
        · refine lv_iinc (v := (nI (k17 + 1))) (lv' := [(3, .int (nI (k17 + 1))), (4, .int (rightT (setGd (f 0) ((f 0).2.2.2.2.1 ||| (1 <<< (nI k17 &&& 31)))) 16)), (2, .int ((bgT (f 0) k17).2.1)), (1, .int ((bgT (f 0) k17).1)), (0, .ref (Ad 10 0))]) hx hb dX4_bestGuard_75 hl (k := 1) rfl (nI_1 _) (by decide) rfl (fun ls hl => ?_)
          refine lv_goto (tgt := 17) hx hb dX4_bestGuard_78 (by decide) ?_
          have e_4 : (bgT (f 0) (k17 + 1)).1 = (bgT (f 0) k17).1 := by rw [bgT_succ] <;> simp only [c_34, c_67, if_true, if_false]
          have e_5 : (bgT (f 0) (k17 + 1)).2.1 = (bgT (f 0) k17).2.1 := by rw [bgT_succ] <;> simp only [c_34, c_67, if_true, if_false]
          have e_6 : (((upS (upS f 1 (f 0)) 1 (setGd (f 0) (bgT (f 0) (k17 + 1)).2.2)), ((nI o), (nI z)), tx, rt) : LV) = ((upS (upS (upS f 1 (f 0)) 1 (setGd (f 0) (bgT (f 0) k17).2.2)) 1 (setGd (f 0) ((f 0).2.2.2.2.1 ||| (1 <<< (nI k17 &&& 31))))), ((nI o), (nI z)), tx, rt) := by rw [bgT_succ] <;> simp only [c_34, c_67, if_true, if_false, upS_upS]
          exact ih17 (k17 + 1) (by omega) _ _ (by rw [e_6]; exact hWP) (by rw [e_6]; exact hWD) hS ls (by rw [e_4, e_5]; exact (lv_sub hl [0, 2, 3, 4] rfl))
        · refine lv_iload_n hx hb dX4_bestGuard_70 rfl (lv_at hl 1 rfl) ?_
          refine lv_istore_n (lv' := [(1, .int (nI k17)), (4, .int (rightT (setGd (f 0) ((f 0).2.2.2.2.1 ||| (1 <<< (nI k17 &&& 31)))) 16)), (3, .int (nI k17)), (2, .int ((bgT (f 0) k17).2.1)), (0, .ref (Ad 10 0))]) hx hb dX4_bestGuard_71 rfl hl (by decide) rfl (fun ls hl => ?_)
          refine lv_iload hx hb dX4_bestGuard_72 (lv_at hl 1 rfl) ?_
          refine lv_istore_n (lv' := [(2, .int (rightT (setGd (f 0) ((f 0).2.2.2.2.1 ||| (1 <<< (nI k17 &&& 31)))) 16)), (1, .int (nI k17)), (4, .int (rightT (setGd (f 0) ((f 0).2.2.2.2.1 ||| (1 <<< (nI k17 &&& 31)))) 16)), (3, .int (nI k17)), (0, .ref (Ad 10 0))]) hx hb dX4_bestGuard_74 rfl hl (by decide) rfl (fun ls hl => ?_)
          refine lv_iinc (v := (nI (k17 + 1))) (lv' := [(3, .int (nI (k17 + 1))), (2, .int (rightT (setGd (f 0) ((f 0).2.2.2.2.1 ||| (1 <<< (nI k17 &&& 31)))) 16)), (1, .int (nI k17)), (4, .int (rightT (setGd (f 0) ((f 0).2.2.2.2.1 ||| (1 <<< (nI k17 &&& 31)))) 16)), (0, .ref (Ad 10 0))]) hx hb dX4_bestGuard_75 hl (k := 3) rfl (nI_1 _) (by decide) rfl (fun ls hl => ?_)
          refine lv_goto (tgt := 17) hx hb dX4_bestGuard_78 (by decide) ?_
          have e_7 : (bgT (f 0) (k17 + 1)).1 = (nI k17) := by rw [bgT_succ] <;> simp only [c_34, c_67, if_true, if_false]
          have e_8 : (bgT (f 0) (k17 + 1)).2.1 = (rightT (setGd (f 0) ((f 0).2.2.2.2.1 ||| (1 <<< (nI k17 &&& 31)))) 16) := by rw [bgT_succ] <;> simp only [c_34, c_67, if_true, if_false]
          have e_9 : (((upS (upS f 1 (f 0)) 1 (setGd (f 0) (bgT (f 0) (k17 + 1)).2.2)), ((nI o), (nI z)), tx, rt) : LV) = ((upS (upS (upS f 1 (f 0)) 1 (setGd (f 0) (bgT (f 0) k17).2.2)) 1 (setGd (f 0) ((f 0).2.2.2.2.1 ||| (1 <<< (nI k17 &&& 31))))), ((nI o), (nI z)), tx, rt) := by rw [bgT_succ] <;> simp only [c_34, c_67, if_true, if_false, upS_upS]
          exact ih17 (k17 + 1) (by omega) _ _ (by rw [e_9]; exact hWP) (by rw [e_9]; exact hWD) hS ls (by rw [e_7, e_8]; exact (lv_sub hl [0, 1, 2, 4] rfl))
  exact loop17 16 0 (by omega) _ _ hWP hWD hS ls (lv_sub hl [0, 1, 2, 3] rfl)
theorem mX4_ifGone_f16 : Cond.fieldLink RX4 16 "WireLoom" "trial" "LWireLoom$State;" ∈ wsX4_ifGone := by decide +kernel
theorem mX4_ifGone_f10 : Cond.fieldLink RX4 10 "WireLoom" "now" "LWireLoom$State;" ∈ wsX4_ifGone := by decide +kernel
set_option maxRecDepth 20000 in
theorem iX4_ifGone_X4 : ∀ w ∈ wsX40, w ∈ wsX4_ifGone := by decide +kernel
set_option maxHeartbeats 4000000 in
set_option maxRecDepth 100000 in
theorem c_X4_ifGone0 (l : Launch) (D : va_G) (cA : Nat → ClassId) (H : Heap) (Ad : Nat → Nat → Nat) (f : Nat → SV) (o z : Nat) (tx : TV) (rt : (Nat → Int32) × (Nat → Int32)) (hz : (f 0).2.2.2.2.2.2.2.2.2.2.2.1 = 0 ∨ (f 0).2.2.2.2.2.2.2.2.2.2.2.1 = 1) (hpo : PlOk (f 0)) (N : Nat) (hN1 : 1 ≤ N) (hN : N ≤ 99) (hP0 : va_P D vwCl (all cA Ad (f, ((nI o), (nI z)), tx, rt)) H) (hD0 : va_D (fun _ => True) (all cA Ad (f, ((nI o), (nI z)), tx, rt))) : MU l yX4_ifGone wsX4_ifGone ({ frames := 6, cells := 0, slots := 0, locals := 139 } : Room) D cA [.ref (Ad 10 0), .int (nI N), .int 0] H (all cA Ad (f, ((nI o), (nI z)), tx, rt)) (all cA Ad (upS f 1 (runS N (f 0)).2, ((nI o), (nI z)), tx, rt)) (some (.int (goneS (f 0) N 0))) := by
  refine Met.ofW (cc := cX4_ifGone) (maxL := 4) (ret := (some .int)) (by decide) rfl ?_
  intro p e s m args below meth c s₁ B hml hv
  obtain ⟨rfl, hH, hKN⟩ := hv
  have hK := hKN.1
  have hx := B.exec
  have hb := B.bytes
  have hr := B.returns
  have hts := atoms_spec (ws := wsX4_ifGone) B.pre
  have hown : s.vm.findClass RX4 = some m.cls := findClass_of_methodNamed B.named
  have hlocks := B.notSynchronized
  subst hH
  have hWD := hD0.self (sz := s.heap.size)
  generalize hAe : va_A (all cA Ad (f, ((nI o), (nI z)), tx, rt)) s.heap.size = A at hWD ⊢
  have hA : ∀ q : Nat, s.heap.size ≤ q → A q := fun q h => by rw [← hAe]; exact Or.inr h
  have hS : va_S A s.heap s.heap [] := va_S.rf
  have hWP : va_P D vwCl (all cA Ad (f, ((nI o), (nI z)), tx, rt)) s.heap := hP0
  have hl := lv_entry ([.ref (Ad 10 0), .int (nI N), .int 0] : List Value) (n := 4) (Nat.le_of_ble_eq_true rfl)
  rw [lg_entry_eq]
  generalize (lg_sl ([.ref (Ad 10 0), .int (nI N), .int 0] : List Value) ++ List.replicate (4 - (lg_sl ([.ref (Ad 10 0), .int (nI N), .int 0] : List Value)).length) Slot.unset).toArray = ls at hl ⊢
  have hl : lv_has ls 4 [(0, .ref (Ad 10 0)), (1, .int (nI N)), (2, .int 0)] := hl
  refine lv_iload_n hx hb dX4_ifGone_0 rfl (lv_at hl 1 rfl) ?_
  refine lv_iconst (v := 1) hx hb dX4_ifGone_1 (by decide) ?_
  refine lv_bipush (v := 99) hx hb dX4_ifGone_2 (by decide) ?_
  refine ro_S (As := [.int (nI N), .int 1, .int 99]) (rest := []) ⟨hx, hb, hml, hown, hts⟩ (c_X4_isWithin l D cA _ (nI N) 1 99) (cwS2 3 hts gX4_ifGone_X4_isWithin rfl rfl rfl (by decide +kernel) ⟨Nat.le_of_ble_eq_true rfl, Nat.le_of_ble_eq_true rfl⟩) hKN rfl hl.1 rfl (lv_room (Nat.le_of_ble_eq_true rfl)) dX4_ifGone_4 ⟨Nat.zero_le _, Nat.zero_le _⟩ ?_
  refine lz_top (v := 1) (inF_ok (k := N) (a := 1) (b := 99) (by omega) (by omega) (by decide)) ?_
  refine lv_if_eq (tgt := 19) hx hb dX4_ifGone_7 (by decide) (fun h => absurd h (by decide)) (fun _ => ?_)
  refine lv_iload_n hx hb dX4_ifGone_10 rfl (lv_at hl 2 rfl) ?_
  refine lv_iconst (v := 0) hx hb dX4_ifGone_11 (by decide) ?_
  refine lv_iconst (v := 3) hx hb dX4_ifGone_12 (by decide) ?_
  refine ro_S (As := [.int 0, .int 0, .int 3]) (rest := []) ⟨hx, hb, hml, hown, hts⟩ (c_X4_isWithin l D cA _ 0 0 3) (cwS2 3 hts gX4_ifGone_X4_isWithin rfl rfl rfl (by decide +kernel) ⟨Nat.le_of_ble_eq_true rfl, Nat.le_of_ble_eq_true rfl⟩) hKN rfl hl.1 rfl (lv_room (Nat.le_of_ble_eq_true rfl)) dX4_ifGone_13 ⟨Nat.zero_le _, Nat.zero_le _⟩ ?_
  refine lz_top (v := 1) (inF_ok (k := 0) (a := 0) (b := 3) (by omega) (by omega) (by decide)) ?_
  refine lv_if_ne (tgt := 30) hx hb dX4_ifGone_16 (by decide) (fun _ => ?_) (fun h => absurd h (by decide))
  refine lv_aload_n hx hb dX4_ifGone_30 rfl (lv_at hl 0 rfl) ?_
  have hP : va_P D vwCl ((wLm cA Ad rt) ++ (rst cA Ad (f, ((nI o), (nI z)), tx, rt) 10)) s.heap := lw_fP 10 (by decide) hWP
  have hD : va_D A ((wLm cA Ad rt) ++ (rst cA Ad (f, ((nI o), (nI z)), tx, rt) 10)) := lw_fD 10 (by decide) hWD
  refine va_get (D := D) (ci := 4) (v := .ref (Ad 1 0)) (C := RX4) (T := TX4) (N := 7) hx hb hts iX4_ifGone_X4 hown hK hP 0 rfl rfl 1 (by decide) (hts _ mX4_ifGone_f16) (fun _ h9 => h9) rfl dX4_ifGone_31 ?_
  refine lv_aload_n hx hb dX4_ifGone_34 rfl (lv_at hl 0 rfl) ?_
  refine va_get (D := D) (ci := 4) (v := .ref (Ad 0 0)) (C := RX4) (T := TX4) (N := 7) hx hb hts iX4_ifGone_X4 hown hK hP 0 rfl rfl 0 (by decide) (hts _ mX4_ifGone_f10) (fun _ h9 => h9) rfl dX4_ifGone_35 ?_
  have hP : va_P D vwCl (((wSt cA (Ad 1) (f 1)) ++ (wSt cA (Ad 0) (f 0))) ++ (rst2 cA Ad (f, ((nI o), (nI z)), tx, rt) 1 0)) s.heap := lw_fP2 1 0 (by decide) hWP
  have hD : va_D A (((wSt cA (Ad 1) (f 1)) ++ (wSt cA (Ad 0) (f 0))) ++ (rst2 cA Ad (f, ((nI o), (nI z)), tx, rt) 1 0)) := lw_fD2 1 0 (by decide) hWD
  refine mu_Va (ci := 2) (q0 := 0) (As := [.ref (Ad 0 0)]) (rest := []) ⟨hx, hb, hml, hown, hts⟩ (c_X2_become l D cA _ (Ad 1) (Ad 0) (f 1) (f 0) hz (va_P_l hP) (va_D_l hD)) (cwV 1 hts gX4_ifGone_X2_become rfl rfl rfl (by decide +kernel) ⟨Nat.le_of_ble_eq_true rfl, Nat.le_of_ble_eq_true rfl⟩) hKN hP hD hS hA rfl rfl (fst_app ((wSt_fst _ _ _).trans (wSt_fst _ _ _).symm) ((wSt_fst _ _ _).trans (wSt_fst _ _ _).symm)) rfl hl.1 rfl (lv_room (Nat.le_of_ble_eq_true rfl)) dX4_ifGone_38 ⟨Nat.zero_le _, Nat.zero_le _⟩ (fun H locs hP hD hS => ?_)
  have hP : va_P D vwCl (((wSt cA (Ad 1) (f 0)) ++ (wSt cA (Ad 0) (f 0))) ++ (rst2 cA Ad (f, ((nI o), (nI z)), tx, rt) 1 0)) H := hP
  have hD : va_D A (((wSt cA (Ad 1) (f 0)) ++ (wSt cA (Ad 0) (f 0))) ++ (rst2 cA Ad (f, ((nI o), (nI z)), tx, rt) 1 0)) := hD
  refine lv_aload_n hx hb dX4_ifGone_41 rfl (lv_at hl 0 rfl) ?_
  have hWP : va_P D vwCl (all cA Ad ((upS f 1 (f 0)), ((nI o), (nI z)), tx, rt)) H := lw_uP2 1 0 ((upS f 1 (f 0)), ((nI o), (nI z)), tx, rt) (by decide) (bc_st 1 _ (by decide)) hP
  have hWD : va_D A (all cA Ad ((upS f 1 (f 0)), ((nI o), (nI z)), tx, rt)) := lw_uD2 1 0 ((upS f 1 (f 0)), ((nI o), (nI z)), tx, rt) (by decide) (bc_st 1 _ (by decide)) hD
  have hP : va_P D vwCl ((wLm cA Ad rt) ++ (rst cA Ad ((upS f 1 (f 0)), ((nI o), (nI z)), tx, rt) 10)) H := lw_fP 10 (by decide) hWP
  have hD : va_D A ((wLm cA Ad rt) ++ (rst cA Ad ((upS f 1 (f 0)), ((nI o), (nI z)), tx, rt) 10)) := lw_fD 10 (by decide) hWD
  refine va_get (D := D) (ci := 4) (v := .ref (Ad 1 0)) (C := RX4) (T := TX4) (N := 7) hx hb hts iX4_ifGone_X4 hown hK hP 0 rfl rfl 1 (by decide) (hts _ mX4_ifGone_f16) (fun _ h9 => h9) rfl dX4_ifGone_42 ?_
  refine lv_iload_n hx hb dX4_ifGone_45 rfl (lv_at hl 1 rfl) ?_
  have hP : va_P D vwCl ((wSt cA (Ad 1) (f 0)) ++ (rst cA Ad ((upS f 1 (f 0)), ((nI o), (nI z)), tx, rt) 1)) H := lw_fP 1 (by decide) hWP
  have hD : va_D A ((wSt cA (Ad 1) (f 0)) ++ (rst cA Ad ((upS f 1 (f 0)), ((nI o), (nI z)), tx, rt) 1)) := lw_fD 1 (by decide) hWD
  refine mu_Va (ci := 2) (q0 := 0) (As := [.int (nI N)]) (rest := []) ⟨hx, hb, hml, hown, hts⟩ (c_X2_run l D cA _ (Ad 1) (f 0) N (by omega) hpo (va_P_l hP) (va_D_l hD)) (cwV 1 hts gX4_ifGone_X2_run rfl rfl rfl (by decide +kernel) ⟨Nat.le_of_ble_eq_true rfl, Nat.le_of_ble_eq_true rfl⟩) hKN hP hD hS hA rfl rfl ((wSt_fst _ _ _).trans (wSt_fst _ _ _).symm) rfl hl.1 rfl (lv_room (Nat.le_of_ble_eq_true rfl)) dX4_ifGone_46 ⟨Nat.zero_le _, Nat.zero_le _⟩ (fun H locs hP hD hS => ?_)
  have hP : va_P D vwCl ((wSt cA (Ad 1) (((runS N (f 0)).2).1, ((runS N (f 0)).2).2.1, ((runS N (f 0)).2).2.2.1, ((runS N (f 0)).2).2.2.2.1, ((runS N (f 0)).2).2.2.2.2.1, ((runS N (f 0)).2).2.2.2.2.2.1, ((runS N (f 0)).2).2.2.2.2.2.2.1, ((runS N (f 0)).2).2.2.2.2.2.2.2.1, ((runS N (f 0)).2).2.2.2.2.2.2.2.2.1, ((runS N (f 0)).2).2.2.2.2.2.2.2.2.2.1, ((runS N (f 0)).2).2.2.2.2.2.2.2.2.2.2.1, ((runS N (f 0)).2).2.2.2.2.2.2.2.2.2.2.2.1, ((runS N (f 0)).2).2.2.2.2.2.2.2.2.2.2.2.2.1, ((runS N (f 0)).2).2.2.2.2.2.2.2.2.2.2.2.2.2)) ++ (rst cA Ad ((upS f 1 (f 0)), ((nI o), (nI z)), tx, rt) 1)) H := hP
  have hD : va_D A ((wSt cA (Ad 1) (((runS N (f 0)).2).1, ((runS N (f 0)).2).2.1, ((runS N (f 0)).2).2.2.1, ((runS N (f 0)).2).2.2.2.1, ((runS N (f 0)).2).2.2.2.2.1, ((runS N (f 0)).2).2.2.2.2.2.1, ((runS N (f 0)).2).2.2.2.2.2.2.1, ((runS N (f 0)).2).2.2.2.2.2.2.2.1, ((runS N (f 0)).2).2.2.2.2.2.2.2.2.1, ((runS N (f 0)).2).2.2.2.2.2.2.2.2.2.1, ((runS N (f 0)).2).2.2.2.2.2.2.2.2.2.2.1, ((runS N (f 0)).2).2.2.2.2.2.2.2.2.2.2.2.1, ((runS N (f 0)).2).2.2.2.2.2.2.2.2.2.2.2.2.1, ((runS N (f 0)).2).2.2.2.2.2.2.2.2.2.2.2.2.2)) ++ (rst cA Ad ((upS f 1 (f 0)), ((nI o), (nI z)), tx, rt) 1)) := hD
  refine lv_istore_n (lv' := [(3, .int (nI (runS N (f 0)).1)), (0, .ref (Ad 10 0)), (1, .int (nI N)), (2, .int 0)]) hx hb dX4_ifGone_49 rfl hl (by decide) rfl (fun ls hl => ?_)
  refine lv_iload_n hx hb dX4_ifGone_50 rfl (lv_at hl 3 rfl) ?_
  refine lv_tableIn (tgt := 76) (off := 25) hx hb dX4_ifGone_51 (by decide) (by decide) rfl (by decide) ?_
  refine lv_iload_n hx hb dX4_ifGone_76 rfl (lv_at hl 0 rfl) ?_
  have hWP : va_P D vwCl (all cA Ad ((upS (upS f 1 (f 0)) 1 (((runS N (f 0)).2).1, ((runS N (f 0)).2).2.1, ((runS N (f 0)).2).2.2.1, ((runS N (f 0)).2).2.2.2.1, ((runS N (f 0)).2).2.2.2.2.1, ((runS N (f 0)).2).2.2.2.2.2.1, ((runS N (f 0)).2).2.2.2.2.2.2.1, ((runS N (f 0)).2).2.2.2.2.2.2.2.1, ((runS N (f 0)).2).2.2.2.2.2.2.2.2.1, ((runS N (f 0)).2).2.2.2.2.2.2.2.2.2.1, ((runS N (f 0)).2).2.2.2.2.2.2.2.2.2.2.1, ((runS N (f 0)).2).2.2.2.2.2.2.2.2.2.2.2.1, ((runS N (f 0)).2).2.2.2.2.2.2.2.2.2.2.2.2.1, ((runS N (f 0)).2).2.2.2.2.2.2.2.2.2.2.2.2.2)), ((nI o), (nI z)), tx, rt)) H := lw_uP 1 ((upS (upS f 1 (f 0)) 1 (((runS N (f 0)).2).1, ((runS N (f 0)).2).2.1, ((runS N (f 0)).2).2.2.1, ((runS N (f 0)).2).2.2.2.1, ((runS N (f 0)).2).2.2.2.2.1, ((runS N (f 0)).2).2.2.2.2.2.1, ((runS N (f 0)).2).2.2.2.2.2.2.1, ((runS N (f 0)).2).2.2.2.2.2.2.2.1, ((runS N (f 0)).2).2.2.2.2.2.2.2.2.1, ((runS N (f 0)).2).2.2.2.2.2.2.2.2.2.1, ((runS N (f 0)).2).2.2.2.2.2.2.2.2.2.2.1, ((runS N (f 0)).2).2.2.2.2.2.2.2.2.2.2.2.1, ((runS N (f 0)).2).2.2.2.2.2.2.2.2.2.2.2.2.1, ((runS N (f 0)).2).2.2.2.2.2.2.2.2.2.2.2.2.2)), ((nI o), (nI z)), tx, rt) (by decide) (bc_st 1 _ (by decide)) hP
  have hWD : va_D A (all cA Ad ((upS (upS f 1 (f 0)) 1 (((runS N (f 0)).2).1, ((runS N (f 0)).2).2.1, ((runS N (f 0)).2).2.2.1, ((runS N (f 0)).2).2.2.2.1, ((runS N (f 0)).2).2.2.2.2.1, ((runS N (f 0)).2).2.2.2.2.2.1, ((runS N (f 0)).2).2.2.2.2.2.2.1, ((runS N (f 0)).2).2.2.2.2.2.2.2.1, ((runS N (f 0)).2).2.2.2.2.2.2.2.2.1, ((runS N (f 0)).2).2.2.2.2.2.2.2.2.2.1, ((runS N (f 0)).2).2.2.2.2.2.2.2.2.2.2.1, ((runS N (f 0)).2).2.2.2.2.2.2.2.2.2.2.2.1, ((runS N (f 0)).2).2.2.2.2.2.2.2.2.2.2.2.2.1, ((runS N (f 0)).2).2.2.2.2.2.2.2.2.2.2.2.2.2)), ((nI o), (nI z)), tx, rt)) := lw_uD 1 ((upS (upS f 1 (f 0)) 1 (((runS N (f 0)).2).1, ((runS N (f 0)).2).2.1, ((runS N (f 0)).2).2.2.1, ((runS N (f 0)).2).2.2.2.1, ((runS N (f 0)).2).2.2.2.2.1, ((runS N (f 0)).2).2.2.2.2.2.1, ((runS N (f 0)).2).2.2.2.2.2.2.1, ((runS N (f 0)).2).2.2.2.2.2.2.2.1, ((runS N (f 0)).2).2.2.2.2.2.2.2.2.1, ((runS N (f 0)).2).2.2.2.2.2.2.2.2.2.1, ((runS N (f 0)).2).2.2.2.2.2.2.2.2.2.2.1, ((runS N (f 0)).2).2.2.2.2.2.2.2.2.2.2.2.1, ((runS N (f 0)).2).2.2.2.2.2.2.2.2.2.2.2.2.1, ((runS N (f 0)).2).2.2.2.2.2.2.2.2.2.2.2.2.2)), ((nI o), (nI z)), tx, rt) (by decide) (bc_st 1 _ (by decide)) hD
  exact mu_iret hx hb hr hlocks dX4_ifGone_77 hAe hS (by rw [upS_upS] at hWP; exact hWP) rfl
theorem mX4_ifGone_f110 : Cond.fieldLink RX4 110 "WireLoom$State" "machine" "LWireLoom$Machine;" ∈ wsX4_ifGone := by decide +kernel
theorem mX4_ifGone_f227 : Cond.fieldLink RX4 227 "WireLoom$Machine" "count" "I" ∈ wsX4_ifGone := by decide +kernel
set_option maxRecDepth 20000 in
theorem iX4_ifGone_X0 : ∀ w ∈ wsX00, w ∈ wsX4_ifGone := by decide +kernel
set_option maxRecDepth 20000 in
theorem iX4_ifGone_X2 : ∀ w ∈ wsX20, w ∈ wsX4_ifGone := by decide +kernel
set_option maxHeartbeats 4000000 in
set_option maxRecDepth 100000 in
theorem c_X4_ifGone1 (l : Launch) (D : va_G) (cA : Nat → ClassId) (H : Heap) (Ad : Nat → Nat → Nat) (f : Nat → SV) (o z : Nat) (tx : TV) (rt : (Nat → Int32) × (Nat → Int32)) (hz : (f 0).2.2.2.2.2.2.2.2.2.2.2.1 = 0 ∨ (f 0).2.2.2.2.2.2.2.2.2.2.2.1 = 1) (hpo : PlOk (f 0)) (N : Nat) (hN1 : 1 ≤ N) (hN : N ≤ 99) (hP0 : va_P D vwCl (all cA Ad (f, ((nI o), (nI z)), tx, rt)) H) (hD0 : va_D (fun _ => True) (all cA Ad (f, ((nI o), (nI z)), tx, rt))) : MU l yX4_ifGone wsX4_ifGone ({ frames := 6, cells := 0, slots := 0, locals := 139 } : Room) D cA [.ref (Ad 10 0), .int (nI N), .int 1] H (all cA Ad (f, ((nI o), (nI z)), tx, rt)) (all cA Ad (upS f 1 (runS N (f 0)).2, ((nI o), (nI z)), tx, rt)) (some (.int (goneS (f 0) N 1))) := by
  refine Met.ofW (cc := cX4_ifGone) (maxL := 4) (ret := (some .int)) (by decide) rfl ?_
  intro p e s m args below meth c s₁ B hml hv
  obtain ⟨rfl, hH, hKN⟩ := hv
  have hK := hKN.1
  have hx := B.exec
  have hb := B.bytes
  have hr := B.returns
  have hts := atoms_spec (ws := wsX4_ifGone) B.pre
  have hown : s.vm.findClass RX4 = some m.cls := findClass_of_methodNamed B.named
  have hlocks := B.notSynchronized
  subst hH
  have hWD := hD0.self (sz := s.heap.size)
  generalize hAe : va_A (all cA Ad (f, ((nI o), (nI z)), tx, rt)) s.heap.size = A at hWD ⊢
  have hA : ∀ q : Nat, s.heap.size ≤ q → A q := fun q h => by rw [← hAe]; exact Or.inr h
  have hS : va_S A s.heap s.heap [] := va_S.rf
  have hWP : va_P D vwCl (all cA Ad (f, ((nI o), (nI z)), tx, rt)) s.heap := hP0
  have hl := lv_entry ([.ref (Ad 10 0), .int (nI N), .int 1] : List Value) (n := 4) (Nat.le_of_ble_eq_true rfl)
  rw [lg_entry_eq]
  generalize (lg_sl ([.ref (Ad 10 0), .int (nI N), .int 1] : List Value) ++ List.replicate (4 - (lg_sl ([.ref (Ad 10 0), .int (nI N), .int 1] : List Value)).length) Slot.unset).toArray = ls at hl ⊢
  have hl : lv_has ls 4 [(0, .ref (Ad 10 0)), (1, .int (nI N)), (2, .int 1)] := hl
  refine lv_iload_n hx hb dX4_ifGone_0 rfl (lv_at hl 1 rfl) ?_
  refine lv_iconst (v := 1) hx hb dX4_ifGone_1 (by decide) ?_
  refine lv_bipush (v := 99) hx hb dX4_ifGone_2 (by decide) ?_
  refine ro_S (As := [.int (nI N), .int 1, .int 99]) (rest := []) ⟨hx, hb, hml, hown, hts⟩ (c_X4_isWithin l D cA _ (nI N) 1 99) (cwS2 3 hts gX4_ifGone_X4_isWithin rfl rfl rfl (by decide +kernel) ⟨Nat.le_of_ble_eq_true rfl, Nat.le_of_ble_eq_true rfl⟩) hKN rfl hl.1 rfl (lv_room (Nat.le_of_ble_eq_true rfl)) dX4_ifGone_4 ⟨Nat.zero_le _, Nat.zero_le _⟩ ?_
  refine lz_top (v := 1) (inF_ok (k := N) (a := 1) (b := 99) (by omega) (by omega) (by decide)) ?_
  refine lv_if_eq (tgt := 19) hx hb dX4_ifGone_7 (by decide) (fun h => absurd h (by decide)) (fun _ => ?_)
  refine lv_iload_n hx hb dX4_ifGone_10 rfl (lv_at hl 2 rfl) ?_
  refine lv_iconst (v := 0) hx hb dX4_ifGone_11 (by decide) ?_
  refine lv_iconst (v := 3) hx hb dX4_ifGone_12 (by decide) ?_
  refine ro_S (As := [.int 1, .int 0, .int 3]) (rest := []) ⟨hx, hb, hml, hown, hts⟩ (c_X4_isWithin l D cA _ 1 0 3) (cwS2 3 hts gX4_ifGone_X4_isWithin rfl rfl rfl (by decide +kernel) ⟨Nat.le_of_ble_eq_true rfl, Nat.le_of_ble_eq_true rfl⟩) hKN rfl hl.1 rfl (lv_room (Nat.le_of_ble_eq_true rfl)) dX4_ifGone_13 ⟨Nat.zero_le _, Nat.zero_le _⟩ ?_
  refine lz_top (v := 1) (inF_ok (k := 1) (a := 0) (b := 3) (by omega) (by omega) (by decide)) ?_
  refine lv_if_ne (tgt := 30) hx hb dX4_ifGone_16 (by decide) (fun _ => ?_) (fun h => absurd h (by decide))
  refine lv_aload_n hx hb dX4_ifGone_30 rfl (lv_at hl 0 rfl) ?_
  have hP : va_P D vwCl ((wLm cA Ad rt) ++ (rst cA Ad (f, ((nI o), (nI z)), tx, rt) 10)) s.heap := lw_fP 10 (by decide) hWP
  have hD : va_D A ((wLm cA Ad rt) ++ (rst cA Ad (f, ((nI o), (nI z)), tx, rt) 10)) := lw_fD 10 (by decide) hWD
  refine va_get (D := D) (ci := 4) (v := .ref (Ad 1 0)) (C := RX4) (T := TX4) (N := 7) hx hb hts iX4_ifGone_X4 hown hK hP 0 rfl rfl 1 (by decide) (hts _ mX4_ifGone_f16) (fun _ h9 => h9) rfl dX4_ifGone_31 ?_
  refine lv_aload_n hx hb dX4_ifGone_34 rfl (lv_at hl 0 rfl) ?_
  refine va_get (D := D) (ci := 4) (v := .ref (Ad 0 0)) (C := RX4) (T := TX4) (N := 7) hx hb hts iX4_ifGone_X4 hown hK hP 0 rfl rfl 0 (by decide) (hts _ mX4_ifGone_f10) (fun _ h9 => h9) rfl dX4_ifGone_35 ?_
  have hP : va_P D vwCl (((wSt cA (Ad 1) (f 1)) ++ (wSt cA (Ad 0) (f 0))) ++ (rst2 cA Ad (f, ((nI o), (nI z)), tx, rt) 1 0)) s.heap := lw_fP2 1 0 (by decide) hWP
  have hD : va_D A (((wSt cA (Ad 1) (f 1)) ++ (wSt cA (Ad 0) (f 0))) ++ (rst2 cA Ad (f, ((nI o), (nI z)), tx, rt) 1 0)) := lw_fD2 1 0 (by decide) hWD
  refine mu_Va (ci := 2) (q0 := 0) (As := [.ref (Ad 0 0)]) (rest := []) ⟨hx, hb, hml, hown, hts⟩ (c_X2_become l D cA _ (Ad 1) (Ad 0) (f 1) (f 0) hz (va_P_l hP) (va_D_l hD)) (cwV 1 hts gX4_ifGone_X2_become rfl rfl rfl (by decide +kernel) ⟨Nat.le_of_ble_eq_true rfl, Nat.le_of_ble_eq_true rfl⟩) hKN hP hD hS hA rfl rfl (fst_app ((wSt_fst _ _ _).trans (wSt_fst _ _ _).symm) ((wSt_fst _ _ _).trans (wSt_fst _ _ _).symm)) rfl hl.1 rfl (lv_room (Nat.le_of_ble_eq_true rfl)) dX4_ifGone_38 ⟨Nat.zero_le _, Nat.zero_le _⟩ (fun H locs hP hD hS => ?_)
  have hP : va_P D vwCl (((wSt cA (Ad 1) (f 0)) ++ (wSt cA (Ad 0) (f 0))) ++ (rst2 cA Ad (f, ((nI o), (nI z)), tx, rt) 1 0)) H := hP
  have hD : va_D A (((wSt cA (Ad 1) (f 0)) ++ (wSt cA (Ad 0) (f 0))) ++ (rst2 cA Ad (f, ((nI o), (nI z)), tx, rt) 1 0)) := hD
  refine lv_aload_n hx hb dX4_ifGone_41 rfl (lv_at hl 0 rfl) ?_
  have hWP : va_P D vwCl (all cA Ad ((upS f 1 (f 0)), ((nI o), (nI z)), tx, rt)) H := lw_uP2 1 0 ((upS f 1 (f 0)), ((nI o), (nI z)), tx, rt) (by decide) (bc_st 1 _ (by decide)) hP
  have hWD : va_D A (all cA Ad ((upS f 1 (f 0)), ((nI o), (nI z)), tx, rt)) := lw_uD2 1 0 ((upS f 1 (f 0)), ((nI o), (nI z)), tx, rt) (by decide) (bc_st 1 _ (by decide)) hD
  have hP : va_P D vwCl ((wLm cA Ad rt) ++ (rst cA Ad ((upS f 1 (f 0)), ((nI o), (nI z)), tx, rt) 10)) H := lw_fP 10 (by decide) hWP
  have hD : va_D A ((wLm cA Ad rt) ++ (rst cA Ad ((upS f 1 (f 0)), ((nI o), (nI z)), tx, rt) 10)) := lw_fD 10 (by decide) hWD
  refine va_get (D := D) (ci := 4) (v := .ref (Ad 1 0)) (C := RX4) (T := TX4) (N := 7) hx hb hts iX4_ifGone_X4 hown hK hP 0 rfl rfl 1 (by decide) (hts _ mX4_ifGone_f16) (fun _ h9 => h9) rfl dX4_ifGone_42 ?_
  refine lv_iload_n hx hb dX4_ifGone_45 rfl (lv_at hl 1 rfl) ?_
  have hP : va_P D vwCl ((wSt cA (Ad 1) (f 0)) ++ (rst cA Ad ((upS f 1 (f 0)), ((nI o), (nI z)), tx, rt) 1)) H := lw_fP 1 (by decide) hWP
  have hD : va_D A ((wSt cA (Ad 1) (f 0)) ++ (rst cA Ad ((upS f 1 (f 0)), ((nI o), (nI z)), tx, rt) 1)) := lw_fD 1 (by decide) hWD
  refine mu_Va (ci := 2) (q0 := 0) (As := [.int (nI N)]) (rest := []) ⟨hx, hb, hml, hown, hts⟩ (c_X2_run l D cA _ (Ad 1) (f 0) N (by omega) hpo (va_P_l hP) (va_D_l hD)) (cwV 1 hts gX4_ifGone_X2_run rfl rfl rfl (by decide +kernel) ⟨Nat.le_of_ble_eq_true rfl, Nat.le_of_ble_eq_true rfl⟩) hKN hP hD hS hA rfl rfl ((wSt_fst _ _ _).trans (wSt_fst _ _ _).symm) rfl hl.1 rfl (lv_room (Nat.le_of_ble_eq_true rfl)) dX4_ifGone_46 ⟨Nat.zero_le _, Nat.zero_le _⟩ (fun H locs hP hD hS => ?_)
  have hP : va_P D vwCl ((wSt cA (Ad 1) (((runS N (f 0)).2).1, ((runS N (f 0)).2).2.1, ((runS N (f 0)).2).2.2.1, ((runS N (f 0)).2).2.2.2.1, ((runS N (f 0)).2).2.2.2.2.1, ((runS N (f 0)).2).2.2.2.2.2.1, ((runS N (f 0)).2).2.2.2.2.2.2.1, ((runS N (f 0)).2).2.2.2.2.2.2.2.1, ((runS N (f 0)).2).2.2.2.2.2.2.2.2.1, ((runS N (f 0)).2).2.2.2.2.2.2.2.2.2.1, ((runS N (f 0)).2).2.2.2.2.2.2.2.2.2.2.1, ((runS N (f 0)).2).2.2.2.2.2.2.2.2.2.2.2.1, ((runS N (f 0)).2).2.2.2.2.2.2.2.2.2.2.2.2.1, ((runS N (f 0)).2).2.2.2.2.2.2.2.2.2.2.2.2.2)) ++ (rst cA Ad ((upS f 1 (f 0)), ((nI o), (nI z)), tx, rt) 1)) H := hP
  have hD : va_D A ((wSt cA (Ad 1) (((runS N (f 0)).2).1, ((runS N (f 0)).2).2.1, ((runS N (f 0)).2).2.2.1, ((runS N (f 0)).2).2.2.2.1, ((runS N (f 0)).2).2.2.2.2.1, ((runS N (f 0)).2).2.2.2.2.2.1, ((runS N (f 0)).2).2.2.2.2.2.2.1, ((runS N (f 0)).2).2.2.2.2.2.2.2.1, ((runS N (f 0)).2).2.2.2.2.2.2.2.2.1, ((runS N (f 0)).2).2.2.2.2.2.2.2.2.2.1, ((runS N (f 0)).2).2.2.2.2.2.2.2.2.2.2.1, ((runS N (f 0)).2).2.2.2.2.2.2.2.2.2.2.2.1, ((runS N (f 0)).2).2.2.2.2.2.2.2.2.2.2.2.2.1, ((runS N (f 0)).2).2.2.2.2.2.2.2.2.2.2.2.2.2)) ++ (rst cA Ad ((upS f 1 (f 0)), ((nI o), (nI z)), tx, rt) 1)) := hD
  refine lv_istore_n (lv' := [(3, .int (nI (runS N (f 0)).1)), (0, .ref (Ad 10 0)), (1, .int (nI N)), (2, .int 1)]) hx hb dX4_ifGone_49 rfl hl (by decide) rfl (fun ls hl => ?_)
  refine lv_iload_n hx hb dX4_ifGone_50 rfl (lv_at hl 3 rfl) ?_
  refine lv_tableIn (tgt := 78) (off := 27) hx hb dX4_ifGone_51 (by decide) (by decide) rfl (by decide) ?_
  refine lv_aload_n hx hb dX4_ifGone_78 rfl (lv_at hl 1 rfl) ?_
  have hWP : va_P D vwCl (all cA Ad ((upS (upS f 1 (f 0)) 1 (((runS N (f 0)).2).1, ((runS N (f 0)).2).2.1, ((runS N (f 0)).2).2.2.1, ((runS N (f 0)).2).2.2.2.1, ((runS N (f 0)).2).2.2.2.2.1, ((runS N (f 0)).2).2.2.2.2.2.1, ((runS N (f 0)).2).2.2.2.2.2.2.1, ((runS N (f 0)).2).2.2.2.2.2.2.2.1, ((runS N (f 0)).2).2.2.2.2.2.2.2.2.1, ((runS N (f 0)).2).2.2.2.2.2.2.2.2.2.1, ((runS N (f 0)).2).2.2.2.2.2.2.2.2.2.2.1, ((runS N (f 0)).2).2.2.2.2.2.2.2.2.2.2.2.1, ((runS N (f 0)).2).2.2.2.2.2.2.2.2.2.2.2.2.1, ((runS N (f 0)).2).2.2.2.2.2.2.2.2.2.2.2.2.2)), ((nI o), (nI z)), tx, rt)) H := lw_uP 1 ((upS (upS f 1 (f 0)) 1 (((runS N (f 0)).2).1, ((runS N (f 0)).2).2.1, ((runS N (f 0)).2).2.2.1, ((runS N (f 0)).2).2.2.2.1, ((runS N (f 0)).2).2.2.2.2.1, ((runS N (f 0)).2).2.2.2.2.2.1, ((runS N (f 0)).2).2.2.2.2.2.2.1, ((runS N (f 0)).2).2.2.2.2.2.2.2.1, ((runS N (f 0)).2).2.2.2.2.2.2.2.2.1, ((runS N (f 0)).2).2.2.2.2.2.2.2.2.2.1, ((runS N (f 0)).2).2.2.2.2.2.2.2.2.2.2.1, ((runS N (f 0)).2).2.2.2.2.2.2.2.2.2.2.2.1, ((runS N (f 0)).2).2.2.2.2.2.2.2.2.2.2.2.2.1, ((runS N (f 0)).2).2.2.2.2.2.2.2.2.2.2.2.2.2)), ((nI o), (nI z)), tx, rt) (by decide) (bc_st 1 _ (by decide)) hP
  have hWD : va_D A (all cA Ad ((upS (upS f 1 (f 0)) 1 (((runS N (f 0)).2).1, ((runS N (f 0)).2).2.1, ((runS N (f 0)).2).2.2.1, ((runS N (f 0)).2).2.2.2.1, ((runS N (f 0)).2).2.2.2.2.1, ((runS N (f 0)).2).2.2.2.2.2.1, ((runS N (f 0)).2).2.2.2.2.2.2.1, ((runS N (f 0)).2).2.2.2.2.2.2.2.1, ((runS N (f 0)).2).2.2.2.2.2.2.2.2.1, ((runS N (f 0)).2).2.2.2.2.2.2.2.2.2.1, ((runS N (f 0)).2).2.2.2.2.2.2.2.2.2.2.1, ((runS N (f 0)).2).2.2.2.2.2.2.2.2.2.2.2.1, ((runS N (f 0)).2).2.2.2.2.2.2.2.2.2.2.2.2.1, ((runS N (f 0)).2).2.2.2.2.2.2.2.2.2.2.2.2.2)), ((nI o), (nI z)), tx, rt)) := lw_uD 1 ((upS (upS f 1 (f 0)) 1 (((runS N (f 0)).2).1, ((runS N (f 0)).2).2.1, ((runS N (f 0)).2).2.2.1, ((runS N (f 0)).2).2.2.2.1, ((runS N (f 0)).2).2.2.2.2.1, ((runS N (f 0)).2).2.2.2.2.2.1, ((runS N (f 0)).2).2.2.2.2.2.2.1, ((runS N (f 0)).2).2.2.2.2.2.2.2.1, ((runS N (f 0)).2).2.2.2.2.2.2.2.2.1, ((runS N (f 0)).2).2.2.2.2.2.2.2.2.2.1, ((runS N (f 0)).2).2.2.2.2.2.2.2.2.2.2.1, ((runS N (f 0)).2).2.2.2.2.2.2.2.2.2.2.2.1, ((runS N (f 0)).2).2.2.2.2.2.2.2.2.2.2.2.2.1, ((runS N (f 0)).2).2.2.2.2.2.2.2.2.2.2.2.2.2)), ((nI o), (nI z)), tx, rt) (by decide) (bc_st 1 _ (by decide)) hD
  have hP : va_P D vwCl ((wLm cA Ad rt) ++ (rst cA Ad ((upS (upS f 1 (f 0)) 1 (((runS N (f 0)).2).1, ((runS N (f 0)).2).2.1, ((runS N (f 0)).2).2.2.1, ((runS N (f 0)).2).2.2.2.1, ((runS N (f 0)).2).2.2.2.2.1, ((runS N (f 0)).2).2.2.2.2.2.1, ((runS N (f 0)).2).2.2.2.2.2.2.1, ((runS N (f 0)).2).2.2.2.2.2.2.2.1, ((runS N (f 0)).2).2.2.2.2.2.2.2.2.1, ((runS N (f 0)).2).2.2.2.2.2.2.2.2.2.1, ((runS N (f 0)).2).2.2.2.2.2.2.2.2.2.2.1, ((runS N (f 0)).2).2.2.2.2.2.2.2.2.2.2.2.1, ((runS N (f 0)).2).2.2.2.2.2.2.2.2.2.2.2.2.1, ((runS N (f 0)).2).2.2.2.2.2.2.2.2.2.2.2.2.2)), ((nI o), (nI z)), tx, rt) 10)) H := lw_fP 10 (by decide) hWP
  have hD : va_D A ((wLm cA Ad rt) ++ (rst cA Ad ((upS (upS f 1 (f 0)) 1 (((runS N (f 0)).2).1, ((runS N (f 0)).2).2.1, ((runS N (f 0)).2).2.2.1, ((runS N (f 0)).2).2.2.2.1, ((runS N (f 0)).2).2.2.2.2.1, ((runS N (f 0)).2).2.2.2.2.2.1, ((runS N (f 0)).2).2.2.2.2.2.2.1, ((runS N (f 0)).2).2.2.2.2.2.2.2.1, ((runS N (f 0)).2).2.2.2.2.2.2.2.2.1, ((runS N (f 0)).2).2.2.2.2.2.2.2.2.2.1, ((runS N (f 0)).2).2.2.2.2.2.2.2.2.2.2.1, ((runS N (f 0)).2).2.2.2.2.2.2.2.2.2.2.2.1, ((runS N (f 0)).2).2.2.2.2.2.2.2.2.2.2.2.2.1, ((runS N (f 0)).2).2.2.2.2.2.2.2.2.2.2.2.2.2)), ((nI o), (nI z)), tx, rt) 10)) := lw_fD 10 (by decide) hWD
  refine va_get (D := D) (ci := 4) (v := .ref (Ad 1 0)) (C := RX4) (T := TX4) (N := 7) hx hb hts iX4_ifGone_X4 hown hK hP 0 rfl rfl 1 (by decide) (hts _ mX4_ifGone_f16) (fun _ h9 => h9) rfl dX4_ifGone_79 ?_
  have hP : va_P D vwCl ((wSt cA (Ad 1) (((runS N (f 0)).2).1, ((runS N (f 0)).2).2.1, ((runS N (f 0)).2).2.2.1, ((runS N (f 0)).2).2.2.2.1, ((runS N (f 0)).2).2.2.2.2.1, ((runS N (f 0)).2).2.2.2.2.2.1, ((runS N (f 0)).2).2.2.2.2.2.2.1, ((runS N (f 0)).2).2.2.2.2.2.2.2.1, ((runS N (f 0)).2).2.2.2.2.2.2.2.2.1, ((runS N (f 0)).2).2.2.2.2.2.2.2.2.2.1, ((runS N (f 0)).2).2.2.2.2.2.2.2.2.2.2.1, ((runS N (f 0)).2).2.2.2.2.2.2.2.2.2.2.2.1, ((runS N (f 0)).2).2.2.2.2.2.2.2.2.2.2.2.2.1, ((runS N (f 0)).2).2.2.2.2.2.2.2.2.2.2.2.2.2)) ++ (rst cA Ad ((upS (upS f 1 (f 0)) 1 (((runS N (f 0)).2).1, ((runS N (f 0)).2).2.1, ((runS N (f 0)).2).2.2.1, ((runS N (f 0)).2).2.2.2.1, ((runS N (f 0)).2).2.2.2.2.1, ((runS N (f 0)).2).2.2.2.2.2.1, ((runS N (f 0)).2).2.2.2.2.2.2.1, ((runS N (f 0)).2).2.2.2.2.2.2.2.1, ((runS N (f 0)).2).2.2.2.2.2.2.2.2.1, ((runS N (f 0)).2).2.2.2.2.2.2.2.2.2.1, ((runS N (f 0)).2).2.2.2.2.2.2.2.2.2.2.1, ((runS N (f 0)).2).2.2.2.2.2.2.2.2.2.2.2.1, ((runS N (f 0)).2).2.2.2.2.2.2.2.2.2.2.2.2.1, ((runS N (f 0)).2).2.2.2.2.2.2.2.2.2.2.2.2.2)), ((nI o), (nI z)), tx, rt) 1)) H := lw_fP 1 (by decide) hWP
  have hD : va_D A ((wSt cA (Ad 1) (((runS N (f 0)).2).1, ((runS N (f 0)).2).2.1, ((runS N (f 0)).2).2.2.1, ((runS N (f 0)).2).2.2.2.1, ((runS N (f 0)).2).2.2.2.2.1, ((runS N (f 0)).2).2.2.2.2.2.1, ((runS N (f 0)).2).2.2.2.2.2.2.1, ((runS N (f 0)).2).2.2.2.2.2.2.2.1, ((runS N (f 0)).2).2.2.2.2.2.2.2.2.1, ((runS N (f 0)).2).2.2.2.2.2.2.2.2.2.1, ((runS N (f 0)).2).2.2.2.2.2.2.2.2.2.2.1, ((runS N (f 0)).2).2.2.2.2.2.2.2.2.2.2.2.1, ((runS N (f 0)).2).2.2.2.2.2.2.2.2.2.2.2.2.1, ((runS N (f 0)).2).2.2.2.2.2.2.2.2.2.2.2.2.2)) ++ (rst cA Ad ((upS (upS f 1 (f 0)) 1 (((runS N (f 0)).2).1, ((runS N (f 0)).2).2.1, ((runS N (f 0)).2).2.2.1, ((runS N (f 0)).2).2.2.2.1, ((runS N (f 0)).2).2.2.2.2.1, ((runS N (f 0)).2).2.2.2.2.2.1, ((runS N (f 0)).2).2.2.2.2.2.2.1, ((runS N (f 0)).2).2.2.2.2.2.2.2.1, ((runS N (f 0)).2).2.2.2.2.2.2.2.2.1, ((runS N (f 0)).2).2.2.2.2.2.2.2.2.2.1, ((runS N (f 0)).2).2.2.2.2.2.2.2.2.2.2.1, ((runS N (f 0)).2).2.2.2.2.2.2.2.2.2.2.2.1, ((runS N (f 0)).2).2.2.2.2.2.2.2.2.2.2.2.2.1, ((runS N (f 0)).2).2.2.2.2.2.2.2.2.2.2.2.2.2)), ((nI o), (nI z)), tx, rt) 1)) := lw_fD 1 (by decide) hWD
  refine va_get (D := D) (ci := 2) (v := .ref ((Ad 1) 5)) (C := RX2) (T := TX2) (N := 8) hx hb hts iX4_ifGone_X2 hown hK hP 0 rfl rfl 4 (by decide) (hts _ mX4_ifGone_f110) (fun _ h9 => h9) rfl dX4_ifGone_82 ?_
  refine va_get (D := D) (ci := 0) (v := .int ((((runS N (f 0)).2).1, ((runS N (f 0)).2).2.1, ((runS N (f 0)).2).2.2.1, ((runS N (f 0)).2).2.2.2.1, ((runS N (f 0)).2).2.2.2.2.1, ((runS N (f 0)).2).2.2.2.2.2.1, ((runS N (f 0)).2).2.2.2.2.2.2.1, ((runS N (f 0)).2).2.2.2.2.2.2.2.1, ((runS N (f 0)).2).2.2.2.2.2.2.2.2.1, ((runS N (f 0)).2).2.2.2.2.2.2.2.2.2.1, ((runS N (f 0)).2).2.2.2.2.2.2.2.2.2.2.1, ((runS N (f 0)).2).2.2.2.2.2.2.2.2.2.2.2.1, ((runS N (f 0)).2).2.2.2.2.2.2.2.2.2.2.2.2.1, ((runS N (f 0)).2).2.2.2.2.2.2.2.2.2.2.2.2.2).2.2.2.2.2.2.2.2.2.2.1)) (C := RX0) (T := TX0) (N := 7) hx hb hts iX4_ifGone_X0 hown hK hP 5 rfl rfl 3 (by decide) (hts _ mX4_ifGone_f227) (fun _ h9 => h9) rfl dX4_ifGone_85 ?_
  exact mu_iret hx hb hr hlocks dX4_ifGone_88 hAe hS (by rw [upS_upS] at hWP; exact hWP) rfl
theorem mX4_ifGone_f224 : Cond.fieldLink RX4 224 "WireLoom$Machine" "place" "I" ∈ wsX4_ifGone := by decide +kernel
set_option maxHeartbeats 4000000 in
set_option maxRecDepth 100000 in
theorem c_X4_ifGone2 (l : Launch) (D : va_G) (cA : Nat → ClassId) (H : Heap) (Ad : Nat → Nat → Nat) (f : Nat → SV) (o z : Nat) (tx : TV) (rt : (Nat → Int32) × (Nat → Int32)) (hz : (f 0).2.2.2.2.2.2.2.2.2.2.2.1 = 0 ∨ (f 0).2.2.2.2.2.2.2.2.2.2.2.1 = 1) (hpo : PlOk (f 0)) (N : Nat) (hN1 : 1 ≤ N) (hN : N ≤ 99) (hP0 : va_P D vwCl (all cA Ad (f, ((nI o), (nI z)), tx, rt)) H) (hD0 : va_D (fun _ => True) (all cA Ad (f, ((nI o), (nI z)), tx, rt))) : MU l yX4_ifGone wsX4_ifGone ({ frames := 6, cells := 0, slots := 0, locals := 139 } : Room) D cA [.ref (Ad 10 0), .int (nI N), .int 2] H (all cA Ad (f, ((nI o), (nI z)), tx, rt)) (all cA Ad (upS f 1 (runS N (f 0)).2, ((nI o), (nI z)), tx, rt)) (some (.int (goneS (f 0) N 2))) := by
  refine Met.ofW (cc := cX4_ifGone) (maxL := 4) (ret := (some .int)) (by decide) rfl ?_
  intro p e s m args below meth c s₁ B hml hv
  obtain ⟨rfl, hH, hKN⟩ := hv
  have hK := hKN.1
  have hx := B.exec
  have hb := B.bytes
  have hr := B.returns
  have hts := atoms_spec (ws := wsX4_ifGone) B.pre
  have hown : s.vm.findClass RX4 = some m.cls := findClass_of_methodNamed B.named
  have hlocks := B.notSynchronized
  subst hH
  have hWD := hD0.self (sz := s.heap.size)
  generalize hAe : va_A (all cA Ad (f, ((nI o), (nI z)), tx, rt)) s.heap.size = A at hWD ⊢
  have hA : ∀ q : Nat, s.heap.size ≤ q → A q := fun q h => by rw [← hAe]; exact Or.inr h
  have hS : va_S A s.heap s.heap [] := va_S.rf
  have hWP : va_P D vwCl (all cA Ad (f, ((nI o), (nI z)), tx, rt)) s.heap := hP0
  have hl := lv_entry ([.ref (Ad 10 0), .int (nI N), .int 2] : List Value) (n := 4) (Nat.le_of_ble_eq_true rfl)
  rw [lg_entry_eq]
  generalize (lg_sl ([.ref (Ad 10 0), .int (nI N), .int 2] : List Value) ++ List.replicate (4 - (lg_sl ([.ref (Ad 10 0), .int (nI N), .int 2] : List Value)).length) Slot.unset).toArray = ls at hl ⊢
  have hl : lv_has ls 4 [(0, .ref (Ad 10 0)), (1, .int (nI N)), (2, .int 2)] := hl
  refine lv_iload_n hx hb dX4_ifGone_0 rfl (lv_at hl 1 rfl) ?_
  refine lv_iconst (v := 1) hx hb dX4_ifGone_1 (by decide) ?_
  refine lv_bipush (v := 99) hx hb dX4_ifGone_2 (by decide) ?_
  refine ro_S (As := [.int (nI N), .int 1, .int 99]) (rest := []) ⟨hx, hb, hml, hown, hts⟩ (c_X4_isWithin l D cA _ (nI N) 1 99) (cwS2 3 hts gX4_ifGone_X4_isWithin rfl rfl rfl (by decide +kernel) ⟨Nat.le_of_ble_eq_true rfl, Nat.le_of_ble_eq_true rfl⟩) hKN rfl hl.1 rfl (lv_room (Nat.le_of_ble_eq_true rfl)) dX4_ifGone_4 ⟨Nat.zero_le _, Nat.zero_le _⟩ ?_
  refine lz_top (v := 1) (inF_ok (k := N) (a := 1) (b := 99) (by omega) (by omega) (by decide)) ?_
  refine lv_if_eq (tgt := 19) hx hb dX4_ifGone_7 (by decide) (fun h => absurd h (by decide)) (fun _ => ?_)
  refine lv_iload_n hx hb dX4_ifGone_10 rfl (lv_at hl 2 rfl) ?_
  refine lv_iconst (v := 0) hx hb dX4_ifGone_11 (by decide) ?_
  refine lv_iconst (v := 3) hx hb dX4_ifGone_12 (by decide) ?_
  refine ro_S (As := [.int 2, .int 0, .int 3]) (rest := []) ⟨hx, hb, hml, hown, hts⟩ (c_X4_isWithin l D cA _ 2 0 3) (cwS2 3 hts gX4_ifGone_X4_isWithin rfl rfl rfl (by decide +kernel) ⟨Nat.le_of_ble_eq_true rfl, Nat.le_of_ble_eq_true rfl⟩) hKN rfl hl.1 rfl (lv_room (Nat.le_of_ble_eq_true rfl)) dX4_ifGone_13 ⟨Nat.zero_le _, Nat.zero_le _⟩ ?_
  refine lz_top (v := 1) (inF_ok (k := 2) (a := 0) (b := 3) (by omega) (by omega) (by decide)) ?_
  refine lv_if_ne (tgt := 30) hx hb dX4_ifGone_16 (by decide) (fun _ => ?_) (fun h => absurd h (by decide))
  refine lv_aload_n hx hb dX4_ifGone_30 rfl (lv_at hl 0 rfl) ?_
  have hP : va_P D vwCl ((wLm cA Ad rt) ++ (rst cA Ad (f, ((nI o), (nI z)), tx, rt) 10)) s.heap := lw_fP 10 (by decide) hWP
  have hD : va_D A ((wLm cA Ad rt) ++ (rst cA Ad (f, ((nI o), (nI z)), tx, rt) 10)) := lw_fD 10 (by decide) hWD
  refine va_get (D := D) (ci := 4) (v := .ref (Ad 1 0)) (C := RX4) (T := TX4) (N := 7) hx hb hts iX4_ifGone_X4 hown hK hP 0 rfl rfl 1 (by decide) (hts _ mX4_ifGone_f16) (fun _ h9 => h9) rfl dX4_ifGone_31 ?_
  refine lv_aload_n hx hb dX4_ifGone_34 rfl (lv_at hl 0 rfl) ?_
  refine va_get (D := D) (ci := 4) (v := .ref (Ad 0 0)) (C := RX4) (T := TX4) (N := 7) hx hb hts iX4_ifGone_X4 hown hK hP 0 rfl rfl 0 (by decide) (hts _ mX4_ifGone_f10) (fun _ h9 => h9) rfl dX4_ifGone_35 ?_
  have hP : va_P D vwCl (((wSt cA (Ad 1) (f 1)) ++ (wSt cA (Ad 0) (f 0))) ++ (rst2 cA Ad (f, ((nI o), (nI z)), tx, rt) 1 0)) s.heap := lw_fP2 1 0 (by decide) hWP
  have hD : va_D A (((wSt cA (Ad 1) (f 1)) ++ (wSt cA (Ad 0) (f 0))) ++ (rst2 cA Ad (f, ((nI o), (nI z)), tx, rt) 1 0)) := lw_fD2 1 0 (by decide) hWD
  refine mu_Va (ci := 2) (q0 := 0) (As := [.ref (Ad 0 0)]) (rest := []) ⟨hx, hb, hml, hown, hts⟩ (c_X2_become l D cA _ (Ad 1) (Ad 0) (f 1) (f 0) hz (va_P_l hP) (va_D_l hD)) (cwV 1 hts gX4_ifGone_X2_become rfl rfl rfl (by decide +kernel) ⟨Nat.le_of_ble_eq_true rfl, Nat.le_of_ble_eq_true rfl⟩) hKN hP hD hS hA rfl rfl (fst_app ((wSt_fst _ _ _).trans (wSt_fst _ _ _).symm) ((wSt_fst _ _ _).trans (wSt_fst _ _ _).symm)) rfl hl.1 rfl (lv_room (Nat.le_of_ble_eq_true rfl)) dX4_ifGone_38 ⟨Nat.zero_le _, Nat.zero_le _⟩ (fun H locs hP hD hS => ?_)
  have hP : va_P D vwCl (((wSt cA (Ad 1) (f 0)) ++ (wSt cA (Ad 0) (f 0))) ++ (rst2 cA Ad (f, ((nI o), (nI z)), tx, rt) 1 0)) H := hP
  have hD : va_D A (((wSt cA (Ad 1) (f 0)) ++ (wSt cA (Ad 0) (f 0))) ++ (rst2 cA Ad (f, ((nI o), (nI z)), tx, rt) 1 0)) := hD
  refine lv_aload_n hx hb dX4_ifGone_41 rfl (lv_at hl 0 rfl) ?_
  have hWP : va_P D vwCl (all cA Ad ((upS f 1 (f 0)), ((nI o), (nI z)), tx, rt)) H := lw_uP2 1 0 ((upS f 1 (f 0)), ((nI o), (nI z)), tx, rt) (by decide) (bc_st 1 _ (by decide)) hP
  have hWD : va_D A (all cA Ad ((upS f 1 (f 0)), ((nI o), (nI z)), tx, rt)) := lw_uD2 1 0 ((upS f 1 (f 0)), ((nI o), (nI z)), tx, rt) (by decide) (bc_st 1 _ (by decide)) hD
  have hP : va_P D vwCl ((wLm cA Ad rt) ++ (rst cA Ad ((upS f 1 (f 0)), ((nI o), (nI z)), tx, rt) 10)) H := lw_fP 10 (by decide) hWP
  have hD : va_D A ((wLm cA Ad rt) ++ (rst cA Ad ((upS f 1 (f 0)), ((nI o), (nI z)), tx, rt) 10)) := lw_fD 10 (by decide) hWD
  refine va_get (D := D) (ci := 4) (v := .ref (Ad 1 0)) (C := RX4) (T := TX4) (N := 7) hx hb hts iX4_ifGone_X4 hown hK hP 0 rfl rfl 1 (by decide) (hts _ mX4_ifGone_f16) (fun _ h9 => h9) rfl dX4_ifGone_42 ?_
  refine lv_iload_n hx hb dX4_ifGone_45 rfl (lv_at hl 1 rfl) ?_
  have hP : va_P D vwCl ((wSt cA (Ad 1) (f 0)) ++ (rst cA Ad ((upS f 1 (f 0)), ((nI o), (nI z)), tx, rt) 1)) H := lw_fP 1 (by decide) hWP
  have hD : va_D A ((wSt cA (Ad 1) (f 0)) ++ (rst cA Ad ((upS f 1 (f 0)), ((nI o), (nI z)), tx, rt) 1)) := lw_fD 1 (by decide) hWD
  refine mu_Va (ci := 2) (q0 := 0) (As := [.int (nI N)]) (rest := []) ⟨hx, hb, hml, hown, hts⟩ (c_X2_run l D cA _ (Ad 1) (f 0) N (by omega) hpo (va_P_l hP) (va_D_l hD)) (cwV 1 hts gX4_ifGone_X2_run rfl rfl rfl (by decide +kernel) ⟨Nat.le_of_ble_eq_true rfl, Nat.le_of_ble_eq_true rfl⟩) hKN hP hD hS hA rfl rfl ((wSt_fst _ _ _).trans (wSt_fst _ _ _).symm) rfl hl.1 rfl (lv_room (Nat.le_of_ble_eq_true rfl)) dX4_ifGone_46 ⟨Nat.zero_le _, Nat.zero_le _⟩ (fun H locs hP hD hS => ?_)
  have hP : va_P D vwCl ((wSt cA (Ad 1) (((runS N (f 0)).2).1, ((runS N (f 0)).2).2.1, ((runS N (f 0)).2).2.2.1, ((runS N (f 0)).2).2.2.2.1, ((runS N (f 0)).2).2.2.2.2.1, ((runS N (f 0)).2).2.2.2.2.2.1, ((runS N (f 0)).2).2.2.2.2.2.2.1, ((runS N (f 0)).2).2.2.2.2.2.2.2.1, ((runS N (f 0)).2).2.2.2.2.2.2.2.2.1, ((runS N (f 0)).2).2.2.2.2.2.2.2.2.2.1, ((runS N (f 0)).2).2.2.2.2.2.2.2.2.2.2.1, ((runS N (f 0)).2).2.2.2.2.2.2.2.2.2.2.2.1, ((runS N (f 0)).2).2.2.2.2.2.2.2.2.2.2.2.2.1, ((runS N (f 0)).2).2.2.2.2.2.2.2.2.2.2.2.2.2)) ++ (rst cA Ad ((upS f 1 (f 0)), ((nI o), (nI z)), tx, rt) 1)) H := hP
  have hD : va_D A ((wSt cA (Ad 1) (((runS N (f 0)).2).1, ((runS N (f 0)).2).2.1, ((runS N (f 0)).2).2.2.1, ((runS N (f 0)).2).2.2.2.1, ((runS N (f 0)).2).2.2.2.2.1, ((runS N (f 0)).2).2.2.2.2.2.1, ((runS N (f 0)).2).2.2.2.2.2.2.1, ((runS N (f 0)).2).2.2.2.2.2.2.2.1, ((runS N (f 0)).2).2.2.2.2.2.2.2.2.1, ((runS N (f 0)).2).2.2.2.2.2.2.2.2.2.1, ((runS N (f 0)).2).2.2.2.2.2.2.2.2.2.2.1, ((runS N (f 0)).2).2.2.2.2.2.2.2.2.2.2.2.1, ((runS N (f 0)).2).2.2.2.2.2.2.2.2.2.2.2.2.1, ((runS N (f 0)).2).2.2.2.2.2.2.2.2.2.2.2.2.2)) ++ (rst cA Ad ((upS f 1 (f 0)), ((nI o), (nI z)), tx, rt) 1)) := hD
  refine lv_istore_n (lv' := [(3, .int (nI (runS N (f 0)).1)), (0, .ref (Ad 10 0)), (1, .int (nI N)), (2, .int 2)]) hx hb dX4_ifGone_49 rfl hl (by decide) rfl (fun ls hl => ?_)
  refine lv_iload_n hx hb dX4_ifGone_50 rfl (lv_at hl 3 rfl) ?_
  refine lv_tableIn (tgt := 89) (off := 38) hx hb dX4_ifGone_51 (by decide) (by decide) rfl (by decide) ?_
  refine lv_aload_n hx hb dX4_ifGone_89 rfl (lv_at hl 1 rfl) ?_
  have hWP : va_P D vwCl (all cA Ad ((upS (upS f 1 (f 0)) 1 (((runS N (f 0)).2).1, ((runS N (f 0)).2).2.1, ((runS N (f 0)).2).2.2.1, ((runS N (f 0)).2).2.2.2.1, ((runS N (f 0)).2).2.2.2.2.1, ((runS N (f 0)).2).2.2.2.2.2.1, ((runS N (f 0)).2).2.2.2.2.2.2.1, ((runS N (f 0)).2).2.2.2.2.2.2.2.1, ((runS N (f 0)).2).2.2.2.2.2.2.2.2.1, ((runS N (f 0)).2).2.2.2.2.2.2.2.2.2.1, ((runS N (f 0)).2).2.2.2.2.2.2.2.2.2.2.1, ((runS N (f 0)).2).2.2.2.2.2.2.2.2.2.2.2.1, ((runS N (f 0)).2).2.2.2.2.2.2.2.2.2.2.2.2.1, ((runS N (f 0)).2).2.2.2.2.2.2.2.2.2.2.2.2.2)), ((nI o), (nI z)), tx, rt)) H := lw_uP 1 ((upS (upS f 1 (f 0)) 1 (((runS N (f 0)).2).1, ((runS N (f 0)).2).2.1, ((runS N (f 0)).2).2.2.1, ((runS N (f 0)).2).2.2.2.1, ((runS N (f 0)).2).2.2.2.2.1, ((runS N (f 0)).2).2.2.2.2.2.1, ((runS N (f 0)).2).2.2.2.2.2.2.1, ((runS N (f 0)).2).2.2.2.2.2.2.2.1, ((runS N (f 0)).2).2.2.2.2.2.2.2.2.1, ((runS N (f 0)).2).2.2.2.2.2.2.2.2.2.1, ((runS N (f 0)).2).2.2.2.2.2.2.2.2.2.2.1, ((runS N (f 0)).2).2.2.2.2.2.2.2.2.2.2.2.1, ((runS N (f 0)).2).2.2.2.2.2.2.2.2.2.2.2.2.1, ((runS N (f 0)).2).2.2.2.2.2.2.2.2.2.2.2.2.2)), ((nI o), (nI z)), tx, rt) (by decide) (bc_st 1 _ (by decide)) hP
  have hWD : va_D A (all cA Ad ((upS (upS f 1 (f 0)) 1 (((runS N (f 0)).2).1, ((runS N (f 0)).2).2.1, ((runS N (f 0)).2).2.2.1, ((runS N (f 0)).2).2.2.2.1, ((runS N (f 0)).2).2.2.2.2.1, ((runS N (f 0)).2).2.2.2.2.2.1, ((runS N (f 0)).2).2.2.2.2.2.2.1, ((runS N (f 0)).2).2.2.2.2.2.2.2.1, ((runS N (f 0)).2).2.2.2.2.2.2.2.2.1, ((runS N (f 0)).2).2.2.2.2.2.2.2.2.2.1, ((runS N (f 0)).2).2.2.2.2.2.2.2.2.2.2.1, ((runS N (f 0)).2).2.2.2.2.2.2.2.2.2.2.2.1, ((runS N (f 0)).2).2.2.2.2.2.2.2.2.2.2.2.2.1, ((runS N (f 0)).2).2.2.2.2.2.2.2.2.2.2.2.2.2)), ((nI o), (nI z)), tx, rt)) := lw_uD 1 ((upS (upS f 1 (f 0)) 1 (((runS N (f 0)).2).1, ((runS N (f 0)).2).2.1, ((runS N (f 0)).2).2.2.1, ((runS N (f 0)).2).2.2.2.1, ((runS N (f 0)).2).2.2.2.2.1, ((runS N (f 0)).2).2.2.2.2.2.1, ((runS N (f 0)).2).2.2.2.2.2.2.1, ((runS N (f 0)).2).2.2.2.2.2.2.2.1, ((runS N (f 0)).2).2.2.2.2.2.2.2.2.1, ((runS N (f 0)).2).2.2.2.2.2.2.2.2.2.1, ((runS N (f 0)).2).2.2.2.2.2.2.2.2.2.2.1, ((runS N (f 0)).2).2.2.2.2.2.2.2.2.2.2.2.1, ((runS N (f 0)).2).2.2.2.2.2.2.2.2.2.2.2.2.1, ((runS N (f 0)).2).2.2.2.2.2.2.2.2.2.2.2.2.2)), ((nI o), (nI z)), tx, rt) (by decide) (bc_st 1 _ (by decide)) hD
  have hP : va_P D vwCl ((wLm cA Ad rt) ++ (rst cA Ad ((upS (upS f 1 (f 0)) 1 (((runS N (f 0)).2).1, ((runS N (f 0)).2).2.1, ((runS N (f 0)).2).2.2.1, ((runS N (f 0)).2).2.2.2.1, ((runS N (f 0)).2).2.2.2.2.1, ((runS N (f 0)).2).2.2.2.2.2.1, ((runS N (f 0)).2).2.2.2.2.2.2.1, ((runS N (f 0)).2).2.2.2.2.2.2.2.1, ((runS N (f 0)).2).2.2.2.2.2.2.2.2.1, ((runS N (f 0)).2).2.2.2.2.2.2.2.2.2.1, ((runS N (f 0)).2).2.2.2.2.2.2.2.2.2.2.1, ((runS N (f 0)).2).2.2.2.2.2.2.2.2.2.2.2.1, ((runS N (f 0)).2).2.2.2.2.2.2.2.2.2.2.2.2.1, ((runS N (f 0)).2).2.2.2.2.2.2.2.2.2.2.2.2.2)), ((nI o), (nI z)), tx, rt) 10)) H := lw_fP 10 (by decide) hWP
  have hD : va_D A ((wLm cA Ad rt) ++ (rst cA Ad ((upS (upS f 1 (f 0)) 1 (((runS N (f 0)).2).1, ((runS N (f 0)).2).2.1, ((runS N (f 0)).2).2.2.1, ((runS N (f 0)).2).2.2.2.1, ((runS N (f 0)).2).2.2.2.2.1, ((runS N (f 0)).2).2.2.2.2.2.1, ((runS N (f 0)).2).2.2.2.2.2.2.1, ((runS N (f 0)).2).2.2.2.2.2.2.2.1, ((runS N (f 0)).2).2.2.2.2.2.2.2.2.1, ((runS N (f 0)).2).2.2.2.2.2.2.2.2.2.1, ((runS N (f 0)).2).2.2.2.2.2.2.2.2.2.2.1, ((runS N (f 0)).2).2.2.2.2.2.2.2.2.2.2.2.1, ((runS N (f 0)).2).2.2.2.2.2.2.2.2.2.2.2.2.1, ((runS N (f 0)).2).2.2.2.2.2.2.2.2.2.2.2.2.2)), ((nI o), (nI z)), tx, rt) 10)) := lw_fD 10 (by decide) hWD
  refine va_get (D := D) (ci := 4) (v := .ref (Ad 1 0)) (C := RX4) (T := TX4) (N := 7) hx hb hts iX4_ifGone_X4 hown hK hP 0 rfl rfl 1 (by decide) (hts _ mX4_ifGone_f16) (fun _ h9 => h9) rfl dX4_ifGone_90 ?_
  have hP : va_P D vwCl ((wSt cA (Ad 1) (((runS N (f 0)).2).1, ((runS N (f 0)).2).2.1, ((runS N (f 0)).2).2.2.1, ((runS N (f 0)).2).2.2.2.1, ((runS N (f 0)).2).2.2.2.2.1, ((runS N (f 0)).2).2.2.2.2.2.1, ((runS N (f 0)).2).2.2.2.2.2.2.1, ((runS N (f 0)).2).2.2.2.2.2.2.2.1, ((runS N (f 0)).2).2.2.2.2.2.2.2.2.1, ((runS N (f 0)).2).2.2.2.2.2.2.2.2.2.1, ((runS N (f 0)).2).2.2.2.2.2.2.2.2.2.2.1, ((runS N (f 0)).2).2.2.2.2.2.2.2.2.2.2.2.1, ((runS N (f 0)).2).2.2.2.2.2.2.2.2.2.2.2.2.1, ((runS N (f 0)).2).2.2.2.2.2.2.2.2.2.2.2.2.2)) ++ (rst cA Ad ((upS (upS f 1 (f 0)) 1 (((runS N (f 0)).2).1, ((runS N (f 0)).2).2.1, ((runS N (f 0)).2).2.2.1, ((runS N (f 0)).2).2.2.2.1, ((runS N (f 0)).2).2.2.2.2.1, ((runS N (f 0)).2).2.2.2.2.2.1, ((runS N (f 0)).2).2.2.2.2.2.2.1, ((runS N (f 0)).2).2.2.2.2.2.2.2.1, ((runS N (f 0)).2).2.2.2.2.2.2.2.2.1, ((runS N (f 0)).2).2.2.2.2.2.2.2.2.2.1, ((runS N (f 0)).2).2.2.2.2.2.2.2.2.2.2.1, ((runS N (f 0)).2).2.2.2.2.2.2.2.2.2.2.2.1, ((runS N (f 0)).2).2.2.2.2.2.2.2.2.2.2.2.2.1, ((runS N (f 0)).2).2.2.2.2.2.2.2.2.2.2.2.2.2)), ((nI o), (nI z)), tx, rt) 1)) H := lw_fP 1 (by decide) hWP
  have hD : va_D A ((wSt cA (Ad 1) (((runS N (f 0)).2).1, ((runS N (f 0)).2).2.1, ((runS N (f 0)).2).2.2.1, ((runS N (f 0)).2).2.2.2.1, ((runS N (f 0)).2).2.2.2.2.1, ((runS N (f 0)).2).2.2.2.2.2.1, ((runS N (f 0)).2).2.2.2.2.2.2.1, ((runS N (f 0)).2).2.2.2.2.2.2.2.1, ((runS N (f 0)).2).2.2.2.2.2.2.2.2.1, ((runS N (f 0)).2).2.2.2.2.2.2.2.2.2.1, ((runS N (f 0)).2).2.2.2.2.2.2.2.2.2.2.1, ((runS N (f 0)).2).2.2.2.2.2.2.2.2.2.2.2.1, ((runS N (f 0)).2).2.2.2.2.2.2.2.2.2.2.2.2.1, ((runS N (f 0)).2).2.2.2.2.2.2.2.2.2.2.2.2.2)) ++ (rst cA Ad ((upS (upS f 1 (f 0)) 1 (((runS N (f 0)).2).1, ((runS N (f 0)).2).2.1, ((runS N (f 0)).2).2.2.1, ((runS N (f 0)).2).2.2.2.1, ((runS N (f 0)).2).2.2.2.2.1, ((runS N (f 0)).2).2.2.2.2.2.1, ((runS N (f 0)).2).2.2.2.2.2.2.1, ((runS N (f 0)).2).2.2.2.2.2.2.2.1, ((runS N (f 0)).2).2.2.2.2.2.2.2.2.1, ((runS N (f 0)).2).2.2.2.2.2.2.2.2.2.1, ((runS N (f 0)).2).2.2.2.2.2.2.2.2.2.2.1, ((runS N (f 0)).2).2.2.2.2.2.2.2.2.2.2.2.1, ((runS N (f 0)).2).2.2.2.2.2.2.2.2.2.2.2.2.1, ((runS N (f 0)).2).2.2.2.2.2.2.2.2.2.2.2.2.2)), ((nI o), (nI z)), tx, rt) 1)) := lw_fD 1 (by decide) hWD
  refine va_get (D := D) (ci := 2) (v := .ref ((Ad 1) 5)) (C := RX2) (T := TX2) (N := 8) hx hb hts iX4_ifGone_X2 hown hK hP 0 rfl rfl 4 (by decide) (hts _ mX4_ifGone_f110) (fun _ h9 => h9) rfl dX4_ifGone_93 ?_
  refine va_get (D := D) (ci := 0) (v := .int ((((runS N (f 0)).2).1, ((runS N (f 0)).2).2.1, ((runS N (f 0)).2).2.2.1, ((runS N (f 0)).2).2.2.2.1, ((runS N (f 0)).2).2.2.2.2.1, ((runS N (f 0)).2).2.2.2.2.2.1, ((runS N (f 0)).2).2.2.2.2.2.2.1, ((runS N (f 0)).2).2.2.2.2.2.2.2.1, ((runS N (f 0)).2).2.2.2.2.2.2.2.2.1, ((runS N (f 0)).2).2.2.2.2.2.2.2.2.2.1, ((runS N (f 0)).2).2.2.2.2.2.2.2.2.2.2.1, ((runS N (f 0)).2).2.2.2.2.2.2.2.2.2.2.2.1, ((runS N (f 0)).2).2.2.2.2.2.2.2.2.2.2.2.2.1, ((runS N (f 0)).2).2.2.2.2.2.2.2.2.2.2.2.2.2).2.2.2.2.2.2.2.2.2.1)) (C := RX0) (T := TX0) (N := 7) hx hb hts iX4_ifGone_X0 hown hK hP 5 rfl rfl 2 (by decide) (hts _ mX4_ifGone_f224) (fun _ h9 => h9) rfl dX4_ifGone_96 ?_
  exact mu_iret hx hb hr hlocks dX4_ifGone_99 hAe hS (by rw [upS_upS] at hWP; exact hWP) rfl
theorem mX4_ifGone_f237 : Cond.fieldLink RX4 237 "WireLoom$Machine" "tellings" "I" ∈ wsX4_ifGone := by decide +kernel
set_option maxHeartbeats 4000000 in
set_option maxRecDepth 100000 in
theorem c_X4_ifGone3 (l : Launch) (D : va_G) (cA : Nat → ClassId) (H : Heap) (Ad : Nat → Nat → Nat) (f : Nat → SV) (o z : Nat) (tx : TV) (rt : (Nat → Int32) × (Nat → Int32)) (hz : (f 0).2.2.2.2.2.2.2.2.2.2.2.1 = 0 ∨ (f 0).2.2.2.2.2.2.2.2.2.2.2.1 = 1) (hpo : PlOk (f 0)) (N : Nat) (hN1 : 1 ≤ N) (hN : N ≤ 99) (hP0 : va_P D vwCl (all cA Ad (f, ((nI o), (nI z)), tx, rt)) H) (hD0 : va_D (fun _ => True) (all cA Ad (f, ((nI o), (nI z)), tx, rt))) : MU l yX4_ifGone wsX4_ifGone ({ frames := 6, cells := 0, slots := 0, locals := 139 } : Room) D cA [.ref (Ad 10 0), .int (nI N), .int 3] H (all cA Ad (f, ((nI o), (nI z)), tx, rt)) (all cA Ad (upS f 1 (runS N (f 0)).2, ((nI o), (nI z)), tx, rt)) (some (.int (goneS (f 0) N 3))) := by
  refine Met.ofW (cc := cX4_ifGone) (maxL := 4) (ret := (some .int)) (by decide) rfl ?_
  intro p e s m args below meth c s₁ B hml hv
  obtain ⟨rfl, hH, hKN⟩ := hv
  have hK := hKN.1
  have hx := B.exec
  have hb := B.bytes
  have hr := B.returns
  have hts := atoms_spec (ws := wsX4_ifGone) B.pre
  have hown : s.vm.findClass RX4 = some m.cls := findClass_of_methodNamed B.named
  have hlocks := B.notSynchronized
  subst hH
  have hWD := hD0.self (sz := s.heap.size)
  generalize hAe : va_A (all cA Ad (f, ((nI o), (nI z)), tx, rt)) s.heap.size = A at hWD ⊢
  have hA : ∀ q : Nat, s.heap.size ≤ q → A q := fun q h => by rw [← hAe]; exact Or.inr h
  have hS : va_S A s.heap s.heap [] := va_S.rf
  have hWP : va_P D vwCl (all cA Ad (f, ((nI o), (nI z)), tx, rt)) s.heap := hP0
  have hl := lv_entry ([.ref (Ad 10 0), .int (nI N), .int 3] : List Value) (n := 4) (Nat.le_of_ble_eq_true rfl)
  rw [lg_entry_eq]
  generalize (lg_sl ([.ref (Ad 10 0), .int (nI N), .int 3] : List Value) ++ List.replicate (4 - (lg_sl ([.ref (Ad 10 0), .int (nI N), .int 3] : List Value)).length) Slot.unset).toArray = ls at hl ⊢
  have hl : lv_has ls 4 [(0, .ref (Ad 10 0)), (1, .int (nI N)), (2, .int 3)] := hl
  refine lv_iload_n hx hb dX4_ifGone_0 rfl (lv_at hl 1 rfl) ?_
  refine lv_iconst (v := 1) hx hb dX4_ifGone_1 (by decide) ?_
  refine lv_bipush (v := 99) hx hb dX4_ifGone_2 (by decide) ?_
  refine ro_S (As := [.int (nI N), .int 1, .int 99]) (rest := []) ⟨hx, hb, hml, hown, hts⟩ (c_X4_isWithin l D cA _ (nI N) 1 99) (cwS2 3 hts gX4_ifGone_X4_isWithin rfl rfl rfl (by decide +kernel) ⟨Nat.le_of_ble_eq_true rfl, Nat.le_of_ble_eq_true rfl⟩) hKN rfl hl.1 rfl (lv_room (Nat.le_of_ble_eq_true rfl)) dX4_ifGone_4 ⟨Nat.zero_le _, Nat.zero_le _⟩ ?_
  refine lz_top (v := 1) (inF_ok (k := N) (a := 1) (b := 99) (by omega) (by omega) (by decide)) ?_
  refine lv_if_eq (tgt := 19) hx hb dX4_ifGone_7 (by decide) (fun h => absurd h (by decide)) (fun _ => ?_)
  refine lv_iload_n hx hb dX4_ifGone_10 rfl (lv_at hl 2 rfl) ?_
  refine lv_iconst (v := 0) hx hb dX4_ifGone_11 (by decide) ?_
  refine lv_iconst (v := 3) hx hb dX4_ifGone_12 (by decide) ?_
  refine ro_S (As := [.int 3, .int 0, .int 3]) (rest := []) ⟨hx, hb, hml, hown, hts⟩ (c_X4_isWithin l D cA _ 3 0 3) (cwS2 3 hts gX4_ifGone_X4_isWithin rfl rfl rfl (by decide +kernel) ⟨Nat.le_of_ble_eq_true rfl, Nat.le_of_ble_eq_true rfl⟩) hKN rfl hl.1 rfl (lv_room (Nat.le_of_ble_eq_true rfl)) dX4_ifGone_13 ⟨Nat.zero_le _, Nat.zero_le _⟩ ?_
  refine lz_top (v := 1) (inF_ok (k := 3) (a := 0) (b := 3) (by omega) (by omega) (by decide)) ?_
  refine lv_if_ne (tgt := 30) hx hb dX4_ifGone_16 (by decide) (fun _ => ?_) (fun h => absurd h (by decide))
  refine lv_aload_n hx hb dX4_ifGone_30 rfl (lv_at hl 0 rfl) ?_
  have hP : va_P D vwCl ((wLm cA Ad rt) ++ (rst cA Ad (f, ((nI o), (nI z)), tx, rt) 10)) s.heap := lw_fP 10 (by decide) hWP
  have hD : va_D A ((wLm cA Ad rt) ++ (rst cA Ad (f, ((nI o), (nI z)), tx, rt) 10)) := lw_fD 10 (by decide) hWD
  refine va_get (D := D) (ci := 4) (v := .ref (Ad 1 0)) (C := RX4) (T := TX4) (N := 7) hx hb hts iX4_ifGone_X4 hown hK hP 0 rfl rfl 1 (by decide) (hts _ mX4_ifGone_f16) (fun _ h9 => h9) rfl dX4_ifGone_31 ?_
  refine lv_aload_n hx hb dX4_ifGone_34 rfl (lv_at hl 0 rfl) ?_
  refine va_get (D := D) (ci := 4) (v := .ref (Ad 0 0)) (C := RX4) (T := TX4) (N := 7) hx hb hts iX4_ifGone_X4 hown hK hP 0 rfl rfl 0 (by decide) (hts _ mX4_ifGone_f10) (fun _ h9 => h9) rfl dX4_ifGone_35 ?_
  have hP : va_P D vwCl (((wSt cA (Ad 1) (f 1)) ++ (wSt cA (Ad 0) (f 0))) ++ (rst2 cA Ad (f, ((nI o), (nI z)), tx, rt) 1 0)) s.heap := lw_fP2 1 0 (by decide) hWP
  have hD : va_D A (((wSt cA (Ad 1) (f 1)) ++ (wSt cA (Ad 0) (f 0))) ++ (rst2 cA Ad (f, ((nI o), (nI z)), tx, rt) 1 0)) := lw_fD2 1 0 (by decide) hWD
  refine mu_Va (ci := 2) (q0 := 0) (As := [.ref (Ad 0 0)]) (rest := []) ⟨hx, hb, hml, hown, hts⟩ (c_X2_become l D cA _ (Ad 1) (Ad 0) (f 1) (f 0) hz (va_P_l hP) (va_D_l hD)) (cwV 1 hts gX4_ifGone_X2_become rfl rfl rfl (by decide +kernel) ⟨Nat.le_of_ble_eq_true rfl, Nat.le_of_ble_eq_true rfl⟩) hKN hP hD hS hA rfl rfl (fst_app ((wSt_fst _ _ _).trans (wSt_fst _ _ _).symm) ((wSt_fst _ _ _).trans (wSt_fst _ _ _).symm)) rfl hl.1 rfl (lv_room (Nat.le_of_ble_eq_true rfl)) dX4_ifGone_38 ⟨Nat.zero_le _, Nat.zero_le _⟩ (fun H locs hP hD hS => ?_)
  have hP : va_P D vwCl (((wSt cA (Ad 1) (f 0)) ++ (wSt cA (Ad 0) (f 0))) ++ (rst2 cA Ad (f, ((nI o), (nI z)), tx, rt) 1 0)) H := hP
  have hD : va_D A (((wSt cA (Ad 1) (f 0)) ++ (wSt cA (Ad 0) (f 0))) ++ (rst2 cA Ad (f, ((nI o), (nI z)), tx, rt) 1 0)) := hD
  refine lv_aload_n hx hb dX4_ifGone_41 rfl (lv_at hl 0 rfl) ?_
  have hWP : va_P D vwCl (all cA Ad ((upS f 1 (f 0)), ((nI o), (nI z)), tx, rt)) H := lw_uP2 1 0 ((upS f 1 (f 0)), ((nI o), (nI z)), tx, rt) (by decide) (bc_st 1 _ (by decide)) hP
  have hWD : va_D A (all cA Ad ((upS f 1 (f 0)), ((nI o), (nI z)), tx, rt)) := lw_uD2 1 0 ((upS f 1 (f 0)), ((nI o), (nI z)), tx, rt) (by decide) (bc_st 1 _ (by decide)) hD
  have hP : va_P D vwCl ((wLm cA Ad rt) ++ (rst cA Ad ((upS f 1 (f 0)), ((nI o), (nI z)), tx, rt) 10)) H := lw_fP 10 (by decide) hWP
  have hD : va_D A ((wLm cA Ad rt) ++ (rst cA Ad ((upS f 1 (f 0)), ((nI o), (nI z)), tx, rt) 10)) := lw_fD 10 (by decide) hWD
  refine va_get (D := D) (ci := 4) (v := .ref (Ad 1 0)) (C := RX4) (T := TX4) (N := 7) hx hb hts iX4_ifGone_X4 hown hK hP 0 rfl rfl 1 (by decide) (hts _ mX4_ifGone_f16) (fun _ h9 => h9) rfl dX4_ifGone_42 ?_
  refine lv_iload_n hx hb dX4_ifGone_45 rfl (lv_at hl 1 rfl) ?_
  have hP : va_P D vwCl ((wSt cA (Ad 1) (f 0)) ++ (rst cA Ad ((upS f 1 (f 0)), ((nI o), (nI z)), tx, rt) 1)) H := lw_fP 1 (by decide) hWP
  have hD : va_D A ((wSt cA (Ad 1) (f 0)) ++ (rst cA Ad ((upS f 1 (f 0)), ((nI o), (nI z)), tx, rt) 1)) := lw_fD 1 (by decide) hWD
  refine mu_Va (ci := 2) (q0 := 0) (As := [.int (nI N)]) (rest := []) ⟨hx, hb, hml, hown, hts⟩ (c_X2_run l D cA _ (Ad 1) (f 0) N (by omega) hpo (va_P_l hP) (va_D_l hD)) (cwV 1 hts gX4_ifGone_X2_run rfl rfl rfl (by decide +kernel) ⟨Nat.le_of_ble_eq_true rfl, Nat.le_of_ble_eq_true rfl⟩) hKN hP hD hS hA rfl rfl ((wSt_fst _ _ _).trans (wSt_fst _ _ _).symm) rfl hl.1 rfl (lv_room (Nat.le_of_ble_eq_true rfl)) dX4_ifGone_46 ⟨Nat.zero_le _, Nat.zero_le _⟩ (fun H locs hP hD hS => ?_)
  have hP : va_P D vwCl ((wSt cA (Ad 1) (((runS N (f 0)).2).1, ((runS N (f 0)).2).2.1, ((runS N (f 0)).2).2.2.1, ((runS N (f 0)).2).2.2.2.1, ((runS N (f 0)).2).2.2.2.2.1, ((runS N (f 0)).2).2.2.2.2.2.1, ((runS N (f 0)).2).2.2.2.2.2.2.1, ((runS N (f 0)).2).2.2.2.2.2.2.2.1, ((runS N (f 0)).2).2.2.2.2.2.2.2.2.1, ((runS N (f 0)).2).2.2.2.2.2.2.2.2.2.1, ((runS N (f 0)).2).2.2.2.2.2.2.2.2.2.2.1, ((runS N (f 0)).2).2.2.2.2.2.2.2.2.2.2.2.1, ((runS N (f 0)).2).2.2.2.2.2.2.2.2.2.2.2.2.1, ((runS N (f 0)).2).2.2.2.2.2.2.2.2.2.2.2.2.2)) ++ (rst cA Ad ((upS f 1 (f 0)), ((nI o), (nI z)), tx, rt) 1)) H := hP
  have hD : va_D A ((wSt cA (Ad 1) (((runS N (f 0)).2).1, ((runS N (f 0)).2).2.1, ((runS N (f 0)).2).2.2.1, ((runS N (f 0)).2).2.2.2.1, ((runS N (f 0)).2).2.2.2.2.1, ((runS N (f 0)).2).2.2.2.2.2.1, ((runS N (f 0)).2).2.2.2.2.2.2.1, ((runS N (f 0)).2).2.2.2.2.2.2.2.1, ((runS N (f 0)).2).2.2.2.2.2.2.2.2.1, ((runS N (f 0)).2).2.2.2.2.2.2.2.2.2.1, ((runS N (f 0)).2).2.2.2.2.2.2.2.2.2.2.1, ((runS N (f 0)).2).2.2.2.2.2.2.2.2.2.2.2.1, ((runS N (f 0)).2).2.2.2.2.2.2.2.2.2.2.2.2.1, ((runS N (f 0)).2).2.2.2.2.2.2.2.2.2.2.2.2.2)) ++ (rst cA Ad ((upS f 1 (f 0)), ((nI o), (nI z)), tx, rt) 1)) := hD
  refine lv_istore_n (lv' := [(3, .int (nI (runS N (f 0)).1)), (0, .ref (Ad 10 0)), (1, .int (nI N)), (2, .int 3)]) hx hb dX4_ifGone_49 rfl hl (by decide) rfl (fun ls hl => ?_)
  refine lv_iload_n hx hb dX4_ifGone_50 rfl (lv_at hl 3 rfl) ?_
  refine lv_tableOut (tgt := 100) hx hb dX4_ifGone_51 (by decide) (by decide) ?_
  refine lv_aload_n hx hb dX4_ifGone_100 rfl (lv_at hl 1 rfl) ?_
  have hWP : va_P D vwCl (all cA Ad ((upS (upS f 1 (f 0)) 1 (((runS N (f 0)).2).1, ((runS N (f 0)).2).2.1, ((runS N (f 0)).2).2.2.1, ((runS N (f 0)).2).2.2.2.1, ((runS N (f 0)).2).2.2.2.2.1, ((runS N (f 0)).2).2.2.2.2.2.1, ((runS N (f 0)).2).2.2.2.2.2.2.1, ((runS N (f 0)).2).2.2.2.2.2.2.2.1, ((runS N (f 0)).2).2.2.2.2.2.2.2.2.1, ((runS N (f 0)).2).2.2.2.2.2.2.2.2.2.1, ((runS N (f 0)).2).2.2.2.2.2.2.2.2.2.2.1, ((runS N (f 0)).2).2.2.2.2.2.2.2.2.2.2.2.1, ((runS N (f 0)).2).2.2.2.2.2.2.2.2.2.2.2.2.1, ((runS N (f 0)).2).2.2.2.2.2.2.2.2.2.2.2.2.2)), ((nI o), (nI z)), tx, rt)) H := lw_uP 1 ((upS (upS f 1 (f 0)) 1 (((runS N (f 0)).2).1, ((runS N (f 0)).2).2.1, ((runS N (f 0)).2).2.2.1, ((runS N (f 0)).2).2.2.2.1, ((runS N (f 0)).2).2.2.2.2.1, ((runS N (f 0)).2).2.2.2.2.2.1, ((runS N (f 0)).2).2.2.2.2.2.2.1, ((runS N (f 0)).2).2.2.2.2.2.2.2.1, ((runS N (f 0)).2).2.2.2.2.2.2.2.2.1, ((runS N (f 0)).2).2.2.2.2.2.2.2.2.2.1, ((runS N (f 0)).2).2.2.2.2.2.2.2.2.2.2.1, ((runS N (f 0)).2).2.2.2.2.2.2.2.2.2.2.2.1, ((runS N (f 0)).2).2.2.2.2.2.2.2.2.2.2.2.2.1, ((runS N (f 0)).2).2.2.2.2.2.2.2.2.2.2.2.2.2)), ((nI o), (nI z)), tx, rt) (by decide) (bc_st 1 _ (by decide)) hP
  have hWD : va_D A (all cA Ad ((upS (upS f 1 (f 0)) 1 (((runS N (f 0)).2).1, ((runS N (f 0)).2).2.1, ((runS N (f 0)).2).2.2.1, ((runS N (f 0)).2).2.2.2.1, ((runS N (f 0)).2).2.2.2.2.1, ((runS N (f 0)).2).2.2.2.2.2.1, ((runS N (f 0)).2).2.2.2.2.2.2.1, ((runS N (f 0)).2).2.2.2.2.2.2.2.1, ((runS N (f 0)).2).2.2.2.2.2.2.2.2.1, ((runS N (f 0)).2).2.2.2.2.2.2.2.2.2.1, ((runS N (f 0)).2).2.2.2.2.2.2.2.2.2.2.1, ((runS N (f 0)).2).2.2.2.2.2.2.2.2.2.2.2.1, ((runS N (f 0)).2).2.2.2.2.2.2.2.2.2.2.2.2.1, ((runS N (f 0)).2).2.2.2.2.2.2.2.2.2.2.2.2.2)), ((nI o), (nI z)), tx, rt)) := lw_uD 1 ((upS (upS f 1 (f 0)) 1 (((runS N (f 0)).2).1, ((runS N (f 0)).2).2.1, ((runS N (f 0)).2).2.2.1, ((runS N (f 0)).2).2.2.2.1, ((runS N (f 0)).2).2.2.2.2.1, ((runS N (f 0)).2).2.2.2.2.2.1, ((runS N (f 0)).2).2.2.2.2.2.2.1, ((runS N (f 0)).2).2.2.2.2.2.2.2.1, ((runS N (f 0)).2).2.2.2.2.2.2.2.2.1, ((runS N (f 0)).2).2.2.2.2.2.2.2.2.2.1, ((runS N (f 0)).2).2.2.2.2.2.2.2.2.2.2.1, ((runS N (f 0)).2).2.2.2.2.2.2.2.2.2.2.2.1, ((runS N (f 0)).2).2.2.2.2.2.2.2.2.2.2.2.2.1, ((runS N (f 0)).2).2.2.2.2.2.2.2.2.2.2.2.2.2)), ((nI o), (nI z)), tx, rt) (by decide) (bc_st 1 _ (by decide)) hD
  have hP : va_P D vwCl ((wLm cA Ad rt) ++ (rst cA Ad ((upS (upS f 1 (f 0)) 1 (((runS N (f 0)).2).1, ((runS N (f 0)).2).2.1, ((runS N (f 0)).2).2.2.1, ((runS N (f 0)).2).2.2.2.1, ((runS N (f 0)).2).2.2.2.2.1, ((runS N (f 0)).2).2.2.2.2.2.1, ((runS N (f 0)).2).2.2.2.2.2.2.1, ((runS N (f 0)).2).2.2.2.2.2.2.2.1, ((runS N (f 0)).2).2.2.2.2.2.2.2.2.1, ((runS N (f 0)).2).2.2.2.2.2.2.2.2.2.1, ((runS N (f 0)).2).2.2.2.2.2.2.2.2.2.2.1, ((runS N (f 0)).2).2.2.2.2.2.2.2.2.2.2.2.1, ((runS N (f 0)).2).2.2.2.2.2.2.2.2.2.2.2.2.1, ((runS N (f 0)).2).2.2.2.2.2.2.2.2.2.2.2.2.2)), ((nI o), (nI z)), tx, rt) 10)) H := lw_fP 10 (by decide) hWP
  have hD : va_D A ((wLm cA Ad rt) ++ (rst cA Ad ((upS (upS f 1 (f 0)) 1 (((runS N (f 0)).2).1, ((runS N (f 0)).2).2.1, ((runS N (f 0)).2).2.2.1, ((runS N (f 0)).2).2.2.2.1, ((runS N (f 0)).2).2.2.2.2.1, ((runS N (f 0)).2).2.2.2.2.2.1, ((runS N (f 0)).2).2.2.2.2.2.2.1, ((runS N (f 0)).2).2.2.2.2.2.2.2.1, ((runS N (f 0)).2).2.2.2.2.2.2.2.2.1, ((runS N (f 0)).2).2.2.2.2.2.2.2.2.2.1, ((runS N (f 0)).2).2.2.2.2.2.2.2.2.2.2.1, ((runS N (f 0)).2).2.2.2.2.2.2.2.2.2.2.2.1, ((runS N (f 0)).2).2.2.2.2.2.2.2.2.2.2.2.2.1, ((runS N (f 0)).2).2.2.2.2.2.2.2.2.2.2.2.2.2)), ((nI o), (nI z)), tx, rt) 10)) := lw_fD 10 (by decide) hWD
  refine va_get (D := D) (ci := 4) (v := .ref (Ad 1 0)) (C := RX4) (T := TX4) (N := 7) hx hb hts iX4_ifGone_X4 hown hK hP 0 rfl rfl 1 (by decide) (hts _ mX4_ifGone_f16) (fun _ h9 => h9) rfl dX4_ifGone_101 ?_
  have hP : va_P D vwCl ((wSt cA (Ad 1) (((runS N (f 0)).2).1, ((runS N (f 0)).2).2.1, ((runS N (f 0)).2).2.2.1, ((runS N (f 0)).2).2.2.2.1, ((runS N (f 0)).2).2.2.2.2.1, ((runS N (f 0)).2).2.2.2.2.2.1, ((runS N (f 0)).2).2.2.2.2.2.2.1, ((runS N (f 0)).2).2.2.2.2.2.2.2.1, ((runS N (f 0)).2).2.2.2.2.2.2.2.2.1, ((runS N (f 0)).2).2.2.2.2.2.2.2.2.2.1, ((runS N (f 0)).2).2.2.2.2.2.2.2.2.2.2.1, ((runS N (f 0)).2).2.2.2.2.2.2.2.2.2.2.2.1, ((runS N (f 0)).2).2.2.2.2.2.2.2.2.2.2.2.2.1, ((runS N (f 0)).2).2.2.2.2.2.2.2.2.2.2.2.2.2)) ++ (rst cA Ad ((upS (upS f 1 (f 0)) 1 (((runS N (f 0)).2).1, ((runS N (f 0)).2).2.1, ((runS N (f 0)).2).2.2.1, ((runS N (f 0)).2).2.2.2.1, ((runS N (f 0)).2).2.2.2.2.1, ((runS N (f 0)).2).2.2.2.2.2.1, ((runS N (f 0)).2).2.2.2.2.2.2.1, ((runS N (f 0)).2).2.2.2.2.2.2.2.1, ((runS N (f 0)).2).2.2.2.2.2.2.2.2.1, ((runS N (f 0)).2).2.2.2.2.2.2.2.2.2.1, ((runS N (f 0)).2).2.2.2.2.2.2.2.2.2.2.1, ((runS N (f 0)).2).2.2.2.2.2.2.2.2.2.2.2.1, ((runS N (f 0)).2).2.2.2.2.2.2.2.2.2.2.2.2.1, ((runS N (f 0)).2).2.2.2.2.2.2.2.2.2.2.2.2.2)), ((nI o), (nI z)), tx, rt) 1)) H := lw_fP 1 (by decide) hWP
  have hD : va_D A ((wSt cA (Ad 1) (((runS N (f 0)).2).1, ((runS N (f 0)).2).2.1, ((runS N (f 0)).2).2.2.1, ((runS N (f 0)).2).2.2.2.1, ((runS N (f 0)).2).2.2.2.2.1, ((runS N (f 0)).2).2.2.2.2.2.1, ((runS N (f 0)).2).2.2.2.2.2.2.1, ((runS N (f 0)).2).2.2.2.2.2.2.2.1, ((runS N (f 0)).2).2.2.2.2.2.2.2.2.1, ((runS N (f 0)).2).2.2.2.2.2.2.2.2.2.1, ((runS N (f 0)).2).2.2.2.2.2.2.2.2.2.2.1, ((runS N (f 0)).2).2.2.2.2.2.2.2.2.2.2.2.1, ((runS N (f 0)).2).2.2.2.2.2.2.2.2.2.2.2.2.1, ((runS N (f 0)).2).2.2.2.2.2.2.2.2.2.2.2.2.2)) ++ (rst cA Ad ((upS (upS f 1 (f 0)) 1 (((runS N (f 0)).2).1, ((runS N (f 0)).2).2.1, ((runS N (f 0)).2).2.2.1, ((runS N (f 0)).2).2.2.2.1, ((runS N (f 0)).2).2.2.2.2.1, ((runS N (f 0)).2).2.2.2.2.2.1, ((runS N (f 0)).2).2.2.2.2.2.2.1, ((runS N (f 0)).2).2.2.2.2.2.2.2.1, ((runS N (f 0)).2).2.2.2.2.2.2.2.2.1, ((runS N (f 0)).2).2.2.2.2.2.2.2.2.2.1, ((runS N (f 0)).2).2.2.2.2.2.2.2.2.2.2.1, ((runS N (f 0)).2).2.2.2.2.2.2.2.2.2.2.2.1, ((runS N (f 0)).2).2.2.2.2.2.2.2.2.2.2.2.2.1, ((runS N (f 0)).2).2.2.2.2.2.2.2.2.2.2.2.2.2)), ((nI o), (nI z)), tx, rt) 1)) := lw_fD 1 (by decide) hWD
  refine va_get (D := D) (ci := 2) (v := .ref ((Ad 1) 5)) (C := RX2) (T := TX2) (N := 8) hx hb hts iX4_ifGone_X2 hown hK hP 0 rfl rfl 4 (by decide) (hts _ mX4_ifGone_f110) (fun _ h9 => h9) rfl dX4_ifGone_104 ?_
  refine va_get (D := D) (ci := 0) (v := .int ((((runS N (f 0)).2).1, ((runS N (f 0)).2).2.1, ((runS N (f 0)).2).2.2.1, ((runS N (f 0)).2).2.2.2.1, ((runS N (f 0)).2).2.2.2.2.1, ((runS N (f 0)).2).2.2.2.2.2.1, ((runS N (f 0)).2).2.2.2.2.2.2.1, ((runS N (f 0)).2).2.2.2.2.2.2.2.1, ((runS N (f 0)).2).2.2.2.2.2.2.2.2.1, ((runS N (f 0)).2).2.2.2.2.2.2.2.2.2.1, ((runS N (f 0)).2).2.2.2.2.2.2.2.2.2.2.1, ((runS N (f 0)).2).2.2.2.2.2.2.2.2.2.2.2.1, ((runS N (f 0)).2).2.2.2.2.2.2.2.2.2.2.2.2.1, ((runS N (f 0)).2).2.2.2.2.2.2.2.2.2.2.2.2.2).2.2.2.2.2.2.2.2.2.2.2.2.2)) (C := RX0) (T := TX0) (N := 7) hx hb hts iX4_ifGone_X0 hown hK hP 5 rfl rfl 6 (by decide) (hts _ mX4_ifGone_f237) (fun _ h9 => h9) rfl dX4_ifGone_107 ?_
  refine lv_aload_n hx hb dX4_ifGone_110 rfl (lv_at hl 1 rfl) ?_
  have hP : va_P D vwCl ((wLm cA Ad rt) ++ (rst cA Ad ((upS (upS f 1 (f 0)) 1 (((runS N (f 0)).2).1, ((runS N (f 0)).2).2.1, ((runS N (f 0)).2).2.2.1, ((runS N (f 0)).2).2.2.2.1, ((runS N (f 0)).2).2.2.2.2.1, ((runS N (f 0)).2).2.2.2.2.2.1, ((runS N (f 0)).2).2.2.2.2.2.2.1, ((runS N (f 0)).2).2.2.2.2.2.2.2.1, ((runS N (f 0)).2).2.2.2.2.2.2.2.2.1, ((runS N (f 0)).2).2.2.2.2.2.2.2.2.2.1, ((runS N (f 0)).2).2.2.2.2.2.2.2.2.2.2.1, ((runS N (f 0)).2).2.2.2.2.2.2.2.2.2.2.2.1, ((runS N (f 0)).2).2.2.2.2.2.2.2.2.2.2.2.2.1, ((runS N (f 0)).2).2.2.2.2.2.2.2.2.2.2.2.2.2)), ((nI o), (nI z)), tx, rt) 10)) H := lw_fP 10 (by decide) hWP
  have hD : va_D A ((wLm cA Ad rt) ++ (rst cA Ad ((upS (upS f 1 (f 0)) 1 (((runS N (f 0)).2).1, ((runS N (f 0)).2).2.1, ((runS N (f 0)).2).2.2.1, ((runS N (f 0)).2).2.2.2.1, ((runS N (f 0)).2).2.2.2.2.1, ((runS N (f 0)).2).2.2.2.2.2.1, ((runS N (f 0)).2).2.2.2.2.2.2.1, ((runS N (f 0)).2).2.2.2.2.2.2.2.1, ((runS N (f 0)).2).2.2.2.2.2.2.2.2.1, ((runS N (f 0)).2).2.2.2.2.2.2.2.2.2.1, ((runS N (f 0)).2).2.2.2.2.2.2.2.2.2.2.1, ((runS N (f 0)).2).2.2.2.2.2.2.2.2.2.2.2.1, ((runS N (f 0)).2).2.2.2.2.2.2.2.2.2.2.2.2.1, ((runS N (f 0)).2).2.2.2.2.2.2.2.2.2.2.2.2.2)), ((nI o), (nI z)), tx, rt) 10)) := lw_fD 10 (by decide) hWD
  refine va_get (D := D) (ci := 4) (v := .ref (Ad 0 0)) (C := RX4) (T := TX4) (N := 7) hx hb hts iX4_ifGone_X4 hown hK hP 0 rfl rfl 0 (by decide) (hts _ mX4_ifGone_f10) (fun _ h9 => h9) rfl dX4_ifGone_111 ?_
  have hP : va_P D vwCl ((wSt cA (Ad 0) (f 0)) ++ (rst cA Ad ((upS (upS f 1 (f 0)) 1 (((runS N (f 0)).2).1, ((runS N (f 0)).2).2.1, ((runS N (f 0)).2).2.2.1, ((runS N (f 0)).2).2.2.2.1, ((runS N (f 0)).2).2.2.2.2.1, ((runS N (f 0)).2).2.2.2.2.2.1, ((runS N (f 0)).2).2.2.2.2.2.2.1, ((runS N (f 0)).2).2.2.2.2.2.2.2.1, ((runS N (f 0)).2).2.2.2.2.2.2.2.2.1, ((runS N (f 0)).2).2.2.2.2.2.2.2.2.2.1, ((runS N (f 0)).2).2.2.2.2.2.2.2.2.2.2.1, ((runS N (f 0)).2).2.2.2.2.2.2.2.2.2.2.2.1, ((runS N (f 0)).2).2.2.2.2.2.2.2.2.2.2.2.2.1, ((runS N (f 0)).2).2.2.2.2.2.2.2.2.2.2.2.2.2)), ((nI o), (nI z)), tx, rt) 0)) H := lw_fP 0 (by decide) hWP
  have hD : va_D A ((wSt cA (Ad 0) (f 0)) ++ (rst cA Ad ((upS (upS f 1 (f 0)) 1 (((runS N (f 0)).2).1, ((runS N (f 0)).2).2.1, ((runS N (f 0)).2).2.2.1, ((runS N (f 0)).2).2.2.2.1, ((runS N (f 0)).2).2.2.2.2.1, ((runS N (f 0)).2).2.2.2.2.2.1, ((runS N (f 0)).2).2.2.2.2.2.2.1, ((runS N (f 0)).2).2.2.2.2.2.2.2.1, ((runS N (f 0)).2).2.2.2.2.2.2.2.2.1, ((runS N (f 0)).2).2.2.2.2.2.2.2.2.2.1, ((runS N (f 0)).2).2.2.2.2.2.2.2.2.2.2.1, ((runS N (f 0)).2).2.2.2.2.2.2.2.2.2.2.2.1, ((runS N (f 0)).2).2.2.2.2.2.2.2.2.2.2.2.2.1, ((runS N (f 0)).2).2.2.2.2.2.2.2.2.2.2.2.2.2)), ((nI o), (nI z)), tx, rt) 0)) := lw_fD 0 (by decide) hWD
  refine va_get (D := D) (ci := 2) (v := .ref ((Ad 0) 5)) (C := RX2) (T := TX2) (N := 8) hx hb hts iX4_ifGone_X2 hown hK hP 0 rfl rfl 4 (by decide) (hts _ mX4_ifGone_f110) (fun _ h9 => h9) rfl dX4_ifGone_114 ?_
  refine va_get (D := D) (ci := 0) (v := .int ((f 0).2.2.2.2.2.2.2.2.2.2.2.2.2)) (C := RX0) (T := TX0) (N := 7) hx hb hts iX4_ifGone_X0 hown hK hP 5 rfl rfl 6 (by decide) (hts _ mX4_ifGone_f237) (fun _ h9 => h9) rfl dX4_ifGone_117 ?_
  refine lv_isub hx hb dX4_ifGone_120 ?_
  exact mu_iret hx hb hr hlocks dX4_ifGone_121 hAe hS (by rw [upS_upS] at hWP; exact hWP) rfl
