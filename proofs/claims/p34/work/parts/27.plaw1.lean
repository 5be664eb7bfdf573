-- the law's small helpers
theorem mL_up_k8 : Cond.constant RL 8 (2147483647) ∈ wsL_up := by decide +kernel
set_option maxHeartbeats 4000000 in
set_option maxRecDepth 100000 in
theorem c_L_up (l : Launch) (D : va_G) (cA : Nat → ClassId) (H : Heap) (v : Int32) (n : Nat) (h0 : 0 < n) (hn : n < 2 ^ 31) : RO l yL_up wsL_up ({ frames := 0, cells := 0, slots := 0, locals := 0 } : Room) D cA [.int v, .int (nI n)] H (some (.int (nI (upN v n)))) := by
  refine Met.ofW (cc := cL_up) (maxL := 2) (ret := (some .int)) (by decide) rfl ?_
  intro p e s m args below meth c s₁ B hml hv
  obtain ⟨rfl, hH, hKN⟩ := hv
  have hK := hKN.1
  have hx := B.exec
  have hb := B.bytes
  have hr := B.returns
  have hts := atoms_spec (ws := wsL_up) B.pre
  have hown : s.vm.findClass RL = some m.cls := findClass_of_methodNamed B.named
  have hlocks := B.notSynchronized
  subst hH
  have hH : s.heap = s.heap := rfl
  have hl := lv_entry ([.int v, .int (nI n)] : List Value) (n := 2) (Nat.le_of_ble_eq_true rfl)
  rw [lg_entry_eq]
  generalize (lg_sl ([.int v, .int (nI n)] : List Value) ++ List.replicate (2 - (lg_sl ([.int v, .int (nI n)] : List Value)).length) Slot.unset).toArray = ls at hl ⊢
  have hl : lv_has ls 2 [(0, .int v), (1, .int (nI n))] := hl
  refine lv_iload_n hx hb dL_up_0 rfl (lv_at hl 0 rfl) ?_
  refine lv_ldc (v := 2147483647) hx hb hown (hts _ mL_up_k8) dL_up_1 ?_
  refine lv_iand hx hb dL_up_3 ?_
  refine lv_iload_n hx hb dL_up_4 rfl (lv_at hl 1 rfl) ?_
  refine lz_irem (v := (nI (upN v n))) hx hb dL_up_5 (nI_ne0 h0 hn) (up_val v h0 hn) ?_
  exact ro_iret hx hb hr hlocks hH dL_up_6 rfl
set_option maxHeartbeats 4000000 in
set_option maxRecDepth 100000 in
theorem c_L_bits (l : Launch) (D : va_G) (cA : Nat → ClassId) (H : Heap) (x : Int32) (hM : M16 x) : RO l yL_bits wsL_bits ({ frames := 0, cells := 0, slots := 0, locals := 0 } : Room) D cA [.int x] H (some (.int (bcF x))) := by
  refine Met.ofW (cc := cL_bits) (maxL := 3) (ret := (some .int)) (by decide) rfl ?_
  intro p e s m args below meth c s₁ B hml hv
  obtain ⟨rfl, hH, hKN⟩ := hv
  have hK := hKN.1
  have hx := B.exec
  have hb := B.bytes
  have hr := B.returns
  have hts := atoms_spec (ws := wsL_bits) B.pre
  have hown : s.vm.findClass RL = some m.cls := findClass_of_methodNamed B.named
  have hlocks := B.notSynchronized
  subst hH
  have hH : s.heap = s.heap := rfl
  have hl := lv_entry ([.int x] : List Value) (n := 3) (Nat.le_of_ble_eq_true rfl)
  rw [lg_entry_eq]
  generalize (lg_sl ([.int x] : List Value) ++ List.replicate (3 - (lg_sl ([.int x] : List Value)).length) Slot.unset).toArray = ls at hl ⊢
  have hl : lv_has ls 3 [(0, .int x)] := hl
  refine lv_iconst (v := 0) hx hb dL_bits_0 (by decide) ?_
  refine lv_istore_n (lv' := [(1, .int 0), (0, .int x)]) hx hb dL_bits_1 rfl hl (by decide) rfl (fun ls hl => ?_)
  refine lv_iconst (v := 0) hx hb dL_bits_2 (by decide) ?_
  refine lv_istore_n (lv' := [(2, .int 0), (1, .int 0), (0, .int x)]) hx hb dL_bits_3 rfl hl (by decide) rfl (fun ls hl => ?_)
  have loop4 : ∀ (n4 k4 : Nat), k4 + n4 = 16 → ∀ (ls : Array Slot), lv_has ls 3 [(2, .int (nI k4)), (1, .int (bitsT x k4)), (0, .int x)] → W p l e ({ frames := 0, cells := 0, slots := 0, locals := 0 } : Room) s m ([.int x] : List Value).toArray below meth c s.heap [] 0 0 (MQ below (roQ s.heap (some (.int (bcF x)))) ([.int x] : List Value).toArray s 0 0 noA) (F0 m 4 ls []) := by
    intro n4
    induction n4 with
    | zero =>
      intro k4 hk4 ls hl
      obtain rfl : 16 = k4 := by omega
      refine lv_iload_n hx hb dL_bits_4 rfl (lv_at hl 0 rfl) ?_
      refine lv_bipush (v := 16) hx hb dL_bits_5 (by decide) ?_
      refine lv_icmp_ge (tgt := 24) hx hb dL_bits_7 (by decide) (fun _ => ?_) (fun h => absurd (by decide) h)
      refine lv_iload_n hx hb dL_bits_24 rfl (lv_at hl 1 rfl) ?_
      exact ro_iret hx hb hr hlocks hH dL_bits_25 (bits_bc hM)
    | succ n4 ih4 =>
      intro k4 hk4 ls hl
      have hlt4 : k4 < 16 := by omega
      refine lv_iload_n hx hb dL_bits_4 rfl (lv_at hl 0 rfl) ?_
      refine lv_bipush (v := 16) hx hb dL_bits_5 (by decide) ?_
      refine lv_icmp_ge (tgt := 24) hx hb dL_bits_7 (by decide) (fun h => absurd h (nI_ge hlt4 (by first | decide | omega))) (fun _ => ?_)
      refine lv_iload_n hx hb dL_bits_10 rfl (lv_at hl 1 rfl) ?_
      refine lv_iload_n hx hb dL_bits_11 rfl (lv_at hl 2 rfl) ?_
      refine lv_iload_n hx hb dL_bits_12 rfl (lv_at hl 0 rfl) ?_
      refine lv_ishr hx hb dL_bits_13 ?_
      refine lv_iconst (v := 1) hx hb dL_bits_14 (by decide) ?_
      refine lv_iand hx hb dL_bits_15 ?_
      refine lv_iadd hx hb dL_bits_16 ?_
      refine lv_istore_n (lv' := [(1, .int ((bitsT x k4) + ((x >>> ((nI k4) &&& 31)) &&& 1))), (2, .int (nI k4)), (0, .int x)]) hx hb dL_bits_17 rfl hl (by decide) rfl (fun ls hl => ?_)
      refine lv_iinc (v := (nI (k4 + 1))) (lv' := [(2, .int (nI (k4 + 1))), (1, .int ((bitsT x k4) + ((x >>> ((nI k4) &&& 31)) &&& 1))), (0, .int x)]) hx hb dL_bits_18 hl (k := 1) rfl (nI_1 _) (by decide) rfl (fun ls hl => ?_)
      refine lv_goto (tgt := 4) hx hb dL_bits_21 (by decide) ?_
      have e_1 : (bitsT x (k4 + 1)) = ((bitsT x k4) + ((x >>> ((nI k4) &&& 31)) &&& 1)) := rfl
      exact ih4 (k4 + 1) (by omega) ls (by rw [e_1]; exact (lv_sub hl [0, 1, 2] rfl))
  exact loop4 16 0 (by omega) ls (lv_sub hl [0, 1, 2] rfl)
