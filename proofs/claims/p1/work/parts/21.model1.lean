-- the reference's row: what is read of it
abbrev MDV : Type := Int32 × (Nat → Int32) × Int32 × (Nat → Int32) × (Nat → Int32) × Int32 × (Nat → Int32) × Int32 × Int32 × Int64
def wMd (cA : Nat → ClassId) (a : Nat → Nat) (u : MDV) : va_W := [(a 0, .inr (5, [.int u.1, .ref (a 1), .int u.2.2.1, .ref (a 2), .ref (a 3), .int u.2.2.2.2.2.1, .ref (a 4), .int u.2.2.2.2.2.2.2.1, .int u.2.2.2.2.2.2.2.2.1, .long u.2.2.2.2.2.2.2.2.2])),
  (a 1, .inl (cA 0, 620, .inl u.2.1)), (a 2, .inl (cA 1, 2, .inl u.2.2.2.1)), (a 3, .inl (cA 0, 60, .inl u.2.2.2.2.1)), (a 4, .inl (cA 0, 16, .inl u.2.2.2.2.2.2.1))]
theorem wMd_fst (cA : Nat → ClassId) (a : Nat → Nat) (u : MDV) : (wMd cA a u).map Prod.fst = [a 0, a 1, a 2, a 3, a 4] := rfl
def hasF (x k : Int32) : Int32 := if (x >>> (k &&& 31)) &&& 1 = 1 then 1 else 0
theorem zshr (k : Int32) : ((0 : Int32) >>> k) &&& 1 = 0 := by simp
theorem hasF_0 (k : Int32) : hasF 0 k = 0 := by
  unfold hasF
  rw [zshr]
  rfl
def onesT (x : Int32) : Nat → Int32
  | 0 => 0
  | k + 1 => onesT x k + (x >>> (nI k &&& 31) &&& 1)
theorem onesT_succ (x : Int32) (k : Nat) : onesT x (k + 1) = onesT x k + (x >>> (nI k &&& 31) &&& 1) := rfl
theorem onesT_0 : onesT 0 16 = 0 := by decide +kernel
/-- no ring is laid, none is worn, and the settings are the first -/
def ZR (f : Nat → Int32) (b : Nat) : Prop := (∀ j, j < 16 → f (b + j) = 0) ∧ (∀ j, j < 8 → f (b + 17 + j) = 0) ∧ f (b + 25) = 6 ∧ f (b + 25 + 1) = 0
theorem ZR.th {f : Nat → Int32} {b : Nat} (h : ZR f b) : ∀ j, j < 16 → f (b + j) = 0 := h.1
theorem ZR.we {f : Nat → Int32} {b : Nat} (h : ZR f b) : ∀ j, j < 8 → f (b + 17 + j) = 0 := h.2.1
theorem ZR.s0 {f : Nat → Int32} {b : Nat} (h : ZR f b) : f (b + 25) = 6 := h.2.2.1
theorem ZR.s1 {f : Nat → Int32} {b : Nat} (h : ZR f b) : f (b + 25 + 1) = 0 := h.2.2.2
def f0J (j : Nat) : Int32 := if j = 25 then 6 else if j = 33 then 1 else 0
/-- a fresh row -/
def FR (f : Nat → Int32) (b : Nat) : Prop := ∀ j, j < 62 → f (b + j) = f0J j
theorem f0J_0 {j : Nat} (h1 : j ≠ 25) (h2 : j ≠ 33) : f0J j = 0 := by unfold f0J; rw [if_neg h1, if_neg h2]
theorem FR.ZR {f : Nat → Int32} {b : Nat} (h : FR f b) : ZR f b :=
  ⟨fun j hj => (h j (by omega)).trans (f0J_0 (by omega) (by omega)), fun j hj => by rw [Nat.add_assoc]; exact (h (17 + j) (by omega)).trans (f0J_0 (by omega) (by omega)), (h 25 (by omega)).trans rfl, (h 26 (by omega)).trans rfl⟩
theorem FR.z {f : Nat → Int32} (h : FR f 0) {j : Nat} (hj : j < 62) (h1 : j ≠ 25) (h2 : j ≠ 33) : f j = 0 := by
  have := h j hj
  rw [Nat.zero_add] at this
  exact this.trans (f0J_0 h1 h2)
theorem FR.at {f : Nat → Int32} (h : FR f 0) {j : Nat} (hj : j < 62) : f j = f0J j := by
  have := h j hj
  rwa [Nat.zero_add] at this
theorem FR.se {f : Nat → Int32} (h : FR f 0) : f 25 = 6 := h.at (by omega)
theorem FR.ru {f : Nat → Int32} (h : FR f 0) : f 33 = 1 := h.at (by omega)
theorem ZR.t0 {f : Nat → Int32} (h : ZR f 0) {j : Nat} (hj : j < 16) : f j = 0 := by
  have := h.th j hj
  rwa [Nat.zero_add] at this
theorem ZR.w0 {f : Nat → Int32} (h : ZR f 0) {j : Nat} (hj : j < 8) : f (17 + j) = 0 := by
  have := h.we j hj
  rwa [Nat.zero_add] at this
theorem sub6 (w : Nat) : nI (33 + w) - 6 = nI (27 + w) := by
  rw [show 33 + w = (27 + w) + 6 by omega, ← nI_add]
  exact Int32.add_sub_cancel _ _
def triN : Nat → Nat
  | 0 => 0
  | k + 1 => triN k + k
def fewI (f0 : Int32) : Nat → Int32
  | 0 => f0
  | j + 1 => if fewI f0 j ≤ 0 then fewI f0 j else 0
theorem fewI_succ (f0 : Int32) (j : Nat) : fewI f0 (j + 1) = if fewI f0 j ≤ 0 then fewI f0 j else 0 := rfl
def fewT : Nat → Int32
  | 0 => 8
  | k + 1 => fewI (fewT k) k
def countM (sv : Int32) (w : Nat) : Int32 := if w = 4 then 16 else if w = 7 then 120 else if w = 9 then sv else 0
set_option maxHeartbeats 4000000 in
set_option maxRecDepth 100000 in
theorem c_X5_in (l : Launch) (D : va_G) (cA : Nat → ClassId) (H : Heap) (x lo hi : Int32) : RO l yX5_in wsX5_in ({ frames := 0, cells := 0, slots := 0, locals := 0 } : Room) D cA [.int x, .int lo, .int hi] H (some (.int (inF x lo hi))) := by
  refine Met.ofW (cc := cX5_in) (maxL := 3) (ret := (some .boolean)) (by decide) rfl ?_
  intro p e s m args below meth c s₁ B hml hv
  obtain ⟨rfl, hH, hKN⟩ := hv
  have hK := hKN.1
  have hx := B.exec
  have hb := B.bytes
  have hr := B.returns
  have hts := atoms_spec (ws := wsX5_in) B.pre
  have hown : s.vm.findClass RX5 = some m.cls := findClass_of_methodNamed B.named
  have hlocks := B.notSynchronized
  subst hH
  have hH : s.heap = s.heap := rfl
  have hl := lv_entry ([.int x, .int lo, .int hi] : List Value) (n := 3) (Nat.le_of_ble_eq_true rfl)
  rw [lg_entry_eq]
  generalize (lg_sl ([.int x, .int lo, .int hi] : List Value) ++ List.replicate (3 - (lg_sl ([.int x, .int lo, .int hi] : List Value)).length) Slot.unset).toArray = ls at hl ⊢
  have hl : lv_has ls 3 [(0, .int x), (1, .int lo), (2, .int hi)] := hl
  refine lv_iload_n hx hb dX5_in_0 rfl (lv_at hl 0 rfl) ?_
  refine lv_iload_n hx hb dX5_in_1 rfl (lv_at hl 1 rfl) ?_
  refine lv_icmp_lt (tgt := 14) hx hb dX5_in_2 (by decide) (fun c_2 => ?_) (fun c_2 => ?_)
  · refine lv_iconst (v := 0) hx hb dX5_in_14 (by decide) ?_
    exact ro_zret hx hb hr hlocks hH dX5_in_15 rfl (by simp [inF, c_2])
  · refine lv_iload_n hx hb dX5_in_5 rfl (lv_at hl 0 rfl) ?_
    refine lv_iload_n hx hb dX5_in_6 rfl (lv_at hl 2 rfl) ?_
    refine lv_icmp_gt (tgt := 14) hx hb dX5_in_7 (by decide) (fun c_7 => ?_) (fun c_7 => ?_)
    · refine lv_iconst (v := 0) hx hb dX5_in_14 (by decide) ?_
      exact ro_zret hx hb hr hlocks hH dX5_in_15 rfl (by simp [inF, c_2, c_7])
    · refine lv_iconst (v := 1) hx hb dX5_in_10 (by decide) ?_
      refine lv_goto (tgt := 15) hx hb dX5_in_11 (by decide) ?_
      exact ro_zret hx hb hr hlocks hH dX5_in_15 rfl (by simp [inF, c_2, c_7])
set_option maxHeartbeats 4000000 in
set_option maxRecDepth 100000 in
theorem c_X5_isThread (l : Launch) (D : va_G) (cA : Nat → ClassId) (H : Heap) (x : Int32) : RO l yX5_isThread wsX5_isThread ({ frames := 1, cells := 0, slots := 0, locals := 22 } : Room) D cA [.int x] H (some (.int (inF x 0 15))) := by
  refine Met.ofW (cc := cX5_isThread) (maxL := 1) (ret := (some .boolean)) (by decide) rfl ?_
  intro p e s m args below meth c s₁ B hml hv
  obtain ⟨rfl, hH, hKN⟩ := hv
  have hK := hKN.1
  have hx := B.exec
  have hb := B.bytes
  have hr := B.returns
  have hts := atoms_spec (ws := wsX5_isThread) B.pre
  have hown : s.vm.findClass RX5 = some m.cls := findClass_of_methodNamed B.named
  have hlocks := B.notSynchronized
  subst hH
  have hH : s.heap = s.heap := rfl
  have hl := lv_entry ([.int x] : List Value) (n := 1) (Nat.le_of_ble_eq_true rfl)
  rw [lg_entry_eq]
  generalize (lg_sl ([.int x] : List Value) ++ List.replicate (1 - (lg_sl ([.int x] : List Value)).length) Slot.unset).toArray = ls at hl ⊢
  have hl : lv_has ls 1 [(0, .int x)] := hl
  refine lv_iload_n hx hb dX5_isThread_0 rfl (lv_at hl 0 rfl) ?_
  refine lv_iconst (v := 0) hx hb dX5_isThread_1 (by decide) ?_
  refine lv_bipush (v := 15) hx hb dX5_isThread_2 (by decide) ?_
  refine ro_S (As := [.int x, .int 0, .int 15]) (rest := []) ⟨hx, hb, hml, hown, hts⟩ (c_X5_in l D cA _ x 0 15) (cwS2 3 hts gX5_isThread_X5_in rfl rfl rfl (by decide +kernel) ⟨Nat.le_of_ble_eq_true rfl, Nat.le_of_ble_eq_true rfl⟩) hKN rfl hl.1 rfl (lv_room (Nat.le_of_ble_eq_true rfl)) dX5_isThread_4 ⟨Nat.zero_le _, Nat.zero_le _⟩ ?_
  exact ro_zret hx hb hr hlocks hH dX5_isThread_7 (inF_nar _ _ _) rfl
set_option maxHeartbeats 4000000 in
set_option maxRecDepth 100000 in
theorem c_X5_isRing (l : Launch) (D : va_G) (cA : Nat → ClassId) (H : Heap) (x : Int32) : RO l yX5_isRing wsX5_isRing ({ frames := 1, cells := 0, slots := 0, locals := 22 } : Room) D cA [.int x] H (some (.int (inF x 0 7))) := by
  refine Met.ofW (cc := cX5_isRing) (maxL := 1) (ret := (some .boolean)) (by decide) rfl ?_
  intro p e s m args below meth c s₁ B hml hv
  obtain ⟨rfl, hH, hKN⟩ := hv
  have hK := hKN.1
  have hx := B.exec
  have hb := B.bytes
  have hr := B.returns
  have hts := atoms_spec (ws := wsX5_isRing) B.pre
  have hown : s.vm.findClass RX5 = some m.cls := findClass_of_methodNamed B.named
  have hlocks := B.notSynchronized
  subst hH
  have hH : s.heap = s.heap := rfl
  have hl := lv_entry ([.int x] : List Value) (n := 1) (Nat.le_of_ble_eq_true rfl)
  rw [lg_entry_eq]
  generalize (lg_sl ([.int x] : List Value) ++ List.replicate (1 - (lg_sl ([.int x] : List Value)).length) Slot.unset).toArray = ls at hl ⊢
  have hl : lv_has ls 1 [(0, .int x)] := hl
  refine lv_iload_n hx hb dX5_isRing_0 rfl (lv_at hl 0 rfl) ?_
  refine lv_iconst (v := 0) hx hb dX5_isRing_1 (by decide) ?_
  refine lv_bipush (v := 7) hx hb dX5_isRing_2 (by decide) ?_
  refine ro_S (As := [.int x, .int 0, .int 7]) (rest := []) ⟨hx, hb, hml, hown, hts⟩ (c_X5_in l D cA _ x 0 7) (cwS2 3 hts gX5_isRing_X5_in rfl rfl rfl (by decide +kernel) ⟨Nat.le_of_ble_eq_true rfl, Nat.le_of_ble_eq_true rfl⟩) hKN rfl hl.1 rfl (lv_room (Nat.le_of_ble_eq_true rfl)) dX5_isRing_4 ⟨Nat.zero_le _, Nat.zero_le _⟩ ?_
  exact ro_zret hx hb hr hlocks hH dX5_isRing_7 (inF_nar _ _ _) rfl
set_option maxHeartbeats 4000000 in
set_option maxRecDepth 100000 in
theorem c_X5_has (l : Launch) (D : va_G) (cA : Nat → ClassId) (H : Heap) (x k : Int32) : RO l yX5_has wsX5_has ({ frames := 0, cells := 0, slots := 0, locals := 0 } : Room) D cA [.int x, .int k] H (some (.int (hasF x k))) := by
  refine Met.ofW (cc := cX5_has) (maxL := 2) (ret := (some .boolean)) (by decide) rfl ?_
  intro p e s m args below meth c s₁ B hml hv
  obtain ⟨rfl, hH, hKN⟩ := hv
  have hK := hKN.1
  have hx := B.exec
  have hb := B.bytes
  have hr := B.returns
  have hts := atoms_spec (ws := wsX5_has) B.pre
  have hown : s.vm.findClass RX5 = some m.cls := findClass_of_methodNamed B.named
  have hlocks := B.notSynchronized
  subst hH
  have hH : s.heap = s.heap := rfl
  have hl := lv_entry ([.int x, .int k] : List Value) (n := 2) (Nat.le_of_ble_eq_true rfl)
  rw [lg_entry_eq]
  generalize (lg_sl ([.int x, .int k] : List Value) ++ List.replicate (2 - (lg_sl ([.int x, .int k] : List Value)).length) Slot.unset).toArray = ls at hl ⊢
  have hl : lv_has ls 2 [(0, .int x), (1, .int k)] := hl
  refine lv_iload_n hx hb dX5_has_0 rfl (lv_at hl 0 rfl) ?_
  refine lv_iload_n hx hb dX5_has_1 rfl (lv_at hl 1 rfl) ?_
  refine lv_ishr hx hb dX5_has_2 ?_
  refine lv_iconst (v := 1) hx hb dX5_has_3 (by decide) ?_
  refine lv_iand hx hb dX5_has_4 ?_
  refine lv_iconst (v := 1) hx hb dX5_has_5 (by decide) ?_
  refine lv_icmp_ne (tgt := 13) hx hb dX5_has_6 (by decide) (fun c_6 => ?_) (fun c_6 => ?_)
  · refine lv_iconst (v := 0) hx hb dX5_has_13 (by decide) ?_
    exact ro_zret hx hb hr hlocks hH dX5_has_14 rfl (by simp [hasF, c_6])
  · refine lv_iconst (v := 1) hx hb dX5_has_9 (by decide) ?_
    refine lv_goto (tgt := 14) hx hb dX5_has_10 (by decide) ?_
    exact ro_zret hx hb hr hlocks hH dX5_has_14 rfl (by simp [hasF, c_6])
theorem c_X5_has0 (l : Launch) (D : va_G) (cA : Nat → ClassId) (H : Heap) (k : Int32) : RO l yX5_has wsX5_has ({ frames := 0, cells := 0, slots := 0, locals := 0 } : Room) D cA [.int 0, .int k] H (some (.int 0)) := by
  have h := c_X5_has l D cA H 0 k
  rw [hasF_0] at h
  exact h
set_option maxHeartbeats 4000000 in
set_option maxRecDepth 100000 in
theorem c_X5_ones (l : Launch) (D : va_G) (cA : Nat → ClassId) (H : Heap) (x : Int32) : RO l yX5_ones wsX5_ones ({ frames := 0, cells := 0, slots := 0, locals := 0 } : Room) D cA [.int x] H (some (.int (onesT x 16))) := by
  refine Met.ofW (cc := cX5_ones) (maxL := 3) (ret := (some .int)) (by decide) rfl ?_
  intro p e s m args below meth c s₁ B hml hv
  obtain ⟨rfl, hH, hKN⟩ := hv
  have hK := hKN.1
  have hx := B.exec
  have hb := B.bytes
  have hr := B.returns
  have hts := atoms_spec (ws := wsX5_ones) B.pre
  have hown : s.vm.findClass RX5 = some m.cls := findClass_of_methodNamed B.named
  have hlocks := B.notSynchronized
  subst hH
  have hH : s.heap = s.heap := rfl
  have hl := lv_entry ([.int x] : List Value) (n := 3) (Nat.le_of_ble_eq_true rfl)
  rw [lg_entry_eq]
  generalize (lg_sl ([.int x] : List Value) ++ List.replicate (3 - (lg_sl ([.int x] : List Value)).length) Slot.unset).toArray = ls at hl ⊢
  have hl : lv_has ls 3 [(0, .int x)] := hl
  refine lv_iconst (v := 0) hx hb dX5_ones_0 (by decide) ?_
  refine lv_istore_n (lv' := [(1, .int 0), (0, .int x)]) hx hb dX5_ones_1 rfl hl (by decide) rfl (fun ls hl => ?_)
  refine lv_iconst (v := 0) hx hb dX5_ones_2 (by decide) ?_
  refine lv_istore_n (lv' := [(2, .int 0), (1, .int 0), (0, .int x)]) hx hb dX5_ones_3 rfl hl (by decide) rfl (fun ls hl => ?_)
  have loop4 : ∀ (n4 k4 : Nat), k4 + n4 = 16 → ∀ (ls : Array Slot), lv_has ls 3 [(2, .int (nI k4)), (1, .int (onesT x k4)), (0, .int x)] → W p l e ({ frames := 0, cells := 0, slots := 0, locals := 0 } : Room) s m ([.int x] : List Value).toArray below meth c s.heap [] 0 0 (MQ below (roQ s.heap (some (.int (onesT x 16)))) ([.int x] : List Value).toArray s 0 0 noA) (F0 m 4 ls []) := by
    intro n4
    induction n4 with
    | zero =>
      intro k4 hk4 ls hl
      obtain rfl : 16 = k4 := by omega
      refine lv_iload_n hx hb dX5_ones_4 rfl (lv_at hl 0 rfl) ?_
      refine lv_bipush (v := 16) hx hb dX5_ones_5 (by decide) ?_
      refine lv_icmp_ge (tgt := 24) hx hb dX5_ones_7 (by decide) (fun _ => ?_) (fun h => absurd (by decide) h)
      refine lv_iload_n hx hb dX5_ones_24 rfl (lv_at hl 1 rfl) ?_
      exact ro_iret hx hb hr hlocks hH dX5_ones_25 rfl
    | succ n4 ih4 =>
      intro k4 hk4 ls hl
      have hlt4 : k4 < 16 := by omega
      refine lv_iload_n hx hb dX5_ones_4 rfl (lv_at hl 0 rfl) ?_
      refine lv_bipush (v := 16) hx hb dX5_ones_5 (by decide) ?_
      refine lv_icmp_ge (tgt := 24) hx hb dX5_ones_7 (by decide) (fun h => absurd h (nI_ge hlt4 (by first | decide | omega))) (fun _ => ?_)
      refine lv_iload_n hx hb dX5_ones_10 rfl (lv_at hl 1 rfl) ?_
      refine lv_iload_n hx hb dX5_ones_11 rfl (lv_at hl 2 rfl) ?_
      refine lv_iload_n hx hb dX5_ones_12 rfl (lv_at hl 0 rfl) ?_
      refine lv_ishr hx hb dX5_ones_13 ?_
      refine lv_iconst (v := 1) hx hb dX5_ones_14 (by decide) ?_
      refine lv_iand hx hb dX5_ones_15 ?_
      refine lv_iadd hx hb dX5_ones_16 ?_
      refine lv_istore_n (lv' := [(1, .int ((onesT x k4) + ((x >>> ((nI k4) &&& 31)) &&& 1))), (2, .int (nI k4)), (0, .int x)]) hx hb dX5_ones_17 rfl hl (by decide) rfl (fun ls hl => ?_)
      refine lv_iinc (v := (nI (k4 + 1))) (lv' := [(2, .int (nI (k4 + 1))), (1, .int ((onesT x k4) + ((x >>> ((nI k4) &&& 31)) &&& 1))), (0, .int x)]) hx hb dX5_ones_18 hl (k := 1) rfl (nI_1 _) (by decide) rfl (fun ls hl => ?_)
      refine lv_goto (tgt := 4) hx hb dX5_ones_21 (by decide) ?_
      have e_1 : (onesT x (k4 + 1)) = ((onesT x k4) + ((x >>> ((nI k4) &&& 31)) &&& 1)) := rfl
      exact ih4 (k4 + 1) (by omega) ls (by rw [e_1]; exact (lv_sub hl [0, 1, 2] rfl))
  exact loop4 16 0 (by omega) ls (lv_sub hl [0, 1, 2] rfl)
theorem c_X5_ones0 (l : Launch) (D : va_G) (cA : Nat → ClassId) (H : Heap) : RO l yX5_ones wsX5_ones ({ frames := 0, cells := 0, slots := 0, locals := 0 } : Room) D cA [.int 0] H (some (.int 0)) := by
  have h := c_X5_ones l D cA H 0
  rw [onesT_0] at h
  exact h
theorem mX5_reached_f7 : Cond.fieldLink RX5 7 "WireLoomModel" "s" "[I" ∈ wsX5_reached := by decide +kernel
set_option maxRecDepth 20000 in
theorem iX5_reached_X5 : ∀ w ∈ wsX50, w ∈ wsX5_reached := by decide +kernel
set_option maxHeartbeats 4000000 in
set_option maxRecDepth 100000 in
theorem c_X5_reached (l : Launch) (D : va_G) (cA : Nat → ClassId) (H : Heap) (a : Nat → Nat) (u : MDV) (b : Nat) (hb5 : b ≤ 558) (t : Nat) (ht : t < 16) (h : Nat) (hh : h < 8) (hZ : ZR u.2.1 b) (hP0 : va_P D vwCl (wMd cA a u) H) : RO l yX5_reached wsX5_reached ({ frames := 1, cells := 0, slots := 0, locals := 21 } : Room) D cA [.ref (a 0), .int (nI b), .int (nI t), .int (nI h)] H (some (.int 0)) := by
  refine Met.ofW (cc := cX5_reached) (maxL := 9) (ret := (some .int)) (by decide) rfl ?_
  intro p e s m args below meth c s₁ B hml hv
  obtain ⟨rfl, hH, hKN⟩ := hv
  have hK := hKN.1
  have hx := B.exec
  have hb := B.bytes
  have hr := B.returns
  have hts := atoms_spec (ws := wsX5_reached) B.pre
  have hown : s.vm.findClass RX5 = some m.cls := findClass_of_methodNamed B.named
  have hlocks := B.notSynchronized
  subst hH
  have hH : s.heap = s.heap := rfl
  have hP := hP0
  have hl := lv_entry ([.ref (a 0), .int (nI b), .int (nI t), .int (nI h)] : List Value) (n := 9) (Nat.le_of_ble_eq_true rfl)
  rw [lg_entry_eq]
  generalize (lg_sl ([.ref (a 0), .int (nI b), .int (nI t), .int (nI h)] : List Value) ++ List.replicate (9 - (lg_sl ([.ref (a 0), .int (nI b), .int (nI t), .int (nI h)] : List Value)).length) Slot.unset).toArray = ls at hl ⊢
  have hl : lv_has ls 9 [(0, .ref (a 0)), (1, .int (nI b)), (2, .int (nI t)), (3, .int (nI h))] := hl
  refine lv_aload_n hx hb dX5_reached_0 rfl (lv_at hl 0 rfl) ?_
  refine va_get (D := D) (ci := 5) (v := .ref (a 1)) (C := RX5) (T := TX5) (N := 10) hx hb hts iX5_reached_X5 hown hK hP 0 rfl rfl 1 (by decide) (hts _ mX5_reached_f7) (fun _ h9 => h9) rfl dX5_reached_1 ?_
  refine lv_iload_n hx hb dX5_reached_4 rfl (lv_at hl 1 rfl) ?_
  refine lv_iload_n hx hb dX5_reached_5 rfl (lv_at hl 2 rfl) ?_
  refine lz_iadd (v := (nI (b + t))) hx hb dX5_reached_6 (nI_add _ _) ?_
  refine lz_iald (k := (b + t)) (f := u.2.1) hx hb hK hP 1 0 rfl rfl ⟨by omega, by decide⟩ dX5_reached_7 ?_
  refine lz_top (v := 0) (hZ.th t ht) ?_
  refine lv_istore (lv' := [(4, .int 0), (0, .ref (a 0)), (1, .int (nI b)), (2, .int (nI t)), (3, .int (nI h))]) hx hb dX5_reached_8 hl (by decide) rfl (fun ls hl => ?_)
  refine lv_iconst (v := 0) hx hb dX5_reached_10 (by decide) ?_
  refine lv_istore (lv' := [(5, .int 0), (4, .int 0), (0, .ref (a 0)), (1, .int (nI b)), (2, .int (nI t)), (3, .int (nI h))]) hx hb dX5_reached_11 hl (by decide) rfl (fun ls hl => ?_)
  have loop13 : ∀ (n13 k13 : Nat), k13 + n13 = h → ∀ (ls : Array Slot), lv_has ls 9 [(5, .int (nI k13)), (4, .int 0), (0, .ref (a 0)), (1, .int (nI b)), (2, .int (nI t)), (3, .int (nI h))] → W p l e ({ frames := 1, cells := 0, slots := 0, locals := 21 } : Room) s m ([.ref (a 0), .int (nI b), .int (nI t), .int (nI h)] : List Value).toArray below meth c s.heap [] 0 0 (MQ below (roQ s.heap (some (.int 0))) ([.ref (a 0), .int (nI b), .int (nI t), .int (nI h)] : List Value).toArray s 0 0 noA) (F0 m 13 ls []) := by
    intro n13
    induction n13 with
    | zero =>
      intro k13 hk13 ls hl
      obtain rfl : h = k13 := by omega
      refine lv_iload hx hb dX5_reached_13 (lv_at hl 0 rfl) ?_
      refine lv_iload_n hx hb dX5_reached_15 rfl (lv_at hl 5 rfl) ?_
      refine lv_icmp_ge (tgt := 117) hx hb dX5_reached_16 (by decide) (fun _ => ?_) (fun h => absurd (nI_le (Nat.le_refl _) (by first | decide | omega)) h)
      refine lv_iload hx hb dX5_reached_117 (lv_at hl 1 rfl) ?_
      exact ro_iret hx hb hr hlocks hH dX5_reached_119 rfl
    | succ n13 ih13 =>
      intro k13 hk13 ls hl
      have hlt13 : k13 < h := by omega
      refine lv_iload hx hb dX5_reached_13 (lv_at hl 0 rfl) ?_
      refine lv_iload_n hx hb dX5_reached_15 rfl (lv_at hl 5 rfl) ?_
      refine lv_icmp_ge (tgt := 117) hx hb dX5_reached_16 (by decide) (fun h => absurd h (nI_ge hlt13 (by first | decide | omega))) (fun _ => ?_)
      refine lv_iload hx hb dX5_reached_19 (lv_at hl 1 rfl) ?_
      refine lv_istore (lv' := [(6, .int 0), (5, .int (nI k13)), (4, .int 0), (0, .ref (a 0)), (1, .int (nI b)), (2, .int (nI t)), (3, .int (nI h))]) hx hb dX5_reached_21 hl (by decide) rfl (fun ls hl => ?_)
      refine lv_iconst (v := 0) hx hb dX5_reached_23 (by decide) ?_
      refine lv_istore (lv' := [(7, .int 0), (6, .int 0), (5, .int (nI k13)), (4, .int 0), (0, .ref (a 0)), (1, .int (nI b)), (2, .int (nI t)), (3, .int (nI h))]) hx hb dX5_reached_24 hl (by decide) rfl (fun ls hl => ?_)
      have loop26 : ∀ (n26 k26 : Nat), k26 + n26 = 16 → ∀ (ls : Array Slot), lv_has ls 9 [(7, .int (nI k26)), (6, .int 0), (5, .int (nI k13)), (4, .int 0), (0, .ref (a 0)), (1, .int (nI b)), (2, .int (nI t)), (3, .int (nI h))] → W p l e ({ frames := 1, cells := 0, slots := 0, locals := 21 } : Room) s m ([.ref (a 0), .int (nI b), .int (nI t), .int (nI h)] : List Value).toArray below meth c s.heap [] 0 0 (MQ below (roQ s.heap (some (.int 0))) ([.ref (a 0), .int (nI b), .int (nI t), .int (nI h)] : List Value).toArray s 0 0 noA) (F0 m 26 ls []) := by
        intro n26
        induction n26 with
        | zero =>
          intro k26 hk26 ls hl
          obtain rfl : 16 = k26 := by omega
          refine lv_iload hx hb dX5_reached_26 (lv_at hl 0 rfl) ?_
          refine lv_bipush (v := 16) hx hb dX5_reached_28 (by decide) ?_
          refine lv_icmp_ge (tgt := 107) hx hb dX5_reached_30 (by decide) (fun _ => ?_) (fun h => absurd (by decide) h)
          refine lv_iload hx hb dX5_reached_107 (lv_at hl 1 rfl) ?_
          refine lv_istore (lv' := [(4, .int 0), (7, .int (nI 16)), (6, .int 0), (5, .int (nI k13)), (0, .ref (a 0)), (1, .int (nI b)), (2, .int (nI t)), (3, .int (nI h))]) hx hb dX5_reached_109 hl (by decide) rfl (fun ls hl => ?_)
          refine lv_iinc (v := (nI (k13 + 1))) (lv' := [(5, .int (nI (k13 + 1))), (4, .int 0), (7, .int (nI 16)), (6, .int 0), (0, .ref (a 0)), (1, .int (nI b)), (2, .int (nI t)), (3, .int (nI h))]) hx hb dX5_reached_111 hl (k := 3) rfl (nI_1 _) (by decide) rfl (fun ls hl => ?_)
          refine lv_goto (tgt := 13) hx hb dX5_reached_114 (by decide) ?_
          exact ih13 (k13 + 1) (by omega) ls (lv_sub hl [0, 1, 4, 5, 6, 7] rfl)
        | succ n26 ih26 =>
          intro k26 hk26 ls hl
          have hlt26 : k26 < 16 := by omega
          refine lv_iload hx hb dX5_reached_26 (lv_at hl 0 rfl) ?_
          refine lv_bipush (v := 16) hx hb dX5_reached_28 (by decide) ?_
          refine lv_icmp_ge (tgt := 107) hx hb dX5_reached_30 (by decide) (fun h => absurd h (nI_ge hlt26 (by first | decide | omega))) (fun _ => ?_)
          refine lv_iload hx hb dX5_reached_33 (lv_at hl 0 rfl) ?_
          refine lv_iload_n hx hb dX5_reached_35 rfl (lv_at hl 6 rfl) ?_
          refine lv_icmp_eq (tgt := 75) hx hb dX5_reached_36 (by decide) (fun c_36 => ?_) (fun c_36 => ?_)
          · refine lv_iconst (v := 0) hx hb dX5_reached_75 (by decide) ?_
            refine lv_istore (lv' := [(8, .int 0), (7, .int (nI k26)), (6, .int 0), (5, .int (nI k13)), (4, .int 0), (0, .ref (a 0)), (1, .int (nI b)), (2, .int (nI t)), (3, .int (nI h))]) hx hb dX5_reached_76 hl (by decide) rfl (fun ls hl => ?_)
            refine lv_iload hx hb dX5_reached_78 (lv_at hl 2 rfl) ?_
            refine lv_iload hx hb dX5_reached_80 (lv_at hl 0 rfl) ?_
            refine lv_if_eq (tgt := 97) hx hb dX5_reached_82 (by decide) (fun _ => ?_) (fun h => absurd (by decide) h)
            refine lv_iconst (v := 0) hx hb dX5_reached_97 (by decide) ?_
            refine lv_ior hx hb dX5_reached_98 ?_
            refine lz_top (v := 0) (by decide) ?_
            refine lv_istore (lv' := [(6, .int 0), (8, .int 0), (7, .int (nI k26)), (5, .int (nI k13)), (4, .int 0), (0, .ref (a 0)), (1, .int (nI b)), (2, .int (nI t)), (3, .int (nI h))]) hx hb dX5_reached_99 hl (by decide) rfl (fun ls hl => ?_)
            refine lv_iinc (v := (nI (k26 + 1))) (lv' := [(7, .int (nI (k26 + 1))), (6, .int 0), (8, .int 0), (5, .int (nI k13)), (4, .int 0), (0, .ref (a 0)), (1, .int (nI b)), (2, .int (nI t)), (3, .int (nI h))]) hx hb dX5_reached_101 hl (k := 2) rfl (nI_1 _) (by decide) rfl (fun ls hl => ?_)
            refine lv_goto (tgt := 26) hx hb dX5_reached_104 (by decide) ?_
            exact ih26 (k26 + 1) (by omega) ls (lv_sub hl [0, 1, 3, 4, 5, 6, 7, 8] rfl)
          · refine lv_aload_n hx hb dX5_reached_39 rfl (lv_at hl 4 rfl) ?_
            refine va_get (D := D) (ci := 5) (v := .ref (a 1)) (C := RX5) (T := TX5) (N := 10) hx hb hts iX5_reached_X5 hown hK hP 0 rfl rfl 1 (by decide) (hts _ mX5_reached_f7) (fun _ h9 => h9) rfl dX5_reached_40 ?_
            refine lv_iload_n hx hb dX5_reached_43 rfl (lv_at hl 5 rfl) ?_
            refine lv_bipush (v := 16) hx hb dX5_reached_44 (by decide) ?_
            refine lz_iadd (v := (nI (b + 16))) hx hb dX5_reached_46 (nI_add _ _) ?_
            refine lz_iald (k := (b + 16)) (f := u.2.1) hx hb hK hP 1 0 rfl rfl ⟨by omega, by decide⟩ dX5_reached_47 ?_
            refine lv_iload hx hb dX5_reached_48 (lv_at hl 0 rfl) ?_
            refine ro_S (As := [.int (u.2.1 (b + 16)), .int (nI k26)]) (rest := []) ⟨hx, hb, hml, hown, hts⟩ (c_X5_has l D cA _ (u.2.1 (b + 16)) (nI k26)) (cwS2 2 hts gX5_reached_X5_has rfl rfl rfl (by decide +kernel) ⟨Nat.le_of_ble_eq_true rfl, Nat.le_of_ble_eq_true rfl⟩) hKN rfl hl.1 rfl (lv_room (Nat.le_of_ble_eq_true rfl)) dX5_reached_50 ⟨Nat.zero_le _, Nat.zero_le _⟩ ?_
            refine lv_if_ne (tgt := 75) hx hb dX5_reached_53 (by decide) (fun c_53 => ?_) (fun c_53 => ?_)
            · refine lv_iconst (v := 0) hx hb dX5_reached_75 (by decide) ?_
              refine lv_istore (lv' := [(8, .int 0), (7, .int (nI k26)), (6, .int 0), (5, .int (nI k13)), (4, .int 0), (0, .ref (a 0)), (1, .int (nI b)), (2, .int (nI t)), (3, .int (nI h))]) hx hb dX5_reached_76 hl (by decide) rfl (fun ls hl => ?_)
              refine lv_iload hx hb dX5_reached_78 (lv_at hl 2 rfl) ?_
              refine lv_iload hx hb dX5_reached_80 (lv_at hl 0 rfl) ?_
              refine lv_if_eq (tgt := 97) hx hb dX5_reached_82 (by decide) (fun _ => ?_) (fun h => absurd (by decide) h)
              refine lv_iconst (v := 0) hx hb dX5_reached_97 (by decide) ?_
              refine lv_ior hx hb dX5_reached_98 ?_
              refine lz_top (v := 0) (by decide) ?_
              refine lv_istore (lv' := [(6, .int 0), (8, .int 0), (7, .int (nI k26)), (5, .int (nI k13)), (4, .int 0), (0, .ref (a 0)), (1, .int (nI b)), (2, .int (nI t)), (3, .int (nI h))]) hx hb dX5_reached_99 hl (by decide) rfl (fun ls hl => ?_)
              refine lv_iinc (v := (nI (k26 + 1))) (lv' := [(7, .int (nI (k26 + 1))), (6, .int 0), (8, .int 0), (5, .int (nI k13)), (4, .int 0), (0, .ref (a 0)), (1, .int (nI b)), (2, .int (nI t)), (3, .int (nI h))]) hx hb dX5_reached_101 hl (k := 2) rfl (nI_1 _) (by decide) rfl (fun ls hl => ?_)
              refine lv_goto (tgt := 26) hx hb dX5_reached_104 (by decide) ?_
              exact ih26 (k26 + 1) (by omega) ls (lv_sub hl [0, 1, 3, 4, 5, 6, 7, 8] rfl)
            · refine lv_aload_n hx hb dX5_reached_56 rfl (lv_at hl 4 rfl) ?_
              refine va_get (D := D) (ci := 5) (v := .ref (a 1)) (C := RX5) (T := TX5) (N := 10) hx hb hts iX5_reached_X5 hown hK hP 0 rfl rfl 1 (by decide) (hts _ mX5_reached_f7) (fun _ h9 => h9) rfl dX5_reached_57 ?_
              refine lv_iload_n hx hb dX5_reached_60 rfl (lv_at hl 5 rfl) ?_
              refine lv_iload hx hb dX5_reached_61 (lv_at hl 0 rfl) ?_
              refine lz_iadd (v := (nI (b + k26))) hx hb dX5_reached_63 (nI_add _ _) ?_
              refine lz_iald (k := (b + k26)) (f := u.2.1) hx hb hK hP 1 0 rfl rfl ⟨by omega, by decide⟩ dX5_reached_64 ?_
              refine lz_top (v := 0) (hZ.th k26 (by omega)) ?_
              refine lv_iload hx hb dX5_reached_65 (lv_at hl 3 rfl) ?_
              refine lv_iand hx hb dX5_reached_67 ?_
              refine lz_top (v := 0) (by decide) ?_
              refine lv_if_eq (tgt := 75) hx hb dX5_reached_68 (by decide) (fun _ => ?_) (fun h => absurd (by decide) h)
              refine lv_iconst (v := 0) hx hb dX5_reached_75 (by decide) ?_
              refine lv_istore (lv' := [(8, .int 0), (7, .int (nI k26)), (6, .int 0), (5, .int (nI k13)), (4, .int 0), (0, .ref (a 0)), (1, .int (nI b)), (2, .int (nI t)), (3, .int (nI h))]) hx hb dX5_reached_76 hl (by decide) rfl (fun ls hl => ?_)
              refine lv_iload hx hb dX5_reached_78 (lv_at hl 2 rfl) ?_
              refine lv_iload hx hb dX5_reached_80 (lv_at hl 0 rfl) ?_
              refine lv_if_eq (tgt := 97) hx hb dX5_reached_82 (by decide) (fun _ => ?_) (fun h => absurd (by decide) h)
              refine lv_iconst (v := 0) hx hb dX5_reached_97 (by decide) ?_
              refine lv_ior hx hb dX5_reached_98 ?_
              refine lz_top (v := 0) (by decide) ?_
              refine lv_istore (lv' := [(6, .int 0), (8, .int 0), (7, .int (nI k26)), (5, .int (nI k13)), (4, .int 0), (0, .ref (a 0)), (1, .int (nI b)), (2, .int (nI t)), (3, .int (nI h))]) hx hb dX5_reached_99 hl (by decide) rfl (fun ls hl => ?_)
              refine lv_iinc (v := (nI (k26 + 1))) (lv' := [(7, .int (nI (k26 + 1))), (6, .int 0), (8, .int 0), (5, .int (nI k13)), (4, .int 0), (0, .ref (a 0)), (1, .int (nI b)), (2, .int (nI t)), (3, .int (nI h))]) hx hb dX5_reached_101 hl (k := 2) rfl (nI_1 _) (by decide) rfl (fun ls hl => ?_)
              refine lv_goto (tgt := 26) hx hb dX5_reached_104 (by decide) ?_
              exact ih26 (k26 + 1) (by omega) ls (lv_sub hl [0, 1, 3, 4, 5, 6, 7, 8] rfl)
      exact loop26 16 0 (by omega) ls (lv_sub hl [0, 1, 2, 3, 4, 5, 6, 7] rfl)
  exact loop13 h 0 (by omega) ls (lv_sub hl [0, 1, 2, 3, 4, 5] rfl)
set_option maxHeartbeats 4000000 in
set_option maxRecDepth 100000 in
theorem c_X5_hopsTo (l : Launch) (D : va_G) (cA : Nat → ClassId) (H : Heap) (a : Nat → Nat) (u : MDV) (b : Nat) (hb5 : b ≤ 558) (t : Nat) (ht : t < 16) (ring : Int32) (hZ : ZR u.2.1 b) (hP0 : va_P D vwCl (wMd cA a u) H) : RO l yX5_hopsTo wsX5_hopsTo ({ frames := 2, cells := 0, slots := 0, locals := 49 } : Room) D cA [.ref (a 0), .int (nI b), .int (nI t), .int ring] H (some (.int (-1))) := by
  refine Met.ofW (cc := cX5_hopsTo) (maxL := 5) (ret := (some .int)) (by decide) rfl ?_
  intro p e s m args below meth c s₁ B hml hv
  obtain ⟨rfl, hH, hKN⟩ := hv
  have hK := hKN.1
  have hx := B.exec
  have hb := B.bytes
  have hr := B.returns
  have hts := atoms_spec (ws := wsX5_hopsTo) B.pre
  have hown : s.vm.findClass RX5 = some m.cls := findClass_of_methodNamed B.named
  have hlocks := B.notSynchronized
  subst hH
  have hH : s.heap = s.heap := rfl
  have hP := hP0
  have hl := lv_entry ([.ref (a 0), .int (nI b), .int (nI t), .int ring] : List Value) (n := 5) (Nat.le_of_ble_eq_true rfl)
  rw [lg_entry_eq]
  generalize (lg_sl ([.ref (a 0), .int (nI b), .int (nI t), .int ring] : List Value) ++ List.replicate (5 - (lg_sl ([.ref (a 0), .int (nI b), .int (nI t), .int ring] : List Value)).length) Slot.unset).toArray = ls at hl ⊢
  have hl : lv_has ls 5 [(0, .ref (a 0)), (1, .int (nI b)), (2, .int (nI t)), (3, .int ring)] := hl
  refine lv_iconst (v := 0) hx hb dX5_hopsTo_0 (by decide) ?_
  refine lv_istore (lv' := [(4, .int 0), (0, .ref (a 0)), (1, .int (nI b)), (2, .int (nI t)), (3, .int ring)]) hx hb dX5_hopsTo_1 hl (by decide) rfl (fun ls hl => ?_)
  have loop3 : ∀ (n3 k3 : Nat), k3 + n3 = 8 → ∀ (ls : Array Slot), lv_has ls 5 [(4, .int (nI k3)), (0, .ref (a 0)), (1, .int (nI b)), (2, .int (nI t)), (3, .int ring)] → W p l e ({ frames := 2, cells := 0, slots := 0, locals := 49 } : Room) s m ([.ref (a 0), .int (nI b), .int (nI t), .int ring] : List Value).toArray below meth c s.heap [] 0 0 (MQ below (roQ s.heap (some (.int (-1)))) ([.ref (a 0), .int (nI b), .int (nI t), .int ring] : List Value).toArray s 0 0 noA) (F0 m 3 ls []) := by
    intro n3
    induction n3 with
    | zero =>
      intro k3 hk3 ls hl
      obtain rfl : 8 = k3 := by omega
      refine lv_iload hx hb dX5_hopsTo_3 (lv_at hl 0 rfl) ?_
      refine lv_bipush (v := 8) hx hb dX5_hopsTo_5 (by decide) ?_
      refine lv_icmp_ge (tgt := 34) hx hb dX5_hopsTo_7 (by decide) (fun _ => ?_) (fun h => absurd (by decide) h)
      refine lv_iconst (v := (-1)) hx hb dX5_hopsTo_34 (by decide) ?_
      exact ro_iret hx hb hr hlocks hH dX5_hopsTo_35 rfl
    | succ n3 ih3 =>
      intro k3 hk3 ls hl
      have hlt3 : k3 < 8 := by omega
      refine lv_iload hx hb dX5_hopsTo_3 (lv_at hl 0 rfl) ?_
      refine lv_bipush (v := 8) hx hb dX5_hopsTo_5 (by decide) ?_
      refine lv_icmp_ge (tgt := 34) hx hb dX5_hopsTo_7 (by decide) (fun h => absurd h (nI_ge hlt3 (by first | decide | omega))) (fun _ => ?_)
      refine lv_aload_n hx hb dX5_hopsTo_10 rfl (lv_at hl 1 rfl) ?_
      refine lv_iload_n hx hb dX5_hopsTo_11 rfl (lv_at hl 2 rfl) ?_
      refine lv_iload_n hx hb dX5_hopsTo_12 rfl (lv_at hl 3 rfl) ?_
      refine lv_iload hx hb dX5_hopsTo_13 (lv_at hl 0 rfl) ?_
      refine ro_V (ci := 5) (q0 := 0) (As := [.int (nI b), .int (nI t), .int (nI k3)]) (rest := []) ⟨hx, hb, hml, hown, hts⟩ (c_X5_reached l D cA _ a u b (by omega) t (by omega) k3 (by omega) hZ hP) (cwV 3 hts gX5_hopsTo_X5_reached rfl rfl rfl (by decide +kernel) ⟨Nat.le_of_ble_eq_true rfl, Nat.le_of_ble_eq_true rfl⟩) hKN hP rfl rfl rfl hl.1 rfl (lv_room (Nat.le_of_ble_eq_true rfl)) dX5_hopsTo_15 ⟨Nat.zero_le _, Nat.zero_le _⟩ ?_
      refine lv_iload_n hx hb dX5_hopsTo_18 rfl (lv_at hl 4 rfl) ?_
      refine ro_S (As := [.int 0, .int ring]) (rest := []) ⟨hx, hb, hml, hown, hts⟩ (c_X5_has0 l D cA _ ring) (cwS2 2 hts gX5_hopsTo_X5_has rfl rfl rfl (by decide +kernel) ⟨Nat.le_of_ble_eq_true rfl, Nat.le_of_ble_eq_true rfl⟩) hKN rfl hl.1 rfl (lv_room (Nat.le_of_ble_eq_true rfl)) dX5_hopsTo_19 ⟨Nat.zero_le _, Nat.zero_le _⟩ ?_
      refine lv_if_eq (tgt := 28) hx hb dX5_hopsTo_22 (by decide) (fun _ => ?_) (fun h => absurd (by decide) h)
      refine lv_iinc (v := (nI (k3 + 1))) (lv' := [(4, .int (nI (k3 + 1))), (0, .ref (a 0)), (1, .int (nI b)), (2, .int (nI t)), (3, .int ring)]) hx hb dX5_hopsTo_28 hl (k := 0) rfl (nI_1 _) (by decide) rfl (fun ls hl => ?_)
      refine lv_goto (tgt := 3) hx hb dX5_hopsTo_31 (by decide) ?_
      exact ih3 (k3 + 1) (by omega) ls (lv_sub hl [0, 1, 2, 3, 4] rfl)
  exact loop3 8 0 (by omega) ls (lv_sub hl [0, 1, 2, 3, 4] rfl)
theorem mX5_strengthIn_f7 : Cond.fieldLink RX5 7 "WireLoomModel" "s" "[I" ∈ wsX5_strengthIn := by decide +kernel
set_option maxRecDepth 20000 in
theorem iX5_strengthIn_X5 : ∀ w ∈ wsX50, w ∈ wsX5_strengthIn := by decide +kernel
set_option maxHeartbeats 4000000 in
set_option maxRecDepth 100000 in
theorem c_X5_strengthIn (l : Launch) (D : va_G) (cA : Nat → ClassId) (H : Heap) (a : Nat → Nat) (u : MDV) (b : Nat) (hb5 : b ≤ 558) (t : Nat) (ht : t < 16) (r : Nat) (hr0 : r < 8) (hZ : ZR u.2.1 b) (hP0 : va_P D vwCl (wMd cA a u) H) : RO l yX5_strengthIn wsX5_strengthIn ({ frames := 3, cells := 0, slots := 0, locals := 73 } : Room) D cA [.ref (a 0), .int (nI b), .int (nI t), .int (nI r)] H (some (.int 0)) := by
  refine Met.ofW (cc := cX5_strengthIn) (maxL := 7) (ret := (some .int)) (by decide) rfl ?_
  intro p e s m args below meth c s₁ B hml hv
  obtain ⟨rfl, hH, hKN⟩ := hv
  have hK := hKN.1
  have hx := B.exec
  have hb := B.bytes
  have hr := B.returns
  have hts := atoms_spec (ws := wsX5_strengthIn) B.pre
  have hown : s.vm.findClass RX5 = some m.cls := findClass_of_methodNamed B.named
  have hlocks := B.notSynchronized
  subst hH
  have hH : s.heap = s.heap := rfl
  have hP := hP0
  have hl := lv_entry ([.ref (a 0), .int (nI b), .int (nI t), .int (nI r)] : List Value) (n := 7) (Nat.le_of_ble_eq_true rfl)
  rw [lg_entry_eq]
  generalize (lg_sl ([.ref (a 0), .int (nI b), .int (nI t), .int (nI r)] : List Value) ++ List.replicate (7 - (lg_sl ([.ref (a 0), .int (nI b), .int (nI t), .int (nI r)] : List Value)).length) Slot.unset).toArray = ls at hl ⊢
  have hl : lv_has ls 7 [(0, .ref (a 0)), (1, .int (nI b)), (2, .int (nI t)), (3, .int (nI r))] := hl
  refine lv_aload_n hx hb dX5_strengthIn_0 rfl (lv_at hl 0 rfl) ?_
  refine lv_iload_n hx hb dX5_strengthIn_1 rfl (lv_at hl 1 rfl) ?_
  refine lv_iload_n hx hb dX5_strengthIn_2 rfl (lv_at hl 2 rfl) ?_
  refine lv_iload_n hx hb dX5_strengthIn_3 rfl (lv_at hl 3 rfl) ?_
  refine ro_V (ci := 5) (q0 := 0) (As := [.int (nI b), .int (nI t), .int (nI r)]) (rest := []) ⟨hx, hb, hml, hown, hts⟩ (c_X5_hopsTo l D cA _ a u b (by omega) t (by omega) (nI r) hZ hP) (cwV 3 hts gX5_strengthIn_X5_hopsTo rfl rfl rfl (by decide +kernel) ⟨Nat.le_of_ble_eq_true rfl, Nat.le_of_ble_eq_true rfl⟩) hKN hP rfl rfl rfl hl.1 rfl (lv_room (Nat.le_of_ble_eq_true rfl)) dX5_strengthIn_4 ⟨Nat.zero_le _, Nat.zero_le _⟩ ?_
  refine lv_istore (lv' := [(4, .int (-1)), (0, .ref (a 0)), (1, .int (nI b)), (2, .int (nI t)), (3, .int (nI r))]) hx hb dX5_strengthIn_7 hl (by decide) rfl (fun ls hl => ?_)
  refine lv_iload hx hb dX5_strengthIn_9 (lv_at hl 0 rfl) ?_
  refine lv_iconst (v := (-1)) hx hb dX5_strengthIn_11 (by decide) ?_
  refine lv_icmp_eq (tgt := 21) hx hb dX5_strengthIn_12 (by decide) (fun _ => ?_) (fun h => absurd (by decide) h)
  refine lv_iconst (v := 0) hx hb dX5_strengthIn_21 (by decide) ?_
  refine lv_goto (tgt := 32) hx hb dX5_strengthIn_22 (by decide) ?_
  refine lv_istore (lv' := [(5, .int 0), (4, .int (-1)), (0, .ref (a 0)), (1, .int (nI b)), (2, .int (nI t)), (3, .int (nI r))]) hx hb dX5_strengthIn_32 hl (by decide) rfl (fun ls hl => ?_)
  refine lv_iload hx hb dX5_strengthIn_34 (lv_at hl 0 rfl) ?_
  refine lv_aload_n hx hb dX5_strengthIn_36 rfl (lv_at hl 2 rfl) ?_
  refine va_get (D := D) (ci := 5) (v := .ref (a 1)) (C := RX5) (T := TX5) (N := 10) hx hb hts iX5_strengthIn_X5 hown hK hP 0 rfl rfl 1 (by decide) (hts _ mX5_strengthIn_f7) (fun _ h9 => h9) rfl dX5_strengthIn_37 ?_
  refine lv_iload_n hx hb dX5_strengthIn_40 rfl (lv_at hl 3 rfl) ?_
  refine lv_bipush (v := 17) hx hb dX5_strengthIn_41 (by decide) ?_
  refine lz_iadd (v := (nI (b + 17))) hx hb dX5_strengthIn_43 (nI_add _ _) ?_
  refine lv_iload_n hx hb dX5_strengthIn_44 rfl (lv_at hl 5 rfl) ?_
  refine lz_iadd (v := (nI ((b + 17) + r))) hx hb dX5_strengthIn_45 (nI_add _ _) ?_
  refine lz_iald (k := ((b + 17) + r)) (f := u.2.1) hx hb hK hP 1 0 rfl rfl ⟨by omega, by decide⟩ dX5_strengthIn_46 ?_
  refine lz_top (v := 0) (hZ.we r hr0) ?_
  refine lv_bipush (v := 10) hx hb dX5_strengthIn_47 (by decide) ?_
  refine lz_idiv (v := 0) hx hb dX5_strengthIn_49 (by decide) (by decide) ?_
  refine lz_isub (v := 0) hx hb dX5_strengthIn_50 (by decide) ?_
  refine lv_istore (lv' := [(6, .int 0), (5, .int 0), (4, .int (-1)), (0, .ref (a 0)), (1, .int (nI b)), (2, .int (nI t)), (3, .int (nI r))]) hx hb dX5_strengthIn_51 hl (by decide) rfl (fun ls hl => ?_)
  refine lv_iload hx hb dX5_strengthIn_53 (lv_at hl 0 rfl) ?_
  refine lv_if_ge (tgt := 62) hx hb dX5_strengthIn_55 (by decide) (fun _ => ?_) (fun h => absurd (by decide) h)
  refine lv_iload hx hb dX5_strengthIn_62 (lv_at hl 0 rfl) ?_
  exact ro_iret hx hb hr hlocks hH dX5_strengthIn_64 rfl
theorem mX5_answers_f7 : Cond.fieldLink RX5 7 "WireLoomModel" "s" "[I" ∈ wsX5_answers := by decide +kernel
set_option maxRecDepth 20000 in
theorem iX5_answers_X5 : ∀ w ∈ wsX50, w ∈ wsX5_answers := by decide +kernel
set_option maxHeartbeats 4000000 in
set_option maxRecDepth 100000 in
theorem c_X5_answers (l : Launch) (D : va_G) (cA : Nat → ClassId) (H : Heap) (a : Nat → Nat) (u : MDV) (b : Nat) (hb5 : b ≤ 558) (t : Nat) (ht : t < 16) (hZ : ZR u.2.1 b) (hP0 : va_P D vwCl (wMd cA a u) H) : RO l yX5_answers wsX5_answers ({ frames := 4, cells := 0, slots := 0, locals := 99 } : Room) D cA [.ref (a 0), .int (nI b), .int (nI t)] H (some (.int 0)) := by
  refine Met.ofW (cc := cX5_answers) (maxL := 5) (ret := (some .int)) (by decide) rfl ?_
  intro p e s m args below meth c s₁ B hml hv
  obtain ⟨rfl, hH, hKN⟩ := hv
  have hK := hKN.1
  have hx := B.exec
  have hb := B.bytes
  have hr := B.returns
  have hts := atoms_spec (ws := wsX5_answers) B.pre
  have hown : s.vm.findClass RX5 = some m.cls := findClass_of_methodNamed B.named
  have hlocks := B.notSynchronized
  subst hH
  have hH : s.heap = s.heap := rfl
  have hP := hP0
  have hl := lv_entry ([.ref (a 0), .int (nI b), .int (nI t)] : List Value) (n := 5) (Nat.le_of_ble_eq_true rfl)
  rw [lg_entry_eq]
  generalize (lg_sl ([.ref (a 0), .int (nI b), .int (nI t)] : List Value) ++ List.replicate (5 - (lg_sl ([.ref (a 0), .int (nI b), .int (nI t)] : List Value)).length) Slot.unset).toArray = ls at hl ⊢
  have hl : lv_has ls 5 [(0, .ref (a 0)), (1, .int (nI b)), (2, .int (nI t))] := hl
  refine lv_iconst (v := 0) hx hb dX5_answers_0 (by decide) ?_
  refine lv_istore_n (lv' := [(3, .int 0), (0, .ref (a 0)), (1, .int (nI b)), (2, .int (nI t))]) hx hb dX5_answers_1 rfl hl (by decide) rfl (fun ls hl => ?_)
  refine lv_iconst (v := 0) hx hb dX5_answers_2 (by decide) ?_
  refine lv_istore (lv' := [(4, .int 0), (3, .int 0), (0, .ref (a 0)), (1, .int (nI b)), (2, .int (nI t))]) hx hb dX5_answers_3 hl (by decide) rfl (fun ls hl => ?_)
  have loop5 : ∀ (n5 k5 : Nat), k5 + n5 = 8 → ∀ (ls : Array Slot), lv_has ls 5 [(4, .int (nI k5)), (3, .int 0), (0, .ref (a 0)), (1, .int (nI b)), (2, .int (nI t))] → W p l e ({ frames := 4, cells := 0, slots := 0, locals := 99 } : Room) s m ([.ref (a 0), .int (nI b), .int (nI t)] : List Value).toArray below meth c s.heap [] 0 0 (MQ below (roQ s.heap (some (.int 0))) ([.ref (a 0), .int (nI b), .int (nI t)] : List Value).toArray s 0 0 noA) (F0 m 5 ls []) := by
    intro n5
    induction n5 with
    | zero =>
      intro k5 hk5 ls hl
      obtain rfl : 8 = k5 := by omega
      refine lv_iload hx hb dX5_answers_5 (lv_at hl 0 rfl) ?_
      refine lv_bipush (v := 8) hx hb dX5_answers_7 (by decide) ?_
      refine lv_icmp_ge (tgt := 49) hx hb dX5_answers_9 (by decide) (fun _ => ?_) (fun h => absurd (by decide) h)
      refine lv_iload_n hx hb dX5_answers_49 rfl (lv_at hl 1 rfl) ?_
      exact ro_iret hx hb hr hlocks hH dX5_answers_50 rfl
    | succ n5 ih5 =>
      intro k5 hk5 ls hl
      have hlt5 : k5 < 8 := by omega
      refine lv_iload hx hb dX5_answers_5 (lv_at hl 0 rfl) ?_
      refine lv_bipush (v := 8) hx hb dX5_answers_7 (by decide) ?_
      refine lv_icmp_ge (tgt := 49) hx hb dX5_answers_9 (by decide) (fun h => absurd h (nI_ge hlt5 (by first | decide | omega))) (fun _ => ?_)
      refine lv_iload_n hx hb dX5_answers_12 rfl (lv_at hl 1 rfl) ?_
      refine lv_aload_n hx hb dX5_answers_13 rfl (lv_at hl 2 rfl) ?_
      refine lv_iload_n hx hb dX5_answers_14 rfl (lv_at hl 3 rfl) ?_
      refine lv_iload_n hx hb dX5_answers_15 rfl (lv_at hl 4 rfl) ?_
      refine lv_iload hx hb dX5_answers_16 (lv_at hl 0 rfl) ?_
      refine ro_V (ci := 5) (q0 := 0) (As := [.int (nI b), .int (nI t), .int (nI k5)]) (rest := [.int 0]) ⟨hx, hb, hml, hown, hts⟩ (c_X5_strengthIn l D cA _ a u b (by omega) t (by omega) k5 (by omega) hZ hP) (cwV 3 hts gX5_answers_X5_strengthIn rfl rfl rfl (by decide +kernel) ⟨Nat.le_of_ble_eq_true rfl, Nat.le_of_ble_eq_true rfl⟩) hKN hP rfl rfl rfl hl.1 rfl (lv_room (Nat.le_of_ble_eq_true rfl)) dX5_answers_18 ⟨Nat.zero_le _, Nat.zero_le _⟩ ?_
      refine lv_aload_n hx hb dX5_answers_21 rfl (lv_at hl 2 rfl) ?_
      refine va_get (D := D) (ci := 5) (v := .ref (a 1)) (C := RX5) (T := TX5) (N := 10) hx hb hts iX5_answers_X5 hown hK hP 0 rfl rfl 1 (by decide) (hts _ mX5_answers_f7) (fun _ h9 => h9) rfl dX5_answers_22 ?_
      refine lv_iload_n hx hb dX5_answers_25 rfl (lv_at hl 3 rfl) ?_
      refine lv_bipush (v := 25) hx hb dX5_answers_26 (by decide) ?_
      refine lz_iadd (v := (nI (b + 25))) hx hb dX5_answers_28 (nI_add _ _) ?_
      refine lz_iald (k := (b + 25)) (f := u.2.1) hx hb hK hP 1 0 rfl rfl ⟨by omega, by decide⟩ dX5_answers_29 ?_
      refine lz_top (v := 6) hZ.s0 ?_
      refine lv_icmp_lt (tgt := 40) hx hb dX5_answers_30 (by decide) (fun _ => ?_) (fun h => absurd (by decide) h)
      refine lv_iconst (v := 0) hx hb dX5_answers_40 (by decide) ?_
      refine lv_ior hx hb dX5_answers_41 ?_
      refine lz_top (v := 0) (by decide) ?_
      refine lv_istore_n (lv' := [(3, .int 0), (4, .int (nI k5)), (0, .ref (a 0)), (1, .int (nI b)), (2, .int (nI t))]) hx hb dX5_answers_42 rfl hl (by decide) rfl (fun ls hl => ?_)
      refine lv_iinc (v := (nI (k5 + 1))) (lv' := [(4, .int (nI (k5 + 1))), (3, .int 0), (0, .ref (a 0)), (1, .int (nI b)), (2, .int (nI t))]) hx hb dX5_answers_43 hl (k := 1) rfl (nI_1 _) (by decide) rfl (fun ls hl => ?_)
      refine lv_goto (tgt := 5) hx hb dX5_answers_46 (by decide) ?_
      exact ih5 (k5 + 1) (by omega) ls (lv_sub hl [0, 1, 2, 3, 4] rfl)
  exact loop5 8 0 (by omega) ls (lv_sub hl [0, 1, 2, 3, 4] rfl)
theorem mX5_turned_f7 : Cond.fieldLink RX5 7 "WireLoomModel" "s" "[I" ∈ wsX5_turned := by decide +kernel
set_option maxRecDepth 20000 in
theorem iX5_turned_X5 : ∀ w ∈ wsX50, w ∈ wsX5_turned := by decide +kernel
set_option maxHeartbeats 4000000 in
set_option maxRecDepth 100000 in
theorem c_X5_turned (l : Launch) (D : va_G) (cA : Nat → ClassId) (H : Heap) (a : Nat → Nat) (u : MDV) (b : Nat) (hb5 : b ≤ 558) (x : Int32) (hZ : ZR u.2.1 b) (hP0 : va_P D vwCl (wMd cA a u) H) : RO l yX5_turned wsX5_turned ({ frames := 0, cells := 0, slots := 0, locals := 0 } : Room) D cA [.ref (a 0), .int (nI b), .int x] H (some (.int x)) := by
  refine Met.ofW (cc := cX5_turned) (maxL := 3) (ret := (some .int)) (by decide) rfl ?_
  intro p e s m args below meth c s₁ B hml hv
  obtain ⟨rfl, hH, hKN⟩ := hv
  have hK := hKN.1
  have hx := B.exec
  have hb := B.bytes
  have hr := B.returns
  have hts := atoms_spec (ws := wsX5_turned) B.pre
  have hown : s.vm.findClass RX5 = some m.cls := findClass_of_methodNamed B.named
  have hlocks := B.notSynchronized
  subst hH
  have hH : s.heap = s.heap := rfl
  have hP := hP0
  have hl := lv_entry ([.ref (a 0), .int (nI b), .int x] : List Value) (n := 3) (Nat.le_of_ble_eq_true rfl)
  rw [lg_entry_eq]
  generalize (lg_sl ([.ref (a 0), .int (nI b), .int x] : List Value) ++ List.replicate (3 - (lg_sl ([.ref (a 0), .int (nI b), .int x] : List Value)).length) Slot.unset).toArray = ls at hl ⊢
  have hl : lv_has ls 3 [(0, .ref (a 0)), (1, .int (nI b)), (2, .int x)] := hl
  refine lv_aload_n hx hb dX5_turned_0 rfl (lv_at hl 0 rfl) ?_
  refine va_get (D := D) (ci := 5) (v := .ref (a 1)) (C := RX5) (T := TX5) (N := 10) hx hb hts iX5_turned_X5 hown hK hP 0 rfl rfl 1 (by decide) (hts _ mX5_turned_f7) (fun _ h9 => h9) rfl dX5_turned_1 ?_
  refine lv_iload_n hx hb dX5_turned_4 rfl (lv_at hl 1 rfl) ?_
  refine lv_bipush (v := 25) hx hb dX5_turned_5 (by decide) ?_
  refine lz_iadd (v := (nI (b + 25))) hx hb dX5_turned_7 (nI_add _ _) ?_
  refine lv_iconst (v := 1) hx hb dX5_turned_8 (by decide) ?_
  refine lz_iadd (v := (nI ((b + 25) + 1))) hx hb dX5_turned_9 (nI_add _ _) ?_
  refine lz_iald (k := ((b + 25) + 1)) (f := u.2.1) hx hb hK hP 1 0 rfl rfl ⟨by omega, by decide⟩ dX5_turned_10 ?_
  refine lz_top (v := 0) hZ.s1 ?_
  refine lv_iconst (v := 1) hx hb dX5_turned_11 (by decide) ?_
  refine lv_icmp_ne (tgt := 23) hx hb dX5_turned_12 (by decide) (fun _ => ?_) (fun h => absurd h (by decide))
  refine lv_iload_n hx hb dX5_turned_23 rfl (lv_at hl 2 rfl) ?_
  exact ro_iret hx hb hr hlocks hH dX5_turned_24 rfl
set_option maxHeartbeats 4000000 in
set_option maxRecDepth 100000 in
theorem c_X5_wordOf (l : Launch) (D : va_G) (cA : Nat → ClassId) (H : Heap) (a : Nat → Nat) (u : MDV) (b : Nat) (hb5 : b ≤ 558) (t : Nat) (ht : t < 16) (hZ : ZR u.2.1 b) (hP0 : va_P D vwCl (wMd cA a u) H) : RO l yX5_wordOf wsX5_wordOf ({ frames := 5, cells := 0, slots := 0, locals := 123 } : Room) D cA [.ref (a 0), .int (nI b), .int (nI t)] H (some (.int 0)) := by
  refine Met.ofW (cc := cX5_wordOf) (maxL := 3) (ret := (some .int)) (by decide) rfl ?_
  intro p e s m args below meth c s₁ B hml hv
  obtain ⟨rfl, hH, hKN⟩ := hv
  have hK := hKN.1
  have hx := B.exec
  have hb := B.bytes
  have hr := B.returns
  have hts := atoms_spec (ws := wsX5_wordOf) B.pre
  have hown : s.vm.findClass RX5 = some m.cls := findClass_of_methodNamed B.named
  have hlocks := B.notSynchronized
  subst hH
  have hH : s.heap = s.heap := rfl
  have hP := hP0
  have hl := lv_entry ([.ref (a 0), .int (nI b), .int (nI t)] : List Value) (n := 3) (Nat.le_of_ble_eq_true rfl)
  rw [lg_entry_eq]
  generalize (lg_sl ([.ref (a 0), .int (nI b), .int (nI t)] : List Value) ++ List.replicate (3 - (lg_sl ([.ref (a 0), .int (nI b), .int (nI t)] : List Value)).length) Slot.unset).toArray = ls at hl ⊢
  have hl : lv_has ls 3 [(0, .ref (a 0)), (1, .int (nI b)), (2, .int (nI t))] := hl
  refine lv_aload_n hx hb dX5_wordOf_0 rfl (lv_at hl 0 rfl) ?_
  refine lv_iload_n hx hb dX5_wordOf_1 rfl (lv_at hl 1 rfl) ?_
  refine lv_aload_n hx hb dX5_wordOf_2 rfl (lv_at hl 0 rfl) ?_
  refine lv_iload_n hx hb dX5_wordOf_3 rfl (lv_at hl 1 rfl) ?_
  refine lv_iload_n hx hb dX5_wordOf_4 rfl (lv_at hl 2 rfl) ?_
  refine ro_V (ci := 5) (q0 := 0) (As := [.int (nI b), .int (nI t)]) (rest := [.int (nI b), .ref (a 0)]) ⟨hx, hb, hml, hown, hts⟩ (c_X5_answers l D cA _ a u b (by omega) t (by omega) hZ hP) (cwV 2 hts gX5_wordOf_X5_answers rfl rfl rfl (by decide +kernel) ⟨Nat.le_of_ble_eq_true rfl, Nat.le_of_ble_eq_true rfl⟩) hKN hP rfl rfl rfl hl.1 rfl (lv_room (Nat.le_of_ble_eq_true rfl)) dX5_wordOf_5 ⟨Nat.zero_le _, Nat.zero_le _⟩ ?_
  refine ro_V (ci := 5) (q0 := 0) (As := [.int (nI b), .int 0]) (rest := []) ⟨hx, hb, hml, hown, hts⟩ (c_X5_turned l D cA _ a u b (by omega) 0 hZ hP) (cwV 2 hts gX5_wordOf_X5_turned rfl rfl rfl (by decide +kernel) ⟨Nat.le_of_ble_eq_true rfl, Nat.le_of_ble_eq_true rfl⟩) hKN hP rfl rfl rfl hl.1 rfl (lv_room (Nat.le_of_ble_eq_true rfl)) dX5_wordOf_8 ⟨Nat.zero_le _, Nat.zero_le _⟩ ?_
  exact ro_iret hx hb hr hlocks hH dX5_wordOf_11 rfl
theorem mX5_meant_f7 : Cond.fieldLink RX5 7 "WireLoomModel" "s" "[I" ∈ wsX5_meant := by decide +kernel
set_option maxRecDepth 20000 in
theorem iX5_meant_X5 : ∀ w ∈ wsX50, w ∈ wsX5_meant := by decide +kernel
set_option maxHeartbeats 4000000 in
set_option maxRecDepth 100000 in
theorem c_X5_meant (l : Launch) (D : va_G) (cA : Nat → ClassId) (H : Heap) (a : Nat → Nat) (u : MDV) (b : Nat) (hb5 : b ≤ 558) (t : Nat) (ht : t < 16) (hZ : ZR u.2.1 b) (hP0 : va_P D vwCl (wMd cA a u) H) : RO l yX5_meant wsX5_meant ({ frames := 1, cells := 0, slots := 0, locals := 22 } : Room) D cA [.ref (a 0), .int (nI b), .int (nI t)] H (some (.int 0)) := by
  refine Met.ofW (cc := cX5_meant) (maxL := 3) (ret := (some .int)) (by decide) rfl ?_
  intro p e s m args below meth c s₁ B hml hv
  obtain ⟨rfl, hH, hKN⟩ := hv
  have hK := hKN.1
  have hx := B.exec
  have hb := B.bytes
  have hr := B.returns
  have hts := atoms_spec (ws := wsX5_meant) B.pre
  have hown : s.vm.findClass RX5 = some m.cls := findClass_of_methodNamed B.named
  have hlocks := B.notSynchronized
  subst hH
  have hH : s.heap = s.heap := rfl
  have hP := hP0
  have hl := lv_entry ([.ref (a 0), .int (nI b), .int (nI t)] : List Value) (n := 3) (Nat.le_of_ble_eq_true rfl)
  rw [lg_entry_eq]
  generalize (lg_sl ([.ref (a 0), .int (nI b), .int (nI t)] : List Value) ++ List.replicate (3 - (lg_sl ([.ref (a 0), .int (nI b), .int (nI t)] : List Value)).length) Slot.unset).toArray = ls at hl ⊢
  have hl : lv_has ls 3 [(0, .ref (a 0)), (1, .int (nI b)), (2, .int (nI t))] := hl
  refine lv_aload_n hx hb dX5_meant_0 rfl (lv_at hl 0 rfl) ?_
  refine lv_iload_n hx hb dX5_meant_1 rfl (lv_at hl 1 rfl) ?_
  refine lv_aload_n hx hb dX5_meant_2 rfl (lv_at hl 0 rfl) ?_
  refine va_get (D := D) (ci := 5) (v := .ref (a 1)) (C := RX5) (T := TX5) (N := 10) hx hb hts iX5_meant_X5 hown hK hP 0 rfl rfl 1 (by decide) (hts _ mX5_meant_f7) (fun _ h9 => h9) rfl dX5_meant_3 ?_
  refine lv_iload_n hx hb dX5_meant_6 rfl (lv_at hl 1 rfl) ?_
  refine lv_iload_n hx hb dX5_meant_7 rfl (lv_at hl 2 rfl) ?_
  refine lz_iadd (v := (nI (b + t))) hx hb dX5_meant_8 (nI_add _ _) ?_
  refine lz_iald (k := (b + t)) (f := u.2.1) hx hb hK hP 1 0 rfl rfl ⟨by omega, by decide⟩ dX5_meant_9 ?_
  refine lz_top (v := 0) (hZ.th t ht) ?_
  refine ro_V (ci := 5) (q0 := 0) (As := [.int (nI b), .int 0]) (rest := []) ⟨hx, hb, hml, hown, hts⟩ (c_X5_turned l D cA _ a u b (by omega) 0 hZ hP) (cwV 2 hts gX5_meant_X5_turned rfl rfl rfl (by decide +kernel) ⟨Nat.le_of_ble_eq_true rfl, Nat.le_of_ble_eq_true rfl⟩) hKN hP rfl rfl rfl hl.1 rfl (lv_room (Nat.le_of_ble_eq_true rfl)) dX5_meant_10 ⟨Nat.zero_le _, Nat.zero_le _⟩ ?_
  exact ro_iret hx hb hr hlocks hH dX5_meant_13 rfl
theorem mX5_crossings_f7 : Cond.fieldLink RX5 7 "WireLoomModel" "s" "[I" ∈ wsX5_crossings := by decide +kernel
set_option maxRecDepth 20000 in
theorem iX5_crossings_X5 : ∀ w ∈ wsX50, w ∈ wsX5_crossings := by decide +kernel
set_option maxHeartbeats 4000000 in
set_option maxRecDepth 100000 in
theorem c_X5_crossings (l : Launch) (D : va_G) (cA : Nat → ClassId) (H : Heap) (a : Nat → Nat) (u : MDV) (b : Nat) (hb5 : b ≤ 558) (hZ : ZR u.2.1 b) (hP0 : va_P D vwCl (wMd cA a u) H) : RO l yX5_crossings wsX5_crossings ({ frames := 1, cells := 0, slots := 0, locals := 22 } : Room) D cA [.ref (a 0), .int (nI b)] H (some (.int 0)) := by
  refine Met.ofW (cc := cX5_crossings) (maxL := 4) (ret := (some .int)) (by decide) rfl ?_
  intro p e s m args below meth c s₁ B hml hv
  obtain ⟨rfl, hH, hKN⟩ := hv
  have hK := hKN.1
  have hx := B.exec
  have hb := B.bytes
  have hr := B.returns
  have hts := atoms_spec (ws := wsX5_crossings) B.pre
  have hown : s.vm.findClass RX5 = some m.cls := findClass_of_methodNamed B.named
  have hlocks := B.notSynchronized
  subst hH
  have hH : s.heap = s.heap := rfl
  have hP := hP0
  have hl := lv_entry ([.ref (a 0), .int (nI b)] : List Value) (n := 4) (Nat.le_of_ble_eq_true rfl)
  rw [lg_entry_eq]
  generalize (lg_sl ([.ref (a 0), .int (nI b)] : List Value) ++ List.replicate (4 - (lg_sl ([.ref (a 0), .int (nI b)] : List Value)).length) Slot.unset).toArray = ls at hl ⊢
  have hl : lv_has ls 4 [(0, .ref (a 0)), (1, .int (nI b))] := hl
  refine lv_iconst (v := 0) hx hb dX5_crossings_0 (by decide) ?_
  refine lv_istore_n (lv' := [(2, .int 0), (0, .ref (a 0)), (1, .int (nI b))]) hx hb dX5_crossings_1 rfl hl (by decide) rfl (fun ls hl => ?_)
  refine lv_iconst (v := 0) hx hb dX5_crossings_2 (by decide) ?_
  refine lv_istore_n (lv' := [(3, .int 0), (2, .int 0), (0, .ref (a 0)), (1, .int (nI b))]) hx hb dX5_crossings_3 rfl hl (by decide) rfl (fun ls hl => ?_)
  have loop4 : ∀ (n4 k4 : Nat), k4 + n4 = 16 → ∀ (ls : Array Slot), lv_has ls 4 [(3, .int (nI k4)), (2, .int 0), (0, .ref (a 0)), (1, .int (nI b))] → W p l e ({ frames := 1, cells := 0, slots := 0, locals := 22 } : Room) s m ([.ref (a 0), .int (nI b)] : List Value).toArray below meth c s.heap [] 0 0 (MQ below (roQ s.heap (some (.int 0))) ([.ref (a 0), .int (nI b)] : List Value).toArray s 0 0 noA) (F0 m 4 ls []) := by
    intro n4
    induction n4 with
    | zero =>
      intro k4 hk4 ls hl
      obtain rfl : 16 = k4 := by omega
      refine lv_iload_n hx hb dX5_crossings_4 rfl (lv_at hl 0 rfl) ?_
      refine lv_bipush (v := 16) hx hb dX5_crossings_5 (by decide) ?_
      refine lv_icmp_ge (tgt := 30) hx hb dX5_crossings_7 (by decide) (fun _ => ?_) (fun h => absurd (by decide) h)
      refine lv_iload_n hx hb dX5_crossings_30 rfl (lv_at hl 1 rfl) ?_
      exact ro_iret hx hb hr hlocks hH dX5_crossings_31 rfl
    | succ n4 ih4 =>
      intro k4 hk4 ls hl
      have hlt4 : k4 < 16 := by omega
      refine lv_iload_n hx hb dX5_crossings_4 rfl (lv_at hl 0 rfl) ?_
      refine lv_bipush (v := 16) hx hb dX5_crossings_5 (by decide) ?_
      refine lv_icmp_ge (tgt := 30) hx hb dX5_crossings_7 (by decide) (fun h => absurd h (nI_ge hlt4 (by first | decide | omega))) (fun _ => ?_)
      refine lv_iload_n hx hb dX5_crossings_10 rfl (lv_at hl 1 rfl) ?_
      refine lv_aload_n hx hb dX5_crossings_11 rfl (lv_at hl 2 rfl) ?_
      refine va_get (D := D) (ci := 5) (v := .ref (a 1)) (C := RX5) (T := TX5) (N := 10) hx hb hts iX5_crossings_X5 hown hK hP 0 rfl rfl 1 (by decide) (hts _ mX5_crossings_f7) (fun _ h9 => h9) rfl dX5_crossings_12 ?_
      refine lv_iload_n hx hb dX5_crossings_15 rfl (lv_at hl 3 rfl) ?_
      refine lv_iload_n hx hb dX5_crossings_16 rfl (lv_at hl 0 rfl) ?_
      refine lz_iadd (v := (nI (b + k4))) hx hb dX5_crossings_17 (nI_add _ _) ?_
      refine lz_iald (k := (b + k4)) (f := u.2.1) hx hb hK hP 1 0 rfl rfl ⟨by omega, by decide⟩ dX5_crossings_18 ?_
      refine lz_top (v := 0) (hZ.th k4 (by omega)) ?_
      refine ro_S (As := [.int 0]) (rest := [.int 0]) ⟨hx, hb, hml, hown, hts⟩ (c_X5_ones0 l D cA _) (cwS2 1 hts gX5_crossings_X5_ones rfl rfl rfl (by decide +kernel) ⟨Nat.le_of_ble_eq_true rfl, Nat.le_of_ble_eq_true rfl⟩) hKN rfl hl.1 rfl (lv_room (Nat.le_of_ble_eq_true rfl)) dX5_crossings_19 ⟨Nat.zero_le _, Nat.zero_le _⟩ ?_
      refine lz_iadd (v := 0) hx hb dX5_crossings_22 (by decide) ?_
      refine lv_istore_n (lv' := [(2, .int 0), (3, .int (nI k4)), (0, .ref (a 0)), (1, .int (nI b))]) hx hb dX5_crossings_23 rfl hl (by decide) rfl (fun ls hl => ?_)
      refine lv_iinc (v := (nI (k4 + 1))) (lv' := [(3, .int (nI (k4 + 1))), (2, .int 0), (0, .ref (a 0)), (1, .int (nI b))]) hx hb dX5_crossings_24 hl (k := 1) rfl (nI_1 _) (by decide) rfl (fun ls hl => ?_)
      refine lv_goto (tgt := 4) hx hb dX5_crossings_27 (by decide) ?_
      exact ih4 (k4 + 1) (by omega) ls (lv_sub hl [0, 1, 2, 3] rfl)
  exact loop4 16 0 (by omega) ls (lv_sub hl [0, 1, 2, 3] rfl)
set_option maxHeartbeats 4000000 in
set_option maxRecDepth 100000 in
theorem c_X5_right (l : Launch) (D : va_G) (cA : Nat → ClassId) (H : Heap) (a : Nat → Nat) (u : MDV) (b : Nat) (hb5 : b ≤ 558) (hZ : ZR u.2.1 b) (hP0 : va_P D vwCl (wMd cA a u) H) : RO l yX5_right wsX5_right ({ frames := 6, cells := 0, slots := 0, locals := 145 } : Room) D cA [.ref (a 0), .int (nI b)] H (some (.int 16)) := by
  refine Met.ofW (cc := cX5_right) (maxL := 4) (ret := (some .int)) (by decide) rfl ?_
  intro p e s m args below meth c s₁ B hml hv
  obtain ⟨rfl, hH, hKN⟩ := hv
  have hK := hKN.1
  have hx := B.exec
  have hb := B.bytes
  have hr := B.returns
  have hts := atoms_spec (ws := wsX5_right) B.pre
  have hown : s.vm.findClass RX5 = some m.cls := findClass_of_methodNamed B.named
  have hlocks := B.notSynchronized
  subst hH
  have hH : s.heap = s.heap := rfl
  have hP := hP0
  have hl := lv_entry ([.ref (a 0), .int (nI b)] : List Value) (n := 4) (Nat.le_of_ble_eq_true rfl)
  rw [lg_entry_eq]
  generalize (lg_sl ([.ref (a 0), .int (nI b)] : List Value) ++ List.replicate (4 - (lg_sl ([.ref (a 0), .int (nI b)] : List Value)).length) Slot.unset).toArray = ls at hl ⊢
  have hl : lv_has ls 4 [(0, .ref (a 0)), (1, .int (nI b))] := hl
  refine lv_iconst (v := 0) hx hb dX5_right_0 (by decide) ?_
  refine lv_istore_n (lv' := [(2, .int 0), (0, .ref (a 0)), (1, .int (nI b))]) hx hb dX5_right_1 rfl hl (by decide) rfl (fun ls hl => ?_)
  refine lv_iconst (v := 0) hx hb dX5_right_2 (by decide) ?_
  refine lv_istore_n (lv' := [(3, .int 0), (2, .int 0), (0, .ref (a 0)), (1, .int (nI b))]) hx hb dX5_right_3 rfl hl (by decide) rfl (fun ls hl => ?_)
  have loop4 : ∀ (n4 k4 : Nat), k4 + n4 = 16 → ∀ (ls : Array Slot), lv_has ls 4 [(3, .int (nI k4)), (2, .int (nI k4)), (0, .ref (a 0)), (1, .int (nI b))] → W p l e ({ frames := 6, cells := 0, slots := 0, locals := 145 } : Room) s m ([.ref (a 0), .int (nI b)] : List Value).toArray below meth c s.heap [] 0 0 (MQ below (roQ s.heap (some (.int 16))) ([.ref (a 0), .int (nI b)] : List Value).toArray s 0 0 noA) (F0 m 4 ls []) := by
    intro n4
    induction n4 with
    | zero =>
      intro k4 hk4 ls hl
      obtain rfl : 16 = k4 := by omega
      refine lv_iload_n hx hb dX5_right_4 rfl (lv_at hl 0 rfl) ?_
      refine lv_bipush (v := 16) hx hb dX5_right_5 (by decide) ?_
      refine lv_icmp_ge (tgt := 39) hx hb dX5_right_7 (by decide) (fun _ => ?_) (fun h => absurd (by decide) h)
      refine lv_iload_n hx hb dX5_right_39 rfl (lv_at hl 1 rfl) ?_
      exact ro_iret hx hb hr hlocks hH dX5_right_40 (by decide)
    | succ n4 ih4 =>
      intro k4 hk4 ls hl
      have hlt4 : k4 < 16 := by omega
      refine lv_iload_n hx hb dX5_right_4 rfl (lv_at hl 0 rfl) ?_
      refine lv_bipush (v := 16) hx hb dX5_right_5 (by decide) ?_
      refine lv_icmp_ge (tgt := 39) hx hb dX5_right_7 (by decide) (fun h => absurd h (nI_ge hlt4 (by first | decide | omega))) (fun _ => ?_)
      refine lv_iload_n hx hb dX5_right_10 rfl (lv_at hl 1 rfl) ?_
      refine lv_aload_n hx hb dX5_right_11 rfl (lv_at hl 2 rfl) ?_
      refine lv_iload_n hx hb dX5_right_12 rfl (lv_at hl 3 rfl) ?_
      refine lv_iload_n hx hb dX5_right_13 rfl (lv_at hl 0 rfl) ?_
      refine ro_V (ci := 5) (q0 := 0) (As := [.int (nI b), .int (nI k4)]) (rest := [.int (nI k4)]) ⟨hx, hb, hml, hown, hts⟩ (c_X5_wordOf l D cA _ a u b (by omega) k4 (by omega) hZ hP) (cwV 2 hts gX5_right_X5_wordOf rfl rfl rfl (by decide +kernel) ⟨Nat.le_of_ble_eq_true rfl, Nat.le_of_ble_eq_true rfl⟩) hKN hP rfl rfl rfl hl.1 rfl (lv_room (Nat.le_of_ble_eq_true rfl)) dX5_right_14 ⟨Nat.zero_le _, Nat.zero_le _⟩ ?_
      refine lv_aload_n hx hb dX5_right_17 rfl (lv_at hl 2 rfl) ?_
      refine lv_iload_n hx hb dX5_right_18 rfl (lv_at hl 3 rfl) ?_
      refine lv_iload_n hx hb dX5_right_19 rfl (lv_at hl 0 rfl) ?_
      refine ro_V (ci := 5) (q0 := 0) (As := [.int (nI b), .int (nI k4)]) (rest := [.int 0, .int (nI k4)]) ⟨hx, hb, hml, hown, hts⟩ (c_X5_meant l D cA _ a u b (by omega) k4 (by omega) hZ hP) (cwV 2 hts gX5_right_X5_meant rfl rfl rfl (by decide +kernel) ⟨Nat.le_of_ble_eq_true rfl, Nat.le_of_ble_eq_true rfl⟩) hKN hP rfl rfl rfl hl.1 rfl (lv_room (Nat.le_of_ble_eq_true rfl)) dX5_right_20 ⟨Nat.zero_le _, Nat.zero_le _⟩ ?_
      refine lv_icmp_ne (tgt := 30) hx hb dX5_right_23 (by decide) (fun h => absurd (by decide) h) (fun _ => ?_)
      refine lv_iconst (v := 1) hx hb dX5_right_26 (by decide) ?_
      refine lv_goto (tgt := 31) hx hb dX5_right_27 (by decide) ?_
      refine lz_iadd (v := (nI (k4 + 1))) hx hb dX5_right_31 (nI_add _ _) ?_
      refine lv_istore_n (lv' := [(2, .int (nI (k4 + 1))), (3, .int (nI k4)), (0, .ref (a 0)), (1, .int (nI b))]) hx hb dX5_right_32 rfl hl (by decide) rfl (fun ls hl => ?_)
      refine lv_iinc (v := (nI (k4 + 1))) (lv' := [(3, .int (nI (k4 + 1))), (2, .int (nI (k4 + 1))), (0, .ref (a 0)), (1, .int (nI b))]) hx hb dX5_right_33 hl (k := 1) rfl (nI_1 _) (by decide) rfl (fun ls hl => ?_)
      refine lv_goto (tgt := 4) hx hb dX5_right_36 (by decide) ?_
      exact ih4 (k4 + 1) (by omega) ls (lv_sub hl [0, 1, 2, 3] rfl)
  exact loop4 16 0 (by omega) ls (lv_sub hl [0, 1, 2, 3] rfl)
theorem mX5_threadsOf_f7 : Cond.fieldLink RX5 7 "WireLoomModel" "s" "[I" ∈ wsX5_threadsOf := by decide +kernel
set_option maxRecDepth 20000 in
theorem iX5_threadsOf_X5 : ∀ w ∈ wsX50, w ∈ wsX5_threadsOf := by decide +kernel
set_option maxHeartbeats 4000000 in
set_option maxRecDepth 100000 in
theorem c_X5_threadsOf (l : Launch) (D : va_G) (cA : Nat → ClassId) (H : Heap) (a : Nat → Nat) (u : MDV) (ring : Int32) (hZ : ZR u.2.1 0) (hP0 : va_P D vwCl (wMd cA a u) H) : RO l yX5_threadsOf wsX5_threadsOf ({ frames := 1, cells := 0, slots := 0, locals := 21 } : Room) D cA [.ref (a 0), .int ring] H (some (.int 0)) := by
  refine Met.ofW (cc := cX5_threadsOf) (maxL := 4) (ret := (some .int)) (by decide) rfl ?_
  intro p e s m args below meth c s₁ B hml hv
  obtain ⟨rfl, hH, hKN⟩ := hv
  have hK := hKN.1
  have hx := B.exec
  have hb := B.bytes
  have hr := B.returns
  have hts := atoms_spec (ws := wsX5_threadsOf) B.pre
  have hown : s.vm.findClass RX5 = some m.cls := findClass_of_methodNamed B.named
  have hlocks := B.notSynchronized
  subst hH
  have hH : s.heap = s.heap := rfl
  have hP := hP0
  have hl := lv_entry ([.ref (a 0), .int ring] : List Value) (n := 4) (Nat.le_of_ble_eq_true rfl)
  rw [lg_entry_eq]
  generalize (lg_sl ([.ref (a 0), .int ring] : List Value) ++ List.replicate (4 - (lg_sl ([.ref (a 0), .int ring] : List Value)).length) Slot.unset).toArray = ls at hl ⊢
  have hl : lv_has ls 4 [(0, .ref (a 0)), (1, .int ring)] := hl
  refine lv_iconst (v := 0) hx hb dX5_threadsOf_0 (by decide) ?_
  refine lv_istore_n (lv' := [(2, .int 0), (0, .ref (a 0)), (1, .int ring)]) hx hb dX5_threadsOf_1 rfl hl (by decide) rfl (fun ls hl => ?_)
  refine lv_iconst (v := 0) hx hb dX5_threadsOf_2 (by decide) ?_
  refine lv_istore_n (lv' := [(3, .int 0), (2, .int 0), (0, .ref (a 0)), (1, .int ring)]) hx hb dX5_threadsOf_3 rfl hl (by decide) rfl (fun ls hl => ?_)
  have loop4 : ∀ (n4 k4 : Nat), k4 + n4 = 16 → ∀ (ls : Array Slot), lv_has ls 4 [(3, .int (nI k4)), (2, .int 0), (0, .ref (a 0)), (1, .int ring)] → W p l e ({ frames := 1, cells := 0, slots := 0, locals := 21 } : Room) s m ([.ref (a 0), .int ring] : List Value).toArray below meth c s.heap [] 0 0 (MQ below (roQ s.heap (some (.int 0))) ([.ref (a 0), .int ring] : List Value).toArray s 0 0 noA) (F0 m 4 ls []) := by
    intro n4
    induction n4 with
    | zero =>
      intro k4 hk4 ls hl
      obtain rfl : 16 = k4 := by omega
      refine lv_iload_n hx hb dX5_threadsOf_4 rfl (lv_at hl 0 rfl) ?_
      refine lv_bipush (v := 16) hx hb dX5_threadsOf_5 (by decide) ?_
      refine lv_icmp_ge (tgt := 39) hx hb dX5_threadsOf_7 (by decide) (fun _ => ?_) (fun h => absurd (by decide) h)
      refine lv_iload_n hx hb dX5_threadsOf_39 rfl (lv_at hl 1 rfl) ?_
      exact ro_iret hx hb hr hlocks hH dX5_threadsOf_40 rfl
    | succ n4 ih4 =>
      intro k4 hk4 ls hl
      have hlt4 : k4 < 16 := by omega
      refine lv_iload_n hx hb dX5_threadsOf_4 rfl (lv_at hl 0 rfl) ?_
      refine lv_bipush (v := 16) hx hb dX5_threadsOf_5 (by decide) ?_
      refine lv_icmp_ge (tgt := 39) hx hb dX5_threadsOf_7 (by decide) (fun h => absurd h (nI_ge hlt4 (by first | decide | omega))) (fun _ => ?_)
      refine lv_iload_n hx hb dX5_threadsOf_10 rfl (lv_at hl 1 rfl) ?_
      refine lv_aload_n hx hb dX5_threadsOf_11 rfl (lv_at hl 2 rfl) ?_
      refine va_get (D := D) (ci := 5) (v := .ref (a 1)) (C := RX5) (T := TX5) (N := 10) hx hb hts iX5_threadsOf_X5 hown hK hP 0 rfl rfl 1 (by decide) (hts _ mX5_threadsOf_f7) (fun _ h9 => h9) rfl dX5_threadsOf_12 ?_
      refine lv_iload_n hx hb dX5_threadsOf_15 rfl (lv_at hl 0 rfl) ?_
      refine lz_iald (k := k4) (f := u.2.1) hx hb hK hP 1 0 rfl rfl ⟨by omega, by decide⟩ dX5_threadsOf_16 ?_
      refine lz_top (v := 0) (hZ.t0 (by omega)) ?_
      refine lv_iload_n hx hb dX5_threadsOf_17 rfl (lv_at hl 3 rfl) ?_
      refine ro_S (As := [.int 0, .int ring]) (rest := [.int 0]) ⟨hx, hb, hml, hown, hts⟩ (c_X5_has0 l D cA _ ring) (cwS2 2 hts gX5_threadsOf_X5_has rfl rfl rfl (by decide +kernel) ⟨Nat.le_of_ble_eq_true rfl, Nat.le_of_ble_eq_true rfl⟩) hKN rfl hl.1 rfl (lv_room (Nat.le_of_ble_eq_true rfl)) dX5_threadsOf_18 ⟨Nat.zero_le _, Nat.zero_le _⟩ ?_
      refine lv_if_eq (tgt := 30) hx hb dX5_threadsOf_21 (by decide) (fun _ => ?_) (fun h => absurd (by decide) h)
      refine lv_iconst (v := 0) hx hb dX5_threadsOf_30 (by decide) ?_
      refine lv_ior hx hb dX5_threadsOf_31 ?_
      refine lz_top (v := 0) (by decide) ?_
      refine lv_istore_n (lv' := [(2, .int 0), (3, .int (nI k4)), (0, .ref (a 0)), (1, .int ring)]) hx hb dX5_threadsOf_32 rfl hl (by decide) rfl (fun ls hl => ?_)
      refine lv_iinc (v := (nI (k4 + 1))) (lv' := [(3, .int (nI (k4 + 1))), (2, .int 0), (0, .ref (a 0)), (1, .int ring)]) hx hb dX5_threadsOf_33 hl (k := 1) rfl (nI_1 _) (by decide) rfl (fun ls hl => ?_)
      refine lv_goto (tgt := 4) hx hb dX5_threadsOf_36 (by decide) ?_
      exact ih4 (k4 + 1) (by omega) ls (lv_sub hl [0, 1, 2, 3] rfl)
  exact loop4 16 0 (by omega) ls (lv_sub hl [0, 1, 2, 3] rfl)
set_option maxHeartbeats 4000000 in
set_option maxRecDepth 100000 in
theorem c_X5_makers (l : Launch) (D : va_G) (cA : Nat → ClassId) (H : Heap) (a : Nat → Nat) (u : MDV) (ring : Int32) (hZ : ZR u.2.1 0) (hP0 : va_P D vwCl (wMd cA a u) H) : RO l yX5_makers wsX5_makers ({ frames := 5, cells := 0, slots := 0, locals := 123 } : Room) D cA [.ref (a 0), .int ring] H (some (.int 0)) := by
  refine Met.ofW (cc := cX5_makers) (maxL := 4) (ret := (some .int)) (by decide) rfl ?_
  intro p e s m args below meth c s₁ B hml hv
  obtain ⟨rfl, hH, hKN⟩ := hv
  have hK := hKN.1
  have hx := B.exec
  have hb := B.bytes
  have hr := B.returns
  have hts := atoms_spec (ws := wsX5_makers) B.pre
  have hown : s.vm.findClass RX5 = some m.cls := findClass_of_methodNamed B.named
  have hlocks := B.notSynchronized
  subst hH
  have hH : s.heap = s.heap := rfl
  have hP := hP0
  have hl := lv_entry ([.ref (a 0), .int ring] : List Value) (n := 4) (Nat.le_of_ble_eq_true rfl)
  rw [lg_entry_eq]
  generalize (lg_sl ([.ref (a 0), .int ring] : List Value) ++ List.replicate (4 - (lg_sl ([.ref (a 0), .int ring] : List Value)).length) Slot.unset).toArray = ls at hl ⊢
  have hl : lv_has ls 4 [(0, .ref (a 0)), (1, .int ring)] := hl
  refine lv_iconst (v := 0) hx hb dX5_makers_0 (by decide) ?_
  refine lv_istore_n (lv' := [(2, .int 0), (0, .ref (a 0)), (1, .int ring)]) hx hb dX5_makers_1 rfl hl (by decide) rfl (fun ls hl => ?_)
  refine lv_iconst (v := 0) hx hb dX5_makers_2 (by decide) ?_
  refine lv_istore_n (lv' := [(3, .int 0), (2, .int 0), (0, .ref (a 0)), (1, .int ring)]) hx hb dX5_makers_3 rfl hl (by decide) rfl (fun ls hl => ?_)
  have loop4 : ∀ (n4 k4 : Nat), k4 + n4 = 16 → ∀ (ls : Array Slot), lv_has ls 4 [(3, .int (nI k4)), (2, .int 0), (0, .ref (a 0)), (1, .int ring)] → W p l e ({ frames := 5, cells := 0, slots := 0, locals := 123 } : Room) s m ([.ref (a 0), .int ring] : List Value).toArray below meth c s.heap [] 0 0 (MQ below (roQ s.heap (some (.int 0))) ([.ref (a 0), .int ring] : List Value).toArray s 0 0 noA) (F0 m 4 ls []) := by
    intro n4
    induction n4 with
    | zero =>
      intro k4 hk4 ls hl
      obtain rfl : 16 = k4 := by omega
      refine lv_iload_n hx hb dX5_makers_4 rfl (lv_at hl 0 rfl) ?_
      refine lv_bipush (v := 16) hx hb dX5_makers_5 (by decide) ?_
      refine lv_icmp_ge (tgt := 39) hx hb dX5_makers_7 (by decide) (fun _ => ?_) (fun h => absurd (by decide) h)
      refine lv_iload_n hx hb dX5_makers_39 rfl (lv_at hl 1 rfl) ?_
      exact ro_iret hx hb hr hlocks hH dX5_makers_40 rfl
    | succ n4 ih4 =>
      intro k4 hk4 ls hl
      have hlt4 : k4 < 16 := by omega
      refine lv_iload_n hx hb dX5_makers_4 rfl (lv_at hl 0 rfl) ?_
      refine lv_bipush (v := 16) hx hb dX5_makers_5 (by decide) ?_
      refine lv_icmp_ge (tgt := 39) hx hb dX5_makers_7 (by decide) (fun h => absurd h (nI_ge hlt4 (by first | decide | omega))) (fun _ => ?_)
      refine lv_iload_n hx hb dX5_makers_10 rfl (lv_at hl 1 rfl) ?_
      refine lv_aload_n hx hb dX5_makers_11 rfl (lv_at hl 2 rfl) ?_
      refine lv_iconst (v := 0) hx hb dX5_makers_12 (by decide) ?_
      refine lv_iload_n hx hb dX5_makers_13 rfl (lv_at hl 0 rfl) ?_
      refine ro_V (ci := 5) (q0 := 0) (As := [.int 0, .int (nI k4)]) (rest := [.int 0]) ⟨hx, hb, hml, hown, hts⟩ (c_X5_answers l D cA _ a u 0 (by omega) k4 (by omega) hZ hP) (cwV 2 hts gX5_makers_X5_answers rfl rfl rfl (by decide +kernel) ⟨Nat.le_of_ble_eq_true rfl, Nat.le_of_ble_eq_true rfl⟩) hKN hP rfl rfl rfl hl.1 rfl (lv_room (Nat.le_of_ble_eq_true rfl)) dX5_makers_14 ⟨Nat.zero_le _, Nat.zero_le _⟩ ?_
      refine lv_iload_n hx hb dX5_makers_17 rfl (lv_at hl 3 rfl) ?_
      refine ro_S (As := [.int 0, .int ring]) (rest := [.int 0]) ⟨hx, hb, hml, hown, hts⟩ (c_X5_has0 l D cA _ ring) (cwS2 2 hts gX5_makers_X5_has rfl rfl rfl (by decide +kernel) ⟨Nat.le_of_ble_eq_true rfl, Nat.le_of_ble_eq_true rfl⟩) hKN rfl hl.1 rfl (lv_room (Nat.le_of_ble_eq_true rfl)) dX5_makers_18 ⟨Nat.zero_le _, Nat.zero_le _⟩ ?_
      refine lv_if_eq (tgt := 30) hx hb dX5_makers_21 (by decide) (fun _ => ?_) (fun h => absurd (by decide) h)
      refine lv_iconst (v := 0) hx hb dX5_makers_30 (by decide) ?_
      refine lv_ior hx hb dX5_makers_31 ?_
      refine lz_top (v := 0) (by decide) ?_
      refine lv_istore_n (lv' := [(2, .int 0), (3, .int (nI k4)), (0, .ref (a 0)), (1, .int ring)]) hx hb dX5_makers_32 rfl hl (by decide) rfl (fun ls hl => ?_)
      refine lv_iinc (v := (nI (k4 + 1))) (lv' := [(3, .int (nI (k4 + 1))), (2, .int 0), (0, .ref (a 0)), (1, .int ring)]) hx hb dX5_makers_33 hl (k := 1) rfl (nI_1 _) (by decide) rfl (fun ls hl => ?_)
      refine lv_goto (tgt := 4) hx hb dX5_makers_36 (by decide) ?_
      exact ih4 (k4 + 1) (by omega) ls (lv_sub hl [0, 1, 2, 3] rfl)
  exact loop4 16 0 (by omega) ls (lv_sub hl [0, 1, 2, 3] rfl)
theorem mX5_ofThread_f7 : Cond.fieldLink RX5 7 "WireLoomModel" "s" "[I" ∈ wsX5_ofThread := by decide +kernel
set_option maxRecDepth 20000 in
theorem iX5_ofThread_X5 : ∀ w ∈ wsX50, w ∈ wsX5_ofThread := by decide +kernel
set_option maxHeartbeats 4000000 in
set_option maxRecDepth 100000 in
theorem c_X5_ofThread (l : Launch) (D : va_G) (cA : Nat → ClassId) (H : Heap) (a : Nat → Nat) (u : MDV) (t : Nat) (ht : t < 16) (w : Nat) (hw : w < 8) (hF : FR u.2.1 0) (hP0 : va_P D vwCl (wMd cA a u) H) : RO l yX5_ofThread wsX5_ofThread ({ frames := 6, cells := 0, slots := 0, locals := 145 } : Room) D cA [.ref (a 0), .int (nI t), .int (nI w)] H (some (.int 0)) := by
  refine Met.ofW (cc := cX5_ofThread) (maxL := 3) (ret := (some .int)) (by decide) rfl ?_
  intro p e s m args below meth c s₁ B hml hv
  obtain ⟨rfl, hH, hKN⟩ := hv
  have hK := hKN.1
  have hx := B.exec
  have hb := B.bytes
  have hr := B.returns
  have hts := atoms_spec (ws := wsX5_ofThread) B.pre
  have hown : s.vm.findClass RX5 = some m.cls := findClass_of_methodNamed B.named
  have hlocks := B.notSynchronized
  subst hH
  have hH : s.heap = s.heap := rfl
  have hP := hP0
  have hl := lv_entry ([.ref (a 0), .int (nI t), .int (nI w)] : List Value) (n := 3) (Nat.le_of_ble_eq_true rfl)
  rw [lg_entry_eq]
  generalize (lg_sl ([.ref (a 0), .int (nI t), .int (nI w)] : List Value) ++ List.replicate (3 - (lg_sl ([.ref (a 0), .int (nI t), .int (nI w)] : List Value)).length) Slot.unset).toArray = ls at hl ⊢
  have hl : lv_has ls 3 [(0, .ref (a 0)), (1, .int (nI t)), (2, .int (nI w))] := hl
  have hZ : ZR u.2.1 0 := hF.ZR
  refine lv_iload_n hx hb dX5_ofThread_0 rfl (lv_at hl 2 rfl) ?_
  have hc_1 : w = 0 ∨ w = 1 ∨ w = 2 ∨ w = 3 ∨ w = 4 ∨ w = 5 ∨ w = 6 ∨ w = 7 := (by omega)
  rcases hc_1 with hc_1 | hc_1 | hc_1 | hc_1 | hc_1 | hc_1 | hc_1 | hc_1
  · refine lz_top (v := 0) (by rw [hc_1]; rfl) ?_
    refine lv_tableIn (tgt := 44) (off := 43) hx hb dX5_ofThread_1 (by decide) (by decide) rfl (by decide) ?_
    refine lv_aload_n hx hb dX5_ofThread_44 rfl (lv_at hl 0 rfl) ?_
    refine va_get (D := D) (ci := 5) (v := .ref (a 1)) (C := RX5) (T := TX5) (N := 10) hx hb hts iX5_ofThread_X5 hown hK hP 0 rfl rfl 1 (by decide) (hts _ mX5_ofThread_f7) (fun _ h9 => h9) rfl dX5_ofThread_45 ?_
    refine lv_iload_n hx hb dX5_ofThread_48 rfl (lv_at hl 1 rfl) ?_
    refine lz_iald (k := t) (f := u.2.1) hx hb hK hP 1 0 rfl rfl ⟨by omega, by decide⟩ dX5_ofThread_49 ?_
    refine lz_top (v := 0) (hZ.t0 ht) ?_
    exact ro_iret hx hb hr hlocks hH dX5_ofThread_50 rfl
  · refine lz_top (v := 1) (by rw [hc_1]; rfl) ?_
    refine lv_tableIn (tgt := 51) (off := 50) hx hb dX5_ofThread_1 (by decide) (by decide) rfl (by decide) ?_
    refine lv_aload_n hx hb dX5_ofThread_51 rfl (lv_at hl 0 rfl) ?_
    refine va_get (D := D) (ci := 5) (v := .ref (a 1)) (C := RX5) (T := TX5) (N := 10) hx hb hts iX5_ofThread_X5 hown hK hP 0 rfl rfl 1 (by decide) (hts _ mX5_ofThread_f7) (fun _ h9 => h9) rfl dX5_ofThread_52 ?_
    refine lv_bipush (v := 16) hx hb dX5_ofThread_55 (by decide) ?_
    refine lz_iald (k := 16) (f := u.2.1) hx hb hK hP 1 0 rfl rfl ⟨by decide, by decide⟩ dX5_ofThread_57 ?_
    refine lz_top (v := 0) (hF.z (j := 16) (by omega) (by omega) (by omega)) ?_
    refine lv_iload_n hx hb dX5_ofThread_58 rfl (lv_at hl 1 rfl) ?_
    refine lv_ishr hx hb dX5_ofThread_59 ?_
    refine lv_iconst (v := 1) hx hb dX5_ofThread_60 (by decide) ?_
    refine lv_iand hx hb dX5_ofThread_61 ?_
    exact ro_iret hx hb hr hlocks hH dX5_ofThread_62 (zshr _)
  · refine lz_top (v := 2) (by rw [hc_1]; rfl) ?_
    refine lv_tableIn (tgt := 63) (off := 62) hx hb dX5_ofThread_1 (by decide) (by decide) rfl (by decide) ?_
    refine lv_aload_n hx hb dX5_ofThread_63 rfl (lv_at hl 0 rfl) ?_
    refine lv_iconst (v := 0) hx hb dX5_ofThread_64 (by decide) ?_
    refine lv_iload_n hx hb dX5_ofThread_65 rfl (lv_at hl 1 rfl) ?_
    refine ro_V (ci := 5) (q0 := 0) (As := [.int 0, .int (nI t)]) (rest := []) ⟨hx, hb, hml, hown, hts⟩ (c_X5_meant l D cA _ a u 0 (by omega) t (by omega) hZ hP) (cwV 2 hts gX5_ofThread_X5_meant rfl rfl rfl (by decide +kernel) ⟨Nat.le_of_ble_eq_true rfl, Nat.le_of_ble_eq_true rfl⟩) hKN hP rfl rfl rfl hl.1 rfl (lv_room (Nat.le_of_ble_eq_true rfl)) dX5_ofThread_66 ⟨Nat.zero_le _, Nat.zero_le _⟩ ?_
    exact ro_iret hx hb hr hlocks hH dX5_ofThread_69 rfl
  · refine lz_top (v := 3) (by rw [hc_1]; rfl) ?_
    refine lv_tableIn (tgt := 70) (off := 69) hx hb dX5_ofThread_1 (by decide) (by decide) rfl (by decide) ?_
    refine lv_aload_n hx hb dX5_ofThread_70 rfl (lv_at hl 0 rfl) ?_
    refine lv_iconst (v := 0) hx hb dX5_ofThread_71 (by decide) ?_
    refine lv_iload_n hx hb dX5_ofThread_72 rfl (lv_at hl 1 rfl) ?_
    refine ro_V (ci := 5) (q0 := 0) (As := [.int 0, .int (nI t)]) (rest := []) ⟨hx, hb, hml, hown, hts⟩ (c_X5_wordOf l D cA _ a u 0 (by omega) t (by omega) hZ hP) (cwV 2 hts gX5_ofThread_X5_wordOf rfl rfl rfl (by decide +kernel) ⟨Nat.le_of_ble_eq_true rfl, Nat.le_of_ble_eq_true rfl⟩) hKN hP rfl rfl rfl hl.1 rfl (lv_room (Nat.le_of_ble_eq_true rfl)) dX5_ofThread_73 ⟨Nat.zero_le _, Nat.zero_le _⟩ ?_
    exact ro_iret hx hb hr hlocks hH dX5_ofThread_76 rfl
  · refine lz_top (v := 4) (by rw [hc_1]; rfl) ?_
    refine lv_tableIn (tgt := 77) (off := 76) hx hb dX5_ofThread_1 (by decide) (by decide) rfl (by decide) ?_
    refine lv_aload_n hx hb dX5_ofThread_77 rfl (lv_at hl 0 rfl) ?_
    refine lv_iconst (v := 0) hx hb dX5_ofThread_78 (by decide) ?_
    refine lv_iload_n hx hb dX5_ofThread_79 rfl (lv_at hl 1 rfl) ?_
    refine ro_V (ci := 5) (q0 := 0) (As := [.int 0, .int (nI t)]) (rest := []) ⟨hx, hb, hml, hown, hts⟩ (c_X5_meant l D cA _ a u 0 (by omega) t (by omega) hZ hP) (cwV 2 hts gX5_ofThread_X5_meant rfl rfl rfl (by decide +kernel) ⟨Nat.le_of_ble_eq_true rfl, Nat.le_of_ble_eq_true rfl⟩) hKN hP rfl rfl rfl hl.1 rfl (lv_room (Nat.le_of_ble_eq_true rfl)) dX5_ofThread_80 ⟨Nat.zero_le _, Nat.zero_le _⟩ ?_
    refine lv_aload_n hx hb dX5_ofThread_83 rfl (lv_at hl 0 rfl) ?_
    refine lv_iconst (v := 0) hx hb dX5_ofThread_84 (by decide) ?_
    refine lv_iload_n hx hb dX5_ofThread_85 rfl (lv_at hl 1 rfl) ?_
    refine ro_V (ci := 5) (q0 := 0) (As := [.int 0, .int (nI t)]) (rest := [.int 0]) ⟨hx, hb, hml, hown, hts⟩ (c_X5_wordOf l D cA _ a u 0 (by omega) t (by omega) hZ hP) (cwV 2 hts gX5_ofThread_X5_wordOf rfl rfl rfl (by decide +kernel) ⟨Nat.le_of_ble_eq_true rfl, Nat.le_of_ble_eq_true rfl⟩) hKN hP rfl rfl rfl hl.1 rfl (lv_room (Nat.le_of_ble_eq_true rfl)) dX5_ofThread_86 ⟨Nat.zero_le _, Nat.zero_le _⟩ ?_
    refine lv_ixor hx hb dX5_ofThread_89 ?_
    refine lz_top (v := 0) (by decide) ?_
    refine ro_S (As := [.int 0]) (rest := []) ⟨hx, hb, hml, hown, hts⟩ (c_X5_ones0 l D cA _) (cwS2 1 hts gX5_ofThread_X5_ones rfl rfl rfl (by decide +kernel) ⟨Nat.le_of_ble_eq_true rfl, Nat.le_of_ble_eq_true rfl⟩) hKN rfl hl.1 rfl (lv_room (Nat.le_of_ble_eq_true rfl)) dX5_ofThread_90 ⟨Nat.zero_le _, Nat.zero_le _⟩ ?_
    exact ro_iret hx hb hr hlocks hH dX5_ofThread_93 rfl
  · refine lz_top (v := 5) (by rw [hc_1]; rfl) ?_
    refine lv_tableIn (tgt := 94) (off := 93) hx hb dX5_ofThread_1 (by decide) (by decide) rfl (by decide) ?_
    refine lv_aload_n hx hb dX5_ofThread_94 rfl (lv_at hl 0 rfl) ?_
    refine lv_iconst (v := 0) hx hb dX5_ofThread_95 (by decide) ?_
    refine lv_iload_n hx hb dX5_ofThread_96 rfl (lv_at hl 1 rfl) ?_
    refine ro_V (ci := 5) (q0 := 0) (As := [.int 0, .int (nI t)]) (rest := []) ⟨hx, hb, hml, hown, hts⟩ (c_X5_answers l D cA _ a u 0 (by omega) t (by omega) hZ hP) (cwV 2 hts gX5_ofThread_X5_answers rfl rfl rfl (by decide +kernel) ⟨Nat.le_of_ble_eq_true rfl, Nat.le_of_ble_eq_true rfl⟩) hKN hP rfl rfl rfl hl.1 rfl (lv_room (Nat.le_of_ble_eq_true rfl)) dX5_ofThread_97 ⟨Nat.zero_le _, Nat.zero_le _⟩ ?_
    refine lv_sipush (v := 255) hx hb dX5_ofThread_100 (by decide) ?_
    refine lv_aload_n hx hb dX5_ofThread_103 rfl (lv_at hl 0 rfl) ?_
    refine va_get (D := D) (ci := 5) (v := .ref (a 1)) (C := RX5) (T := TX5) (N := 10) hx hb hts iX5_ofThread_X5 hown hK hP 0 rfl rfl 1 (by decide) (hts _ mX5_ofThread_f7) (fun _ h9 => h9) rfl dX5_ofThread_104 ?_
    refine lv_iload_n hx hb dX5_ofThread_107 rfl (lv_at hl 1 rfl) ?_
    refine lz_iald (k := t) (f := u.2.1) hx hb hK hP 1 0 rfl rfl ⟨by omega, by decide⟩ dX5_ofThread_108 ?_
    refine lz_top (v := 0) (hZ.t0 ht) ?_
    refine lz_isub (v := 255) hx hb dX5_ofThread_109 (by decide) ?_
    refine lv_iand hx hb dX5_ofThread_110 ?_
    refine lz_top (v := 0) (by decide) ?_
    exact ro_iret hx hb hr hlocks hH dX5_ofThread_111 rfl
  · refine lz_top (v := 6) (by rw [hc_1]; rfl) ?_
    refine lv_tableIn (tgt := 112) (off := 111) hx hb dX5_ofThread_1 (by decide) (by decide) rfl (by decide) ?_
    refine lv_aload_n hx hb dX5_ofThread_112 rfl (lv_at hl 0 rfl) ?_
    refine va_get (D := D) (ci := 5) (v := .ref (a 1)) (C := RX5) (T := TX5) (N := 10) hx hb hts iX5_ofThread_X5 hown hK hP 0 rfl rfl 1 (by decide) (hts _ mX5_ofThread_f7) (fun _ h9 => h9) rfl dX5_ofThread_113 ?_
    refine lv_iload_n hx hb dX5_ofThread_116 rfl (lv_at hl 1 rfl) ?_
    refine lz_iald (k := t) (f := u.2.1) hx hb hK hP 1 0 rfl rfl ⟨by omega, by decide⟩ dX5_ofThread_117 ?_
    refine lz_top (v := 0) (hZ.t0 ht) ?_
    refine lv_sipush (v := 255) hx hb dX5_ofThread_118 (by decide) ?_
    refine lv_aload_n hx hb dX5_ofThread_121 rfl (lv_at hl 0 rfl) ?_
    refine lv_iconst (v := 0) hx hb dX5_ofThread_122 (by decide) ?_
    refine lv_iload_n hx hb dX5_ofThread_123 rfl (lv_at hl 1 rfl) ?_
    refine ro_V (ci := 5) (q0 := 0) (As := [.int 0, .int (nI t)]) (rest := [.int 255, .int 0]) ⟨hx, hb, hml, hown, hts⟩ (c_X5_answers l D cA _ a u 0 (by omega) t (by omega) hZ hP) (cwV 2 hts gX5_ofThread_X5_answers rfl rfl rfl (by decide +kernel) ⟨Nat.le_of_ble_eq_true rfl, Nat.le_of_ble_eq_true rfl⟩) hKN hP rfl rfl rfl hl.1 rfl (lv_room (Nat.le_of_ble_eq_true rfl)) dX5_ofThread_124 ⟨Nat.zero_le _, Nat.zero_le _⟩ ?_
    refine lz_isub (v := 255) hx hb dX5_ofThread_127 (by decide) ?_
    refine lv_iand hx hb dX5_ofThread_128 ?_
    refine lz_top (v := 0) (by decide) ?_
    exact ro_iret hx hb hr hlocks hH dX5_ofThread_129 rfl
  · refine lz_top (v := 7) (by rw [hc_1]; rfl) ?_
    refine lv_tableOut (tgt := 130) hx hb dX5_ofThread_1 (by decide) (by decide) ?_
    refine lv_aload_n hx hb dX5_ofThread_130 rfl (lv_at hl 0 rfl) ?_
    refine va_get (D := D) (ci := 5) (v := .ref (a 1)) (C := RX5) (T := TX5) (N := 10) hx hb hts iX5_ofThread_X5 hown hK hP 0 rfl rfl 1 (by decide) (hts _ mX5_ofThread_f7) (fun _ h9 => h9) rfl dX5_ofThread_131 ?_
    refine lv_bipush (v := 44) hx hb dX5_ofThread_134 (by decide) ?_
    refine lv_iload_n hx hb dX5_ofThread_136 rfl (lv_at hl 1 rfl) ?_
    refine lz_iadd (v := (nI (44 + t))) hx hb dX5_ofThread_137 (nI_add _ _) ?_
    refine lz_iald (k := (44 + t)) (f := u.2.1) hx hb hK hP 1 0 rfl rfl ⟨by omega, by decide⟩ dX5_ofThread_138 ?_
    refine lz_top (v := 0) (hF.z (by omega) (by omega) (by omega)) ?_
    exact ro_iret hx hb hr hlocks hH dX5_ofThread_139 rfl
theorem mX5_ofRing_f7 : Cond.fieldLink RX5 7 "WireLoomModel" "s" "[I" ∈ wsX5_ofRing := by decide +kernel
set_option maxRecDepth 20000 in
theorem iX5_ofRing_X5 : ∀ w ∈ wsX50, w ∈ wsX5_ofRing := by decide +kernel
set_option maxHeartbeats 4000000 in
set_option maxRecDepth 100000 in
theorem c_X5_ofRing (l : Launch) (D : va_G) (cA : Nat → ClassId) (H : Heap) (a : Nat → Nat) (u : MDV) (r : Nat) (hr0 : r < 8) (w : Nat) (hw : w < 5) (hF : FR u.2.1 0) (hP0 : va_P D vwCl (wMd cA a u) H) : RO l yX5_ofRing wsX5_ofRing ({ frames := 6, cells := 0, slots := 0, locals := 146 } : Room) D cA [.ref (a 0), .int (nI r), .int (nI w)] H (some (.int 0)) := by
  refine Met.ofW (cc := cX5_ofRing) (maxL := 4) (ret := (some .int)) (by decide) rfl ?_
  intro p e s m args below meth c s₁ B hml hv
  obtain ⟨rfl, hH, hKN⟩ := hv
  have hK := hKN.1
  have hx := B.exec
  have hb := B.bytes
  have hr := B.returns
  have hts := atoms_spec (ws := wsX5_ofRing) B.pre
  have hown : s.vm.findClass RX5 = some m.cls := findClass_of_methodNamed B.named
  have hlocks := B.notSynchronized
  subst hH
  have hH : s.heap = s.heap := rfl
  have hP := hP0
  have hl := lv_entry ([.ref (a 0), .int (nI r), .int (nI w)] : List Value) (n := 4) (Nat.le_of_ble_eq_true rfl)
  rw [lg_entry_eq]
  generalize (lg_sl ([.ref (a 0), .int (nI r), .int (nI w)] : List Value) ++ List.replicate (4 - (lg_sl ([.ref (a 0), .int (nI r), .int (nI w)] : List Value)).length) Slot.unset).toArray = ls at hl ⊢
  have hl : lv_has ls 4 [(0, .ref (a 0)), (1, .int (nI r)), (2, .int (nI w))] := hl
  have hZ : ZR u.2.1 0 := hF.ZR
  refine lv_aload_n hx hb dX5_ofRing_0 rfl (lv_at hl 0 rfl) ?_
  refine lv_iload_n hx hb dX5_ofRing_1 rfl (lv_at hl 1 rfl) ?_
  refine ro_V (ci := 5) (q0 := 0) (As := [.int (nI r)]) (rest := []) ⟨hx, hb, hml, hown, hts⟩ (c_X5_threadsOf l D cA _ a u (nI r) hZ hP) (cwV 1 hts gX5_ofRing_X5_threadsOf rfl rfl rfl (by decide +kernel) ⟨Nat.le_of_ble_eq_true rfl, Nat.le_of_ble_eq_true rfl⟩) hKN hP rfl rfl rfl hl.1 rfl (lv_room (Nat.le_of_ble_eq_true rfl)) dX5_ofRing_2 ⟨Nat.zero_le _, Nat.zero_le _⟩ ?_
  refine lv_istore_n (lv' := [(3, .int 0), (0, .ref (a 0)), (1, .int (nI r)), (2, .int (nI w))]) hx hb dX5_ofRing_5 rfl hl (by decide) rfl (fun ls hl => ?_)
  refine lv_iload_n hx hb dX5_ofRing_6 rfl (lv_at hl 3 rfl) ?_
  have hc_7 : w = 0 ∨ w = 1 ∨ w = 2 ∨ w = 3 ∨ w = 4 := (by omega)
  rcases hc_7 with hc_7 | hc_7 | hc_7 | hc_7 | hc_7
  · refine lz_top (v := 0) (by rw [hc_7]; rfl) ?_
    refine lv_tableIn (tgt := 36) (off := 29) hx hb dX5_ofRing_7 (by decide) (by decide) rfl (by decide) ?_
    refine lv_aload_n hx hb dX5_ofRing_36 rfl (lv_at hl 1 rfl) ?_
    refine va_get (D := D) (ci := 5) (v := .ref (a 1)) (C := RX5) (T := TX5) (N := 10) hx hb hts iX5_ofRing_X5 hown hK hP 0 rfl rfl 1 (by decide) (hts _ mX5_ofRing_f7) (fun _ h9 => h9) rfl dX5_ofRing_37 ?_
    refine lv_bipush (v := 17) hx hb dX5_ofRing_40 (by decide) ?_
    refine lv_iload_n hx hb dX5_ofRing_42 rfl (lv_at hl 2 rfl) ?_
    refine lz_iadd (v := (nI (17 + r))) hx hb dX5_ofRing_43 (nI_add _ _) ?_
    refine lz_iald (k := (17 + r)) (f := u.2.1) hx hb hK hP 1 0 rfl rfl ⟨by omega, by decide⟩ dX5_ofRing_44 ?_
    refine lz_top (v := 0) (hZ.w0 hr0) ?_
    exact ro_iret hx hb hr hlocks hH dX5_ofRing_45 rfl
  · refine lz_top (v := 1) (by rw [hc_7]; rfl) ?_
    refine lv_tableIn (tgt := 46) (off := 39) hx hb dX5_ofRing_7 (by decide) (by decide) rfl (by decide) ?_
    refine lv_iload_n hx hb dX5_ofRing_46 rfl (lv_at hl 0 rfl) ?_
    exact ro_iret hx hb hr hlocks hH dX5_ofRing_47 rfl
  · refine lz_top (v := 2) (by rw [hc_7]; rfl) ?_
    refine lv_tableIn (tgt := 48) (off := 41) hx hb dX5_ofRing_7 (by decide) (by decide) rfl (by decide) ?_
    refine lv_iload_n hx hb dX5_ofRing_48 rfl (lv_at hl 0 rfl) ?_
    refine ro_S (As := [.int 0]) (rest := []) ⟨hx, hb, hml, hown, hts⟩ (c_X5_ones0 l D cA _) (cwS2 1 hts gX5_ofRing_X5_ones rfl rfl rfl (by decide +kernel) ⟨Nat.le_of_ble_eq_true rfl, Nat.le_of_ble_eq_true rfl⟩) hKN rfl hl.1 rfl (lv_room (Nat.le_of_ble_eq_true rfl)) dX5_ofRing_49 ⟨Nat.zero_le _, Nat.zero_le _⟩ ?_
    exact ro_iret hx hb hr hlocks hH dX5_ofRing_52 rfl
  · refine lz_top (v := 3) (by rw [hc_7]; rfl) ?_
    refine lv_tableIn (tgt := 53) (off := 46) hx hb dX5_ofRing_7 (by decide) (by decide) rfl (by decide) ?_
    refine lv_aload_n hx hb dX5_ofRing_53 rfl (lv_at hl 1 rfl) ?_
    refine lv_iload_n hx hb dX5_ofRing_54 rfl (lv_at hl 2 rfl) ?_
    refine ro_V (ci := 5) (q0 := 0) (As := [.int (nI r)]) (rest := []) ⟨hx, hb, hml, hown, hts⟩ (c_X5_makers l D cA _ a u (nI r) hZ hP) (cwV 1 hts gX5_ofRing_X5_makers rfl rfl rfl (by decide +kernel) ⟨Nat.le_of_ble_eq_true rfl, Nat.le_of_ble_eq_true rfl⟩) hKN hP rfl rfl rfl hl.1 rfl (lv_room (Nat.le_of_ble_eq_true rfl)) dX5_ofRing_55 ⟨Nat.zero_le _, Nat.zero_le _⟩ ?_
    refine ro_S (As := [.int 0]) (rest := []) ⟨hx, hb, hml, hown, hts⟩ (c_X5_ones0 l D cA _) (cwS2 1 hts gX5_ofRing_X5_ones rfl rfl rfl (by decide +kernel) ⟨Nat.le_of_ble_eq_true rfl, Nat.le_of_ble_eq_true rfl⟩) hKN rfl hl.1 rfl (lv_room (Nat.le_of_ble_eq_true rfl)) dX5_ofRing_58 ⟨Nat.zero_le _, Nat.zero_le _⟩ ?_
    exact ro_iret hx hb hr hlocks hH dX5_ofRing_61 rfl
  · refine lz_top (v := 4) (by rw [hc_7]; rfl) ?_
    refine lv_tableOut (tgt := 62) hx hb dX5_ofRing_7 (by decide) (by decide) ?_
    refine lv_iload_n hx hb dX5_ofRing_62 rfl (lv_at hl 0 rfl) ?_
    refine lv_if_eq (tgt := 80) hx hb dX5_ofRing_63 (by decide) (fun _ => ?_) (fun h => absurd (by decide) h)
    refine lv_iconst (v := 0) hx hb dX5_ofRing_80 (by decide) ?_
    exact ro_iret hx hb hr hlocks hH dX5_ofRing_81 rfl
theorem mX5_ofMachine_f7 : Cond.fieldLink RX5 7 "WireLoomModel" "s" "[I" ∈ wsX5_ofMachine := by decide +kernel
set_option maxRecDepth 20000 in
theorem iX5_ofMachine_X5 : ∀ w ∈ wsX50, w ∈ wsX5_ofMachine := by decide +kernel
set_option maxHeartbeats 4000000 in
set_option maxRecDepth 100000 in
theorem c_X5_ofMachine (l : Launch) (D : va_G) (cA : Nat → ClassId) (H : Heap) (a : Nat → Nat) (u : MDV) (w : Nat) (hw : w < 9) (hF : FR u.2.1 0) (hP0 : va_P D vwCl (wMd cA a u) H) : RO l yX5_ofMachine wsX5_ofMachine ({ frames := 0, cells := 0, slots := 0, locals := 0 } : Room) D cA [.ref (a 0), .int (nI w)] H (some (.int (f0J (27 + w)))) := by
  refine Met.ofW (cc := cX5_ofMachine) (maxL := 2) (ret := (some .int)) (by decide) rfl ?_
  intro p e s m args below meth c s₁ B hml hv
  obtain ⟨rfl, hH, hKN⟩ := hv
  have hK := hKN.1
  have hx := B.exec
  have hb := B.bytes
  have hr := B.returns
  have hts := atoms_spec (ws := wsX5_ofMachine) B.pre
  have hown : s.vm.findClass RX5 = some m.cls := findClass_of_methodNamed B.named
  have hlocks := B.notSynchronized
  subst hH
  have hH : s.heap = s.heap := rfl
  have hP := hP0
  have hl := lv_entry ([.ref (a 0), .int (nI w)] : List Value) (n := 2) (Nat.le_of_ble_eq_true rfl)
  rw [lg_entry_eq]
  generalize (lg_sl ([.ref (a 0), .int (nI w)] : List Value) ++ List.replicate (2 - (lg_sl ([.ref (a 0), .int (nI w)] : List Value)).length) Slot.unset).toArray = ls at hl ⊢
  have hl : lv_has ls 2 [(0, .ref (a 0)), (1, .int (nI w))] := hl
  refine lv_iload_n hx hb dX5_ofMachine_0 rfl (lv_at hl 1 rfl) ?_
  refine lv_bipush (v := 6) hx hb dX5_ofMachine_1 (by decide) ?_
  refine lv_icmp_ge (tgt := 18) hx hb dX5_ofMachine_3 (by decide) (fun c_3 => ?_) (fun c_3 => ?_)
  · refine lv_aload_n hx hb dX5_ofMachine_18 rfl (lv_at hl 0 rfl) ?_
    refine va_get (D := D) (ci := 5) (v := .ref (a 1)) (C := RX5) (T := TX5) (N := 10) hx hb hts iX5_ofMachine_X5 hown hK hP 0 rfl rfl 1 (by decide) (hts _ mX5_ofMachine_f7) (fun _ h9 => h9) rfl dX5_ofMachine_19 ?_
    refine lv_bipush (v := 33) hx hb dX5_ofMachine_22 (by decide) ?_
    refine lv_iload_n hx hb dX5_ofMachine_24 rfl (lv_at hl 1 rfl) ?_
    refine lz_iadd (v := (nI (33 + w))) hx hb dX5_ofMachine_25 (nI_add _ _) ?_
    refine lv_bipush (v := 6) hx hb dX5_ofMachine_26 (by decide) ?_
    refine lz_isub (v := (nI (27 + w))) hx hb dX5_ofMachine_28 (sub6 w) ?_
    refine lz_iald (k := (27 + w)) (f := u.2.1) hx hb hK hP 1 0 rfl rfl ⟨by omega, by decide⟩ dX5_ofMachine_29 ?_
    exact ro_iret hx hb hr hlocks hH dX5_ofMachine_30 (hF.at (by omega))
  · refine lv_aload_n hx hb dX5_ofMachine_6 rfl (lv_at hl 0 rfl) ?_
    refine va_get (D := D) (ci := 5) (v := .ref (a 1)) (C := RX5) (T := TX5) (N := 10) hx hb hts iX5_ofMachine_X5 hown hK hP 0 rfl rfl 1 (by decide) (hts _ mX5_ofMachine_f7) (fun _ h9 => h9) rfl dX5_ofMachine_7 ?_
    refine lv_bipush (v := 27) hx hb dX5_ofMachine_10 (by decide) ?_
    refine lv_iload_n hx hb dX5_ofMachine_12 rfl (lv_at hl 1 rfl) ?_
    refine lz_iadd (v := (nI (27 + w))) hx hb dX5_ofMachine_13 (nI_add _ _) ?_
    refine lz_iald (k := (27 + w)) (f := u.2.1) hx hb hK hP 1 0 rfl rfl ⟨by omega, by decide⟩ dX5_ofMachine_14 ?_
    refine lv_goto (tgt := 30) hx hb dX5_ofMachine_15 (by decide) ?_
    exact ro_iret hx hb hr hlocks hH dX5_ofMachine_30 (hF.at (by omega))
theorem mX5_toldAgo_f7 : Cond.fieldLink RX5 7 "WireLoomModel" "s" "[I" ∈ wsX5_toldAgo := by decide +kernel
set_option maxRecDepth 20000 in
theorem iX5_toldAgo_X5 : ∀ w ∈ wsX50, w ∈ wsX5_toldAgo := by decide +kernel
set_option maxHeartbeats 4000000 in
set_option maxRecDepth 100000 in
theorem c_X5_toldAgo (l : Launch) (D : va_G) (cA : Nat → ClassId) (H : Heap) (a : Nat → Nat) (u : MDV) (w : Nat) (hw : w < 8) (hF : FR u.2.1 0) (hP0 : va_P D vwCl (wMd cA a u) H) : RO l yX5_toldAgo wsX5_toldAgo ({ frames := 0, cells := 0, slots := 0, locals := 0 } : Room) D cA [.ref (a 0), .int (nI w)] H (some (.int (-1))) := by
  refine Met.ofW (cc := cX5_toldAgo) (maxL := 2) (ret := (some .int)) (by decide) rfl ?_
  intro p e s m args below meth c s₁ B hml hv
  obtain ⟨rfl, hH, hKN⟩ := hv
  have hK := hKN.1
  have hx := B.exec
  have hb := B.bytes
  have hr := B.returns
  have hts := atoms_spec (ws := wsX5_toldAgo) B.pre
  have hown : s.vm.findClass RX5 = some m.cls := findClass_of_methodNamed B.named
  have hlocks := B.notSynchronized
  subst hH
  have hH : s.heap = s.heap := rfl
  have hP := hP0
  have hl := lv_entry ([.ref (a 0), .int (nI w)] : List Value) (n := 2) (Nat.le_of_ble_eq_true rfl)
  rw [lg_entry_eq]
  generalize (lg_sl ([.ref (a 0), .int (nI w)] : List Value) ++ List.replicate (2 - (lg_sl ([.ref (a 0), .int (nI w)] : List Value)).length) Slot.unset).toArray = ls at hl ⊢
  have hl : lv_has ls 2 [(0, .ref (a 0)), (1, .int (nI w))] := hl
  refine lv_iload_n hx hb dX5_toldAgo_0 rfl (lv_at hl 1 rfl) ?_
  refine lv_aload_n hx hb dX5_toldAgo_1 rfl (lv_at hl 0 rfl) ?_
  refine va_get (D := D) (ci := 5) (v := .ref (a 1)) (C := RX5) (T := TX5) (N := 10) hx hb hts iX5_toldAgo_X5 hown hK hP 0 rfl rfl 1 (by decide) (hts _ mX5_toldAgo_f7) (fun _ h9 => h9) rfl dX5_toldAgo_2 ?_
  refine lv_bipush (v := 35) hx hb dX5_toldAgo_5 (by decide) ?_
  refine lz_iald (k := 35) (f := u.2.1) hx hb hK hP 1 0 rfl rfl ⟨by decide, by decide⟩ dX5_toldAgo_7 ?_
  refine lz_top (v := 0) (hF.z (j := 35) (by omega) (by omega) (by omega)) ?_
  refine lv_icmp_ge (tgt := 23) hx hb dX5_toldAgo_8 (by decide) (fun _ => ?_) (fun h => absurd (show (0 : Int32) ≤ nI w from nI_le (a := 0) (Nat.zero_le w) (by omega)) h)
  refine lv_iconst (v := (-1)) hx hb dX5_toldAgo_23 (by decide) ?_
  exact ro_iret hx hb hr hlocks hH dX5_toldAgo_24 rfl
set_option maxHeartbeats 4000000 in
set_option maxRecDepth 100000 in
theorem c_X5_byRings (l : Launch) (D : va_G) (cA : Nat → ClassId) (H : Heap) (a : Nat → Nat) (u : MDV) (hZ : ZR u.2.1 0) (hP0 : va_P D vwCl (wMd cA a u) H) : RO l yX5_byRings wsX5_byRings ({ frames := 2, cells := 0, slots := 0, locals := 44 } : Room) D cA [.ref (a 0)] H (some (.int 0)) := by
  refine Met.ofW (cc := cX5_byRings) (maxL := 3) (ret := (some .int)) (by decide) rfl ?_
  intro p e s m args below meth c s₁ B hml hv
  obtain ⟨rfl, hH, hKN⟩ := hv
  have hK := hKN.1
  have hx := B.exec
  have hb := B.bytes
  have hr := B.returns
  have hts := atoms_spec (ws := wsX5_byRings) B.pre
  have hown : s.vm.findClass RX5 = some m.cls := findClass_of_methodNamed B.named
  have hlocks := B.notSynchronized
  subst hH
  have hH : s.heap = s.heap := rfl
  have hP := hP0
  have hl := lv_entry ([.ref (a 0)] : List Value) (n := 3) (Nat.le_of_ble_eq_true rfl)
  rw [lg_entry_eq]
  generalize (lg_sl ([.ref (a 0)] : List Value) ++ List.replicate (3 - (lg_sl ([.ref (a 0)] : List Value)).length) Slot.unset).toArray = ls at hl ⊢
  have hl : lv_has ls 3 [(0, .ref (a 0))] := hl
  refine lv_iconst (v := 0) hx hb dX5_byRings_0 (by decide) ?_
  refine lv_istore_n (lv' := [(1, .int 0), (0, .ref (a 0))]) hx hb dX5_byRings_1 rfl hl (by decide) rfl (fun ls hl => ?_)
  refine lv_iconst (v := 0) hx hb dX5_byRings_2 (by decide) ?_
  refine lv_istore_n (lv' := [(2, .int 0), (1, .int 0), (0, .ref (a 0))]) hx hb dX5_byRings_3 rfl hl (by decide) rfl (fun ls hl => ?_)
  have loop4 : ∀ (n4 k4 : Nat), k4 + n4 = 8 → ∀ (ls : Array Slot), lv_has ls 3 [(2, .int (nI k4)), (1, .int 0), (0, .ref (a 0))] → W p l e ({ frames := 2, cells := 0, slots := 0, locals := 44 } : Room) s m ([.ref (a 0)] : List Value).toArray below meth c s.heap [] 0 0 (MQ below (roQ s.heap (some (.int 0))) ([.ref (a 0)] : List Value).toArray s 0 0 noA) (F0 m 4 ls []) := by
    intro n4
    induction n4 with
    | zero =>
      intro k4 hk4 ls hl
      obtain rfl : 8 = k4 := by omega
      refine lv_iload_n hx hb dX5_byRings_4 rfl (lv_at hl 0 rfl) ?_
      refine lv_bipush (v := 8) hx hb dX5_byRings_5 (by decide) ?_
      refine lv_icmp_ge (tgt := 27) hx hb dX5_byRings_7 (by decide) (fun _ => ?_) (fun h => absurd (by decide) h)
      refine lv_iload_n hx hb dX5_byRings_27 rfl (lv_at hl 1 rfl) ?_
      exact ro_iret hx hb hr hlocks hH dX5_byRings_28 rfl
    | succ n4 ih4 =>
      intro k4 hk4 ls hl
      have hlt4 : k4 < 8 := by omega
      refine lv_iload_n hx hb dX5_byRings_4 rfl (lv_at hl 0 rfl) ?_
      refine lv_bipush (v := 8) hx hb dX5_byRings_5 (by decide) ?_
      refine lv_icmp_ge (tgt := 27) hx hb dX5_byRings_7 (by decide) (fun h => absurd h (nI_ge hlt4 (by first | decide | omega))) (fun _ => ?_)
      refine lv_iload_n hx hb dX5_byRings_10 rfl (lv_at hl 1 rfl) ?_
      refine lv_aload_n hx hb dX5_byRings_11 rfl (lv_at hl 2 rfl) ?_
      refine lv_iload_n hx hb dX5_byRings_12 rfl (lv_at hl 0 rfl) ?_
      refine ro_V (ci := 5) (q0 := 0) (As := [.int (nI k4)]) (rest := [.int 0]) ⟨hx, hb, hml, hown, hts⟩ (c_X5_threadsOf l D cA _ a u (nI k4) hZ hP) (cwV 1 hts gX5_byRings_X5_threadsOf rfl rfl rfl (by decide +kernel) ⟨Nat.le_of_ble_eq_true rfl, Nat.le_of_ble_eq_true rfl⟩) hKN hP rfl rfl rfl hl.1 rfl (lv_room (Nat.le_of_ble_eq_true rfl)) dX5_byRings_13 ⟨Nat.zero_le _, Nat.zero_le _⟩ ?_
      refine ro_S (As := [.int 0]) (rest := [.int 0]) ⟨hx, hb, hml, hown, hts⟩ (c_X5_ones0 l D cA _) (cwS2 1 hts gX5_byRings_X5_ones rfl rfl rfl (by decide +kernel) ⟨Nat.le_of_ble_eq_true rfl, Nat.le_of_ble_eq_true rfl⟩) hKN rfl hl.1 rfl (lv_room (Nat.le_of_ble_eq_true rfl)) dX5_byRings_16 ⟨Nat.zero_le _, Nat.zero_le _⟩ ?_
      refine lz_iadd (v := 0) hx hb dX5_byRings_19 (by decide) ?_
      refine lv_istore_n (lv' := [(1, .int 0), (2, .int (nI k4)), (0, .ref (a 0))]) hx hb dX5_byRings_20 rfl hl (by decide) rfl (fun ls hl => ?_)
      refine lv_iinc (v := (nI (k4 + 1))) (lv' := [(2, .int (nI (k4 + 1))), (1, .int 0), (0, .ref (a 0))]) hx hb dX5_byRings_21 hl (k := 1) rfl (nI_1 _) (by decide) rfl (fun ls hl => ?_)
      refine lv_goto (tgt := 4) hx hb dX5_byRings_24 (by decide) ?_
      exact ih4 (k4 + 1) (by omega) ls (lv_sub hl [0, 1, 2] rfl)
  exact loop4 8 0 (by omega) ls (lv_sub hl [0, 1, 2] rfl)
theorem mX5_greatestWear_f7 : Cond.fieldLink RX5 7 "WireLoomModel" "s" "[I" ∈ wsX5_greatestWear := by decide +kernel
set_option maxRecDepth 20000 in
theorem iX5_greatestWear_X5 : ∀ w ∈ wsX50, w ∈ wsX5_greatestWear := by decide +kernel
set_option maxHeartbeats 4000000 in
set_option maxRecDepth 100000 in
theorem c_X5_greatestWear (l : Launch) (D : va_G) (cA : Nat → ClassId) (H : Heap) (a : Nat → Nat) (u : MDV) (hZ : ZR u.2.1 0) (hP0 : va_P D vwCl (wMd cA a u) H) : RO l yX5_greatestWear wsX5_greatestWear ({ frames := 0, cells := 0, slots := 0, locals := 0 } : Room) D cA [.ref (a 0)] H (some (.int 0)) := by
  refine Met.ofW (cc := cX5_greatestWear) (maxL := 3) (ret := (some .int)) (by decide) rfl ?_
  intro p e s m args below meth c s₁ B hml hv
  obtain ⟨rfl, hH, hKN⟩ := hv
  have hK := hKN.1
  have hx := B.exec
  have hb := B.bytes
  have hr := B.returns
  have hts := atoms_spec (ws := wsX5_greatestWear) B.pre
  have hown : s.vm.findClass RX5 = some m.cls := findClass_of_methodNamed B.named
  have hlocks := B.notSynchronized
  subst hH
  have hH : s.heap = s.heap := rfl
  have hP := hP0
  have hl := lv_entry ([.ref (a 0)] : List Value) (n := 3) (Nat.le_of_ble_eq_true rfl)
  rw [lg_entry_eq]
  generalize (lg_sl ([.ref (a 0)] : List Value) ++ List.replicate (3 - (lg_sl ([.ref (a 0)] : List Value)).length) Slot.unset).toArray = ls at hl ⊢
  have hl : lv_has ls 3 [(0, .ref (a 0))] := hl
  refine lv_iconst (v := 0) hx hb dX5_greatestWear_0 (by decide) ?_
  refine lv_istore_n (lv' := [(1, .int 0), (0, .ref (a 0))]) hx hb dX5_greatestWear_1 rfl hl (by decide) rfl (fun ls hl => ?_)
  refine lv_iconst (v := 0) hx hb dX5_greatestWear_2 (by decide) ?_
  refine lv_istore_n (lv' := [(2, .int 0), (1, .int 0), (0, .ref (a 0))]) hx hb dX5_greatestWear_3 rfl hl (by decide) rfl (fun ls hl => ?_)
  have loop4 : ∀ (n4 k4 : Nat), k4 + n4 = 8 → ∀ (ls : Array Slot), lv_has ls 3 [(2, .int (nI k4)), (1, .int 0), (0, .ref (a 0))] → W p l e ({ frames := 0, cells := 0, slots := 0, locals := 0 } : Room) s m ([.ref (a 0)] : List Value).toArray below meth c s.heap [] 0 0 (MQ below (roQ s.heap (some (.int 0))) ([.ref (a 0)] : List Value).toArray s 0 0 noA) (F0 m 4 ls []) := by
    intro n4
    induction n4 with
    | zero =>
      intro k4 hk4 ls hl
      obtain rfl : 8 = k4 := by omega
      refine lv_iload_n hx hb dX5_greatestWear_4 rfl (lv_at hl 0 rfl) ?_
      refine lv_bipush (v := 8) hx hb dX5_greatestWear_5 (by decide) ?_
      refine lv_icmp_ge (tgt := 43) hx hb dX5_greatestWear_7 (by decide) (fun _ => ?_) (fun h => absurd (by decide) h)
      refine lv_iload_n hx hb dX5_greatestWear_43 rfl (lv_at hl 1 rfl) ?_
      exact ro_iret hx hb hr hlocks hH dX5_greatestWear_44 rfl
    | succ n4 ih4 =>
      intro k4 hk4 ls hl
      have hlt4 : k4 < 8 := by omega
      refine lv_iload_n hx hb dX5_greatestWear_4 rfl (lv_at hl 0 rfl) ?_
      refine lv_bipush (v := 8) hx hb dX5_greatestWear_5 (by decide) ?_
      refine lv_icmp_ge (tgt := 43) hx hb dX5_greatestWear_7 (by decide) (fun h => absurd h (nI_ge hlt4 (by first | decide | omega))) (fun _ => ?_)
      refine lv_aload_n hx hb dX5_greatestWear_10 rfl (lv_at hl 2 rfl) ?_
      refine va_get (D := D) (ci := 5) (v := .ref (a 1)) (C := RX5) (T := TX5) (N := 10) hx hb hts iX5_greatestWear_X5 hown hK hP 0 rfl rfl 1 (by decide) (hts _ mX5_greatestWear_f7) (fun _ h9 => h9) rfl dX5_greatestWear_11 ?_
      refine lv_bipush (v := 17) hx hb dX5_greatestWear_14 (by decide) ?_
      refine lv_iload_n hx hb dX5_greatestWear_16 rfl (lv_at hl 0 rfl) ?_
      refine lz_iadd (v := (nI (17 + k4))) hx hb dX5_greatestWear_17 (nI_add _ _) ?_
      refine lz_iald (k := (17 + k4)) (f := u.2.1) hx hb hK hP 1 0 rfl rfl ⟨by omega, by decide⟩ dX5_greatestWear_18 ?_
      refine lz_top (v := 0) (hZ.w0 (by omega)) ?_
      refine lv_iload_n hx hb dX5_greatestWear_19 rfl (lv_at hl 1 rfl) ?_
      refine lv_icmp_le (tgt := 35) hx hb dX5_greatestWear_20 (by decide) (fun _ => ?_) (fun h => absurd (by decide) h)
      refine lv_iload_n hx hb dX5_greatestWear_35 rfl (lv_at hl 1 rfl) ?_
      refine lv_istore_n (lv' := [(1, .int 0), (2, .int (nI k4)), (0, .ref (a 0))]) hx hb dX5_greatestWear_36 rfl hl (by decide) rfl (fun ls hl => ?_)
      refine lv_iinc (v := (nI (k4 + 1))) (lv' := [(2, .int (nI (k4 + 1))), (1, .int 0), (0, .ref (a 0))]) hx hb dX5_greatestWear_37 hl (k := 1) rfl (nI_1 _) (by decide) rfl (fun ls hl => ?_)
      refine lv_goto (tgt := 4) hx hb dX5_greatestWear_40 (by decide) ?_
      exact ih4 (k4 + 1) (by omega) ls (lv_sub hl [0, 1, 2] rfl)
  exact loop4 8 0 (by omega) ls (lv_sub hl [0, 1, 2] rfl)
theorem mX5_pairs_f7 : Cond.fieldLink RX5 7 "WireLoomModel" "s" "[I" ∈ wsX5_pairs := by decide +kernel
set_option maxRecDepth 20000 in
theorem iX5_pairs_X5 : ∀ w ∈ wsX50, w ∈ wsX5_pairs := by decide +kernel
set_option maxHeartbeats 4000000 in
set_option maxRecDepth 100000 in
theorem c_X5_pairs1 (l : Launch) (D : va_G) (cA : Nat → ClassId) (H : Heap) (a : Nat → Nat) (u : MDV) (hZ : ZR u.2.1 0) (hP0 : va_P D vwCl (wMd cA a u) H) : RO l yX5_pairs wsX5_pairs ({ frames := 6, cells := 0, slots := 0, locals := 145 } : Room) D cA [.ref (a 0), .int 1] H (some (.int 120)) := by
  refine Met.ofW (cc := cX5_pairs) (maxL := 7) (ret := (some .int)) (by decide) rfl ?_
  intro p e s m args below meth c s₁ B hml hv
  obtain ⟨rfl, hH, hKN⟩ := hv
  have hK := hKN.1
  have hx := B.exec
  have hb := B.bytes
  have hr := B.returns
  have hts := atoms_spec (ws := wsX5_pairs) B.pre
  have hown : s.vm.findClass RX5 = some m.cls := findClass_of_methodNamed B.named
  have hlocks := B.notSynchronized
  subst hH
  have hH : s.heap = s.heap := rfl
  have hP := hP0
  have hl := lv_entry ([.ref (a 0), .int 1] : List Value) (n := 7) (Nat.le_of_ble_eq_true rfl)
  rw [lg_entry_eq]
  generalize (lg_sl ([.ref (a 0), .int 1] : List Value) ++ List.replicate (7 - (lg_sl ([.ref (a 0), .int 1] : List Value)).length) Slot.unset).toArray = ls at hl ⊢
  have hl : lv_has ls 7 [(0, .ref (a 0)), (1, .int 1)] := hl
  refine lv_iconst (v := 0) hx hb dX5_pairs_0 (by decide) ?_
  refine lv_istore_n (lv' := [(2, .int 0), (0, .ref (a 0)), (1, .int 1)]) hx hb dX5_pairs_1 rfl hl (by decide) rfl (fun ls hl => ?_)
  refine lv_bipush (v := 8) hx hb dX5_pairs_2 (by decide) ?_
  refine lv_istore_n (lv' := [(3, .int 8), (2, .int 0), (0, .ref (a 0)), (1, .int 1)]) hx hb dX5_pairs_4 rfl hl (by decide) rfl (fun ls hl => ?_)
  refine lv_iconst (v := 0) hx hb dX5_pairs_5 (by decide) ?_
  refine lv_istore (lv' := [(4, .int 0), (3, .int 8), (2, .int 0), (0, .ref (a 0)), (1, .int 1)]) hx hb dX5_pairs_6 hl (by decide) rfl (fun ls hl => ?_)
  have loop8 : ∀ (n8 k8 : Nat), k8 + n8 = 16 → ∀ (ls : Array Slot), lv_has ls 7 [(4, .int (nI k8)), (3, .int (fewT k8)), (2, .int (nI (triN k8))), (0, .ref (a 0)), (1, .int 1)] → W p l e ({ frames := 6, cells := 0, slots := 0, locals := 145 } : Room) s m ([.ref (a 0), .int 1] : List Value).toArray below meth c s.heap [] 0 0 (MQ below (roQ s.heap (some (.int 120))) ([.ref (a 0), .int 1] : List Value).toArray s 0 0 noA) (F0 m 8 ls []) := by
    intro n8
    induction n8 with
    | zero =>
      intro k8 hk8 ls hl
      obtain rfl : 16 = k8 := by omega
      refine lv_iload hx hb dX5_pairs_8 (lv_at hl 0 rfl) ?_
      refine lv_bipush (v := 16) hx hb dX5_pairs_10 (by decide) ?_
      refine lv_icmp_ge (tgt := 99) hx hb dX5_pairs_12 (by decide) (fun _ => ?_) (fun h => absurd (by decide) h)
      refine lv_iload_n hx hb dX5_pairs_99 rfl (lv_at hl 4 rfl) ?_
      refine lv_if_eq (tgt := 107) hx hb dX5_pairs_100 (by decide) (fun h => absurd h (by decide)) (fun _ => ?_)
      refine lv_iload_n hx hb dX5_pairs_103 rfl (lv_at hl 2 rfl) ?_
      refine lv_goto (tgt := 108) hx hb dX5_pairs_104 (by decide) ?_
      exact ro_iret hx hb hr hlocks hH dX5_pairs_108 (by decide +kernel)
    | succ n8 ih8 =>
      intro k8 hk8 ls hl
      have hlt8 : k8 < 16 := by omega
      refine lv_iload hx hb dX5_pairs_8 (lv_at hl 0 rfl) ?_
      refine lv_bipush (v := 16) hx hb dX5_pairs_10 (by decide) ?_
      refine lv_icmp_ge (tgt := 99) hx hb dX5_pairs_12 (by decide) (fun h => absurd h (nI_ge hlt8 (by first | decide | omega))) (fun _ => ?_)
      refine lv_iconst (v := 0) hx hb dX5_pairs_15 (by decide) ?_
      refine lv_istore (lv' := [(5, .int 0), (4, .int (nI k8)), (3, .int (fewT k8)), (2, .int (nI (triN k8))), (0, .ref (a 0)), (1, .int 1)]) hx hb dX5_pairs_16 hl (by decide) rfl (fun ls hl => ?_)
      have loop18 : ∀ (n18 k18 : Nat), k18 + n18 = k8 → ∀ (ls : Array Slot), lv_has ls 7 [(5, .int (nI k18)), (4, .int (nI k8)), (3, .int (fewI (fewT k8) k18)), (2, .int (nI (triN k8 + k18))), (0, .ref (a 0)), (1, .int 1)] → W p l e ({ frames := 6, cells := 0, slots := 0, locals := 145 } : Room) s m ([.ref (a 0), .int 1] : List Value).toArray below meth c s.heap [] 0 0 (MQ below (roQ s.heap (some (.int 120))) ([.ref (a 0), .int 1] : List Value).toArray s 0 0 noA) (F0 m 18 ls []) := by
        intro n18
        induction n18 with
        | zero =>
          intro k18 hk18 ls hl
          obtain rfl : k8 = k18 := by omega
          refine lv_iload hx hb dX5_pairs_18 (lv_at hl 0 rfl) ?_
          refine lv_iload hx hb dX5_pairs_20 (lv_at hl 1 rfl) ?_
          refine lv_icmp_ge (tgt := 93) hx hb dX5_pairs_22 (by decide) (fun _ => ?_) (fun h => absurd (nI_le (Nat.le_refl _) (by first | decide | omega)) h)
          refine lv_iinc (v := (nI (k8 + 1))) (lv' := [(4, .int (nI (k8 + 1))), (5, .int (nI k8)), (3, .int (fewI (fewT k8) k8)), (2, .int (nI (triN k8 + k8))), (0, .ref (a 0)), (1, .int 1)]) hx hb dX5_pairs_93 hl (k := 1) rfl (nI_1 _) (by decide) rfl (fun ls hl => ?_)
          refine lv_goto (tgt := 8) hx hb dX5_pairs_96 (by decide) ?_
          have e_1 : (nI (triN (k8 + 1))) = (nI (triN k8 + k8)) := rfl
          have e_2 : (fewT (k8 + 1)) = (fewI (fewT k8) k8) := rfl
          exact ih8 (k8 + 1) (by omega) ls (by rw [e_1, e_2]; exact (lv_sub hl [0, 2, 3, 4, 5] rfl))
        | succ n18 ih18 =>
          intro k18 hk18 ls hl
          have hlt18 : k18 < k8 := by omega
          refine lv_iload hx hb dX5_pairs_18 (lv_at hl 0 rfl) ?_
          refine lv_iload hx hb dX5_pairs_20 (lv_at hl 1 rfl) ?_
          refine lv_icmp_ge (tgt := 93) hx hb dX5_pairs_22 (by decide) (fun h => absurd h (nI_ge hlt18 (by first | decide | omega))) (fun _ => ?_)
          refine lv_aload_n hx hb dX5_pairs_25 rfl (lv_at hl 4 rfl) ?_
          refine va_get (D := D) (ci := 5) (v := .ref (a 1)) (C := RX5) (T := TX5) (N := 10) hx hb hts iX5_pairs_X5 hown hK hP 0 rfl rfl 1 (by decide) (hts _ mX5_pairs_f7) (fun _ h9 => h9) rfl dX5_pairs_26 ?_
          refine lv_iload hx hb dX5_pairs_29 (lv_at hl 1 rfl) ?_
          refine lz_iald (k := k8) (f := u.2.1) hx hb hK hP 1 0 rfl rfl ⟨by omega, by decide⟩ dX5_pairs_31 ?_
          refine lz_top (v := 0) (hZ.t0 (by omega)) ?_
          refine lv_aload_n hx hb dX5_pairs_32 rfl (lv_at hl 4 rfl) ?_
          refine va_get (D := D) (ci := 5) (v := .ref (a 1)) (C := RX5) (T := TX5) (N := 10) hx hb hts iX5_pairs_X5 hown hK hP 0 rfl rfl 1 (by decide) (hts _ mX5_pairs_f7) (fun _ h9 => h9) rfl dX5_pairs_33 ?_
          refine lv_iload hx hb dX5_pairs_36 (lv_at hl 0 rfl) ?_
          refine lz_iald (k := k18) (f := u.2.1) hx hb hK hP 1 0 rfl rfl ⟨by omega, by decide⟩ dX5_pairs_38 ?_
          refine lz_top (v := 0) (hZ.t0 (by omega)) ?_
          refine lv_ixor hx hb dX5_pairs_39 ?_
          refine lz_top (v := 0) (by decide) ?_
          refine ro_S (As := [.int 0]) (rest := []) ⟨hx, hb, hml, hown, hts⟩ (c_X5_ones0 l D cA _) (cwS2 1 hts gX5_pairs_X5_ones rfl rfl rfl (by decide +kernel) ⟨Nat.le_of_ble_eq_true rfl, Nat.le_of_ble_eq_true rfl⟩) hKN rfl hl.1 rfl (lv_room (Nat.le_of_ble_eq_true rfl)) dX5_pairs_40 ⟨Nat.zero_le _, Nat.zero_le _⟩ ?_
          refine lv_istore (lv' := [(6, .int 0), (5, .int (nI k18)), (4, .int (nI k8)), (3, .int (fewI (fewT k8) k18)), (2, .int (nI (triN k8 + k18))), (0, .ref (a 0)), (1, .int 1)]) hx hb dX5_pairs_43 hl (by decide) rfl (fun ls hl => ?_)
          refine lv_iload hx hb dX5_pairs_45 (lv_at hl 0 rfl) ?_
          refine lv_iload_n hx hb dX5_pairs_47 rfl (lv_at hl 3 rfl) ?_
          refine lv_icmp_ge (tgt := 56) hx hb dX5_pairs_48 (by decide) (fun c_48 => ?_) (fun c_48 => ?_)
          · refine lv_iload_n hx hb dX5_pairs_56 rfl (lv_at hl 3 rfl) ?_
            refine lv_istore_n (lv' := [(3, .int (fewI (fewT k8) k18)), (6, .int 0), (5, .int (nI k18)), (4, .int (nI k8)), (2, .int (nI (triN k8 + k18))), (0, .ref (a 0)), (1, .int 1)]) hx hb dX5_pairs_57 rfl hl (by decide) rfl (fun ls hl => ?_)
            refine lv_iload_n hx hb dX5_pairs_58 rfl (lv_at hl 4 rfl) ?_
            refine lv_iload_n hx hb dX5_pairs_59 rfl (lv_at hl 6 rfl) ?_
            refine lv_if_eq (tgt := 84) hx hb dX5_pairs_60 (by decide) (fun h => absurd h (by decide)) (fun _ => ?_)
            refine lv_aload_n hx hb dX5_pairs_63 rfl (lv_at hl 5 rfl) ?_
            refine lv_iconst (v := 0) hx hb dX5_pairs_64 (by decide) ?_
            refine lv_iload hx hb dX5_pairs_65 (lv_at hl 3 rfl) ?_
            refine ro_V (ci := 5) (q0 := 0) (As := [.int 0, .int (nI k8)]) (rest := [.int (nI (triN k8 + k18))]) ⟨hx, hb, hml, hown, hts⟩ (c_X5_wordOf l D cA _ a u 0 (by omega) k8 (by omega) hZ hP) (cwV 2 hts gX5_pairs_X5_wordOf rfl rfl rfl (by decide +kernel) ⟨Nat.le_of_ble_eq_true rfl, Nat.le_of_ble_eq_true rfl⟩) hKN hP rfl rfl rfl hl.1 rfl (lv_room (Nat.le_of_ble_eq_true rfl)) dX5_pairs_67 ⟨Nat.zero_le _, Nat.zero_le _⟩ ?_
            refine lv_aload_n hx hb dX5_pairs_70 rfl (lv_at hl 5 rfl) ?_
            refine lv_iconst (v := 0) hx hb dX5_pairs_71 (by decide) ?_
            refine lv_iload hx hb dX5_pairs_72 (lv_at hl 2 rfl) ?_
            refine ro_V (ci := 5) (q0 := 0) (As := [.int 0, .int (nI k18)]) (rest := [.int 0, .int (nI (triN k8 + k18))]) ⟨hx, hb, hml, hown, hts⟩ (c_X5_wordOf l D cA _ a u 0 (by omega) k18 (by omega) hZ hP) (cwV 2 hts gX5_pairs_X5_wordOf rfl rfl rfl (by decide +kernel) ⟨Nat.le_of_ble_eq_true rfl, Nat.le_of_ble_eq_true rfl⟩) hKN hP rfl rfl rfl hl.1 rfl (lv_room (Nat.le_of_ble_eq_true rfl)) dX5_pairs_74 ⟨Nat.zero_le _, Nat.zero_le _⟩ ?_
            refine lv_icmp_ne (tgt := 84) hx hb dX5_pairs_77 (by decide) (fun h => absurd (by decide) h) (fun _ => ?_)
            refine lv_iconst (v := 1) hx hb dX5_pairs_80 (by decide) ?_
            refine lv_goto (tgt := 85) hx hb dX5_pairs_81 (by decide) ?_
            refine lz_iadd (v := (nI ((triN k8 + k18) + 1))) hx hb dX5_pairs_85 (nI_add _ _) ?_
            refine lv_istore_n (lv' := [(2, .int (nI ((triN k8 + k18) + 1))), (3, .int (fewI (fewT k8) k18)), (6, .int 0), (5, .int (nI k18)), (4, .int (nI k8)), (0, .ref (a 0)), (1, .int 1)]) hx hb dX5_pairs_86 rfl hl (by decide) rfl (fun ls hl => ?_)
            refine lv_iinc (v := (nI (k18 + 1))) (lv' := [(5, .int (nI (k18 + 1))), (2, .int (nI ((triN k8 + k18) + 1))), (3, .int (fewI (fewT k8) k18)), (6, .int 0), (4, .int (nI k8)), (0, .ref (a 0)), (1, .int 1)]) hx hb dX5_pairs_87 hl (k := 3) rfl (nI_1 _) (by decide) rfl (fun ls hl => ?_)
            refine lv_goto (tgt := 18) hx hb dX5_pairs_90 (by decide) ?_
            have e_3 : (nI (triN k8 + (k18 + 1))) = (nI ((triN k8 + k18) + 1)) := rfl
            have e_4 : (fewI (fewT k8) (k18 + 1)) = (fewI (fewT k8) k18) := by rw [fewI_succ] <;> simp only [c_48, if_true, if_false]
            exact ih18 (k18 + 1) (by omega) ls (by rw [e_3, e_4]; exact (lv_sub hl [0, 4, 2, 1, 5, 6] rfl))
          · refine lv_iload hx hb dX5_pairs_51 (lv_at hl 0 rfl) ?_
            refine lv_goto (tgt := 57) hx hb dX5_pairs_53 (by decide) ?_
            refine lv_istore_n (lv' := [(3, .int 0), (6, .int 0), (5, .int (nI k18)), (4, .int (nI k8)), (2, .int (nI (triN k8 + k18))), (0, .ref (a 0)), (1, .int 1)]) hx hb dX5_pairs_57 rfl hl (by decide) rfl (fun ls hl => ?_)
            refine lv_iload_n hx hb dX5_pairs_58 rfl (lv_at hl 4 rfl) ?_
            refine lv_iload_n hx hb dX5_pairs_59 rfl (lv_at hl 6 rfl) ?_
            refine lv_if_eq (tgt := 84) hx hb dX5_pairs_60 (by decide) (fun h => absurd h (by decide)) (fun _ => ?_)
            refine lv_aload_n hx hb dX5_pairs_63 rfl (lv_at hl 5 rfl) ?_
            refine lv_iconst (v := 0) hx hb dX5_pairs_64 (by decide) ?_
            refine lv_iload hx hb dX5_pairs_65 (lv_at hl 3 rfl) ?_
            refine ro_V (ci := 5) (q0 := 0) (As := [.int 0, .int (nI k8)]) (rest := [.int (nI (triN k8 + k18))]) ⟨hx, hb, hml, hown, hts⟩ (c_X5_wordOf l D cA _ a u 0 (by omega) k8 (by omega) hZ hP) (cwV 2 hts gX5_pairs_X5_wordOf rfl rfl rfl (by decide +kernel) ⟨Nat.le_of_ble_eq_true rfl, Nat.le_of_ble_eq_true rfl⟩) hKN hP rfl rfl rfl hl.1 rfl (lv_room (Nat.le_of_ble_eq_true rfl)) dX5_pairs_67 ⟨Nat.zero_le _, Nat.zero_le _⟩ ?_
            refine lv_aload_n hx hb dX5_pairs_70 rfl (lv_at hl 5 rfl) ?_
            refine lv_iconst (v := 0) hx hb dX5_pairs_71 (by decide) ?_
            refine lv_iload hx hb dX5_pairs_72 (lv_at hl 2 rfl) ?_
            refine ro_V (ci := 5) (q0 := 0) (As := [.int 0, .int (nI k18)]) (rest := [.int 0, .int (nI (triN k8 + k18))]) ⟨hx, hb, hml, hown, hts⟩ (c_X5_wordOf l D cA _ a u 0 (by omega) k18 (by omega) hZ hP) (cwV 2 hts gX5_pairs_X5_wordOf rfl rfl rfl (by decide +kernel) ⟨Nat.le_of_ble_eq_true rfl, Nat.le_of_ble_eq_true rfl⟩) hKN hP rfl rfl rfl hl.1 rfl (lv_room (Nat.le_of_ble_eq_true rfl)) dX5_pairs_74 ⟨Nat.zero_le _, Nat.zero_le _⟩ ?_
            refine lv_icmp_ne (tgt := 84) hx hb dX5_pairs_77 (by decide) (fun h => absurd (by decide) h) (fun _ => ?_)
            refine lv_iconst (v := 1) hx hb dX5_pairs_80 (by decide) ?_
            refine lv_goto (tgt := 85) hx hb dX5_pairs_81 (by decide) ?_
            refine lz_iadd (v := (nI ((triN k8 + k18) + 1))) hx hb dX5_pairs_85 (nI_add _ _) ?_
            refine lv_istore_n (lv' := [(2, .int (nI ((triN k8 + k18) + 1))), (3, .int 0), (6, .int 0), (5, .int (nI k18)), (4, .int (nI k8)), (0, .ref (a 0)), (1, .int 1)]) hx hb dX5_pairs_86 rfl hl (by decide) rfl (fun ls hl => ?_)
            refine lv_iinc (v := (nI (k18 + 1))) (lv' := [(5, .int (nI (k18 + 1))), (2, .int (nI ((triN k8 + k18) + 1))), (3, .int 0), (6, .int 0), (4, .int (nI k8)), (0, .ref (a 0)), (1, .int 1)]) hx hb dX5_pairs_87 hl (k := 3) rfl (nI_1 _) (by decide) rfl (fun ls hl => ?_)
            refine lv_goto (tgt := 18) hx hb dX5_pairs_90 (by decide) ?_
            have e_5 : (nI (triN k8 + (k18 + 1))) = (nI ((triN k8 + k18) + 1)) := rfl
            have e_6 : (fewI (fewT k8) (k18 + 1)) = 0 := by rw [fewI_succ] <;> simp only [c_48, if_true, if_false]
            exact ih18 (k18 + 1) (by omega) ls (by rw [e_5, e_6]; exact (lv_sub hl [0, 4, 2, 1, 5, 6] rfl))
      exact loop18 k8 0 (by omega) ls (lv_sub hl [0, 1, 2, 3, 4, 5] rfl)
  exact loop8 16 0 (by omega) ls (lv_sub hl [0, 1, 2, 3, 4] rfl)
set_option maxHeartbeats 4000000 in
set_option maxRecDepth 100000 in
theorem c_X5_pairs0 (l : Launch) (D : va_G) (cA : Nat → ClassId) (H : Heap) (a : Nat → Nat) (u : MDV) (hZ : ZR u.2.1 0) (hP0 : va_P D vwCl (wMd cA a u) H) : RO l yX5_pairs wsX5_pairs ({ frames := 1, cells := 0, slots := 0, locals := 22 } : Room) D cA [.ref (a 0), .int 0] H (some (.int 0)) := by
  refine Met.ofW (cc := cX5_pairs) (maxL := 7) (ret := (some .int)) (by decide) rfl ?_
  intro p e s m args below meth c s₁ B hml hv
  obtain ⟨rfl, hH, hKN⟩ := hv
  have hK := hKN.1
  have hx := B.exec
  have hb := B.bytes
  have hr := B.returns
  have hts := atoms_spec (ws := wsX5_pairs) B.pre
  have hown : s.vm.findClass RX5 = some m.cls := findClass_of_methodNamed B.named
  have hlocks := B.notSynchronized
  subst hH
  have hH : s.heap = s.heap := rfl
  have hP := hP0
  have hl := lv_entry ([.ref (a 0), .int 0] : List Value) (n := 7) (Nat.le_of_ble_eq_true rfl)
  rw [lg_entry_eq]
  generalize (lg_sl ([.ref (a 0), .int 0] : List Value) ++ List.replicate (7 - (lg_sl ([.ref (a 0), .int 0] : List Value)).length) Slot.unset).toArray = ls at hl ⊢
  have hl : lv_has ls 7 [(0, .ref (a 0)), (1, .int 0)] := hl
  refine lv_iconst (v := 0) hx hb dX5_pairs_0 (by decide) ?_
  refine lv_istore_n (lv' := [(2, .int 0), (0, .ref (a 0)), (1, .int 0)]) hx hb dX5_pairs_1 rfl hl (by decide) rfl (fun ls hl => ?_)
  refine lv_bipush (v := 8) hx hb dX5_pairs_2 (by decide) ?_
  refine lv_istore_n (lv' := [(3, .int 8), (2, .int 0), (0, .ref (a 0)), (1, .int 0)]) hx hb dX5_pairs_4 rfl hl (by decide) rfl (fun ls hl => ?_)
  refine lv_iconst (v := 0) hx hb dX5_pairs_5 (by decide) ?_
  refine lv_istore (lv' := [(4, .int 0), (3, .int 8), (2, .int 0), (0, .ref (a 0)), (1, .int 0)]) hx hb dX5_pairs_6 hl (by decide) rfl (fun ls hl => ?_)
  have loop8 : ∀ (n8 k8 : Nat), k8 + n8 = 16 → ∀ (ls : Array Slot), lv_has ls 7 [(4, .int (nI k8)), (3, .int (fewT k8)), (2, .int 0), (0, .ref (a 0)), (1, .int 0)] → W p l e ({ frames := 1, cells := 0, slots := 0, locals := 22 } : Room) s m ([.ref (a 0), .int 0] : List Value).toArray below meth c s.heap [] 0 0 (MQ below (roQ s.heap (some (.int 0))) ([.ref (a 0), .int 0] : List Value).toArray s 0 0 noA) (F0 m 8 ls []) := by
    intro n8
    induction n8 with
    | zero =>
      intro k8 hk8 ls hl
      obtain rfl : 16 = k8 := by omega
      refine lv_iload hx hb dX5_pairs_8 (lv_at hl 0 rfl) ?_
      refine lv_bipush (v := 16) hx hb dX5_pairs_10 (by decide) ?_
      refine lv_icmp_ge (tgt := 99) hx hb dX5_pairs_12 (by decide) (fun _ => ?_) (fun h => absurd (by decide) h)
      refine lv_iload_n hx hb dX5_pairs_99 rfl (lv_at hl 4 rfl) ?_
      refine lv_if_eq (tgt := 107) hx hb dX5_pairs_100 (by decide) (fun _ => ?_) (fun h => absurd (by decide) h)
      refine lv_iload_n hx hb dX5_pairs_107 rfl (lv_at hl 1 rfl) ?_
      exact ro_iret hx hb hr hlocks hH dX5_pairs_108 (by decide +kernel)
    | succ n8 ih8 =>
      intro k8 hk8 ls hl
      have hlt8 : k8 < 16 := by omega
      refine lv_iload hx hb dX5_pairs_8 (lv_at hl 0 rfl) ?_
      refine lv_bipush (v := 16) hx hb dX5_pairs_10 (by decide) ?_
      refine lv_icmp_ge (tgt := 99) hx hb dX5_pairs_12 (by decide) (fun h => absurd h (nI_ge hlt8 (by first | decide | omega))) (fun _ => ?_)
      refine lv_iconst (v := 0) hx hb dX5_pairs_15 (by decide) ?_
      refine lv_istore (lv' := [(5, .int 0), (4, .int (nI k8)), (3, .int (fewT k8)), (2, .int 0), (0, .ref (a 0)), (1, .int 0)]) hx hb dX5_pairs_16 hl (by decide) rfl (fun ls hl => ?_)
      have loop18 : ∀ (n18 k18 : Nat), k18 + n18 = k8 → ∀ (ls : Array Slot), lv_has ls 7 [(5, .int (nI k18)), (4, .int (nI k8)), (3, .int (fewI (fewT k8) k18)), (2, .int 0), (0, .ref (a 0)), (1, .int 0)] → W p l e ({ frames := 1, cells := 0, slots := 0, locals := 22 } : Room) s m ([.ref (a 0), .int 0] : List Value).toArray below meth c s.heap [] 0 0 (MQ below (roQ s.heap (some (.int 0))) ([.ref (a 0), .int 0] : List Value).toArray s 0 0 noA) (F0 m 18 ls []) := by
        intro n18
        induction n18 with
        | zero =>
          intro k18 hk18 ls hl
          obtain rfl : k8 = k18 := by omega
          refine lv_iload hx hb dX5_pairs_18 (lv_at hl 0 rfl) ?_
          refine lv_iload hx hb dX5_pairs_20 (lv_at hl 1 rfl) ?_
          refine lv_icmp_ge (tgt := 93) hx hb dX5_pairs_22 (by decide) (fun _ => ?_) (fun h => absurd (nI_le (Nat.le_refl _) (by first | decide | omega)) h)
          refine lv_iinc (v := (nI (k8 + 1))) (lv' := [(4, .int (nI (k8 + 1))), (5, .int (nI k8)), (3, .int (fewI (fewT k8) k8)), (2, .int 0), (0, .ref (a 0)), (1, .int 0)]) hx hb dX5_pairs_93 hl (k := 1) rfl (nI_1 _) (by decide) rfl (fun ls hl => ?_)
          refine lv_goto (tgt := 8) hx hb dX5_pairs_96 (by decide) ?_
          have e_1 : (fewT (k8 + 1)) = (fewI (fewT k8) k8) := rfl
          exact ih8 (k8 + 1) (by omega) ls (by rw [e_1]; exact (lv_sub hl [0, 2, 3, 4, 5] rfl))
        | succ n18 ih18 =>
          intro k18 hk18 ls hl
          have hlt18 : k18 < k8 := by omega
          refine lv_iload hx hb dX5_pairs_18 (lv_at hl 0 rfl) ?_
          refine lv_iload hx hb dX5_pairs_20 (lv_at hl 1 rfl) ?_
          refine lv_icmp_ge (tgt := 93) hx hb dX5_pairs_22 (by decide) (fun h => absurd h (nI_ge hlt18 (by first | decide | omega))) (fun _ => ?_)
          refine lv_aload_n hx hb dX5_pairs_25 rfl (lv_at hl 4 rfl) ?_
          refine va_get (D := D) (ci := 5) (v := .ref (a 1)) (C := RX5) (T := TX5) (N := 10) hx hb hts iX5_pairs_X5 hown hK hP 0 rfl rfl 1 (by decide) (hts _ mX5_pairs_f7) (fun _ h9 => h9) rfl dX5_pairs_26 ?_
          refine lv_iload hx hb dX5_pairs_29 (lv_at hl 1 rfl) ?_
          refine lz_iald (k := k8) (f := u.2.1) hx hb hK hP 1 0 rfl rfl ⟨by omega, by decide⟩ dX5_pairs_31 ?_
          refine lz_top (v := 0) (hZ.t0 (by omega)) ?_
          refine lv_aload_n hx hb dX5_pairs_32 rfl (lv_at hl 4 rfl) ?_
          refine va_get (D := D) (ci := 5) (v := .ref (a 1)) (C := RX5) (T := TX5) (N := 10) hx hb hts iX5_pairs_X5 hown hK hP 0 rfl rfl 1 (by decide) (hts _ mX5_pairs_f7) (fun _ h9 => h9) rfl dX5_pairs_33 ?_
          refine lv_iload hx hb dX5_pairs_36 (lv_at hl 0 rfl) ?_
          refine lz_iald (k := k18) (f := u.2.1) hx hb hK hP 1 0 rfl rfl ⟨by omega, by decide⟩ dX5_pairs_38 ?_
          refine lz_top (v := 0) (hZ.t0 (by omega)) ?_
          refine lv_ixor hx hb dX5_pairs_39 ?_
          refine lz_top (v := 0) (by decide) ?_
          refine ro_S (As := [.int 0]) (rest := []) ⟨hx, hb, hml, hown, hts⟩ (c_X5_ones0 l D cA _) (cwS2 1 hts gX5_pairs_X5_ones rfl rfl rfl (by decide +kernel) ⟨Nat.le_of_ble_eq_true rfl, Nat.le_of_ble_eq_true rfl⟩) hKN rfl hl.1 rfl (lv_room (Nat.le_of_ble_eq_true rfl)) dX5_pairs_40 ⟨Nat.zero_le _, Nat.zero_le _⟩ ?_
          refine lv_istore (lv' := [(6, .int 0), (5, .int (nI k18)), (4, .int (nI k8)), (3, .int (fewI (fewT k8) k18)), (2, .int 0), (0, .ref (a 0)), (1, .int 0)]) hx hb dX5_pairs_43 hl (by decide) rfl (fun ls hl => ?_)
          refine lv_iload hx hb dX5_pairs_45 (lv_at hl 0 rfl) ?_
          refine lv_iload_n hx hb dX5_pairs_47 rfl (lv_at hl 3 rfl) ?_
          refine lv_icmp_ge (tgt := 56) hx hb dX5_pairs_48 (by decide) (fun c_48 => ?_) (fun c_48 => ?_)
          · refine lv_iload_n hx hb dX5_pairs_56 rfl (lv_at hl 3 rfl) ?_
            refine lv_istore_n (lv' := [(3, .int (fewI (fewT k8) k18)), (6, .int 0), (5, .int (nI k18)), (4, .int (nI k8)), (2, .int 0), (0, .ref (a 0)), (1, .int 0)]) hx hb dX5_pairs_57 rfl hl (by decide) rfl (fun ls hl => ?_)
            refine lv_iload_n hx hb dX5_pairs_58 rfl (lv_at hl 4 rfl) ?_
            refine lv_iload_n hx hb dX5_pairs_59 rfl (lv_at hl 6 rfl) ?_
            refine lv_if_eq (tgt := 84) hx hb dX5_pairs_60 (by decide) (fun _ => ?_) (fun h => absurd (by decide) h)
            refine lv_iconst (v := 0) hx hb dX5_pairs_84 (by decide) ?_
            refine lz_iadd (v := 0) hx hb dX5_pairs_85 (by decide) ?_
            refine lv_istore_n (lv' := [(2, .int 0), (3, .int (fewI (fewT k8) k18)), (6, .int 0), (5, .int (nI k18)), (4, .int (nI k8)), (0, .ref (a 0)), (1, .int 0)]) hx hb dX5_pairs_86 rfl hl (by decide) rfl (fun ls hl => ?_)
            refine lv_iinc (v := (nI (k18 + 1))) (lv' := [(5, .int (nI (k18 + 1))), (2, .int 0), (3, .int (fewI (fewT k8) k18)), (6, .int 0), (4, .int (nI k8)), (0, .ref (a 0)), (1, .int 0)]) hx hb dX5_pairs_87 hl (k := 3) rfl (nI_1 _) (by decide) rfl (fun ls hl => ?_)
            refine lv_goto (tgt := 18) hx hb dX5_pairs_90 (by decide) ?_
            have e_2 : (fewI (fewT k8) (k18 + 1)) = (fewI (fewT k8) k18) := by rw [fewI_succ] <;> simp only [c_48, if_true, if_false]
            exact ih18 (k18 + 1) (by omega) ls (by rw [e_2]; exact (lv_sub hl [0, 4, 2, 1, 5, 6] rfl))
          · refine lv_iload hx hb dX5_pairs_51 (lv_at hl 0 rfl) ?_
            refine lv_goto (tgt := 57) hx hb dX5_pairs_53 (by decide) ?_
            refine lv_istore_n (lv' := [(3, .int 0), (6, .int 0), (5, .int (nI k18)), (4, .int (nI k8)), (2, .int 0), (0, .ref (a 0)), (1, .int 0)]) hx hb dX5_pairs_57 rfl hl (by decide) rfl (fun ls hl => ?_)
            refine lv_iload_n hx hb dX5_pairs_58 rfl (lv_at hl 4 rfl) ?_
            refine lv_iload_n hx hb dX5_pairs_59 rfl (lv_at hl 6 rfl) ?_
            refine lv_if_eq (tgt := 84) hx hb dX5_pairs_60 (by decide) (fun _ => ?_) (fun h => absurd (by decide) h)
            refine lv_iconst (v := 0) hx hb dX5_pairs_84 (by decide) ?_
            refine lz_iadd (v := 0) hx hb dX5_pairs_85 (by decide) ?_
            refine lv_istore_n (lv' := [(2, .int 0), (3, .int 0), (6, .int 0), (5, .int (nI k18)), (4, .int (nI k8)), (0, .ref (a 0)), (1, .int 0)]) hx hb dX5_pairs_86 rfl hl (by decide) rfl (fun ls hl => ?_)
            refine lv_iinc (v := (nI (k18 + 1))) (lv' := [(5, .int (nI (k18 + 1))), (2, .int 0), (3, .int 0), (6, .int 0), (4, .int (nI k8)), (0, .ref (a 0)), (1, .int 0)]) hx hb dX5_pairs_87 hl (k := 3) rfl (nI_1 _) (by decide) rfl (fun ls hl => ?_)
            refine lv_goto (tgt := 18) hx hb dX5_pairs_90 (by decide) ?_
            have e_3 : (fewI (fewT k8) (k18 + 1)) = 0 := by rw [fewI_succ] <;> simp only [c_48, if_true, if_false]
            exact ih18 (k18 + 1) (by omega) ls (by rw [e_3]; exact (lv_sub hl [0, 4, 2, 1, 5, 6] rfl))
      exact loop18 k8 0 (by omega) ls (lv_sub hl [0, 1, 2, 3, 4, 5] rfl)
  exact loop8 16 0 (by omega) ls (lv_sub hl [0, 1, 2, 3, 4] rfl)
theorem mX5_counted_f7 : Cond.fieldLink RX5 7 "WireLoomModel" "s" "[I" ∈ wsX5_counted := by decide +kernel
theorem mX5_counted_f76 : Cond.fieldLink RX5 76 "WireLoomModel" "saved" "I" ∈ wsX5_counted := by decide +kernel
set_option maxRecDepth 20000 in
theorem iX5_counted_X5 : ∀ w ∈ wsX50, w ∈ wsX5_counted := by decide +kernel
set_option maxHeartbeats 4000000 in
set_option maxRecDepth 100000 in
theorem c_X5_counted (l : Launch) (D : va_G) (cA : Nat → ClassId) (H : Heap) (a : Nat → Nat) (u : MDV) (w : Nat) (hw : w < 10) (hF : FR u.2.1 0) (hP0 : va_P D vwCl (wMd cA a u) H) : RO l yX5_counted wsX5_counted ({ frames := 7, cells := 0, slots := 0, locals := 171 } : Room) D cA [.ref (a 0), .int (nI w)] H (some (.int (countM u.2.2.1 w))) := by
  refine Met.ofW (cc := cX5_counted) (maxL := 2) (ret := (some .int)) (by decide) rfl ?_
  intro p e s m args below meth c s₁ B hml hv
  obtain ⟨rfl, hH, hKN⟩ := hv
  have hK := hKN.1
  have hx := B.exec
  have hb := B.bytes
  have hr := B.returns
  have hts := atoms_spec (ws := wsX5_counted) B.pre
  have hown : s.vm.findClass RX5 = some m.cls := findClass_of_methodNamed B.named
  have hlocks := B.notSynchronized
  subst hH
  have hH : s.heap = s.heap := rfl
  have hP := hP0
  have hl := lv_entry ([.ref (a 0), .int (nI w)] : List Value) (n := 2) (Nat.le_of_ble_eq_true rfl)
  rw [lg_entry_eq]
  generalize (lg_sl ([.ref (a 0), .int (nI w)] : List Value) ++ List.replicate (2 - (lg_sl ([.ref (a 0), .int (nI w)] : List Value)).length) Slot.unset).toArray = ls at hl ⊢
  have hl : lv_has ls 2 [(0, .ref (a 0)), (1, .int (nI w))] := hl
  have hZ : ZR u.2.1 0 := hF.ZR
  refine lv_iload_n hx hb dX5_counted_0 rfl (lv_at hl 1 rfl) ?_
  have hc_1 : w = 0 ∨ w = 1 ∨ w = 2 ∨ w = 3 ∨ w = 4 ∨ w = 5 ∨ w = 6 ∨ w = 7 ∨ w = 8 ∨ w = 9 := (by omega)
  rcases hc_1 with rfl | rfl | rfl | rfl | rfl | rfl | rfl | rfl | rfl | rfl
  · refine lz_top (v := 0) rfl ?_
    refine lv_tableIn (tgt := 52) (off := 51) hx hb dX5_counted_1 (by decide) (by decide) rfl (by decide) ?_
    refine lv_aload_n hx hb dX5_counted_52 rfl (lv_at hl 0 rfl) ?_
    refine lv_iconst (v := 0) hx hb dX5_counted_53 (by decide) ?_
    refine ro_V (ci := 5) (q0 := 0) (As := [.int 0]) (rest := []) ⟨hx, hb, hml, hown, hts⟩ (c_X5_crossings l D cA _ a u 0 (by omega) hZ hP) (cwV 1 hts gX5_counted_X5_crossings rfl rfl rfl (by decide +kernel) ⟨Nat.le_of_ble_eq_true rfl, Nat.le_of_ble_eq_true rfl⟩) hKN hP rfl rfl rfl hl.1 rfl (lv_room (Nat.le_of_ble_eq_true rfl)) dX5_counted_54 ⟨Nat.zero_le _, Nat.zero_le _⟩ ?_
    exact ro_iret hx hb hr hlocks hH dX5_counted_57 rfl
  · refine lz_top (v := 1) rfl ?_
    refine lv_tableIn (tgt := 58) (off := 57) hx hb dX5_counted_1 (by decide) (by decide) rfl (by decide) ?_
    refine lv_aload_n hx hb dX5_counted_58 rfl (lv_at hl 0 rfl) ?_
    refine ro_V (ci := 5) (q0 := 0) (As := []) (rest := []) ⟨hx, hb, hml, hown, hts⟩ (c_X5_byRings l D cA _ a u hZ hP) (cwV 0 hts gX5_counted_X5_byRings rfl rfl rfl (by decide +kernel) ⟨Nat.le_of_ble_eq_true rfl, Nat.le_of_ble_eq_true rfl⟩) hKN hP rfl rfl rfl hl.1 rfl (lv_room (Nat.le_of_ble_eq_true rfl)) dX5_counted_59 ⟨Nat.zero_le _, Nat.zero_le _⟩ ?_
    exact ro_iret hx hb hr hlocks hH dX5_counted_62 rfl
  · refine lz_top (v := 2) rfl ?_
    refine lv_tableIn (tgt := 63) (off := 62) hx hb dX5_counted_1 (by decide) (by decide) rfl (by decide) ?_
    refine lv_aload_n hx hb dX5_counted_63 rfl (lv_at hl 0 rfl) ?_
    refine va_get (D := D) (ci := 5) (v := .ref (a 1)) (C := RX5) (T := TX5) (N := 10) hx hb hts iX5_counted_X5 hown hK hP 0 rfl rfl 1 (by decide) (hts _ mX5_counted_f7) (fun _ h9 => h9) rfl dX5_counted_64 ?_
    refine lv_bipush (v := 60) hx hb dX5_counted_67 (by decide) ?_
    refine lv_iload_n hx hb dX5_counted_69 rfl (lv_at hl 1 rfl) ?_
    refine lz_iadd (v := 62) hx hb dX5_counted_70 (by decide) ?_
    refine lv_iconst (v := 2) hx hb dX5_counted_71 (by decide) ?_
    refine lz_isub (v := 60) hx hb dX5_counted_72 (by decide) ?_
    refine lz_iald (k := 60) (f := u.2.1) hx hb hK hP 1 0 rfl rfl ⟨by decide, by decide⟩ dX5_counted_73 ?_
    refine lz_top (v := 0) (hF.z (by omega) (by omega) (by omega)) ?_
    exact ro_iret hx hb hr hlocks hH dX5_counted_74 rfl
  · refine lz_top (v := 3) rfl ?_
    refine lv_tableIn (tgt := 63) (off := 62) hx hb dX5_counted_1 (by decide) (by decide) rfl (by decide) ?_
    refine lv_aload_n hx hb dX5_counted_63 rfl (lv_at hl 0 rfl) ?_
    refine va_get (D := D) (ci := 5) (v := .ref (a 1)) (C := RX5) (T := TX5) (N := 10) hx hb hts iX5_counted_X5 hown hK hP 0 rfl rfl 1 (by decide) (hts _ mX5_counted_f7) (fun _ h9 => h9) rfl dX5_counted_64 ?_
    refine lv_bipush (v := 60) hx hb dX5_counted_67 (by decide) ?_
    refine lv_iload_n hx hb dX5_counted_69 rfl (lv_at hl 1 rfl) ?_
    refine lz_iadd (v := 63) hx hb dX5_counted_70 (by decide) ?_
    refine lv_iconst (v := 2) hx hb dX5_counted_71 (by decide) ?_
    refine lz_isub (v := 61) hx hb dX5_counted_72 (by decide) ?_
    refine lz_iald (k := 61) (f := u.2.1) hx hb hK hP 1 0 rfl rfl ⟨by decide, by decide⟩ dX5_counted_73 ?_
    refine lz_top (v := 0) (hF.z (by omega) (by omega) (by omega)) ?_
    exact ro_iret hx hb hr hlocks hH dX5_counted_74 rfl
  · refine lz_top (v := 4) rfl ?_
    refine lv_tableIn (tgt := 75) (off := 74) hx hb dX5_counted_1 (by decide) (by decide) rfl (by decide) ?_
    refine lv_aload_n hx hb dX5_counted_75 rfl (lv_at hl 0 rfl) ?_
    refine lv_iconst (v := 0) hx hb dX5_counted_76 (by decide) ?_
    refine ro_V (ci := 5) (q0 := 0) (As := [.int 0]) (rest := []) ⟨hx, hb, hml, hown, hts⟩ (c_X5_right l D cA _ a u 0 (by omega) hZ hP) (cwV 1 hts gX5_counted_X5_right rfl rfl rfl (by decide +kernel) ⟨Nat.le_of_ble_eq_true rfl, Nat.le_of_ble_eq_true rfl⟩) hKN hP rfl rfl rfl hl.1 rfl (lv_room (Nat.le_of_ble_eq_true rfl)) dX5_counted_77 ⟨Nat.zero_le _, Nat.zero_le _⟩ ?_
    exact ro_iret hx hb hr hlocks hH dX5_counted_80 rfl
  · refine lz_top (v := 5) rfl ?_
    refine lv_tableIn (tgt := 81) (off := 80) hx hb dX5_counted_1 (by decide) (by decide) rfl (by decide) ?_
    refine lv_aload_n hx hb dX5_counted_81 rfl (lv_at hl 0 rfl) ?_
    refine va_get (D := D) (ci := 5) (v := .ref (a 1)) (C := RX5) (T := TX5) (N := 10) hx hb hts iX5_counted_X5 hown hK hP 0 rfl rfl 1 (by decide) (hts _ mX5_counted_f7) (fun _ h9 => h9) rfl dX5_counted_82 ?_
    refine lv_bipush (v := 16) hx hb dX5_counted_85 (by decide) ?_
    refine lz_iald (k := 16) (f := u.2.1) hx hb hK hP 1 0 rfl rfl ⟨by decide, by decide⟩ dX5_counted_87 ?_
    refine lz_top (v := 0) (hF.z (j := 16) (by omega) (by omega) (by omega)) ?_
    refine ro_S (As := [.int 0]) (rest := []) ⟨hx, hb, hml, hown, hts⟩ (c_X5_ones0 l D cA _) (cwS2 1 hts gX5_counted_X5_ones rfl rfl rfl (by decide +kernel) ⟨Nat.le_of_ble_eq_true rfl, Nat.le_of_ble_eq_true rfl⟩) hKN rfl hl.1 rfl (lv_room (Nat.le_of_ble_eq_true rfl)) dX5_counted_88 ⟨Nat.zero_le _, Nat.zero_le _⟩ ?_
    exact ro_iret hx hb hr hlocks hH dX5_counted_91 rfl
  · refine lz_top (v := 6) rfl ?_
    refine lv_tableIn (tgt := 92) (off := 91) hx hb dX5_counted_1 (by decide) (by decide) rfl (by decide) ?_
    refine lv_aload_n hx hb dX5_counted_92 rfl (lv_at hl 0 rfl) ?_
    refine ro_V (ci := 5) (q0 := 0) (As := []) (rest := []) ⟨hx, hb, hml, hown, hts⟩ (c_X5_greatestWear l D cA _ a u hZ hP) (cwV 0 hts gX5_counted_X5_greatestWear rfl rfl rfl (by decide +kernel) ⟨Nat.le_of_ble_eq_true rfl, Nat.le_of_ble_eq_true rfl⟩) hKN hP rfl rfl rfl hl.1 rfl (lv_room (Nat.le_of_ble_eq_true rfl)) dX5_counted_93 ⟨Nat.zero_le _, Nat.zero_le _⟩ ?_
    exact ro_iret hx hb hr hlocks hH dX5_counted_96 rfl
  · refine lz_top (v := 7) rfl ?_
    refine lv_tableIn (tgt := 97) (off := 96) hx hb dX5_counted_1 (by decide) (by decide) rfl (by decide) ?_
    refine lv_aload_n hx hb dX5_counted_97 rfl (lv_at hl 0 rfl) ?_
    refine lv_iload_n hx hb dX5_counted_98 rfl (lv_at hl 1 rfl) ?_
    refine lv_bipush (v := 7) hx hb dX5_counted_99 (by decide) ?_
    refine lv_icmp_ne (tgt := 108) hx hb dX5_counted_101 (by decide) (fun h => absurd (by decide) h) (fun _ => ?_)
    refine lv_iconst (v := 1) hx hb dX5_counted_104 (by decide) ?_
    refine lv_goto (tgt := 109) hx hb dX5_counted_105 (by decide) ?_
    refine ro_V (ci := 5) (q0 := 0) (As := [.int 1]) (rest := []) ⟨hx, hb, hml, hown, hts⟩ (c_X5_pairs1 l D cA _ a u hZ hP) (cwV 1 hts gX5_counted_X5_pairs rfl rfl rfl (by decide +kernel) ⟨Nat.le_of_ble_eq_true rfl, Nat.le_of_ble_eq_true rfl⟩) hKN hP rfl rfl rfl hl.1 rfl (lv_room (Nat.le_of_ble_eq_true rfl)) dX5_counted_109 ⟨Nat.zero_le _, Nat.zero_le _⟩ ?_
    exact ro_iret hx hb hr hlocks hH dX5_counted_112 rfl
  · refine lz_top (v := 8) rfl ?_
    refine lv_tableIn (tgt := 97) (off := 96) hx hb dX5_counted_1 (by decide) (by decide) rfl (by decide) ?_
    refine lv_aload_n hx hb dX5_counted_97 rfl (lv_at hl 0 rfl) ?_
    refine lv_iload_n hx hb dX5_counted_98 rfl (lv_at hl 1 rfl) ?_
    refine lv_bipush (v := 7) hx hb dX5_counted_99 (by decide) ?_
    refine lv_icmp_ne (tgt := 108) hx hb dX5_counted_101 (by decide) (fun _ => ?_) (fun h => absurd h (by decide))
    refine lv_iconst (v := 0) hx hb dX5_counted_108 (by decide) ?_
    refine ro_V (ci := 5) (q0 := 0) (As := [.int 0]) (rest := []) ⟨hx, hb, hml, hown, hts⟩ (c_X5_pairs0 l D cA _ a u hZ hP) (cwV 1 hts gX5_counted_X5_pairs rfl rfl rfl (by decide +kernel) ⟨Nat.le_of_ble_eq_true rfl, Nat.le_of_ble_eq_true rfl⟩) hKN hP rfl rfl rfl hl.1 rfl (lv_room (Nat.le_of_ble_eq_true rfl)) dX5_counted_109 ⟨Nat.zero_le _, Nat.zero_le _⟩ ?_
    exact ro_iret hx hb hr hlocks hH dX5_counted_112 rfl
  · refine lz_top (v := 9) rfl ?_
    refine lv_tableOut (tgt := 113) hx hb dX5_counted_1 (by decide) (by decide) ?_
    refine lv_aload_n hx hb dX5_counted_113 rfl (lv_at hl 0 rfl) ?_
    refine va_get (D := D) (ci := 5) (v := .int u.2.2.1) (C := RX5) (T := TX5) (N := 10) hx hb hts iX5_counted_X5 hown hK hP 0 rfl rfl 2 (by decide) (hts _ mX5_counted_f76) (fun _ h9 => h9) rfl dX5_counted_114 ?_
    exact ro_iret hx hb hr hlocks hH dX5_counted_117 rfl
theorem mX5_share_k180 : Cond.constantDouble RX5 180 (4625196817309499392) ∈ wsX5_share := by decide +kernel
set_option maxHeartbeats 4000000 in
set_option maxRecDepth 100000 in
theorem c_X5_share (l : Launch) (D : va_G) (cA : Nat → ClassId) (H : Heap) (a : Nat → Nat) (u : MDV) (hZ : ZR u.2.1 0) (hP0 : va_P D vwCl (wMd cA a u) H) : RO l yX5_share wsX5_share ({ frames := 7, cells := 0, slots := 0, locals := 168 } : Room) D cA [.ref (a 0)] H (some (.double (shareF 16))) := by
  refine Met.ofW (cc := cX5_share) (maxL := 1) (ret := (some .double)) (by decide) rfl ?_
  intro p e s m args below meth c s₁ B hml hv
  obtain ⟨rfl, hH, hKN⟩ := hv
  have hK := hKN.1
  have hx := B.exec
  have hb := B.bytes
  have hr := B.returns
  have hts := atoms_spec (ws := wsX5_share) B.pre
  have hown : s.vm.findClass RX5 = some m.cls := findClass_of_methodNamed B.named
  have hlocks := B.notSynchronized
  subst hH
  have hH : s.heap = s.heap := rfl
  have hP := hP0
  have hl := lv_entry ([.ref (a 0)] : List Value) (n := 1) (Nat.le_of_ble_eq_true rfl)
  rw [lg_entry_eq]
  generalize (lg_sl ([.ref (a 0)] : List Value) ++ List.replicate (1 - (lg_sl ([.ref (a 0)] : List Value)).length) Slot.unset).toArray = ls at hl ⊢
  have hl : lv_has ls 1 [(0, .ref (a 0))] := hl
  refine lv_aload_n hx hb dX5_share_0 rfl (lv_at hl 0 rfl) ?_
  refine lv_iconst (v := 0) hx hb dX5_share_1 (by decide) ?_
  refine ro_V (ci := 5) (q0 := 0) (As := [.int 0]) (rest := []) ⟨hx, hb, hml, hown, hts⟩ (c_X5_right l D cA _ a u 0 (by omega) hZ hP) (cwV 1 hts gX5_share_X5_right rfl rfl rfl (by decide +kernel) ⟨Nat.le_of_ble_eq_true rfl, Nat.le_of_ble_eq_true rfl⟩) hKN hP rfl rfl rfl hl.1 rfl (lv_room (Nat.le_of_ble_eq_true rfl)) dX5_share_2 ⟨Nat.zero_le _, Nat.zero_le _⟩ ?_
  refine lv_i2d hx hb dX5_share_5 ?_
  refine lv_ldc2d (v := 4625196817309499392) hx hb hown (hts _ mX5_share_k180) dX5_share_6 ?_
  refine lv_ddiv hx hb dX5_share_9 (share_ok 16 (by decide)) ?_
  exact ro_dret hx hb hr hlocks hH dX5_share_10 rfl
theorem mX5_mean_k186 : Cond.constantFloat RX5 186 (1090519040) ∈ wsX5_mean := by decide +kernel
theorem mX5_mean_f7 : Cond.fieldLink RX5 7 "WireLoomModel" "s" "[I" ∈ wsX5_mean := by decide +kernel
set_option maxRecDepth 20000 in
theorem iX5_mean_X5 : ∀ w ∈ wsX50, w ∈ wsX5_mean := by decide +kernel
set_option maxHeartbeats 4000000 in
set_option maxRecDepth 100000 in
theorem c_X5_mean (l : Launch) (D : va_G) (cA : Nat → ClassId) (H : Heap) (a : Nat → Nat) (u : MDV) (hZ : ZR u.2.1 0) (hP0 : va_P D vwCl (wMd cA a u) H) : RO l yX5_mean wsX5_mean ({ frames := 0, cells := 0, slots := 0, locals := 0 } : Room) D cA [.ref (a 0)] H (some (.float (meanF 0))) := by
  refine Met.ofW (cc := cX5_mean) (maxL := 3) (ret := (some .float)) (by decide) rfl ?_
  intro p e s m args below meth c s₁ B hml hv
  obtain ⟨rfl, hH, hKN⟩ := hv
  have hK := hKN.1
  have hx := B.exec
  have hb := B.bytes
  have hr := B.returns
  have hts := atoms_spec (ws := wsX5_mean) B.pre
  have hown : s.vm.findClass RX5 = some m.cls := findClass_of_methodNamed B.named
  have hlocks := B.notSynchronized
  subst hH
  have hH : s.heap = s.heap := rfl
  have hP := hP0
  have hl := lv_entry ([.ref (a 0)] : List Value) (n := 3) (Nat.le_of_ble_eq_true rfl)
  rw [lg_entry_eq]
  generalize (lg_sl ([.ref (a 0)] : List Value) ++ List.replicate (3 - (lg_sl ([.ref (a 0)] : List Value)).length) Slot.unset).toArray = ls at hl ⊢
  have hl : lv_has ls 3 [(0, .ref (a 0))] := hl
  refine lv_iconst (v := 0) hx hb dX5_mean_0 (by decide) ?_
  refine lv_istore_n (lv' := [(1, .int 0), (0, .ref (a 0))]) hx hb dX5_mean_1 rfl hl (by decide) rfl (fun ls hl => ?_)
  refine lv_iconst (v := 0) hx hb dX5_mean_2 (by decide) ?_
  refine lv_istore_n (lv' := [(2, .int 0), (1, .int 0), (0, .ref (a 0))]) hx hb dX5_mean_3 rfl hl (by decide) rfl (fun ls hl => ?_)
  have loop4 : ∀ (n4 k4 : Nat), k4 + n4 = 8 → ∀ (ls : Array Slot), lv_has ls 3 [(2, .int (nI k4)), (1, .int 0), (0, .ref (a 0))] → W p l e ({ frames := 0, cells := 0, slots := 0, locals := 0 } : Room) s m ([.ref (a 0)] : List Value).toArray below meth c s.heap [] 0 0 (MQ below (roQ s.heap (some (.float (meanF 0)))) ([.ref (a 0)] : List Value).toArray s 0 0 noA) (F0 m 4 ls []) := by
    intro n4
    induction n4 with
    | zero =>
      intro k4 hk4 ls hl
      obtain rfl : 8 = k4 := by omega
      refine lv_iload_n hx hb dX5_mean_4 rfl (lv_at hl 0 rfl) ?_
      refine lv_bipush (v := 8) hx hb dX5_mean_5 (by decide) ?_
      refine lv_icmp_ge (tgt := 28) hx hb dX5_mean_7 (by decide) (fun _ => ?_) (fun h => absurd (by decide) h)
      refine lv_iload_n hx hb dX5_mean_28 rfl (lv_at hl 1 rfl) ?_
      refine lv_i2f hx hb dX5_mean_29 ?_
      refine lv_ldcf (v := 1090519040) hx hb hown (hts _ mX5_mean_k186) dX5_mean_30 ?_
      refine lv_fdiv hx hb dX5_mean_32 mean_ok ?_
      exact ro_fret hx hb hr hlocks hH dX5_mean_33 rfl
    | succ n4 ih4 =>
      intro k4 hk4 ls hl
      have hlt4 : k4 < 8 := by omega
      refine lv_iload_n hx hb dX5_mean_4 rfl (lv_at hl 0 rfl) ?_
      refine lv_bipush (v := 8) hx hb dX5_mean_5 (by decide) ?_
      refine lv_icmp_ge (tgt := 28) hx hb dX5_mean_7 (by decide) (fun h => absurd h (nI_ge hlt4 (by first | decide | omega))) (fun _ => ?_)
      refine lv_iload_n hx hb dX5_mean_10 rfl (lv_at hl 1 rfl) ?_
      refine lv_aload_n hx hb dX5_mean_11 rfl (lv_at hl 2 rfl) ?_
      refine va_get (D := D) (ci := 5) (v := .ref (a 1)) (C := RX5) (T := TX5) (N := 10) hx hb hts iX5_mean_X5 hown hK hP 0 rfl rfl 1 (by decide) (hts _ mX5_mean_f7) (fun _ h9 => h9) rfl dX5_mean_12 ?_
      refine lv_bipush (v := 17) hx hb dX5_mean_15 (by decide) ?_
      refine lv_iload_n hx hb dX5_mean_17 rfl (lv_at hl 0 rfl) ?_
      refine lz_iadd (v := (nI (17 + k4))) hx hb dX5_mean_18 (nI_add _ _) ?_
      refine lz_iald (k := (17 + k4)) (f := u.2.1) hx hb hK hP 1 0 rfl rfl ⟨by omega, by decide⟩ dX5_mean_19 ?_
      refine lz_top (v := 0) (hZ.w0 (by omega)) ?_
      refine lz_iadd (v := 0) hx hb dX5_mean_20 (by decide) ?_
      refine lv_istore_n (lv' := [(1, .int 0), (2, .int (nI k4)), (0, .ref (a 0))]) hx hb dX5_mean_21 rfl hl (by decide) rfl (fun ls hl => ?_)
      refine lv_iinc (v := (nI (k4 + 1))) (lv' := [(2, .int (nI (k4 + 1))), (1, .int 0), (0, .ref (a 0))]) hx hb dX5_mean_22 hl (k := 1) rfl (nI_1 _) (by decide) rfl (fun ls hl => ?_)
      refine lv_goto (tgt := 4) hx hb dX5_mean_25 (by decide) ?_
      exact ih4 (k4 + 1) (by omega) ls (lv_sub hl [0, 1, 2] rfl)
  exact loop4 8 0 (by omega) ls (lv_sub hl [0, 1, 2] rfl)
