-- throws: what a call that is refused does
def XSl : List (Nat × String) := [(100, "no such setting"), (102, "value is out of range"), (122, "steps is out of range"), (127, "code is not 33 to 126"), (134, "the buffer is full"), (149, "the buffer does not tell a program"), (157, "no such thread, or last is less than first"), (168, "slot is out of range"), (176, "there is no snapshot in it"), (181, "there is no saved state"), (200, "what is not 0 to 7"), (214, "what is not 0 to 4"), (222, "what is not 0 or 1"), (240, "what is not 0 to 8"), (242, "ago is out of range"), (268, "what is not 0 to 9"), (276, "an argument is out of range"), (54, "no such thread or ring"), (73, "no such thread"), (81, "word is out of range"), (92, "no such ring")]
def KXw : List Cond := [.declares (Bundle.initS "java/lang/RuntimeException"), .declares (Bundle.initS "java/lang/Exception"), .declares (Bundle.initS Bundle.tN), .castable "java/lang/IndexOutOfBoundsException" "java/lang/IndexOutOfBoundsException", .castable "java/lang/IllegalArgumentException" "java/lang/IllegalArgumentException", .castable "java/lang/IllegalStateException" "java/lang/IllegalStateException"]
theorem KXw_on : ∀ w ∈ KXw, w.onTables = true := by decide
def KX (U : State) : Prop := (∀ q ∈ XSl, ∃ sa, vk_R RX4 q.1 q.2 sa U) ∧ ∀ w ∈ KXw, va_Nw w U
theorem KX.moved {s U : State} (hW : s.WarmedH U.vm) (h : KX s) : KX U := by
  refine ⟨fun q hq => (h.1 q hq).elim fun sa h1 => ⟨sa, vk_R.warm hW h1⟩, fun w hw => ?_⟩
  have h2 := h.2 w hw
  simp only [KXw, List.mem_cons, List.not_mem_nil, or_false] at hw
  rcases hw with rfl | rfl | rfl | rfl | rfl | rfl
  · exact va_Nw.warmD hW h2
  · exact va_Nw.warmD hW h2
  · exact va_Nw.warmD hW h2
  · exact va_Nw.warmC hW h2
  · exact va_Nw.warmC hW h2
  · exact va_Nw.warmC hW h2
theorem KX.same {s U : State} (hv : U.vm = s.vm) (h : KX s) : KX U := ⟨fun q hq => (h.1 q hq).elim fun sa h1 => ⟨sa, vk_R.same hv h1⟩, fun w hw => va_Nw.same (KXw_on w hw) hv.symm (h.2 w hw)⟩
theorem KX.use {s : State} {args : Array Value} (h : KX s) : ∀ w ∈ KXw, w.before args s = true := fun w hw => va_Nw.use (KXw_on w hw) (h.2 w hw)
def XZ (A : Nat → Prop) (U : State) (H : Heap) : Prop := vx_Zq Bundle.tN "UNASSIGNED_STACK" Bundle.steD A U H ∧ vx_Zq Bundle.tN "SUPPRESSED_SENTINEL" Bundle.listD A U H
theorem XZ.moved {A : Nat → Prop} {s U : State} {H : Heap} (hv : s.vm.Alike U.vm) (h : XZ A s H) : XZ A U H := ⟨vx_Zq.moved hv h.1, vx_Zq.moved hv h.2⟩
theorem XZ.narrow {A B : Nat → Prop} {U : State} {H : Heap} (h : XZ A U H) (hAB : ∀ q, B q → A q) : XZ B U H := ⟨vx_Zq.narrow h.1 hAB, vx_Zq.narrow h.2 hAB⟩
theorem XZ.kept {A : Nat → Prop} {U : State} {H H1 : Heap} (h : XZ A U H) (hq : ∀ a : Nat, a < H.size → ¬ A a → H1[a]? = H[a]?) : XZ A U H1 := ⟨vx_Zq.kept h.1 hq, vx_Zq.kept h.2 hq⟩
def preX (D : va_G) (cA : Nat → ClassId) (A : Nat → Prop) (av : List Value) (H : Heap) : Array Value → State → Prop := va_Pc av (fun U => U.heap = H ∧ KN D cA U ∧ KX U ∧ XZ A U H)
theorem preX_blind {D : va_G} {cA : Nat → ClassId} {A : Nat → Prop} {av : List Value} {H : Heap} : FrameBlind (preX D cA A av H) := by
  intro a U g mk q
  obtain ⟨q0, q1, q2, q3, q4⟩ := q
  exact ⟨q0, q1, ⟨va_K.moved (u := U) (U := U.calling g mk a) (Vm.Alike.refl U.vm) q2.1, va_Nw.same rfl rfl q2.2⟩, KX.same (s := U) (U := U.calling g mk a) rfl q3, XZ.moved (s := U) (U := U.calling g mk a) (Vm.Alike.refl U.vm) q4⟩
def XTq (cls : String) (H : Heap) : String → State → State → Prop := fun E _ t => E = cls ∧ H.size ≤ t.heap.size ∧ ∀ q : Nat, q < H.size → t.heap[q]? = H[q]?
def noQ : Array Value → State → Outcome → State → Prop := fun _ _ _ _ => False
def XT (l : Launch) (y : MethodName) (ws : List Cond) (rm : Room) (D : va_G) (cA : Nat → ClassId) (av : List Value) (H : Heap) (cls : String) : Prop := vx_Met l y ws rm (preX D cA noA av H) noQ (XTq cls H) 1 6 (fun q => H.size ≤ q)
theorem inF_bad {x : Int32} {n : Nat} (hn : n < 2 ^ 31) (h : inF x 0 (nI n) = 0) : x.toInt < 0 ∨ (n : Int) < x.toInt := by
  unfold inF at h
  split at h
  · rename_i h1
    exact Or.inl (by have := Int32.lt_iff_toInt_lt.mp h1; simpa using this)
  · split at h
    · rename_i h2
      have h3 := Int32.lt_iff_toInt_lt.mp h2
      rw [nI_toInt hn] at h3
      exact Or.inr h3
    · exact absurd h (by decide)
theorem mX4_guard_x52 : Cond.classLink RX4 52 "java/lang/IndexOutOfBoundsException" ∈ wsX4_guard := by decide +kernel
theorem mX4_guard_xi52 : Cond.initialized "java/lang/IndexOutOfBoundsException" ∈ wsX4_guard := by decide +kernel
set_option maxHeartbeats 4000000 in
set_option maxRecDepth 100000 in
theorem x_guard (l : Launch) (hl0 : l.stackTraces = false) (D : va_G) (cA : Nat → ClassId) (H : Heap) (r0 : Nat) (x : Int32) (hx0 : inF x 0 15 = 0) : XT l yX4_guard wsX4_guard ({ frames := 6, cells := 1, slots := 6, locals := 82 } : Room) D cA [.ref r0, .int x] H "java/lang/IndexOutOfBoundsException" := by
  refine vx_ofW (cc := cX4_guard) (maxL := 2) (ret := (some .int)) (by decide) rfl ?_
  intro p e s m args below meth c s₁ B hml htab hv
  obtain ⟨rfl, hH, hKN, hKX, hXZ⟩ := hv
  have hK := hKN.1
  have hx := B.exec
  have hb := B.bytes
  have hts := atoms_spec (ws := wsX4_guard) B.pre
  have hown : s.vm.findClass RX4 = some m.cls := findClass_of_methodNamed B.named
  have hlocks := B.notSynchronized
  subst hH
  have hl := lv_entry ([.ref r0, .int x] : List Value) (n := 2) (Nat.le_of_ble_eq_true rfl)
  rw [lg_entry_eq]
  generalize (lg_sl ([.ref r0, .int x] : List Value) ++ List.replicate (2 - (lg_sl ([.ref r0, .int x] : List Value)).length) Slot.unset).toArray = ls at hl ⊢
  have hl : lv_has ls 2 [(0, .ref r0), (1, .int x)] := hl
  refine lv_iload_n hx hb dX4_guard_0 rfl (lv_at hl 1 rfl) ?_
  refine ro_S (As := [.int x]) (rest := []) ⟨hx, hb, hml, hown, hts⟩ (c_X4_isThread l D cA _ x) (cwS2 1 hts gX4_guard_X4_isThread rfl rfl rfl (by decide +kernel) ⟨Nat.le_of_ble_eq_true rfl, Nat.le_of_ble_eq_true rfl⟩) hKN rfl hl.1 rfl (lv_room (Nat.le_of_ble_eq_true rfl)) dX4_guard_1 ⟨Nat.zero_le _, Nat.zero_le _⟩ ?_
  refine lz_top (v := 0) hx0 ?_
  refine lv_if_ne (tgt := 17) hx hb dX4_guard_4 (by decide) (fun h => absurd (by decide) h) (fun _ => ?_)
  obtain ⟨sa, hstr⟩ := hKX.1 (73, "no such thread") (by decide)
  exact vx_throwS (names := ["java/lang/RuntimeException", "java/lang/Exception"]) (text := "no such thread") (A := noA) hx hb hl0 hown (by decide +kernel) (by decide +kernel) (hts _ mX4_guard_x52) (hts _ mX4_guard_xi52) hstr (vx_hat (fun w h => hts w (List.mem_cons_of_mem _ (List.mem_append_right _ h))) (B := KXw) (by decide +kernel) hKX.use) (by decide +kernel) hXZ.1 hXZ.2 va_S.rf (hl.1.trans hml.symm) dX4_guard_7 dX4_guard_10 dX4_guard_11 dX4_guard_13 dX4_guard_16 (fun x hx9 => (htab x hx9).elim) (Nat.le_of_ble_eq_true rfl) (Nat.le_of_ble_eq_true rfl) (Nat.le_of_ble_eq_true rfl) (Nat.le_of_ble_eq_true rfl) hlocks (fun t _ h1 h2 => ⟨rfl, h1, h2⟩) (fun z hz => by cases hz) (Nat.le_of_ble_eq_true rfl) (Nat.le_of_ble_eq_true rfl)
theorem mX4_change_x52 : Cond.classLink RX4 52 "java/lang/IndexOutOfBoundsException" ∈ wsX4_change := by decide +kernel
theorem mX4_change_xi52 : Cond.initialized "java/lang/IndexOutOfBoundsException" ∈ wsX4_change := by decide +kernel
set_option maxHeartbeats 4000000 in
set_option maxRecDepth 100000 in
theorem x_change (l : Launch) (hl0 : l.stackTraces = false) (D : va_G) (cA : Nat → ClassId) (H : Heap) (r0 : Nat) (x : Int32) (hx0 : inF x 0 7 = 0) : XT l yX4_change wsX4_change ({ frames := 6, cells := 1, slots := 6, locals := 82 } : Room) D cA [.ref r0, .int x] H "java/lang/IndexOutOfBoundsException" := by
  refine vx_ofW (cc := cX4_change) (maxL := 2) (ret := (some .int)) (by decide) rfl ?_
  intro p e s m args below meth c s₁ B hml htab hv
  obtain ⟨rfl, hH, hKN, hKX, hXZ⟩ := hv
  have hK := hKN.1
  have hx := B.exec
  have hb := B.bytes
  have hts := atoms_spec (ws := wsX4_change) B.pre
  have hown : s.vm.findClass RX4 = some m.cls := findClass_of_methodNamed B.named
  have hlocks := B.notSynchronized
  subst hH
  have hl := lv_entry ([.ref r0, .int x] : List Value) (n := 2) (Nat.le_of_ble_eq_true rfl)
  rw [lg_entry_eq]
  generalize (lg_sl ([.ref r0, .int x] : List Value) ++ List.replicate (2 - (lg_sl ([.ref r0, .int x] : List Value)).length) Slot.unset).toArray = ls at hl ⊢
  have hl : lv_has ls 2 [(0, .ref r0), (1, .int x)] := hl
  refine lv_iload_n hx hb dX4_change_0 rfl (lv_at hl 1 rfl) ?_
  refine ro_S (As := [.int x]) (rest := []) ⟨hx, hb, hml, hown, hts⟩ (c_X4_isRing l D cA _ x) (cwS2 1 hts gX4_change_X4_isRing rfl rfl rfl (by decide +kernel) ⟨Nat.le_of_ble_eq_true rfl, Nat.le_of_ble_eq_true rfl⟩) hKN rfl hl.1 rfl (lv_room (Nat.le_of_ble_eq_true rfl)) dX4_change_1 ⟨Nat.zero_le _, Nat.zero_le _⟩ ?_
  refine lz_top (v := 0) hx0 ?_
  refine lv_if_ne (tgt := 17) hx hb dX4_change_4 (by decide) (fun h => absurd (by decide) h) (fun _ => ?_)
  obtain ⟨sa, hstr⟩ := hKX.1 (92, "no such ring") (by decide)
  exact vx_throwS (names := ["java/lang/RuntimeException", "java/lang/Exception"]) (text := "no such ring") (A := noA) hx hb hl0 hown (by decide +kernel) (by decide +kernel) (hts _ mX4_change_x52) (hts _ mX4_change_xi52) hstr (vx_hat (fun w h => hts w (List.mem_cons_of_mem _ (List.mem_append_right _ h))) (B := KXw) (by decide +kernel) hKX.use) (by decide +kernel) hXZ.1 hXZ.2 va_S.rf (hl.1.trans hml.symm) dX4_change_7 dX4_change_10 dX4_change_11 dX4_change_13 dX4_change_16 (fun x hx9 => (htab x hx9).elim) (Nat.le_of_ble_eq_true rfl) (Nat.le_of_ble_eq_true rfl) (Nat.le_of_ble_eq_true rfl) (Nat.le_of_ble_eq_true rfl) hlocks (fun t _ h1 h2 => ⟨rfl, h1, h2⟩) (fun z hz => by cases hz) (Nat.le_of_ble_eq_true rfl) (Nat.le_of_ble_eq_true rfl)
theorem mX4_read_x52 : Cond.classLink RX4 52 "java/lang/IndexOutOfBoundsException" ∈ wsX4_read := by decide +kernel
theorem mX4_read_xi52 : Cond.initialized "java/lang/IndexOutOfBoundsException" ∈ wsX4_read := by decide +kernel
set_option maxHeartbeats 4000000 in
set_option maxRecDepth 100000 in
theorem x_read (l : Launch) (hl0 : l.stackTraces = false) (D : va_G) (cA : Nat → ClassId) (H : Heap) (r0 : Nat) (x : Int32) (hx0 : inF x 0 15 = 0) : XT l yX4_read wsX4_read ({ frames := 6, cells := 1, slots := 6, locals := 82 } : Room) D cA [.ref r0, .int x] H "java/lang/IndexOutOfBoundsException" := by
  refine vx_ofW (cc := cX4_read) (maxL := 2) (ret := (some .int)) (by decide) rfl ?_
  intro p e s m args below meth c s₁ B hml htab hv
  obtain ⟨rfl, hH, hKN, hKX, hXZ⟩ := hv
  have hK := hKN.1
  have hx := B.exec
  have hb := B.bytes
  have hts := atoms_spec (ws := wsX4_read) B.pre
  have hown : s.vm.findClass RX4 = some m.cls := findClass_of_methodNamed B.named
  have hlocks := B.notSynchronized
  subst hH
  have hl := lv_entry ([.ref r0, .int x] : List Value) (n := 2) (Nat.le_of_ble_eq_true rfl)
  rw [lg_entry_eq]
  generalize (lg_sl ([.ref r0, .int x] : List Value) ++ List.replicate (2 - (lg_sl ([.ref r0, .int x] : List Value)).length) Slot.unset).toArray = ls at hl ⊢
  have hl : lv_has ls 2 [(0, .ref r0), (1, .int x)] := hl
  refine lv_iload_n hx hb dX4_read_0 rfl (lv_at hl 1 rfl) ?_
  refine ro_S (As := [.int x]) (rest := []) ⟨hx, hb, hml, hown, hts⟩ (c_X4_isThread l D cA _ x) (cwS2 1 hts gX4_read_X4_isThread rfl rfl rfl (by decide +kernel) ⟨Nat.le_of_ble_eq_true rfl, Nat.le_of_ble_eq_true rfl⟩) hKN rfl hl.1 rfl (lv_room (Nat.le_of_ble_eq_true rfl)) dX4_read_1 ⟨Nat.zero_le _, Nat.zero_le _⟩ ?_
  refine lz_top (v := 0) hx0 ?_
  refine lv_if_ne (tgt := 17) hx hb dX4_read_4 (by decide) (fun h => absurd (by decide) h) (fun _ => ?_)
  obtain ⟨sa, hstr⟩ := hKX.1 (73, "no such thread") (by decide)
  exact vx_throwS (names := ["java/lang/RuntimeException", "java/lang/Exception"]) (text := "no such thread") (A := noA) hx hb hl0 hown (by decide +kernel) (by decide +kernel) (hts _ mX4_read_x52) (hts _ mX4_read_xi52) hstr (vx_hat (fun w h => hts w (List.mem_cons_of_mem _ (List.mem_append_right _ h))) (B := KXw) (by decide +kernel) hKX.use) (by decide +kernel) hXZ.1 hXZ.2 va_S.rf (hl.1.trans hml.symm) dX4_read_7 dX4_read_10 dX4_read_11 dX4_read_13 dX4_read_16 (fun x hx9 => (htab x hx9).elim) (Nat.le_of_ble_eq_true rfl) (Nat.le_of_ble_eq_true rfl) (Nat.le_of_ble_eq_true rfl) (Nat.le_of_ble_eq_true rfl) hlocks (fun t _ h1 h2 => ⟨rfl, h1, h2⟩) (fun z hz => by cases hz) (Nat.le_of_ble_eq_true rfl) (Nat.le_of_ble_eq_true rfl)
theorem mX4_keep_x79 : Cond.classLink RX4 79 "java/lang/IllegalArgumentException" ∈ wsX4_keep := by decide +kernel
theorem mX4_keep_xi79 : Cond.initialized "java/lang/IllegalArgumentException" ∈ wsX4_keep := by decide +kernel
set_option maxHeartbeats 4000000 in
set_option maxRecDepth 100000 in
theorem x_keep (l : Launch) (hl0 : l.stackTraces = false) (D : va_G) (cA : Nat → ClassId) (H : Heap) (r0 : Nat) (x : Int32) (hx0 : inF x 0 1 = 0) : XT l yX4_keep wsX4_keep ({ frames := 6, cells := 1, slots := 6, locals := 82 } : Room) D cA [.ref r0, .int x] H "java/lang/IllegalArgumentException" := by
  refine vx_ofW (cc := cX4_keep) (maxL := 2) (ret := (some .int)) (by decide) rfl ?_
  intro p e s m args below meth c s₁ B hml htab hv
  obtain ⟨rfl, hH, hKN, hKX, hXZ⟩ := hv
  have hK := hKN.1
  have hx := B.exec
  have hb := B.bytes
  have hts := atoms_spec (ws := wsX4_keep) B.pre
  have hown : s.vm.findClass RX4 = some m.cls := findClass_of_methodNamed B.named
  have hlocks := B.notSynchronized
  subst hH
  have hl := lv_entry ([.ref r0, .int x] : List Value) (n := 2) (Nat.le_of_ble_eq_true rfl)
  rw [lg_entry_eq]
  generalize (lg_sl ([.ref r0, .int x] : List Value) ++ List.replicate (2 - (lg_sl ([.ref r0, .int x] : List Value)).length) Slot.unset).toArray = ls at hl ⊢
  have hl : lv_has ls 2 [(0, .ref r0), (1, .int x)] := hl
  refine lv_iload_n hx hb dX4_keep_0 rfl (lv_at hl 1 rfl) ?_
  refine ro_S (As := [.int x]) (rest := []) ⟨hx, hb, hml, hown, hts⟩ (c_X4_isSlot l D cA _ x) (cwS2 1 hts gX4_keep_X4_isSlot rfl rfl rfl (by decide +kernel) ⟨Nat.le_of_ble_eq_true rfl, Nat.le_of_ble_eq_true rfl⟩) hKN rfl hl.1 rfl (lv_room (Nat.le_of_ble_eq_true rfl)) dX4_keep_1 ⟨Nat.zero_le _, Nat.zero_le _⟩ ?_
  refine lz_top (v := 0) hx0 ?_
  refine lv_if_ne (tgt := 17) hx hb dX4_keep_4 (by decide) (fun h => absurd (by decide) h) (fun _ => ?_)
  obtain ⟨sa, hstr⟩ := hKX.1 (168, "slot is out of range") (by decide)
  exact vx_throwS (names := ["java/lang/RuntimeException", "java/lang/Exception"]) (text := "slot is out of range") (A := noA) hx hb hl0 hown (by decide +kernel) (by decide +kernel) (hts _ mX4_keep_x79) (hts _ mX4_keep_xi79) hstr (vx_hat (fun w h => hts w (List.mem_cons_of_mem _ (List.mem_append_right _ h))) (B := KXw) (by decide +kernel) hKX.use) (by decide +kernel) hXZ.1 hXZ.2 va_S.rf (hl.1.trans hml.symm) dX4_keep_7 dX4_keep_10 dX4_keep_11 dX4_keep_13 dX4_keep_16 (fun x hx9 => (htab x hx9).elim) (Nat.le_of_ble_eq_true rfl) (Nat.le_of_ble_eq_true rfl) (Nat.le_of_ble_eq_true rfl) (Nat.le_of_ble_eq_true rfl) hlocks (fun t _ h1 h2 => ⟨rfl, h1, h2⟩) (fun z hz => by cases hz) (Nat.le_of_ble_eq_true rfl) (Nat.le_of_ble_eq_true rfl)
theorem mX4_goBack_x79 : Cond.classLink RX4 79 "java/lang/IllegalArgumentException" ∈ wsX4_goBack := by decide +kernel
theorem mX4_goBack_xi79 : Cond.initialized "java/lang/IllegalArgumentException" ∈ wsX4_goBack := by decide +kernel
set_option maxHeartbeats 4000000 in
set_option maxRecDepth 100000 in
theorem x_goBack (l : Launch) (hl0 : l.stackTraces = false) (D : va_G) (cA : Nat → ClassId) (H : Heap) (r0 : Nat) (x : Int32) (hx0 : inF x 0 1 = 0) : XT l yX4_goBack wsX4_goBack ({ frames := 6, cells := 1, slots := 6, locals := 82 } : Room) D cA [.ref r0, .int x] H "java/lang/IllegalArgumentException" := by
  refine vx_ofW (cc := cX4_goBack) (maxL := 2) (ret := (some .int)) (by decide) rfl ?_
  intro p e s m args below meth c s₁ B hml htab hv
  obtain ⟨rfl, hH, hKN, hKX, hXZ⟩ := hv
  have hK := hKN.1
  have hx := B.exec
  have hb := B.bytes
  have hts := atoms_spec (ws := wsX4_goBack) B.pre
  have hown : s.vm.findClass RX4 = some m.cls := findClass_of_methodNamed B.named
  have hlocks := B.notSynchronized
  subst hH
  have hl := lv_entry ([.ref r0, .int x] : List Value) (n := 2) (Nat.le_of_ble_eq_true rfl)
  rw [lg_entry_eq]
  generalize (lg_sl ([.ref r0, .int x] : List Value) ++ List.replicate (2 - (lg_sl ([.ref r0, .int x] : List Value)).length) Slot.unset).toArray = ls at hl ⊢
  have hl : lv_has ls 2 [(0, .ref r0), (1, .int x)] := hl
  refine lv_iload_n hx hb dX4_goBack_0 rfl (lv_at hl 1 rfl) ?_
  refine ro_S (As := [.int x]) (rest := []) ⟨hx, hb, hml, hown, hts⟩ (c_X4_isSlot l D cA _ x) (cwS2 1 hts gX4_goBack_X4_isSlot rfl rfl rfl (by decide +kernel) ⟨Nat.le_of_ble_eq_true rfl, Nat.le_of_ble_eq_true rfl⟩) hKN rfl hl.1 rfl (lv_room (Nat.le_of_ble_eq_true rfl)) dX4_goBack_1 ⟨Nat.zero_le _, Nat.zero_le _⟩ ?_
  refine lz_top (v := 0) hx0 ?_
  refine lv_if_ne (tgt := 17) hx hb dX4_goBack_4 (by decide) (fun h => absurd (by decide) h) (fun _ => ?_)
  obtain ⟨sa, hstr⟩ := hKX.1 (168, "slot is out of range") (by decide)
  exact vx_throwS (names := ["java/lang/RuntimeException", "java/lang/Exception"]) (text := "slot is out of range") (A := noA) hx hb hl0 hown (by decide +kernel) (by decide +kernel) (hts _ mX4_goBack_x79) (hts _ mX4_goBack_xi79) hstr (vx_hat (fun w h => hts w (List.mem_cons_of_mem _ (List.mem_append_left _ (List.mem_append_right _ h)))) (B := KXw) (by decide +kernel) hKX.use) (by decide +kernel) hXZ.1 hXZ.2 va_S.rf (hl.1.trans hml.symm) dX4_goBack_7 dX4_goBack_10 dX4_goBack_11 dX4_goBack_13 dX4_goBack_16 (fun x hx9 => (htab x hx9).elim) (Nat.le_of_ble_eq_true rfl) (Nat.le_of_ble_eq_true rfl) (Nat.le_of_ble_eq_true rfl) (Nat.le_of_ble_eq_true rfl) hlocks (fun t _ h1 h2 => ⟨rfl, h1, h2⟩) (fun z hz => by cases hz) (Nat.le_of_ble_eq_true rfl) (Nat.le_of_ble_eq_true rfl)
theorem mX4_setting_x52 : Cond.classLink RX4 52 "java/lang/IndexOutOfBoundsException" ∈ wsX4_setting := by decide +kernel
theorem mX4_setting_xi52 : Cond.initialized "java/lang/IndexOutOfBoundsException" ∈ wsX4_setting := by decide +kernel
set_option maxHeartbeats 4000000 in
set_option maxRecDepth 100000 in
theorem x_setting (l : Launch) (hl0 : l.stackTraces = false) (D : va_G) (cA : Nat → ClassId) (H : Heap) (r0 : Nat) (x : Int32) (hx0 : inF x 0 1 = 0) : XT l yX4_setting wsX4_setting ({ frames := 6, cells := 1, slots := 6, locals := 82 } : Room) D cA [.ref r0, .int x] H "java/lang/IndexOutOfBoundsException" := by
  refine vx_ofW (cc := cX4_setting) (maxL := 2) (ret := (some .int)) (by decide) rfl ?_
  intro p e s m args below meth c s₁ B hml htab hv
  obtain ⟨rfl, hH, hKN, hKX, hXZ⟩ := hv
  have hK := hKN.1
  have hx := B.exec
  have hb := B.bytes
  have hts := atoms_spec (ws := wsX4_setting) B.pre
  have hown : s.vm.findClass RX4 = some m.cls := findClass_of_methodNamed B.named
  have hlocks := B.notSynchronized
  subst hH
  have hl := lv_entry ([.ref r0, .int x] : List Value) (n := 2) (Nat.le_of_ble_eq_true rfl)
  rw [lg_entry_eq]
  generalize (lg_sl ([.ref r0, .int x] : List Value) ++ List.replicate (2 - (lg_sl ([.ref r0, .int x] : List Value)).length) Slot.unset).toArray = ls at hl ⊢
  have hl : lv_has ls 2 [(0, .ref r0), (1, .int x)] := hl
  refine lv_iload_n hx hb dX4_setting_0 rfl (lv_at hl 1 rfl) ?_
  refine ro_S (As := [.int x]) (rest := []) ⟨hx, hb, hml, hown, hts⟩ (c_X4_isSetting l D cA _ x) (cwS2 1 hts gX4_setting_X4_isSetting rfl rfl rfl (by decide +kernel) ⟨Nat.le_of_ble_eq_true rfl, Nat.le_of_ble_eq_true rfl⟩) hKN rfl hl.1 rfl (lv_room (Nat.le_of_ble_eq_true rfl)) dX4_setting_1 ⟨Nat.zero_le _, Nat.zero_le _⟩ ?_
  refine lz_top (v := 0) hx0 ?_
  refine lv_if_ne (tgt := 17) hx hb dX4_setting_4 (by decide) (fun h => absurd (by decide) h) (fun _ => ?_)
  obtain ⟨sa, hstr⟩ := hKX.1 (100, "no such setting") (by decide)
  exact vx_throwS (names := ["java/lang/RuntimeException", "java/lang/Exception"]) (text := "no such setting") (A := noA) hx hb hl0 hown (by decide +kernel) (by decide +kernel) (hts _ mX4_setting_x52) (hts _ mX4_setting_xi52) hstr (vx_hat (fun w h => hts w (List.mem_cons_of_mem _ (List.mem_append_right _ h))) (B := KXw) (by decide +kernel) hKX.use) (by decide +kernel) hXZ.1 hXZ.2 va_S.rf (hl.1.trans hml.symm) dX4_setting_7 dX4_setting_10 dX4_setting_11 dX4_setting_13 dX4_setting_16 (fun x hx9 => (htab x hx9).elim) (Nat.le_of_ble_eq_true rfl) (Nat.le_of_ble_eq_true rfl) (Nat.le_of_ble_eq_true rfl) (Nat.le_of_ble_eq_true rfl) hlocks (fun t _ h1 h2 => ⟨rfl, h1, h2⟩) (fun z hz => by cases hz) (Nat.le_of_ble_eq_true rfl) (Nat.le_of_ble_eq_true rfl)
theorem mX4_ifLoaded_x52 : Cond.classLink RX4 52 "java/lang/IndexOutOfBoundsException" ∈ wsX4_ifLoaded := by decide +kernel
theorem mX4_ifLoaded_xi52 : Cond.initialized "java/lang/IndexOutOfBoundsException" ∈ wsX4_ifLoaded := by decide +kernel
set_option maxHeartbeats 4000000 in
set_option maxRecDepth 100000 in
theorem x_ifLoaded (l : Launch) (hl0 : l.stackTraces = false) (D : va_G) (cA : Nat → ClassId) (H : Heap) (r0 : Nat) (x : Int32) (hx0 : inF x 0 15 = 0) : XT l yX4_ifLoaded wsX4_ifLoaded ({ frames := 6, cells := 1, slots := 6, locals := 82 } : Room) D cA [.ref r0, .int x] H "java/lang/IndexOutOfBoundsException" := by
  refine vx_ofW (cc := cX4_ifLoaded) (maxL := 2) (ret := (some .int)) (by decide) rfl ?_
  intro p e s m args below meth c s₁ B hml htab hv
  obtain ⟨rfl, hH, hKN, hKX, hXZ⟩ := hv
  have hK := hKN.1
  have hx := B.exec
  have hb := B.bytes
  have hts := atoms_spec (ws := wsX4_ifLoaded) B.pre
  have hown : s.vm.findClass RX4 = some m.cls := findClass_of_methodNamed B.named
  have hlocks := B.notSynchronized
  subst hH
  have hl := lv_entry ([.ref r0, .int x] : List Value) (n := 2) (Nat.le_of_ble_eq_true rfl)
  rw [lg_entry_eq]
  generalize (lg_sl ([.ref r0, .int x] : List Value) ++ List.replicate (2 - (lg_sl ([.ref r0, .int x] : List Value)).length) Slot.unset).toArray = ls at hl ⊢
  have hl : lv_has ls 2 [(0, .ref r0), (1, .int x)] := hl
  refine lv_iload_n hx hb dX4_ifLoaded_0 rfl (lv_at hl 1 rfl) ?_
  refine ro_S (As := [.int x]) (rest := []) ⟨hx, hb, hml, hown, hts⟩ (c_X4_isThread l D cA _ x) (cwS2 1 hts gX4_ifLoaded_X4_isThread rfl rfl rfl (by decide +kernel) ⟨Nat.le_of_ble_eq_true rfl, Nat.le_of_ble_eq_true rfl⟩) hKN rfl hl.1 rfl (lv_room (Nat.le_of_ble_eq_true rfl)) dX4_ifLoaded_1 ⟨Nat.zero_le _, Nat.zero_le _⟩ ?_
  refine lz_top (v := 0) hx0 ?_
  refine lv_if_ne (tgt := 17) hx hb dX4_ifLoaded_4 (by decide) (fun h => absurd (by decide) h) (fun _ => ?_)
  obtain ⟨sa, hstr⟩ := hKX.1 (73, "no such thread") (by decide)
  exact vx_throwS (names := ["java/lang/RuntimeException", "java/lang/Exception"]) (text := "no such thread") (A := noA) hx hb hl0 hown (by decide +kernel) (by decide +kernel) (hts _ mX4_ifLoaded_x52) (hts _ mX4_ifLoaded_xi52) hstr (vx_hat (fun w h => hts w (List.mem_cons_of_mem _ (List.mem_append_right _ h))) (B := KXw) (by decide +kernel) hKX.use) (by decide +kernel) hXZ.1 hXZ.2 va_S.rf (hl.1.trans hml.symm) dX4_ifLoaded_7 dX4_ifLoaded_10 dX4_ifLoaded_11 dX4_ifLoaded_13 dX4_ifLoaded_16 (fun x hx9 => (htab x hx9).elim) (Nat.le_of_ble_eq_true rfl) (Nat.le_of_ble_eq_true rfl) (Nat.le_of_ble_eq_true rfl) (Nat.le_of_ble_eq_true rfl) hlocks (fun t _ h1 h2 => ⟨rfl, h1, h2⟩) (fun z hz => by cases hz) (Nat.le_of_ble_eq_true rfl) (Nat.le_of_ble_eq_true rfl)
theorem mX4_lastsFor_x52 : Cond.classLink RX4 52 "java/lang/IndexOutOfBoundsException" ∈ wsX4_lastsFor := by decide +kernel
theorem mX4_lastsFor_xi52 : Cond.initialized "java/lang/IndexOutOfBoundsException" ∈ wsX4_lastsFor := by decide +kernel
set_option maxHeartbeats 4000000 in
set_option maxRecDepth 100000 in
theorem x_lastsFor (l : Launch) (hl0 : l.stackTraces = false) (D : va_G) (cA : Nat → ClassId) (H : Heap) (r0 : Nat) (x : Int32) (hx0 : inF x 0 15 = 0) : XT l yX4_lastsFor wsX4_lastsFor ({ frames := 6, cells := 1, slots := 6, locals := 82 } : Room) D cA [.ref r0, .int x] H "java/lang/IndexOutOfBoundsException" := by
  refine vx_ofW (cc := cX4_lastsFor) (maxL := 2) (ret := (some .int)) (by decide) rfl ?_
  intro p e s m args below meth c s₁ B hml htab hv
  obtain ⟨rfl, hH, hKN, hKX, hXZ⟩ := hv
  have hK := hKN.1
  have hx := B.exec
  have hb := B.bytes
  have hts := atoms_spec (ws := wsX4_lastsFor) B.pre
  have hown : s.vm.findClass RX4 = some m.cls := findClass_of_methodNamed B.named
  have hlocks := B.notSynchronized
  subst hH
  have hl := lv_entry ([.ref r0, .int x] : List Value) (n := 2) (Nat.le_of_ble_eq_true rfl)
  rw [lg_entry_eq]
  generalize (lg_sl ([.ref r0, .int x] : List Value) ++ List.replicate (2 - (lg_sl ([.ref r0, .int x] : List Value)).length) Slot.unset).toArray = ls at hl ⊢
  have hl : lv_has ls 2 [(0, .ref r0), (1, .int x)] := hl
  refine lv_iload_n hx hb dX4_lastsFor_0 rfl (lv_at hl 1 rfl) ?_
  refine ro_S (As := [.int x]) (rest := []) ⟨hx, hb, hml, hown, hts⟩ (c_X4_isThread l D cA _ x) (cwS2 1 hts gX4_lastsFor_X4_isThread rfl rfl rfl (by decide +kernel) ⟨Nat.le_of_ble_eq_true rfl, Nat.le_of_ble_eq_true rfl⟩) hKN rfl hl.1 rfl (lv_room (Nat.le_of_ble_eq_true rfl)) dX4_lastsFor_1 ⟨Nat.zero_le _, Nat.zero_le _⟩ ?_
  refine lz_top (v := 0) hx0 ?_
  refine lv_if_ne (tgt := 17) hx hb dX4_lastsFor_4 (by decide) (fun h => absurd (by decide) h) (fun _ => ?_)
  obtain ⟨sa, hstr⟩ := hKX.1 (73, "no such thread") (by decide)
  exact vx_throwS (names := ["java/lang/RuntimeException", "java/lang/Exception"]) (text := "no such thread") (A := noA) hx hb hl0 hown (by decide +kernel) (by decide +kernel) (hts _ mX4_lastsFor_x52) (hts _ mX4_lastsFor_xi52) hstr (vx_hat (fun w h => hts w (List.mem_cons_of_mem _ (List.mem_append_right _ h))) (B := KXw) (by decide +kernel) hKX.use) (by decide +kernel) hXZ.1 hXZ.2 va_S.rf (hl.1.trans hml.symm) dX4_lastsFor_7 dX4_lastsFor_10 dX4_lastsFor_11 dX4_lastsFor_13 dX4_lastsFor_16 (fun x hx9 => (htab x hx9).elim) (Nat.le_of_ble_eq_true rfl) (Nat.le_of_ble_eq_true rfl) (Nat.le_of_ble_eq_true rfl) (Nat.le_of_ble_eq_true rfl) hlocks (fun t _ h1 h2 => ⟨rfl, h1, h2⟩) (fun z hz => by cases hz) (Nat.le_of_ble_eq_true rfl) (Nat.le_of_ble_eq_true rfl)
theorem mX4_told_x79 : Cond.classLink RX4 79 "java/lang/IllegalArgumentException" ∈ wsX4_told := by decide +kernel
theorem mX4_told_xi79 : Cond.initialized "java/lang/IllegalArgumentException" ∈ wsX4_told := by decide +kernel
set_option maxHeartbeats 4000000 in
set_option maxRecDepth 100000 in
theorem x_told (l : Launch) (hl0 : l.stackTraces = false) (D : va_G) (cA : Nat → ClassId) (H : Heap) (r0 : Nat) (x : Int32) (hx0 : inF x 0 7 = 0) : XT l yX4_told wsX4_told ({ frames := 6, cells := 1, slots := 6, locals := 82 } : Room) D cA [.ref r0, .int x] H "java/lang/IllegalArgumentException" := by
  refine vx_ofW (cc := cX4_told) (maxL := 2) (ret := (some .int)) (by decide) rfl ?_
  intro p e s m args below meth c s₁ B hml htab hv
  obtain ⟨rfl, hH, hKN, hKX, hXZ⟩ := hv
  have hK := hKN.1
  have hx := B.exec
  have hb := B.bytes
  have hts := atoms_spec (ws := wsX4_told) B.pre
  have hown : s.vm.findClass RX4 = some m.cls := findClass_of_methodNamed B.named
  have hlocks := B.notSynchronized
  subst hH
  have hl := lv_entry ([.ref r0, .int x] : List Value) (n := 2) (Nat.le_of_ble_eq_true rfl)
  rw [lg_entry_eq]
  generalize (lg_sl ([.ref r0, .int x] : List Value) ++ List.replicate (2 - (lg_sl ([.ref r0, .int x] : List Value)).length) Slot.unset).toArray = ls at hl ⊢
  have hl : lv_has ls 2 [(0, .ref r0), (1, .int x)] := hl
  refine lv_iload_n hx hb dX4_told_0 rfl (lv_at hl 1 rfl) ?_
  refine lv_iconst (v := 0) hx hb dX4_told_1 (by decide) ?_
  refine lv_bipush (v := 7) hx hb dX4_told_2 (by decide) ?_
  refine ro_S (As := [.int x, .int 0, .int 7]) (rest := []) ⟨hx, hb, hml, hown, hts⟩ (c_X4_isWithin l D cA _ x 0 7) (cwS2 3 hts gX4_told_X4_isWithin rfl rfl rfl (by decide +kernel) ⟨Nat.le_of_ble_eq_true rfl, Nat.le_of_ble_eq_true rfl⟩) hKN rfl hl.1 rfl (lv_room (Nat.le_of_ble_eq_true rfl)) dX4_told_4 ⟨Nat.zero_le _, Nat.zero_le _⟩ ?_
  refine lz_top (v := 0) hx0 ?_
  refine lv_if_ne (tgt := 20) hx hb dX4_told_7 (by decide) (fun h => absurd (by decide) h) (fun _ => ?_)
  obtain ⟨sa, hstr⟩ := hKX.1 (242, "ago is out of range") (by decide)
  exact vx_throwS (names := ["java/lang/RuntimeException", "java/lang/Exception"]) (text := "ago is out of range") (A := noA) hx hb hl0 hown (by decide +kernel) (by decide +kernel) (hts _ mX4_told_x79) (hts _ mX4_told_xi79) hstr (vx_hat (fun w h => hts w (List.mem_cons_of_mem _ (List.mem_append_right _ h))) (B := KXw) (by decide +kernel) hKX.use) (by decide +kernel) hXZ.1 hXZ.2 va_S.rf (hl.1.trans hml.symm) dX4_told_10 dX4_told_13 dX4_told_14 dX4_told_16 dX4_told_19 (fun x hx9 => (htab x hx9).elim) (Nat.le_of_ble_eq_true rfl) (Nat.le_of_ble_eq_true rfl) (Nat.le_of_ble_eq_true rfl) (Nat.le_of_ble_eq_true rfl) hlocks (fun t _ h1 h2 => ⟨rfl, h1, h2⟩) (fun z hz => by cases hz) (Nat.le_of_ble_eq_true rfl) (Nat.le_of_ble_eq_true rfl)
theorem mX4_load_x52 : Cond.classLink RX4 52 "java/lang/IndexOutOfBoundsException" ∈ wsX4_load := by decide +kernel
theorem mX4_load_xi52 : Cond.initialized "java/lang/IndexOutOfBoundsException" ∈ wsX4_load := by decide +kernel
set_option maxHeartbeats 4000000 in
set_option maxRecDepth 100000 in
theorem x_load (l : Launch) (hl0 : l.stackTraces = false) (D : va_G) (cA : Nat → ClassId) (H : Heap) (r0 : Nat) (x : Int32) (hx0 : inF x 0 15 = 0) : XT l yX4_load wsX4_load ({ frames := 6, cells := 1, slots := 6, locals := 82 } : Room) D cA [.ref r0, .int x] H "java/lang/IndexOutOfBoundsException" := by
  refine vx_ofW (cc := cX4_load) (maxL := 4) (ret := (some .int)) (by decide) rfl ?_
  intro p e s m args below meth c s₁ B hml htab hv
  obtain ⟨rfl, hH, hKN, hKX, hXZ⟩ := hv
  have hK := hKN.1
  have hx := B.exec
  have hb := B.bytes
  have hts := atoms_spec (ws := wsX4_load) B.pre
  have hown : s.vm.findClass RX4 = some m.cls := findClass_of_methodNamed B.named
  have hlocks := B.notSynchronized
  subst hH
  have hl := lv_entry ([.ref r0, .int x] : List Value) (n := 4) (Nat.le_of_ble_eq_true rfl)
  rw [lg_entry_eq]
  generalize (lg_sl ([.ref r0, .int x] : List Value) ++ List.replicate (4 - (lg_sl ([.ref r0, .int x] : List Value)).length) Slot.unset).toArray = ls at hl ⊢
  have hl : lv_has ls 4 [(0, .ref r0), (1, .int x)] := hl
  refine lv_iload_n hx hb dX4_load_0 rfl (lv_at hl 1 rfl) ?_
  refine ro_S (As := [.int x]) (rest := []) ⟨hx, hb, hml, hown, hts⟩ (c_X4_isThread l D cA _ x) (cwS2 1 hts gX4_load_X4_isThread rfl rfl rfl (by decide +kernel) ⟨Nat.le_of_ble_eq_true rfl, Nat.le_of_ble_eq_true rfl⟩) hKN rfl hl.1 rfl (lv_room (Nat.le_of_ble_eq_true rfl)) dX4_load_1 ⟨Nat.zero_le _, Nat.zero_le _⟩ ?_
  refine lz_top (v := 0) hx0 ?_
  refine lv_if_ne (tgt := 17) hx hb dX4_load_4 (by decide) (fun h => absurd (by decide) h) (fun _ => ?_)
  obtain ⟨sa, hstr⟩ := hKX.1 (73, "no such thread") (by decide)
  exact vx_throwS (names := ["java/lang/RuntimeException", "java/lang/Exception"]) (text := "no such thread") (A := noA) hx hb hl0 hown (by decide +kernel) (by decide +kernel) (hts _ mX4_load_x52) (hts _ mX4_load_xi52) hstr (vx_hat (fun w h => hts w (List.mem_cons_of_mem _ (List.mem_append_left _ (List.mem_append_right _ h)))) (B := KXw) (by decide +kernel) hKX.use) (by decide +kernel) hXZ.1 hXZ.2 va_S.rf (hl.1.trans hml.symm) dX4_load_7 dX4_load_10 dX4_load_11 dX4_load_13 dX4_load_16 (fun x hx9 => (htab x hx9).elim) (Nat.le_of_ble_eq_true rfl) (Nat.le_of_ble_eq_true rfl) (Nat.le_of_ble_eq_true rfl) (Nat.le_of_ble_eq_true rfl) hlocks (fun t _ h1 h2 => ⟨rfl, h1, h2⟩) (fun z hz => by cases hz) (Nat.le_of_ble_eq_true rfl) (Nat.le_of_ble_eq_true rfl)
theorem mX4_machine_x79 : Cond.classLink RX4 79 "java/lang/IllegalArgumentException" ∈ wsX4_machine := by decide +kernel
theorem mX4_machine_xi79 : Cond.initialized "java/lang/IllegalArgumentException" ∈ wsX4_machine := by decide +kernel
set_option maxHeartbeats 4000000 in
set_option maxRecDepth 100000 in
theorem x_machine (l : Launch) (hl0 : l.stackTraces = false) (D : va_G) (cA : Nat → ClassId) (H : Heap) (r0 : Nat) (x : Int32) (hx0 : inF x 0 8 = 0) : XT l yX4_machine wsX4_machine ({ frames := 6, cells := 1, slots := 6, locals := 82 } : Room) D cA [.ref r0, .int x] H "java/lang/IllegalArgumentException" := by
  refine vx_ofW (cc := cX4_machine) (maxL := 2) (ret := (some .int)) (by decide) rfl ?_
  intro p e s m args below meth c s₁ B hml htab hv
  obtain ⟨rfl, hH, hKN, hKX, hXZ⟩ := hv
  have hK := hKN.1
  have hx := B.exec
  have hb := B.bytes
  have hts := atoms_spec (ws := wsX4_machine) B.pre
  have hown : s.vm.findClass RX4 = some m.cls := findClass_of_methodNamed B.named
  have hlocks := B.notSynchronized
  subst hH
  have hl := lv_entry ([.ref r0, .int x] : List Value) (n := 2) (Nat.le_of_ble_eq_true rfl)
  rw [lg_entry_eq]
  generalize (lg_sl ([.ref r0, .int x] : List Value) ++ List.replicate (2 - (lg_sl ([.ref r0, .int x] : List Value)).length) Slot.unset).toArray = ls at hl ⊢
  have hl : lv_has ls 2 [(0, .ref r0), (1, .int x)] := hl
  refine lv_iload_n hx hb dX4_machine_0 rfl (lv_at hl 1 rfl) ?_
  refine lv_tableOut (tgt := 130) hx hb dX4_machine_1 (inF_bad (n := 8) (by decide) hx0) (by decide) ?_
  obtain ⟨sa, hstr⟩ := hKX.1 (240, "what is not 0 to 8") (by decide)
  exact vx_throwS (names := ["java/lang/RuntimeException", "java/lang/Exception"]) (text := "what is not 0 to 8") (A := noA) hx hb hl0 hown (by decide +kernel) (by decide +kernel) (hts _ mX4_machine_x79) (hts _ mX4_machine_xi79) hstr (vx_hat (fun w h => hts w (List.mem_cons_of_mem _ (List.mem_append_right _ h))) (B := KXw) (by decide +kernel) hKX.use) (by decide +kernel) hXZ.1 hXZ.2 va_S.rf (hl.1.trans hml.symm) dX4_machine_130 dX4_machine_133 dX4_machine_134 dX4_machine_136 dX4_machine_139 (fun x hx9 => (htab x hx9).elim) (Nat.le_of_ble_eq_true rfl) (Nat.le_of_ble_eq_true rfl) (Nat.le_of_ble_eq_true rfl) (Nat.le_of_ble_eq_true rfl) hlocks (fun t _ h1 h2 => ⟨rfl, h1, h2⟩) (fun z hz => by cases hz) (Nat.le_of_ble_eq_true rfl) (Nat.le_of_ble_eq_true rfl)
theorem mX4_count_x79 : Cond.classLink RX4 79 "java/lang/IllegalArgumentException" ∈ wsX4_count := by decide +kernel
theorem mX4_count_xi79 : Cond.initialized "java/lang/IllegalArgumentException" ∈ wsX4_count := by decide +kernel
set_option maxHeartbeats 4000000 in
set_option maxRecDepth 100000 in
theorem x_count (l : Launch) (hl0 : l.stackTraces = false) (D : va_G) (cA : Nat → ClassId) (H : Heap) (r0 : Nat) (x : Int32) (hx0 : inF x 0 9 = 0) : XT l yX4_count wsX4_count ({ frames := 6, cells := 1, slots := 6, locals := 82 } : Room) D cA [.ref r0, .int x] H "java/lang/IllegalArgumentException" := by
  refine vx_ofW (cc := cX4_count) (maxL := 2) (ret := (some .int)) (by decide) rfl ?_
  intro p e s m args below meth c s₁ B hml htab hv
  obtain ⟨rfl, hH, hKN, hKX, hXZ⟩ := hv
  have hK := hKN.1
  have hx := B.exec
  have hb := B.bytes
  have hts := atoms_spec (ws := wsX4_count) B.pre
  have hown : s.vm.findClass RX4 = some m.cls := findClass_of_methodNamed B.named
  have hlocks := B.notSynchronized
  subst hH
  have hl := lv_entry ([.ref r0, .int x] : List Value) (n := 2) (Nat.le_of_ble_eq_true rfl)
  rw [lg_entry_eq]
  generalize (lg_sl ([.ref r0, .int x] : List Value) ++ List.replicate (2 - (lg_sl ([.ref r0, .int x] : List Value)).length) Slot.unset).toArray = ls at hl ⊢
  have hl : lv_has ls 2 [(0, .ref r0), (1, .int x)] := hl
  refine lv_iload_n hx hb dX4_count_0 rfl (lv_at hl 1 rfl) ?_
  refine lv_tableOut (tgt := 136) hx hb dX4_count_1 (inF_bad (n := 9) (by decide) hx0) (by decide) ?_
  obtain ⟨sa, hstr⟩ := hKX.1 (268, "what is not 0 to 9") (by decide)
  exact vx_throwSW (names := ["java/lang/RuntimeException", "java/lang/Exception"]) (text := "what is not 0 to 9") (A := noA) hx hb hl0 hown (by decide +kernel) (by decide +kernel) (hts _ mX4_count_x79) (hts _ mX4_count_xi79) hstr (vx_hat (fun w h => hts w (List.mem_cons_of_mem _ (List.mem_append_right _ h))) (B := KXw) (by decide +kernel) hKX.use) (by decide +kernel) hXZ.1 hXZ.2 va_S.rf (hl.1.trans hml.symm) dX4_count_136 dX4_count_139 dX4_count_140 dX4_count_143 dX4_count_146 (fun x hx9 => (htab x hx9).elim) (Nat.le_of_ble_eq_true rfl) (Nat.le_of_ble_eq_true rfl) (Nat.le_of_ble_eq_true rfl) (Nat.le_of_ble_eq_true rfl) hlocks (fun t _ h1 h2 => ⟨rfl, h1, h2⟩) (fun z hz => by cases hz) (Nat.le_of_ble_eq_true rfl) (Nat.le_of_ble_eq_true rfl)
theorem mX4_go_x79 : Cond.classLink RX4 79 "java/lang/IllegalArgumentException" ∈ wsX4_go := by decide +kernel
theorem mX4_go_xi79 : Cond.initialized "java/lang/IllegalArgumentException" ∈ wsX4_go := by decide +kernel
set_option maxHeartbeats 4000000 in
set_option maxRecDepth 100000 in
theorem x_go (l : Launch) (hl0 : l.stackTraces = false) (D : va_G) (cA : Nat → ClassId) (H : Heap) (r0 : Nat) (x : Int32) (hx0 : inF x 1 99 = 0) : XT l yX4_go wsX4_go ({ frames := 6, cells := 1, slots := 6, locals := 82 } : Room) D cA [.ref r0, .int x] H "java/lang/IllegalArgumentException" := by
  refine vx_ofW (cc := cX4_go) (maxL := 2) (ret := (some .int)) (by decide) rfl ?_
  intro p e s m args below meth c s₁ B hml htab hv
  obtain ⟨rfl, hH, hKN, hKX, hXZ⟩ := hv
  have hK := hKN.1
  have hx := B.exec
  have hb := B.bytes
  have hts := atoms_spec (ws := wsX4_go) B.pre
  have hown : s.vm.findClass RX4 = some m.cls := findClass_of_methodNamed B.named
  have hlocks := B.notSynchronized
  subst hH
  have hl := lv_entry ([.ref r0, .int x] : List Value) (n := 2) (Nat.le_of_ble_eq_true rfl)
  rw [lg_entry_eq]
  generalize (lg_sl ([.ref r0, .int x] : List Value) ++ List.replicate (2 - (lg_sl ([.ref r0, .int x] : List Value)).length) Slot.unset).toArray = ls at hl ⊢
  have hl : lv_has ls 2 [(0, .ref r0), (1, .int x)] := hl
  refine lv_iload_n hx hb dX4_go_0 rfl (lv_at hl 1 rfl) ?_
  refine lv_iconst (v := 1) hx hb dX4_go_1 (by decide) ?_
  refine lv_bipush (v := 99) hx hb dX4_go_2 (by decide) ?_
  refine ro_S (As := [.int x, .int 1, .int 99]) (rest := []) ⟨hx, hb, hml, hown, hts⟩ (c_X4_isWithin l D cA _ x 1 99) (cwS2 3 hts gX4_go_X4_isWithin rfl rfl rfl (by decide +kernel) ⟨Nat.le_of_ble_eq_true rfl, Nat.le_of_ble_eq_true rfl⟩) hKN rfl hl.1 rfl (lv_room (Nat.le_of_ble_eq_true rfl)) dX4_go_4 ⟨Nat.zero_le _, Nat.zero_le _⟩ ?_
  refine lz_top (v := 0) hx0 ?_
  refine lv_if_ne (tgt := 20) hx hb dX4_go_7 (by decide) (fun h => absurd (by decide) h) (fun _ => ?_)
  obtain ⟨sa, hstr⟩ := hKX.1 (122, "steps is out of range") (by decide)
  exact vx_throwS (names := ["java/lang/RuntimeException", "java/lang/Exception"]) (text := "steps is out of range") (A := noA) hx hb hl0 hown (by decide +kernel) (by decide +kernel) (hts _ mX4_go_x79) (hts _ mX4_go_xi79) hstr (vx_hat (fun w h => hts w (List.mem_cons_of_mem _ (List.mem_append_right _ h))) (B := KXw) (by decide +kernel) hKX.use) (by decide +kernel) hXZ.1 hXZ.2 va_S.rf (hl.1.trans hml.symm) dX4_go_10 dX4_go_13 dX4_go_14 dX4_go_16 dX4_go_19 (fun x hx9 => (htab x hx9).elim) (Nat.le_of_ble_eq_true rfl) (Nat.le_of_ble_eq_true rfl) (Nat.le_of_ble_eq_true rfl) (Nat.le_of_ble_eq_true rfl) hlocks (fun t _ h1 h2 => ⟨rfl, h1, h2⟩) (fun z hz => by cases hz) (Nat.le_of_ble_eq_true rfl) (Nat.le_of_ble_eq_true rfl)
theorem mX4_append_x79 : Cond.classLink RX4 79 "java/lang/IllegalArgumentException" ∈ wsX4_append := by decide +kernel
theorem mX4_append_xi79 : Cond.initialized "java/lang/IllegalArgumentException" ∈ wsX4_append := by decide +kernel
set_option maxHeartbeats 4000000 in
set_option maxRecDepth 100000 in
theorem x_append (l : Launch) (hl0 : l.stackTraces = false) (D : va_G) (cA : Nat → ClassId) (H : Heap) (r0 : Nat) (x : Int32) (hx0 : inF x 33 126 = 0) : XT l yX4_append wsX4_append ({ frames := 6, cells := 1, slots := 6, locals := 82 } : Room) D cA [.ref r0, .int x] H "java/lang/IllegalArgumentException" := by
  refine vx_ofW (cc := cX4_append) (maxL := 2) (ret := (some .int)) (by decide) rfl ?_
  intro p e s m args below meth c s₁ B hml htab hv
  obtain ⟨rfl, hH, hKN, hKX, hXZ⟩ := hv
  have hK := hKN.1
  have hx := B.exec
  have hb := B.bytes
  have hts := atoms_spec (ws := wsX4_append) B.pre
  have hown : s.vm.findClass RX4 = some m.cls := findClass_of_methodNamed B.named
  have hlocks := B.notSynchronized
  subst hH
  have hl := lv_entry ([.ref r0, .int x] : List Value) (n := 2) (Nat.le_of_ble_eq_true rfl)
  rw [lg_entry_eq]
  generalize (lg_sl ([.ref r0, .int x] : List Value) ++ List.replicate (2 - (lg_sl ([.ref r0, .int x] : List Value)).length) Slot.unset).toArray = ls at hl ⊢
  have hl : lv_has ls 2 [(0, .ref r0), (1, .int x)] := hl
  refine lv_iload_n hx hb dX4_append_0 rfl (lv_at hl 1 rfl) ?_
  refine lv_bipush (v := 33) hx hb dX4_append_1 (by decide) ?_
  refine lv_bipush (v := 126) hx hb dX4_append_3 (by decide) ?_
  refine ro_S (As := [.int x, .int 33, .int 126]) (rest := []) ⟨hx, hb, hml, hown, hts⟩ (c_X4_isWithin l D cA _ x 33 126) (cwS2 3 hts gX4_append_X4_isWithin rfl rfl rfl (by decide +kernel) ⟨Nat.le_of_ble_eq_true rfl, Nat.le_of_ble_eq_true rfl⟩) hKN rfl hl.1 rfl (lv_room (Nat.le_of_ble_eq_true rfl)) dX4_append_5 ⟨Nat.zero_le _, Nat.zero_le _⟩ ?_
  refine lz_top (v := 0) hx0 ?_
  refine lv_if_ne (tgt := 21) hx hb dX4_append_8 (by decide) (fun h => absurd (by decide) h) (fun _ => ?_)
  obtain ⟨sa, hstr⟩ := hKX.1 (127, "code is not 33 to 126") (by decide)
  exact vx_throwS (names := ["java/lang/RuntimeException", "java/lang/Exception"]) (text := "code is not 33 to 126") (A := noA) hx hb hl0 hown (by decide +kernel) (by decide +kernel) (hts _ mX4_append_x79) (hts _ mX4_append_xi79) hstr (vx_hat (fun w h => hts w (List.mem_cons_of_mem _ (List.mem_append_left _ (List.mem_append_right _ h)))) (B := KXw) (by decide +kernel) hKX.use) (by decide +kernel) hXZ.1 hXZ.2 va_S.rf (hl.1.trans hml.symm) dX4_append_11 dX4_append_14 dX4_append_15 dX4_append_17 dX4_append_20 (fun x hx9 => (htab x hx9).elim) (Nat.le_of_ble_eq_true rfl) (Nat.le_of_ble_eq_true rfl) (Nat.le_of_ble_eq_true rfl) (Nat.le_of_ble_eq_true rfl) hlocks (fun t _ h1 h2 => ⟨rfl, h1, h2⟩) (fun z hz => by cases hz) (Nat.le_of_ble_eq_true rfl) (Nat.le_of_ble_eq_true rfl)
theorem mX4_cross_x52 : Cond.classLink RX4 52 "java/lang/IndexOutOfBoundsException" ∈ wsX4_cross := by decide +kernel
theorem mX4_cross_xi52 : Cond.initialized "java/lang/IndexOutOfBoundsException" ∈ wsX4_cross := by decide +kernel
set_option maxHeartbeats 4000000 in
set_option maxRecDepth 100000 in
theorem x_cross1 (l : Launch) (hl0 : l.stackTraces = false) (D : va_G) (cA : Nat → ClassId) (H : Heap) (r0 : Nat) (y : Int32) (x : Int32) (hx0 : inF x 0 15 = 0) : XT l yX4_cross wsX4_cross ({ frames := 6, cells := 1, slots := 6, locals := 82 } : Room) D cA [.ref r0, .int x, .int y] H "java/lang/IndexOutOfBoundsException" := by
  refine vx_ofW (cc := cX4_cross) (maxL := 3) (ret := (some .int)) (by decide) rfl ?_
  intro p e s m args below meth c s₁ B hml htab hv
  obtain ⟨rfl, hH, hKN, hKX, hXZ⟩ := hv
  have hK := hKN.1
  have hx := B.exec
  have hb := B.bytes
  have hts := atoms_spec (ws := wsX4_cross) B.pre
  have hown : s.vm.findClass RX4 = some m.cls := findClass_of_methodNamed B.named
  have hlocks := B.notSynchronized
  subst hH
  have hl := lv_entry ([.ref r0, .int x, .int y] : List Value) (n := 3) (Nat.le_of_ble_eq_true rfl)
  rw [lg_entry_eq]
  generalize (lg_sl ([.ref r0, .int x, .int y] : List Value) ++ List.replicate (3 - (lg_sl ([.ref r0, .int x, .int y] : List Value)).length) Slot.unset).toArray = ls at hl ⊢
  have hl : lv_has ls 3 [(0, .ref r0), (1, .int x), (2, .int y)] := hl
  refine lv_iload_n hx hb dX4_cross_0 rfl (lv_at hl 1 rfl) ?_
  refine ro_S (As := [.int x]) (rest := []) ⟨hx, hb, hml, hown, hts⟩ (c_X4_isThread l D cA _ x) (cwS2 1 hts gX4_cross_X4_isThread rfl rfl rfl (by decide +kernel) ⟨Nat.le_of_ble_eq_true rfl, Nat.le_of_ble_eq_true rfl⟩) hKN rfl hl.1 rfl (lv_room (Nat.le_of_ble_eq_true rfl)) dX4_cross_1 ⟨Nat.zero_le _, Nat.zero_le _⟩ ?_
  refine lz_top (v := 0) hx0 ?_
  refine lv_if_eq (tgt := 14) hx hb dX4_cross_4 (by decide) (fun _ => ?_) (fun h => absurd (by decide) h)
  obtain ⟨sa, hstr⟩ := hKX.1 (54, "no such thread or ring") (by decide)
  exact vx_throwS (names := ["java/lang/RuntimeException", "java/lang/Exception"]) (text := "no such thread or ring") (A := noA) hx hb hl0 hown (by decide +kernel) (by decide +kernel) (hts _ mX4_cross_x52) (hts _ mX4_cross_xi52) hstr (vx_hat (fun w h => hts w (List.mem_cons_of_mem _ (List.mem_append_right _ h))) (B := KXw) (by decide +kernel) hKX.use) (by decide +kernel) hXZ.1 hXZ.2 va_S.rf (hl.1.trans hml.symm) dX4_cross_14 dX4_cross_17 dX4_cross_18 dX4_cross_20 dX4_cross_23 (fun x hx9 => (htab x hx9).elim) (Nat.le_of_ble_eq_true rfl) (Nat.le_of_ble_eq_true rfl) (Nat.le_of_ble_eq_true rfl) (Nat.le_of_ble_eq_true rfl) hlocks (fun t _ h1 h2 => ⟨rfl, h1, h2⟩) (fun z hz => by cases hz) (Nat.le_of_ble_eq_true rfl) (Nat.le_of_ble_eq_true rfl)
theorem mX4_lay_x52 : Cond.classLink RX4 52 "java/lang/IndexOutOfBoundsException" ∈ wsX4_lay := by decide +kernel
theorem mX4_lay_xi52 : Cond.initialized "java/lang/IndexOutOfBoundsException" ∈ wsX4_lay := by decide +kernel
set_option maxHeartbeats 4000000 in
set_option maxRecDepth 100000 in
theorem x_lay1 (l : Launch) (hl0 : l.stackTraces = false) (D : va_G) (cA : Nat → ClassId) (H : Heap) (r0 : Nat) (y : Int32) (x : Int32) (hx0 : inF x 0 15 = 0) : XT l yX4_lay wsX4_lay ({ frames := 6, cells := 1, slots := 6, locals := 82 } : Room) D cA [.ref r0, .int x, .int y] H "java/lang/IndexOutOfBoundsException" := by
  refine vx_ofW (cc := cX4_lay) (maxL := 3) (ret := (some .int)) (by decide) rfl ?_
  intro p e s m args below meth c s₁ B hml htab hv
  obtain ⟨rfl, hH, hKN, hKX, hXZ⟩ := hv
  have hK := hKN.1
  have hx := B.exec
  have hb := B.bytes
  have hts := atoms_spec (ws := wsX4_lay) B.pre
  have hown : s.vm.findClass RX4 = some m.cls := findClass_of_methodNamed B.named
  have hlocks := B.notSynchronized
  subst hH
  have hl := lv_entry ([.ref r0, .int x, .int y] : List Value) (n := 3) (Nat.le_of_ble_eq_true rfl)
  rw [lg_entry_eq]
  generalize (lg_sl ([.ref r0, .int x, .int y] : List Value) ++ List.replicate (3 - (lg_sl ([.ref r0, .int x, .int y] : List Value)).length) Slot.unset).toArray = ls at hl ⊢
  have hl : lv_has ls 3 [(0, .ref r0), (1, .int x), (2, .int y)] := hl
  refine lv_iload_n hx hb dX4_lay_0 rfl (lv_at hl 1 rfl) ?_
  refine ro_S (As := [.int x]) (rest := []) ⟨hx, hb, hml, hown, hts⟩ (c_X4_isThread l D cA _ x) (cwS2 1 hts gX4_lay_X4_isThread rfl rfl rfl (by decide +kernel) ⟨Nat.le_of_ble_eq_true rfl, Nat.le_of_ble_eq_true rfl⟩) hKN rfl hl.1 rfl (lv_room (Nat.le_of_ble_eq_true rfl)) dX4_lay_1 ⟨Nat.zero_le _, Nat.zero_le _⟩ ?_
  refine lz_top (v := 0) hx0 ?_
  refine lv_if_ne (tgt := 17) hx hb dX4_lay_4 (by decide) (fun h => absurd (by decide) h) (fun _ => ?_)
  obtain ⟨sa, hstr⟩ := hKX.1 (73, "no such thread") (by decide)
  exact vx_throwS (names := ["java/lang/RuntimeException", "java/lang/Exception"]) (text := "no such thread") (A := noA) hx hb hl0 hown (by decide +kernel) (by decide +kernel) (hts _ mX4_lay_x52) (hts _ mX4_lay_xi52) hstr (vx_hat (fun w h => hts w (List.mem_cons_of_mem _ (List.mem_append_left _ (List.mem_append_right _ h)))) (B := KXw) (by decide +kernel) hKX.use) (by decide +kernel) hXZ.1 hXZ.2 va_S.rf (hl.1.trans hml.symm) dX4_lay_7 dX4_lay_10 dX4_lay_11 dX4_lay_13 dX4_lay_16 (fun x hx9 => (htab x hx9).elim) (Nat.le_of_ble_eq_true rfl) (Nat.le_of_ble_eq_true rfl) (Nat.le_of_ble_eq_true rfl) (Nat.le_of_ble_eq_true rfl) hlocks (fun t _ h1 h2 => ⟨rfl, h1, h2⟩) (fun z hz => by cases hz) (Nat.le_of_ble_eq_true rfl) (Nat.le_of_ble_eq_true rfl)
theorem mX4_set_x52 : Cond.classLink RX4 52 "java/lang/IndexOutOfBoundsException" ∈ wsX4_set := by decide +kernel
theorem mX4_set_xi52 : Cond.initialized "java/lang/IndexOutOfBoundsException" ∈ wsX4_set := by decide +kernel
set_option maxHeartbeats 4000000 in
set_option maxRecDepth 100000 in
theorem x_set1 (l : Launch) (hl0 : l.stackTraces = false) (D : va_G) (cA : Nat → ClassId) (H : Heap) (r0 : Nat) (y : Int32) (x : Int32) (hx0 : inF x 0 1 = 0) : XT l yX4_set wsX4_set ({ frames := 6, cells := 1, slots := 6, locals := 82 } : Room) D cA [.ref r0, .int x, .int y] H "java/lang/IndexOutOfBoundsException" := by
  refine vx_ofW (cc := cX4_set) (maxL := 4) (ret := (some .int)) (by decide) rfl ?_
  intro p e s m args below meth c s₁ B hml htab hv
  obtain ⟨rfl, hH, hKN, hKX, hXZ⟩ := hv
  have hK := hKN.1
  have hx := B.exec
  have hb := B.bytes
  have hts := atoms_spec (ws := wsX4_set) B.pre
  have hown : s.vm.findClass RX4 = some m.cls := findClass_of_methodNamed B.named
  have hlocks := B.notSynchronized
  subst hH
  have hl := lv_entry ([.ref r0, .int x, .int y] : List Value) (n := 4) (Nat.le_of_ble_eq_true rfl)
  rw [lg_entry_eq]
  generalize (lg_sl ([.ref r0, .int x, .int y] : List Value) ++ List.replicate (4 - (lg_sl ([.ref r0, .int x, .int y] : List Value)).length) Slot.unset).toArray = ls at hl ⊢
  have hl : lv_has ls 4 [(0, .ref r0), (1, .int x), (2, .int y)] := hl
  refine lv_iload_n hx hb dX4_set_0 rfl (lv_at hl 1 rfl) ?_
  refine ro_S (As := [.int x]) (rest := []) ⟨hx, hb, hml, hown, hts⟩ (c_X4_isSetting l D cA _ x) (cwS2 1 hts gX4_set_X4_isSetting rfl rfl rfl (by decide +kernel) ⟨Nat.le_of_ble_eq_true rfl, Nat.le_of_ble_eq_true rfl⟩) hKN rfl hl.1 rfl (lv_room (Nat.le_of_ble_eq_true rfl)) dX4_set_1 ⟨Nat.zero_le _, Nat.zero_le _⟩ ?_
  refine lz_top (v := 0) hx0 ?_
  refine lv_if_ne (tgt := 17) hx hb dX4_set_4 (by decide) (fun h => absurd (by decide) h) (fun _ => ?_)
  obtain ⟨sa, hstr⟩ := hKX.1 (100, "no such setting") (by decide)
  exact vx_throwS (names := ["java/lang/RuntimeException", "java/lang/Exception"]) (text := "no such setting") (A := noA) hx hb hl0 hown (by decide +kernel) (by decide +kernel) (hts _ mX4_set_x52) (hts _ mX4_set_xi52) hstr (vx_hat (fun w h => hts w (List.mem_cons_of_mem _ (List.mem_append_left _ (List.mem_append_right _ h)))) (B := KXw) (by decide +kernel) hKX.use) (by decide +kernel) hXZ.1 hXZ.2 va_S.rf (hl.1.trans hml.symm) dX4_set_7 dX4_set_10 dX4_set_11 dX4_set_13 dX4_set_16 (fun x hx9 => (htab x hx9).elim) (Nat.le_of_ble_eq_true rfl) (Nat.le_of_ble_eq_true rfl) (Nat.le_of_ble_eq_true rfl) (Nat.le_of_ble_eq_true rfl) hlocks (fun t _ h1 h2 => ⟨rfl, h1, h2⟩) (fun z hz => by cases hz) (Nat.le_of_ble_eq_true rfl) (Nat.le_of_ble_eq_true rfl)
theorem mX4_write_x52 : Cond.classLink RX4 52 "java/lang/IndexOutOfBoundsException" ∈ wsX4_write := by decide +kernel
theorem mX4_write_xi52 : Cond.initialized "java/lang/IndexOutOfBoundsException" ∈ wsX4_write := by decide +kernel
set_option maxHeartbeats 4000000 in
set_option maxRecDepth 100000 in
theorem x_write1 (l : Launch) (hl0 : l.stackTraces = false) (D : va_G) (cA : Nat → ClassId) (H : Heap) (r0 : Nat) (y : Int32) (x : Int32) (hx0 : inF x 0 15 = 0) : XT l yX4_write wsX4_write ({ frames := 6, cells := 1, slots := 6, locals := 82 } : Room) D cA [.ref r0, .int x, .int y] H "java/lang/IndexOutOfBoundsException" := by
  refine vx_ofW (cc := cX4_write) (maxL := 4) (ret := (some .int)) (by decide) rfl ?_
  intro p e s m args below meth c s₁ B hml htab hv
  obtain ⟨rfl, hH, hKN, hKX, hXZ⟩ := hv
  have hK := hKN.1
  have hx := B.exec
  have hb := B.bytes
  have hts := atoms_spec (ws := wsX4_write) B.pre
  have hown : s.vm.findClass RX4 = some m.cls := findClass_of_methodNamed B.named
  have hlocks := B.notSynchronized
  subst hH
  have hl := lv_entry ([.ref r0, .int x, .int y] : List Value) (n := 4) (Nat.le_of_ble_eq_true rfl)
  rw [lg_entry_eq]
  generalize (lg_sl ([.ref r0, .int x, .int y] : List Value) ++ List.replicate (4 - (lg_sl ([.ref r0, .int x, .int y] : List Value)).length) Slot.unset).toArray = ls at hl ⊢
  have hl : lv_has ls 4 [(0, .ref r0), (1, .int x), (2, .int y)] := hl
  refine lv_iload_n hx hb dX4_write_0 rfl (lv_at hl 1 rfl) ?_
  refine ro_S (As := [.int x]) (rest := []) ⟨hx, hb, hml, hown, hts⟩ (c_X4_isThread l D cA _ x) (cwS2 1 hts gX4_write_X4_isThread rfl rfl rfl (by decide +kernel) ⟨Nat.le_of_ble_eq_true rfl, Nat.le_of_ble_eq_true rfl⟩) hKN rfl hl.1 rfl (lv_room (Nat.le_of_ble_eq_true rfl)) dX4_write_1 ⟨Nat.zero_le _, Nat.zero_le _⟩ ?_
  refine lz_top (v := 0) hx0 ?_
  refine lv_if_eq (tgt := 19) hx hb dX4_write_4 (by decide) (fun _ => ?_) (fun h => absurd (by decide) h)
  obtain ⟨sa, hstr⟩ := hKX.1 (157, "no such thread, or last is less than first") (by decide)
  exact vx_throwS (names := ["java/lang/RuntimeException", "java/lang/Exception"]) (text := "no such thread, or last is less than first") (A := noA) hx hb hl0 hown (by decide +kernel) (by decide +kernel) (hts _ mX4_write_x52) (hts _ mX4_write_xi52) hstr (vx_hat (fun w h => hts w (List.mem_cons_of_mem _ (List.mem_append_right _ h))) (B := KXw) (by decide +kernel) hKX.use) (by decide +kernel) hXZ.1 hXZ.2 va_S.rf (hl.1.trans hml.symm) dX4_write_19 dX4_write_22 dX4_write_23 dX4_write_25 dX4_write_28 (fun x hx9 => (htab x hx9).elim) (Nat.le_of_ble_eq_true rfl) (Nat.le_of_ble_eq_true rfl) (Nat.le_of_ble_eq_true rfl) (Nat.le_of_ble_eq_true rfl) hlocks (fun t _ h1 h2 => ⟨rfl, h1, h2⟩) (fun z hz => by cases hz) (Nat.le_of_ble_eq_true rfl) (Nat.le_of_ble_eq_true rfl)
theorem mX4_threadOf_x52 : Cond.classLink RX4 52 "java/lang/IndexOutOfBoundsException" ∈ wsX4_threadOf := by decide +kernel
theorem mX4_threadOf_xi52 : Cond.initialized "java/lang/IndexOutOfBoundsException" ∈ wsX4_threadOf := by decide +kernel
set_option maxHeartbeats 4000000 in
set_option maxRecDepth 100000 in
theorem x_threadOf1 (l : Launch) (hl0 : l.stackTraces = false) (D : va_G) (cA : Nat → ClassId) (H : Heap) (r0 : Nat) (y : Int32) (x : Int32) (hx0 : inF x 0 15 = 0) : XT l yX4_threadOf wsX4_threadOf ({ frames := 6, cells := 1, slots := 6, locals := 82 } : Room) D cA [.ref r0, .int x, .int y] H "java/lang/IndexOutOfBoundsException" := by
  refine vx_ofW (cc := cX4_threadOf) (maxL := 3) (ret := (some .int)) (by decide) rfl ?_
  intro p e s m args below meth c s₁ B hml htab hv
  obtain ⟨rfl, hH, hKN, hKX, hXZ⟩ := hv
  have hK := hKN.1
  have hx := B.exec
  have hb := B.bytes
  have hts := atoms_spec (ws := wsX4_threadOf) B.pre
  have hown : s.vm.findClass RX4 = some m.cls := findClass_of_methodNamed B.named
  have hlocks := B.notSynchronized
  subst hH
  have hl := lv_entry ([.ref r0, .int x, .int y] : List Value) (n := 3) (Nat.le_of_ble_eq_true rfl)
  rw [lg_entry_eq]
  generalize (lg_sl ([.ref r0, .int x, .int y] : List Value) ++ List.replicate (3 - (lg_sl ([.ref r0, .int x, .int y] : List Value)).length) Slot.unset).toArray = ls at hl ⊢
  have hl : lv_has ls 3 [(0, .ref r0), (1, .int x), (2, .int y)] := hl
  refine lv_iload_n hx hb dX4_threadOf_0 rfl (lv_at hl 1 rfl) ?_
  refine ro_S (As := [.int x]) (rest := []) ⟨hx, hb, hml, hown, hts⟩ (c_X4_isThread l D cA _ x) (cwS2 1 hts gX4_threadOf_X4_isThread rfl rfl rfl (by decide +kernel) ⟨Nat.le_of_ble_eq_true rfl, Nat.le_of_ble_eq_true rfl⟩) hKN rfl hl.1 rfl (lv_room (Nat.le_of_ble_eq_true rfl)) dX4_threadOf_1 ⟨Nat.zero_le _, Nat.zero_le _⟩ ?_
  refine lz_top (v := 0) hx0 ?_
  refine lv_if_ne (tgt := 17) hx hb dX4_threadOf_4 (by decide) (fun h => absurd (by decide) h) (fun _ => ?_)
  obtain ⟨sa, hstr⟩ := hKX.1 (73, "no such thread") (by decide)
  exact vx_throwS (names := ["java/lang/RuntimeException", "java/lang/Exception"]) (text := "no such thread") (A := noA) hx hb hl0 hown (by decide +kernel) (by decide +kernel) (hts _ mX4_threadOf_x52) (hts _ mX4_threadOf_xi52) hstr (vx_hat (fun w h => hts w (List.mem_cons_of_mem _ (List.mem_append_left _ (List.mem_append_right _ h)))) (B := KXw) (by decide +kernel) hKX.use) (by decide +kernel) hXZ.1 hXZ.2 va_S.rf (hl.1.trans hml.symm) dX4_threadOf_7 dX4_threadOf_10 dX4_threadOf_11 dX4_threadOf_13 dX4_threadOf_16 (fun x hx9 => (htab x hx9).elim) (Nat.le_of_ble_eq_true rfl) (Nat.le_of_ble_eq_true rfl) (Nat.le_of_ble_eq_true rfl) (Nat.le_of_ble_eq_true rfl) hlocks (fun t _ h1 h2 => ⟨rfl, h1, h2⟩) (fun z hz => by cases hz) (Nat.le_of_ble_eq_true rfl) (Nat.le_of_ble_eq_true rfl)
theorem mX4_ringOf_x52 : Cond.classLink RX4 52 "java/lang/IndexOutOfBoundsException" ∈ wsX4_ringOf := by decide +kernel
theorem mX4_ringOf_xi52 : Cond.initialized "java/lang/IndexOutOfBoundsException" ∈ wsX4_ringOf := by decide +kernel
set_option maxHeartbeats 4000000 in
set_option maxRecDepth 100000 in
theorem x_ringOf1 (l : Launch) (hl0 : l.stackTraces = false) (D : va_G) (cA : Nat → ClassId) (H : Heap) (r0 : Nat) (y : Int32) (x : Int32) (hx0 : inF x 0 7 = 0) : XT l yX4_ringOf wsX4_ringOf ({ frames := 6, cells := 1, slots := 6, locals := 82 } : Room) D cA [.ref r0, .int x, .int y] H "java/lang/IndexOutOfBoundsException" := by
  refine vx_ofW (cc := cX4_ringOf) (maxL := 3) (ret := (some .int)) (by decide) rfl ?_
  intro p e s m args below meth c s₁ B hml htab hv
  obtain ⟨rfl, hH, hKN, hKX, hXZ⟩ := hv
  have hK := hKN.1
  have hx := B.exec
  have hb := B.bytes
  have hts := atoms_spec (ws := wsX4_ringOf) B.pre
  have hown : s.vm.findClass RX4 = some m.cls := findClass_of_methodNamed B.named
  have hlocks := B.notSynchronized
  subst hH
  have hl := lv_entry ([.ref r0, .int x, .int y] : List Value) (n := 3) (Nat.le_of_ble_eq_true rfl)
  rw [lg_entry_eq]
  generalize (lg_sl ([.ref r0, .int x, .int y] : List Value) ++ List.replicate (3 - (lg_sl ([.ref r0, .int x, .int y] : List Value)).length) Slot.unset).toArray = ls at hl ⊢
  have hl : lv_has ls 3 [(0, .ref r0), (1, .int x), (2, .int y)] := hl
  refine lv_iload_n hx hb dX4_ringOf_0 rfl (lv_at hl 1 rfl) ?_
  refine ro_S (As := [.int x]) (rest := []) ⟨hx, hb, hml, hown, hts⟩ (c_X4_isRing l D cA _ x) (cwS2 1 hts gX4_ringOf_X4_isRing rfl rfl rfl (by decide +kernel) ⟨Nat.le_of_ble_eq_true rfl, Nat.le_of_ble_eq_true rfl⟩) hKN rfl hl.1 rfl (lv_room (Nat.le_of_ble_eq_true rfl)) dX4_ringOf_1 ⟨Nat.zero_le _, Nat.zero_le _⟩ ?_
  refine lz_top (v := 0) hx0 ?_
  refine lv_if_ne (tgt := 17) hx hb dX4_ringOf_4 (by decide) (fun h => absurd (by decide) h) (fun _ => ?_)
  obtain ⟨sa, hstr⟩ := hKX.1 (92, "no such ring") (by decide)
  exact vx_throwS (names := ["java/lang/RuntimeException", "java/lang/Exception"]) (text := "no such ring") (A := noA) hx hb hl0 hown (by decide +kernel) (by decide +kernel) (hts _ mX4_ringOf_x52) (hts _ mX4_ringOf_xi52) hstr (vx_hat (fun w h => hts w (List.mem_cons_of_mem _ (List.mem_append_left _ (List.mem_append_right _ h)))) (B := KXw) (by decide +kernel) hKX.use) (by decide +kernel) hXZ.1 hXZ.2 va_S.rf (hl.1.trans hml.symm) dX4_ringOf_7 dX4_ringOf_10 dX4_ringOf_11 dX4_ringOf_13 dX4_ringOf_16 (fun x hx9 => (htab x hx9).elim) (Nat.le_of_ble_eq_true rfl) (Nat.le_of_ble_eq_true rfl) (Nat.le_of_ble_eq_true rfl) (Nat.le_of_ble_eq_true rfl) hlocks (fun t _ h1 h2 => ⟨rfl, h1, h2⟩) (fun z hz => by cases hz) (Nat.le_of_ble_eq_true rfl) (Nat.le_of_ble_eq_true rfl)
set_option maxHeartbeats 4000000 in
set_option maxRecDepth 100000 in
theorem x_cross2 (l : Launch) (hl0 : l.stackTraces = false) (D : va_G) (cA : Nat → ClassId) (H : Heap) (r0 t : Nat) (ht : t < 16) (x : Int32) (hx0 : inF x 0 7 = 0) : XT l yX4_cross wsX4_cross ({ frames := 6, cells := 1, slots := 6, locals := 82 } : Room) D cA [.ref r0, .int (nI t), .int x] H "java/lang/IndexOutOfBoundsException" := by
  refine vx_ofW (cc := cX4_cross) (maxL := 3) (ret := (some .int)) (by decide) rfl ?_
  intro p e s m args below meth c s₁ B hml htab hv
  obtain ⟨rfl, hH, hKN, hKX, hXZ⟩ := hv
  have hK := hKN.1
  have hx := B.exec
  have hb := B.bytes
  have hts := atoms_spec (ws := wsX4_cross) B.pre
  have hown : s.vm.findClass RX4 = some m.cls := findClass_of_methodNamed B.named
  have hlocks := B.notSynchronized
  subst hH
  have hl := lv_entry ([.ref r0, .int (nI t), .int x] : List Value) (n := 3) (Nat.le_of_ble_eq_true rfl)
  rw [lg_entry_eq]
  generalize (lg_sl ([.ref r0, .int (nI t), .int x] : List Value) ++ List.replicate (3 - (lg_sl ([.ref r0, .int (nI t), .int x] : List Value)).length) Slot.unset).toArray = ls at hl ⊢
  have hl : lv_has ls 3 [(0, .ref r0), (1, .int (nI t)), (2, .int x)] := hl
  refine lv_iload_n hx hb dX4_cross_0 rfl (lv_at hl 1 rfl) ?_
  refine ro_S (As := [.int (nI t)]) (rest := []) ⟨hx, hb, hml, hown, hts⟩ (c_X4_isThread l D cA _ (nI t)) (cwS2 1 hts gX4_cross_X4_isThread rfl rfl rfl (by decide +kernel) ⟨Nat.le_of_ble_eq_true rfl, Nat.le_of_ble_eq_true rfl⟩) hKN rfl hl.1 rfl (lv_room (Nat.le_of_ble_eq_true rfl)) dX4_cross_1 ⟨Nat.zero_le _, Nat.zero_le _⟩ ?_
  refine lz_top (v := 1) (inF_ok (k := t) (a := 0) (b := 15) (by omega) (by omega) (by decide)) ?_
  refine lv_if_eq (tgt := 14) hx hb dX4_cross_4 (by decide) (fun h => absurd h (by decide)) (fun _ => ?_)
  refine lv_iload_n hx hb dX4_cross_7 rfl (lv_at hl 2 rfl) ?_
  refine ro_S (As := [.int x]) (rest := []) ⟨hx, hb, hml, hown, hts⟩ (c_X4_isRing l D cA _ x) (cwS2 1 hts gX4_cross_X4_isRing rfl rfl rfl (by decide +kernel) ⟨Nat.le_of_ble_eq_true rfl, Nat.le_of_ble_eq_true rfl⟩) hKN rfl hl.1 rfl (lv_room (Nat.le_of_ble_eq_true rfl)) dX4_cross_8 ⟨Nat.zero_le _, Nat.zero_le _⟩ ?_
  refine lz_top (v := 0) hx0 ?_
  refine lv_if_ne (tgt := 24) hx hb dX4_cross_11 (by decide) (fun h => absurd (by decide) h) (fun _ => ?_)
  obtain ⟨sa, hstr⟩ := hKX.1 (54, "no such thread or ring") (by decide)
  exact vx_throwS (names := ["java/lang/RuntimeException", "java/lang/Exception"]) (text := "no such thread or ring") (A := noA) hx hb hl0 hown (by decide +kernel) (by decide +kernel) (hts _ mX4_cross_x52) (hts _ mX4_cross_xi52) hstr (vx_hat (fun w h => hts w (List.mem_cons_of_mem _ (List.mem_append_right _ h))) (B := KXw) (by decide +kernel) hKX.use) (by decide +kernel) hXZ.1 hXZ.2 va_S.rf (hl.1.trans hml.symm) dX4_cross_14 dX4_cross_17 dX4_cross_18 dX4_cross_20 dX4_cross_23 (fun x hx9 => (htab x hx9).elim) (Nat.le_of_ble_eq_true rfl) (Nat.le_of_ble_eq_true rfl) (Nat.le_of_ble_eq_true rfl) (Nat.le_of_ble_eq_true rfl) hlocks (fun t _ h1 h2 => ⟨rfl, h1, h2⟩) (fun z hz => by cases hz) (Nat.le_of_ble_eq_true rfl) (Nat.le_of_ble_eq_true rfl)
theorem mX4_lay_x79 : Cond.classLink RX4 79 "java/lang/IllegalArgumentException" ∈ wsX4_lay := by decide +kernel
theorem mX4_lay_xi79 : Cond.initialized "java/lang/IllegalArgumentException" ∈ wsX4_lay := by decide +kernel
set_option maxHeartbeats 4000000 in
set_option maxRecDepth 100000 in
theorem x_lay2 (l : Launch) (hl0 : l.stackTraces = false) (D : va_G) (cA : Nat → ClassId) (H : Heap) (r0 t : Nat) (ht : t < 16) (x : Int32) (hx0 : inF x 0 255 = 0) : XT l yX4_lay wsX4_lay ({ frames := 6, cells := 1, slots := 6, locals := 82 } : Room) D cA [.ref r0, .int (nI t), .int x] H "java/lang/IllegalArgumentException" := by
  refine vx_ofW (cc := cX4_lay) (maxL := 3) (ret := (some .int)) (by decide) rfl ?_
  intro p e s m args below meth c s₁ B hml htab hv
  obtain ⟨rfl, hH, hKN, hKX, hXZ⟩ := hv
  have hK := hKN.1
  have hx := B.exec
  have hb := B.bytes
  have hts := atoms_spec (ws := wsX4_lay) B.pre
  have hown : s.vm.findClass RX4 = some m.cls := findClass_of_methodNamed B.named
  have hlocks := B.notSynchronized
  subst hH
  have hl := lv_entry ([.ref r0, .int (nI t), .int x] : List Value) (n := 3) (Nat.le_of_ble_eq_true rfl)
  rw [lg_entry_eq]
  generalize (lg_sl ([.ref r0, .int (nI t), .int x] : List Value) ++ List.replicate (3 - (lg_sl ([.ref r0, .int (nI t), .int x] : List Value)).length) Slot.unset).toArray = ls at hl ⊢
  have hl : lv_has ls 3 [(0, .ref r0), (1, .int (nI t)), (2, .int x)] := hl
  refine lv_iload_n hx hb dX4_lay_0 rfl (lv_at hl 1 rfl) ?_
  refine ro_S (As := [.int (nI t)]) (rest := []) ⟨hx, hb, hml, hown, hts⟩ (c_X4_isThread l D cA _ (nI t)) (cwS2 1 hts gX4_lay_X4_isThread rfl rfl rfl (by decide +kernel) ⟨Nat.le_of_ble_eq_true rfl, Nat.le_of_ble_eq_true rfl⟩) hKN rfl hl.1 rfl (lv_room (Nat.le_of_ble_eq_true rfl)) dX4_lay_1 ⟨Nat.zero_le _, Nat.zero_le _⟩ ?_
  refine lz_top (v := 1) (inF_ok (k := t) (a := 0) (b := 15) (by omega) (by omega) (by decide)) ?_
  refine lv_if_ne (tgt := 17) hx hb dX4_lay_4 (by decide) (fun _ => ?_) (fun h => absurd h (by decide))
  refine lv_iload_n hx hb dX4_lay_17 rfl (lv_at hl 2 rfl) ?_
  refine lv_iconst (v := 0) hx hb dX4_lay_18 (by decide) ?_
  refine lv_sipush (v := 255) hx hb dX4_lay_19 (by decide) ?_
  refine ro_S (As := [.int x, .int 0, .int 255]) (rest := []) ⟨hx, hb, hml, hown, hts⟩ (c_X4_isWithin l D cA _ x 0 255) (cwS2 3 hts gX4_lay_X4_isWithin rfl rfl rfl (by decide +kernel) ⟨Nat.le_of_ble_eq_true rfl, Nat.le_of_ble_eq_true rfl⟩) hKN rfl hl.1 rfl (lv_room (Nat.le_of_ble_eq_true rfl)) dX4_lay_22 ⟨Nat.zero_le _, Nat.zero_le _⟩ ?_
  refine lz_top (v := 0) hx0 ?_
  refine lv_if_ne (tgt := 38) hx hb dX4_lay_25 (by decide) (fun h => absurd (by decide) h) (fun _ => ?_)
  obtain ⟨sa, hstr⟩ := hKX.1 (81, "word is out of range") (by decide)
  exact vx_throwS (names := ["java/lang/RuntimeException", "java/lang/Exception"]) (text := "word is out of range") (A := noA) hx hb hl0 hown (by decide +kernel) (by decide +kernel) (hts _ mX4_lay_x79) (hts _ mX4_lay_xi79) hstr (vx_hat (fun w h => hts w (List.mem_cons_of_mem _ (List.mem_append_right _ h))) (B := KXw) (by decide +kernel) hKX.use) (by decide +kernel) hXZ.1 hXZ.2 va_S.rf (hl.1.trans hml.symm) dX4_lay_28 dX4_lay_31 dX4_lay_32 dX4_lay_34 dX4_lay_37 (fun x hx9 => (htab x hx9).elim) (Nat.le_of_ble_eq_true rfl) (Nat.le_of_ble_eq_true rfl) (Nat.le_of_ble_eq_true rfl) (Nat.le_of_ble_eq_true rfl) hlocks (fun t _ h1 h2 => ⟨rfl, h1, h2⟩) (fun z hz => by cases hz) (Nat.le_of_ble_eq_true rfl) (Nat.le_of_ble_eq_true rfl)
theorem mX4_set_x79 : Cond.classLink RX4 79 "java/lang/IllegalArgumentException" ∈ wsX4_set := by decide +kernel
theorem mX4_set_xi79 : Cond.initialized "java/lang/IllegalArgumentException" ∈ wsX4_set := by decide +kernel
set_option maxHeartbeats 4000000 in
set_option maxRecDepth 100000 in
theorem x_set2 (l : Launch) (hl0 : l.stackTraces = false) (D : va_G) (cA : Nat → ClassId) (H : Heap) (r0 : Nat) (x : Int32) (hx0 : inF x 1 8 = 0) : XT l yX4_set wsX4_set ({ frames := 6, cells := 1, slots := 6, locals := 82 } : Room) D cA [.ref r0, .int 0, .int x] H "java/lang/IllegalArgumentException" := by
  refine vx_ofW (cc := cX4_set) (maxL := 4) (ret := (some .int)) (by decide) rfl ?_
  intro p e s m args below meth c s₁ B hml htab hv
  obtain ⟨rfl, hH, hKN, hKX, hXZ⟩ := hv
  have hK := hKN.1
  have hx := B.exec
  have hb := B.bytes
  have hts := atoms_spec (ws := wsX4_set) B.pre
  have hown : s.vm.findClass RX4 = some m.cls := findClass_of_methodNamed B.named
  have hlocks := B.notSynchronized
  subst hH
  have hl := lv_entry ([.ref r0, .int 0, .int x] : List Value) (n := 4) (Nat.le_of_ble_eq_true rfl)
  rw [lg_entry_eq]
  generalize (lg_sl ([.ref r0, .int 0, .int x] : List Value) ++ List.replicate (4 - (lg_sl ([.ref r0, .int 0, .int x] : List Value)).length) Slot.unset).toArray = ls at hl ⊢
  have hl : lv_has ls 4 [(0, .ref r0), (1, .int 0), (2, .int x)] := hl
  refine lv_iload_n hx hb dX4_set_0 rfl (lv_at hl 1 rfl) ?_
  refine ro_S (As := [.int 0]) (rest := []) ⟨hx, hb, hml, hown, hts⟩ (c_X4_isSetting l D cA _ 0) (cwS2 1 hts gX4_set_X4_isSetting rfl rfl rfl (by decide +kernel) ⟨Nat.le_of_ble_eq_true rfl, Nat.le_of_ble_eq_true rfl⟩) hKN rfl hl.1 rfl (lv_room (Nat.le_of_ble_eq_true rfl)) dX4_set_1 ⟨Nat.zero_le _, Nat.zero_le _⟩ ?_
  refine lz_top (v := 1) (inF_ok (k := 0) (a := 0) (b := 1) (by omega) (by omega) (by decide)) ?_
  refine lv_if_ne (tgt := 17) hx hb dX4_set_4 (by decide) (fun _ => ?_) (fun h => absurd h (by decide))
  refine lv_iload_n hx hb dX4_set_17 rfl (lv_at hl 2 rfl) ?_
  refine lv_iload_n hx hb dX4_set_18 rfl (lv_at hl 1 rfl) ?_
  refine lv_if_ne (tgt := 26) hx hb dX4_set_19 (by decide) (fun h => absurd (by decide) h) (fun _ => ?_)
  refine lv_iconst (v := 1) hx hb dX4_set_22 (by decide) ?_
  refine lv_goto (tgt := 27) hx hb dX4_set_23 (by decide) ?_
  refine lv_iload_n hx hb dX4_set_27 rfl (lv_at hl 1 rfl) ?_
  refine lv_if_ne (tgt := 36) hx hb dX4_set_28 (by decide) (fun h => absurd (by decide) h) (fun _ => ?_)
  refine lv_bipush (v := 8) hx hb dX4_set_31 (by decide) ?_
  refine lv_goto (tgt := 37) hx hb dX4_set_33 (by decide) ?_
  refine ro_S (As := [.int x, .int 1, .int 8]) (rest := []) ⟨hx, hb, hml, hown, hts⟩ (c_X4_isWithin l D cA _ x 1 8) (cwS2 3 hts gX4_set_X4_isWithin rfl rfl rfl (by decide +kernel) ⟨Nat.le_of_ble_eq_true rfl, Nat.le_of_ble_eq_true rfl⟩) hKN rfl hl.1 rfl (lv_room (Nat.le_of_ble_eq_true rfl)) dX4_set_37 ⟨Nat.zero_le _, Nat.zero_le _⟩ ?_
  refine lz_top (v := 0) hx0 ?_
  refine lv_if_ne (tgt := 53) hx hb dX4_set_40 (by decide) (fun h => absurd (by decide) h) (fun _ => ?_)
  obtain ⟨sa, hstr⟩ := hKX.1 (102, "value is out of range") (by decide)
  exact vx_throwS (names := ["java/lang/RuntimeException", "java/lang/Exception"]) (text := "value is out of range") (A := noA) hx hb hl0 hown (by decide +kernel) (by decide +kernel) (hts _ mX4_set_x79) (hts _ mX4_set_xi79) hstr (vx_hat (fun w h => hts w (List.mem_cons_of_mem _ (List.mem_append_right _ h))) (B := KXw) (by decide +kernel) hKX.use) (by decide +kernel) hXZ.1 hXZ.2 va_S.rf (hl.1.trans hml.symm) dX4_set_43 dX4_set_46 dX4_set_47 dX4_set_49 dX4_set_52 (fun x hx9 => (htab x hx9).elim) (Nat.le_of_ble_eq_true rfl) (Nat.le_of_ble_eq_true rfl) (Nat.le_of_ble_eq_true rfl) (Nat.le_of_ble_eq_true rfl) hlocks (fun t _ h1 h2 => ⟨rfl, h1, h2⟩) (fun z hz => by cases hz) (Nat.le_of_ble_eq_true rfl) (Nat.le_of_ble_eq_true rfl)
set_option maxHeartbeats 4000000 in
set_option maxRecDepth 100000 in
theorem x_set3 (l : Launch) (hl0 : l.stackTraces = false) (D : va_G) (cA : Nat → ClassId) (H : Heap) (r0 : Nat) (x : Int32) (hx0 : inF x 0 1 = 0) : XT l yX4_set wsX4_set ({ frames := 6, cells := 1, slots := 6, locals := 82 } : Room) D cA [.ref r0, .int 1, .int x] H "java/lang/IllegalArgumentException" := by
  refine vx_ofW (cc := cX4_set) (maxL := 4) (ret := (some .int)) (by decide) rfl ?_
  intro p e s m args below meth c s₁ B hml htab hv
  obtain ⟨rfl, hH, hKN, hKX, hXZ⟩ := hv
  have hK := hKN.1
  have hx := B.exec
  have hb := B.bytes
  have hts := atoms_spec (ws := wsX4_set) B.pre
  have hown : s.vm.findClass RX4 = some m.cls := findClass_of_methodNamed B.named
  have hlocks := B.notSynchronized
  subst hH
  have hl := lv_entry ([.ref r0, .int 1, .int x] : List Value) (n := 4) (Nat.le_of_ble_eq_true rfl)
  rw [lg_entry_eq]
  generalize (lg_sl ([.ref r0, .int 1, .int x] : List Value) ++ List.replicate (4 - (lg_sl ([.ref r0, .int 1, .int x] : List Value)).length) Slot.unset).toArray = ls at hl ⊢
  have hl : lv_has ls 4 [(0, .ref r0), (1, .int 1), (2, .int x)] := hl
  refine lv_iload_n hx hb dX4_set_0 rfl (lv_at hl 1 rfl) ?_
  refine ro_S (As := [.int 1]) (rest := []) ⟨hx, hb, hml, hown, hts⟩ (c_X4_isSetting l D cA _ 1) (cwS2 1 hts gX4_set_X4_isSetting rfl rfl rfl (by decide +kernel) ⟨Nat.le_of_ble_eq_true rfl, Nat.le_of_ble_eq_true rfl⟩) hKN rfl hl.1 rfl (lv_room (Nat.le_of_ble_eq_true rfl)) dX4_set_1 ⟨Nat.zero_le _, Nat.zero_le _⟩ ?_
  refine lz_top (v := 1) (inF_ok (k := 1) (a := 0) (b := 1) (by omega) (by omega) (by decide)) ?_
  refine lv_if_ne (tgt := 17) hx hb dX4_set_4 (by decide) (fun _ => ?_) (fun h => absurd h (by decide))
  refine lv_iload_n hx hb dX4_set_17 rfl (lv_at hl 2 rfl) ?_
  refine lv_iload_n hx hb dX4_set_18 rfl (lv_at hl 1 rfl) ?_
  refine lv_if_ne (tgt := 26) hx hb dX4_set_19 (by decide) (fun _ => ?_) (fun h => absurd h (by decide))
  refine lv_iconst (v := 0) hx hb dX4_set_26 (by decide) ?_
  refine lv_iload_n hx hb dX4_set_27 rfl (lv_at hl 1 rfl) ?_
  refine lv_if_ne (tgt := 36) hx hb dX4_set_28 (by decide) (fun _ => ?_) (fun h => absurd h (by decide))
  refine lv_iconst (v := 1) hx hb dX4_set_36 (by decide) ?_
  refine ro_S (As := [.int x, .int 0, .int 1]) (rest := []) ⟨hx, hb, hml, hown, hts⟩ (c_X4_isWithin l D cA _ x 0 1) (cwS2 3 hts gX4_set_X4_isWithin rfl rfl rfl (by decide +kernel) ⟨Nat.le_of_ble_eq_true rfl, Nat.le_of_ble_eq_true rfl⟩) hKN rfl hl.1 rfl (lv_room (Nat.le_of_ble_eq_true rfl)) dX4_set_37 ⟨Nat.zero_le _, Nat.zero_le _⟩ ?_
  refine lz_top (v := 0) hx0 ?_
  refine lv_if_ne (tgt := 53) hx hb dX4_set_40 (by decide) (fun h => absurd (by decide) h) (fun _ => ?_)
  obtain ⟨sa, hstr⟩ := hKX.1 (102, "value is out of range") (by decide)
  exact vx_throwS (names := ["java/lang/RuntimeException", "java/lang/Exception"]) (text := "value is out of range") (A := noA) hx hb hl0 hown (by decide +kernel) (by decide +kernel) (hts _ mX4_set_x79) (hts _ mX4_set_xi79) hstr (vx_hat (fun w h => hts w (List.mem_cons_of_mem _ (List.mem_append_right _ h))) (B := KXw) (by decide +kernel) hKX.use) (by decide +kernel) hXZ.1 hXZ.2 va_S.rf (hl.1.trans hml.symm) dX4_set_43 dX4_set_46 dX4_set_47 dX4_set_49 dX4_set_52 (fun x hx9 => (htab x hx9).elim) (Nat.le_of_ble_eq_true rfl) (Nat.le_of_ble_eq_true rfl) (Nat.le_of_ble_eq_true rfl) (Nat.le_of_ble_eq_true rfl) hlocks (fun t _ h1 h2 => ⟨rfl, h1, h2⟩) (fun z hz => by cases hz) (Nat.le_of_ble_eq_true rfl) (Nat.le_of_ble_eq_true rfl)
set_option maxHeartbeats 4000000 in
set_option maxRecDepth 100000 in
theorem x_write2 (l : Launch) (hl0 : l.stackTraces = false) (D : va_G) (cA : Nat → ClassId) (H : Heap) (r0 t : Nat) (ht : t < 16) (x : Int32) (hx0 : inF x 0 15 = 0) : XT l yX4_write wsX4_write ({ frames := 6, cells := 1, slots := 6, locals := 82 } : Room) D cA [.ref r0, .int (nI t), .int x] H "java/lang/IndexOutOfBoundsException" := by
  refine vx_ofW (cc := cX4_write) (maxL := 4) (ret := (some .int)) (by decide) rfl ?_
  intro p e s m args below meth c s₁ B hml htab hv
  obtain ⟨rfl, hH, hKN, hKX, hXZ⟩ := hv
  have hK := hKN.1
  have hx := B.exec
  have hb := B.bytes
  have hts := atoms_spec (ws := wsX4_write) B.pre
  have hown : s.vm.findClass RX4 = some m.cls := findClass_of_methodNamed B.named
  have hlocks := B.notSynchronized
  subst hH
  have hl := lv_entry ([.ref r0, .int (nI t), .int x] : List Value) (n := 4) (Nat.le_of_ble_eq_true rfl)
  rw [lg_entry_eq]
  generalize (lg_sl ([.ref r0, .int (nI t), .int x] : List Value) ++ List.replicate (4 - (lg_sl ([.ref r0, .int (nI t), .int x] : List Value)).length) Slot.unset).toArray = ls at hl ⊢
  have hl : lv_has ls 4 [(0, .ref r0), (1, .int (nI t)), (2, .int x)] := hl
  refine lv_iload_n hx hb dX4_write_0 rfl (lv_at hl 1 rfl) ?_
  refine ro_S (As := [.int (nI t)]) (rest := []) ⟨hx, hb, hml, hown, hts⟩ (c_X4_isThread l D cA _ (nI t)) (cwS2 1 hts gX4_write_X4_isThread rfl rfl rfl (by decide +kernel) ⟨Nat.le_of_ble_eq_true rfl, Nat.le_of_ble_eq_true rfl⟩) hKN rfl hl.1 rfl (lv_room (Nat.le_of_ble_eq_true rfl)) dX4_write_1 ⟨Nat.zero_le _, Nat.zero_le _⟩ ?_
  refine lz_top (v := 1) (inF_ok (k := t) (a := 0) (b := 15) (by omega) (by omega) (by decide)) ?_
  refine lv_if_eq (tgt := 19) hx hb dX4_write_4 (by decide) (fun h => absurd h (by decide)) (fun _ => ?_)
  refine lv_iload_n hx hb dX4_write_7 rfl (lv_at hl 2 rfl) ?_
  refine ro_S (As := [.int x]) (rest := []) ⟨hx, hb, hml, hown, hts⟩ (c_X4_isThread l D cA _ x) (cwS2 1 hts gX4_write_X4_isThread rfl rfl rfl (by decide +kernel) ⟨Nat.le_of_ble_eq_true rfl, Nat.le_of_ble_eq_true rfl⟩) hKN rfl hl.1 rfl (lv_room (Nat.le_of_ble_eq_true rfl)) dX4_write_8 ⟨Nat.zero_le _, Nat.zero_le _⟩ ?_
  refine lz_top (v := 0) hx0 ?_
  refine lv_if_eq (tgt := 19) hx hb dX4_write_11 (by decide) (fun _ => ?_) (fun h => absurd (by decide) h)
  obtain ⟨sa, hstr⟩ := hKX.1 (157, "no such thread, or last is less than first") (by decide)
  exact vx_throwS (names := ["java/lang/RuntimeException", "java/lang/Exception"]) (text := "no such thread, or last is less than first") (A := noA) hx hb hl0 hown (by decide +kernel) (by decide +kernel) (hts _ mX4_write_x52) (hts _ mX4_write_xi52) hstr (vx_hat (fun w h => hts w (List.mem_cons_of_mem _ (List.mem_append_right _ h))) (B := KXw) (by decide +kernel) hKX.use) (by decide +kernel) hXZ.1 hXZ.2 va_S.rf (hl.1.trans hml.symm) dX4_write_19 dX4_write_22 dX4_write_23 dX4_write_25 dX4_write_28 (fun x hx9 => (htab x hx9).elim) (Nat.le_of_ble_eq_true rfl) (Nat.le_of_ble_eq_true rfl) (Nat.le_of_ble_eq_true rfl) (Nat.le_of_ble_eq_true rfl) hlocks (fun t _ h1 h2 => ⟨rfl, h1, h2⟩) (fun z hz => by cases hz) (Nat.le_of_ble_eq_true rfl) (Nat.le_of_ble_eq_true rfl)
set_option maxHeartbeats 4000000 in
set_option maxRecDepth 100000 in
theorem x_write3 (l : Launch) (hl0 : l.stackTraces = false) (D : va_G) (cA : Nat → ClassId) (H : Heap) (r0 t u : Nat) (ht : t < 16) (hu : u < 16) (htu : u < t) : XT l yX4_write wsX4_write ({ frames := 6, cells := 1, slots := 6, locals := 82 } : Room) D cA [.ref r0, .int (nI t), .int (nI u)] H "java/lang/IndexOutOfBoundsException" := by
  refine vx_ofW (cc := cX4_write) (maxL := 4) (ret := (some .int)) (by decide) rfl ?_
  intro p e s m args below meth c s₁ B hml htab hv
  obtain ⟨rfl, hH, hKN, hKX, hXZ⟩ := hv
  have hK := hKN.1
  have hx := B.exec
  have hb := B.bytes
  have hts := atoms_spec (ws := wsX4_write) B.pre
  have hown : s.vm.findClass RX4 = some m.cls := findClass_of_methodNamed B.named
  have hlocks := B.notSynchronized
  subst hH
  have hl := lv_entry ([.ref r0, .int (nI t), .int (nI u)] : List Value) (n := 4) (Nat.le_of_ble_eq_true rfl)
  rw [lg_entry_eq]
  generalize (lg_sl ([.ref r0, .int (nI t), .int (nI u)] : List Value) ++ List.replicate (4 - (lg_sl ([.ref r0, .int (nI t), .int (nI u)] : List Value)).length) Slot.unset).toArray = ls at hl ⊢
  have hl : lv_has ls 4 [(0, .ref r0), (1, .int (nI t)), (2, .int (nI u))] := hl
  refine lv_iload_n hx hb dX4_write_0 rfl (lv_at hl 1 rfl) ?_
  refine ro_S (As := [.int (nI t)]) (rest := []) ⟨hx, hb, hml, hown, hts⟩ (c_X4_isThread l D cA _ (nI t)) (cwS2 1 hts gX4_write_X4_isThread rfl rfl rfl (by decide +kernel) ⟨Nat.le_of_ble_eq_true rfl, Nat.le_of_ble_eq_true rfl⟩) hKN rfl hl.1 rfl (lv_room (Nat.le_of_ble_eq_true rfl)) dX4_write_1 ⟨Nat.zero_le _, Nat.zero_le _⟩ ?_
  refine lz_top (v := 1) (inF_ok (k := t) (a := 0) (b := 15) (by omega) (by omega) (by decide)) ?_
  refine lv_if_eq (tgt := 19) hx hb dX4_write_4 (by decide) (fun h => absurd h (by decide)) (fun _ => ?_)
  refine lv_iload_n hx hb dX4_write_7 rfl (lv_at hl 2 rfl) ?_
  refine ro_S (As := [.int (nI u)]) (rest := []) ⟨hx, hb, hml, hown, hts⟩ (c_X4_isThread l D cA _ (nI u)) (cwS2 1 hts gX4_write_X4_isThread rfl rfl rfl (by decide +kernel) ⟨Nat.le_of_ble_eq_true rfl, Nat.le_of_ble_eq_true rfl⟩) hKN rfl hl.1 rfl (lv_room (Nat.le_of_ble_eq_true rfl)) dX4_write_8 ⟨Nat.zero_le _, Nat.zero_le _⟩ ?_
  refine lz_top (v := 1) (inF_ok (k := u) (a := 0) (b := 15) (by omega) (by omega) (by decide)) ?_
  refine lv_if_eq (tgt := 19) hx hb dX4_write_11 (by decide) (fun h => absurd h (by decide)) (fun _ => ?_)
  refine lv_iload_n hx hb dX4_write_14 rfl (lv_at hl 2 rfl) ?_
  refine lv_iload_n hx hb dX4_write_15 rfl (lv_at hl 1 rfl) ?_
  refine lv_icmp_ge (tgt := 29) hx hb dX4_write_16 (by decide) (fun h => absurd h (nI_ge htu (by omega))) (fun _ => ?_)
  obtain ⟨sa, hstr⟩ := hKX.1 (157, "no such thread, or last is less than first") (by decide)
  exact vx_throwS (names := ["java/lang/RuntimeException", "java/lang/Exception"]) (text := "no such thread, or last is less than first") (A := noA) hx hb hl0 hown (by decide +kernel) (by decide +kernel) (hts _ mX4_write_x52) (hts _ mX4_write_xi52) hstr (vx_hat (fun w h => hts w (List.mem_cons_of_mem _ (List.mem_append_right _ h))) (B := KXw) (by decide +kernel) hKX.use) (by decide +kernel) hXZ.1 hXZ.2 va_S.rf (hl.1.trans hml.symm) dX4_write_19 dX4_write_22 dX4_write_23 dX4_write_25 dX4_write_28 (fun x hx9 => (htab x hx9).elim) (Nat.le_of_ble_eq_true rfl) (Nat.le_of_ble_eq_true rfl) (Nat.le_of_ble_eq_true rfl) (Nat.le_of_ble_eq_true rfl) hlocks (fun t _ h1 h2 => ⟨rfl, h1, h2⟩) (fun z hz => by cases hz) (Nat.le_of_ble_eq_true rfl) (Nat.le_of_ble_eq_true rfl)
theorem mX4_threadOf_x79 : Cond.classLink RX4 79 "java/lang/IllegalArgumentException" ∈ wsX4_threadOf := by decide +kernel
theorem mX4_threadOf_xi79 : Cond.initialized "java/lang/IllegalArgumentException" ∈ wsX4_threadOf := by decide +kernel
set_option maxHeartbeats 4000000 in
set_option maxRecDepth 100000 in
theorem x_threadOf2 (l : Launch) (hl0 : l.stackTraces = false) (D : va_G) (cA : Nat → ClassId) (H : Heap) (r0 t : Nat) (ht : t < 16) (x : Int32) (hx0 : inF x 0 7 = 0) : XT l yX4_threadOf wsX4_threadOf ({ frames := 6, cells := 1, slots := 6, locals := 82 } : Room) D cA [.ref r0, .int (nI t), .int x] H "java/lang/IllegalArgumentException" := by
  refine vx_ofW (cc := cX4_threadOf) (maxL := 3) (ret := (some .int)) (by decide) rfl ?_
  intro p e s m args below meth c s₁ B hml htab hv
  obtain ⟨rfl, hH, hKN, hKX, hXZ⟩ := hv
  have hK := hKN.1
  have hx := B.exec
  have hb := B.bytes
  have hts := atoms_spec (ws := wsX4_threadOf) B.pre
  have hown : s.vm.findClass RX4 = some m.cls := findClass_of_methodNamed B.named
  have hlocks := B.notSynchronized
  subst hH
  have hl := lv_entry ([.ref r0, .int (nI t), .int x] : List Value) (n := 3) (Nat.le_of_ble_eq_true rfl)
  rw [lg_entry_eq]
  generalize (lg_sl ([.ref r0, .int (nI t), .int x] : List Value) ++ List.replicate (3 - (lg_sl ([.ref r0, .int (nI t), .int x] : List Value)).length) Slot.unset).toArray = ls at hl ⊢
  have hl : lv_has ls 3 [(0, .ref r0), (1, .int (nI t)), (2, .int x)] := hl
  refine lv_iload_n hx hb dX4_threadOf_0 rfl (lv_at hl 1 rfl) ?_
  refine ro_S (As := [.int (nI t)]) (rest := []) ⟨hx, hb, hml, hown, hts⟩ (c_X4_isThread l D cA _ (nI t)) (cwS2 1 hts gX4_threadOf_X4_isThread rfl rfl rfl (by decide +kernel) ⟨Nat.le_of_ble_eq_true rfl, Nat.le_of_ble_eq_true rfl⟩) hKN rfl hl.1 rfl (lv_room (Nat.le_of_ble_eq_true rfl)) dX4_threadOf_1 ⟨Nat.zero_le _, Nat.zero_le _⟩ ?_
  refine lz_top (v := 1) (inF_ok (k := t) (a := 0) (b := 15) (by omega) (by omega) (by decide)) ?_
  refine lv_if_ne (tgt := 17) hx hb dX4_threadOf_4 (by decide) (fun _ => ?_) (fun h => absurd h (by decide))
  refine lv_iload_n hx hb dX4_threadOf_17 rfl (lv_at hl 2 rfl) ?_
  refine lv_tableOut (tgt := 177) hx hb dX4_threadOf_18 (inF_bad (n := 7) (by decide) hx0) (by decide) ?_
  obtain ⟨sa, hstr⟩ := hKX.1 (200, "what is not 0 to 7") (by decide)
  exact vx_throwS (names := ["java/lang/RuntimeException", "java/lang/Exception"]) (text := "what is not 0 to 7") (A := noA) hx hb hl0 hown (by decide +kernel) (by decide +kernel) (hts _ mX4_threadOf_x79) (hts _ mX4_threadOf_xi79) hstr (vx_hat (fun w h => hts w (List.mem_cons_of_mem _ (List.mem_append_right _ h))) (B := KXw) (by decide +kernel) hKX.use) (by decide +kernel) hXZ.1 hXZ.2 va_S.rf (hl.1.trans hml.symm) dX4_threadOf_177 dX4_threadOf_180 dX4_threadOf_181 dX4_threadOf_183 dX4_threadOf_186 (fun x hx9 => (htab x hx9).elim) (Nat.le_of_ble_eq_true rfl) (Nat.le_of_ble_eq_true rfl) (Nat.le_of_ble_eq_true rfl) (Nat.le_of_ble_eq_true rfl) hlocks (fun t _ h1 h2 => ⟨rfl, h1, h2⟩) (fun z hz => by cases hz) (Nat.le_of_ble_eq_true rfl) (Nat.le_of_ble_eq_true rfl)
theorem mX4_ringOf_x79 : Cond.classLink RX4 79 "java/lang/IllegalArgumentException" ∈ wsX4_ringOf := by decide +kernel
theorem mX4_ringOf_xi79 : Cond.initialized "java/lang/IllegalArgumentException" ∈ wsX4_ringOf := by decide +kernel
set_option maxHeartbeats 4000000 in
set_option maxRecDepth 100000 in
theorem x_ringOf2 (l : Launch) (hl0 : l.stackTraces = false) (D : va_G) (cA : Nat → ClassId) (H : Heap) (r0 t : Nat) (ht : t < 8) (x : Int32) (hx0 : inF x 0 4 = 0) : XT l yX4_ringOf wsX4_ringOf ({ frames := 6, cells := 1, slots := 6, locals := 82 } : Room) D cA [.ref r0, .int (nI t), .int x] H "java/lang/IllegalArgumentException" := by
  refine vx_ofW (cc := cX4_ringOf) (maxL := 3) (ret := (some .int)) (by decide) rfl ?_
  intro p e s m args below meth c s₁ B hml htab hv
  obtain ⟨rfl, hH, hKN, hKX, hXZ⟩ := hv
  have hK := hKN.1
  have hx := B.exec
  have hb := B.bytes
  have hts := atoms_spec (ws := wsX4_ringOf) B.pre
  have hown : s.vm.findClass RX4 = some m.cls := findClass_of_methodNamed B.named
  have hlocks := B.notSynchronized
  subst hH
  have hl := lv_entry ([.ref r0, .int (nI t), .int x] : List Value) (n := 3) (Nat.le_of_ble_eq_true rfl)
  rw [lg_entry_eq]
  generalize (lg_sl ([.ref r0, .int (nI t), .int x] : List Value) ++ List.replicate (3 - (lg_sl ([.ref r0, .int (nI t), .int x] : List Value)).length) Slot.unset).toArray = ls at hl ⊢
  have hl : lv_has ls 3 [(0, .ref r0), (1, .int (nI t)), (2, .int x)] := hl
  refine lv_iload_n hx hb dX4_ringOf_0 rfl (lv_at hl 1 rfl) ?_
  refine ro_S (As := [.int (nI t)]) (rest := []) ⟨hx, hb, hml, hown, hts⟩ (c_X4_isRing l D cA _ (nI t)) (cwS2 1 hts gX4_ringOf_X4_isRing rfl rfl rfl (by decide +kernel) ⟨Nat.le_of_ble_eq_true rfl, Nat.le_of_ble_eq_true rfl⟩) hKN rfl hl.1 rfl (lv_room (Nat.le_of_ble_eq_true rfl)) dX4_ringOf_1 ⟨Nat.zero_le _, Nat.zero_le _⟩ ?_
  refine lz_top (v := 1) (inF_ok (k := t) (a := 0) (b := 7) (by omega) (by omega) (by decide)) ?_
  refine lv_if_ne (tgt := 17) hx hb dX4_ringOf_4 (by decide) (fun _ => ?_) (fun h => absurd h (by decide))
  refine lv_iload_n hx hb dX4_ringOf_17 rfl (lv_at hl 2 rfl) ?_
  refine lv_tableOut (tgt := 109) hx hb dX4_ringOf_18 (inF_bad (n := 4) (by decide) hx0) (by decide) ?_
  obtain ⟨sa, hstr⟩ := hKX.1 (214, "what is not 0 to 4") (by decide)
  exact vx_throwS (names := ["java/lang/RuntimeException", "java/lang/Exception"]) (text := "what is not 0 to 4") (A := noA) hx hb hl0 hown (by decide +kernel) (by decide +kernel) (hts _ mX4_ringOf_x79) (hts _ mX4_ringOf_xi79) hstr (vx_hat (fun w h => hts w (List.mem_cons_of_mem _ (List.mem_append_right _ h))) (B := KXw) (by decide +kernel) hKX.use) (by decide +kernel) hXZ.1 hXZ.2 va_S.rf (hl.1.trans hml.symm) dX4_ringOf_109 dX4_ringOf_112 dX4_ringOf_113 dX4_ringOf_115 dX4_ringOf_118 (fun x hx9 => (htab x hx9).elim) (Nat.le_of_ble_eq_true rfl) (Nat.le_of_ble_eq_true rfl) (Nat.le_of_ble_eq_true rfl) (Nat.le_of_ble_eq_true rfl) hlocks (fun t _ h1 h2 => ⟨rfl, h1, h2⟩) (fun z hz => by cases hz) (Nat.le_of_ble_eq_true rfl) (Nat.le_of_ble_eq_true rfl)
theorem mX4_strength_x52 : Cond.classLink RX4 52 "java/lang/IndexOutOfBoundsException" ∈ wsX4_strength := by decide +kernel
theorem mX4_strength_xi52 : Cond.initialized "java/lang/IndexOutOfBoundsException" ∈ wsX4_strength := by decide +kernel
set_option maxHeartbeats 4000000 in
set_option maxRecDepth 100000 in
theorem x_strength1 (l : Launch) (hl0 : l.stackTraces = false) (D : va_G) (cA : Nat → ClassId) (H : Heap) (r0 : Nat) (y z9 : Int32) (x : Int32) (hx0 : inF x 0 15 = 0) : XT l yX4_strength wsX4_strength ({ frames := 6, cells := 1, slots := 6, locals := 82 } : Room) D cA [.ref r0, .int x, .int y, .int z9] H "java/lang/IndexOutOfBoundsException" := by
  refine vx_ofW (cc := cX4_strength) (maxL := 4) (ret := (some .int)) (by decide) rfl ?_
  intro p e s m args below meth c s₁ B hml htab hv
  obtain ⟨rfl, hH, hKN, hKX, hXZ⟩ := hv
  have hK := hKN.1
  have hx := B.exec
  have hb := B.bytes
  have hts := atoms_spec (ws := wsX4_strength) B.pre
  have hown : s.vm.findClass RX4 = some m.cls := findClass_of_methodNamed B.named
  have hlocks := B.notSynchronized
  subst hH
  have hl := lv_entry ([.ref r0, .int x, .int y, .int z9] : List Value) (n := 4) (Nat.le_of_ble_eq_true rfl)
  rw [lg_entry_eq]
  generalize (lg_sl ([.ref r0, .int x, .int y, .int z9] : List Value) ++ List.replicate (4 - (lg_sl ([.ref r0, .int x, .int y, .int z9] : List Value)).length) Slot.unset).toArray = ls at hl ⊢
  have hl : lv_has ls 4 [(0, .ref r0), (1, .int x), (2, .int y), (3, .int z9)] := hl
  refine lv_iload_n hx hb dX4_strength_0 rfl (lv_at hl 1 rfl) ?_
  refine ro_S (As := [.int x]) (rest := []) ⟨hx, hb, hml, hown, hts⟩ (c_X4_isThread l D cA _ x) (cwS2 1 hts gX4_strength_X4_isThread rfl rfl rfl (by decide +kernel) ⟨Nat.le_of_ble_eq_true rfl, Nat.le_of_ble_eq_true rfl⟩) hKN rfl hl.1 rfl (lv_room (Nat.le_of_ble_eq_true rfl)) dX4_strength_1 ⟨Nat.zero_le _, Nat.zero_le _⟩ ?_
  refine lz_top (v := 0) hx0 ?_
  refine lv_if_eq (tgt := 14) hx hb dX4_strength_4 (by decide) (fun _ => ?_) (fun h => absurd (by decide) h)
  obtain ⟨sa, hstr⟩ := hKX.1 (54, "no such thread or ring") (by decide)
  exact vx_throwS (names := ["java/lang/RuntimeException", "java/lang/Exception"]) (text := "no such thread or ring") (A := noA) hx hb hl0 hown (by decide +kernel) (by decide +kernel) (hts _ mX4_strength_x52) (hts _ mX4_strength_xi52) hstr (vx_hat (fun w h => hts w (List.mem_cons_of_mem _ (List.mem_append_left _ (List.mem_append_right _ h)))) (B := KXw) (by decide +kernel) hKX.use) (by decide +kernel) hXZ.1 hXZ.2 va_S.rf (hl.1.trans hml.symm) dX4_strength_14 dX4_strength_17 dX4_strength_18 dX4_strength_20 dX4_strength_23 (fun x hx9 => (htab x hx9).elim) (Nat.le_of_ble_eq_true rfl) (Nat.le_of_ble_eq_true rfl) (Nat.le_of_ble_eq_true rfl) (Nat.le_of_ble_eq_true rfl) hlocks (fun t _ h1 h2 => ⟨rfl, h1, h2⟩) (fun z hz => by cases hz) (Nat.le_of_ble_eq_true rfl) (Nat.le_of_ble_eq_true rfl)
set_option maxHeartbeats 4000000 in
set_option maxRecDepth 100000 in
theorem x_strength2 (l : Launch) (hl0 : l.stackTraces = false) (D : va_G) (cA : Nat → ClassId) (H : Heap) (r0 t : Nat) (ht : t < 16) (z9 : Int32) (x : Int32) (hx0 : inF x 0 7 = 0) : XT l yX4_strength wsX4_strength ({ frames := 6, cells := 1, slots := 6, locals := 82 } : Room) D cA [.ref r0, .int (nI t), .int x, .int z9] H "java/lang/IndexOutOfBoundsException" := by
  refine vx_ofW (cc := cX4_strength) (maxL := 4) (ret := (some .int)) (by decide) rfl ?_
  intro p e s m args below meth c s₁ B hml htab hv
  obtain ⟨rfl, hH, hKN, hKX, hXZ⟩ := hv
  have hK := hKN.1
  have hx := B.exec
  have hb := B.bytes
  have hts := atoms_spec (ws := wsX4_strength) B.pre
  have hown : s.vm.findClass RX4 = some m.cls := findClass_of_methodNamed B.named
  have hlocks := B.notSynchronized
  subst hH
  have hl := lv_entry ([.ref r0, .int (nI t), .int x, .int z9] : List Value) (n := 4) (Nat.le_of_ble_eq_true rfl)
  rw [lg_entry_eq]
  generalize (lg_sl ([.ref r0, .int (nI t), .int x, .int z9] : List Value) ++ List.replicate (4 - (lg_sl ([.ref r0, .int (nI t), .int x, .int z9] : List Value)).length) Slot.unset).toArray = ls at hl ⊢
  have hl : lv_has ls 4 [(0, .ref r0), (1, .int (nI t)), (2, .int x), (3, .int z9)] := hl
  refine lv_iload_n hx hb dX4_strength_0 rfl (lv_at hl 1 rfl) ?_
  refine ro_S (As := [.int (nI t)]) (rest := []) ⟨hx, hb, hml, hown, hts⟩ (c_X4_isThread l D cA _ (nI t)) (cwS2 1 hts gX4_strength_X4_isThread rfl rfl rfl (by decide +kernel) ⟨Nat.le_of_ble_eq_true rfl, Nat.le_of_ble_eq_true rfl⟩) hKN rfl hl.1 rfl (lv_room (Nat.le_of_ble_eq_true rfl)) dX4_strength_1 ⟨Nat.zero_le _, Nat.zero_le _⟩ ?_
  refine lz_top (v := 1) (inF_ok (k := t) (a := 0) (b := 15) (by omega) (by omega) (by decide)) ?_
  refine lv_if_eq (tgt := 14) hx hb dX4_strength_4 (by decide) (fun h => absurd h (by decide)) (fun _ => ?_)
  refine lv_iload_n hx hb dX4_strength_7 rfl (lv_at hl 2 rfl) ?_
  refine ro_S (As := [.int x]) (rest := []) ⟨hx, hb, hml, hown, hts⟩ (c_X4_isRing l D cA _ x) (cwS2 1 hts gX4_strength_X4_isRing rfl rfl rfl (by decide +kernel) ⟨Nat.le_of_ble_eq_true rfl, Nat.le_of_ble_eq_true rfl⟩) hKN rfl hl.1 rfl (lv_room (Nat.le_of_ble_eq_true rfl)) dX4_strength_8 ⟨Nat.zero_le _, Nat.zero_le _⟩ ?_
  refine lz_top (v := 0) hx0 ?_
  refine lv_if_ne (tgt := 24) hx hb dX4_strength_11 (by decide) (fun h => absurd (by decide) h) (fun _ => ?_)
  obtain ⟨sa, hstr⟩ := hKX.1 (54, "no such thread or ring") (by decide)
  exact vx_throwS (names := ["java/lang/RuntimeException", "java/lang/Exception"]) (text := "no such thread or ring") (A := noA) hx hb hl0 hown (by decide +kernel) (by decide +kernel) (hts _ mX4_strength_x52) (hts _ mX4_strength_xi52) hstr (vx_hat (fun w h => hts w (List.mem_cons_of_mem _ (List.mem_append_left _ (List.mem_append_right _ h)))) (B := KXw) (by decide +kernel) hKX.use) (by decide +kernel) hXZ.1 hXZ.2 va_S.rf (hl.1.trans hml.symm) dX4_strength_14 dX4_strength_17 dX4_strength_18 dX4_strength_20 dX4_strength_23 (fun x hx9 => (htab x hx9).elim) (Nat.le_of_ble_eq_true rfl) (Nat.le_of_ble_eq_true rfl) (Nat.le_of_ble_eq_true rfl) (Nat.le_of_ble_eq_true rfl) hlocks (fun t _ h1 h2 => ⟨rfl, h1, h2⟩) (fun z hz => by cases hz) (Nat.le_of_ble_eq_true rfl) (Nat.le_of_ble_eq_true rfl)
theorem mX4_strength_x79 : Cond.classLink RX4 79 "java/lang/IllegalArgumentException" ∈ wsX4_strength := by decide +kernel
theorem mX4_strength_xi79 : Cond.initialized "java/lang/IllegalArgumentException" ∈ wsX4_strength := by decide +kernel
set_option maxHeartbeats 4000000 in
set_option maxRecDepth 100000 in
theorem x_strength3 (l : Launch) (hl0 : l.stackTraces = false) (D : va_G) (cA : Nat → ClassId) (H : Heap) (r0 t u : Nat) (ht : t < 16) (hu : u < 8) (x : Int32) (hx0 : inF x 0 1 = 0) : XT l yX4_strength wsX4_strength ({ frames := 6, cells := 1, slots := 6, locals := 82 } : Room) D cA [.ref r0, .int (nI t), .int (nI u), .int x] H "java/lang/IllegalArgumentException" := by
  refine vx_ofW (cc := cX4_strength) (maxL := 4) (ret := (some .int)) (by decide) rfl ?_
  intro p e s m args below meth c s₁ B hml htab hv
  obtain ⟨rfl, hH, hKN, hKX, hXZ⟩ := hv
  have hK := hKN.1
  have hx := B.exec
  have hb := B.bytes
  have hts := atoms_spec (ws := wsX4_strength) B.pre
  have hown : s.vm.findClass RX4 = some m.cls := findClass_of_methodNamed B.named
  have hlocks := B.notSynchronized
  subst hH
  have hl := lv_entry ([.ref r0, .int (nI t), .int (nI u), .int x] : List Value) (n := 4) (Nat.le_of_ble_eq_true rfl)
  rw [lg_entry_eq]
  generalize (lg_sl ([.ref r0, .int (nI t), .int (nI u), .int x] : List Value) ++ List.replicate (4 - (lg_sl ([.ref r0, .int (nI t), .int (nI u), .int x] : List Value)).length) Slot.unset).toArray = ls at hl ⊢
  have hl : lv_has ls 4 [(0, .ref r0), (1, .int (nI t)), (2, .int (nI u)), (3, .int x)] := hl
  refine lv_iload_n hx hb dX4_strength_0 rfl (lv_at hl 1 rfl) ?_
  refine ro_S (As := [.int (nI t)]) (rest := []) ⟨hx, hb, hml, hown, hts⟩ (c_X4_isThread l D cA _ (nI t)) (cwS2 1 hts gX4_strength_X4_isThread rfl rfl rfl (by decide +kernel) ⟨Nat.le_of_ble_eq_true rfl, Nat.le_of_ble_eq_true rfl⟩) hKN rfl hl.1 rfl (lv_room (Nat.le_of_ble_eq_true rfl)) dX4_strength_1 ⟨Nat.zero_le _, Nat.zero_le _⟩ ?_
  refine lz_top (v := 1) (inF_ok (k := t) (a := 0) (b := 15) (by omega) (by omega) (by decide)) ?_
  refine lv_if_eq (tgt := 14) hx hb dX4_strength_4 (by decide) (fun h => absurd h (by decide)) (fun _ => ?_)
  refine lv_iload_n hx hb dX4_strength_7 rfl (lv_at hl 2 rfl) ?_
  refine ro_S (As := [.int (nI u)]) (rest := []) ⟨hx, hb, hml, hown, hts⟩ (c_X4_isRing l D cA _ (nI u)) (cwS2 1 hts gX4_strength_X4_isRing rfl rfl rfl (by decide +kernel) ⟨Nat.le_of_ble_eq_true rfl, Nat.le_of_ble_eq_true rfl⟩) hKN rfl hl.1 rfl (lv_room (Nat.le_of_ble_eq_true rfl)) dX4_strength_8 ⟨Nat.zero_le _, Nat.zero_le _⟩ ?_
  refine lz_top (v := 1) (inF_ok (k := u) (a := 0) (b := 7) (by omega) (by omega) (by decide)) ?_
  refine lv_if_ne (tgt := 24) hx hb dX4_strength_11 (by decide) (fun _ => ?_) (fun h => absurd h (by decide))
  refine lv_iload_n hx hb dX4_strength_24 rfl (lv_at hl 3 rfl) ?_
  refine lv_lookup (tgt := 80) (off := 55) hx hb dX4_strength_25 (by decide) (by have h9 := inF_bad (n := 1) (by decide) hx0; simp only [Op.lookupswitch.offset, List.find?]; rw [if_neg (by omega), if_neg (by omega)]) (by decide) ?_
  obtain ⟨sa, hstr⟩ := hKX.1 (222, "what is not 0 or 1") (by decide)
  exact vx_throwS (names := ["java/lang/RuntimeException", "java/lang/Exception"]) (text := "what is not 0 or 1") (A := noA) hx hb hl0 hown (by decide +kernel) (by decide +kernel) (hts _ mX4_strength_x79) (hts _ mX4_strength_xi79) hstr (vx_hat (fun w h => hts w (List.mem_cons_of_mem _ (List.mem_append_right _ h))) (B := KXw) (by decide +kernel) hKX.use) (by decide +kernel) hXZ.1 hXZ.2 va_S.rf (hl.1.trans hml.symm) dX4_strength_80 dX4_strength_83 dX4_strength_84 dX4_strength_86 dX4_strength_89 (fun x hx9 => (htab x hx9).elim) (Nat.le_of_ble_eq_true rfl) (Nat.le_of_ble_eq_true rfl) (Nat.le_of_ble_eq_true rfl) (Nat.le_of_ble_eq_true rfl) hlocks (fun t _ h1 h2 => ⟨rfl, h1, h2⟩) (fun z hz => by cases hz) (Nat.le_of_ble_eq_true rfl) (Nat.le_of_ble_eq_true rfl)
theorem mX4_ifGone_x79 : Cond.classLink RX4 79 "java/lang/IllegalArgumentException" ∈ wsX4_ifGone := by decide +kernel
theorem mX4_ifGone_xi79 : Cond.initialized "java/lang/IllegalArgumentException" ∈ wsX4_ifGone := by decide +kernel
set_option maxHeartbeats 4000000 in
set_option maxRecDepth 100000 in
theorem x_ifGone1 (l : Launch) (hl0 : l.stackTraces = false) (D : va_G) (cA : Nat → ClassId) (H : Heap) (r0 : Nat) (y : Int32) (x : Int32) (hx0 : inF x 1 99 = 0) : XT l yX4_ifGone wsX4_ifGone ({ frames := 6, cells := 1, slots := 6, locals := 82 } : Room) D cA [.ref r0, .int x, .int y] H "java/lang/IllegalArgumentException" := by
  refine vx_ofW (cc := cX4_ifGone) (maxL := 4) (ret := (some .int)) (by decide) rfl ?_
  intro p e s m args below meth c s₁ B hml htab hv
  obtain ⟨rfl, hH, hKN, hKX, hXZ⟩ := hv
  have hK := hKN.1
  have hx := B.exec
  have hb := B.bytes
  have hts := atoms_spec (ws := wsX4_ifGone) B.pre
  have hown : s.vm.findClass RX4 = some m.cls := findClass_of_methodNamed B.named
  have hlocks := B.notSynchronized
  subst hH
  have hl := lv_entry ([.ref r0, .int x, .int y] : List Value) (n := 4) (Nat.le_of_ble_eq_true rfl)
  rw [lg_entry_eq]
  generalize (lg_sl ([.ref r0, .int x, .int y] : List Value) ++ List.replicate (4 - (lg_sl ([.ref r0, .int x, .int y] : List Value)).length) Slot.unset).toArray = ls at hl ⊢
  have hl : lv_has ls 4 [(0, .ref r0), (1, .int x), (2, .int y)] := hl
  refine lv_iload_n hx hb dX4_ifGone_0 rfl (lv_at hl 1 rfl) ?_
  refine lv_iconst (v := 1) hx hb dX4_ifGone_1 (by decide) ?_
  refine lv_bipush (v := 99) hx hb dX4_ifGone_2 (by decide) ?_
  refine ro_S (As := [.int x, .int 1, .int 99]) (rest := []) ⟨hx, hb, hml, hown, hts⟩ (c_X4_isWithin l D cA _ x 1 99) (cwS2 3 hts gX4_ifGone_X4_isWithin rfl rfl rfl (by decide +kernel) ⟨Nat.le_of_ble_eq_true rfl, Nat.le_of_ble_eq_true rfl⟩) hKN rfl hl.1 rfl (lv_room (Nat.le_of_ble_eq_true rfl)) dX4_ifGone_4 ⟨Nat.zero_le _, Nat.zero_le _⟩ ?_
  refine lz_top (v := 0) hx0 ?_
  refine lv_if_eq (tgt := 19) hx hb dX4_ifGone_7 (by decide) (fun _ => ?_) (fun h => absurd (by decide) h)
  obtain ⟨sa, hstr⟩ := hKX.1 (276, "an argument is out of range") (by decide)
  exact vx_throwSW (names := ["java/lang/RuntimeException", "java/lang/Exception"]) (text := "an argument is out of range") (A := noA) hx hb hl0 hown (by decide +kernel) (by decide +kernel) (hts _ mX4_ifGone_x79) (hts _ mX4_ifGone_xi79) hstr (vx_hat (fun w h => hts w (List.mem_cons_of_mem _ (List.mem_append_right _ h))) (B := KXw) (by decide +kernel) hKX.use) (by decide +kernel) hXZ.1 hXZ.2 va_S.rf (hl.1.trans hml.symm) dX4_ifGone_19 dX4_ifGone_22 dX4_ifGone_23 dX4_ifGone_26 dX4_ifGone_29 (fun x hx9 => (htab x hx9).elim) (Nat.le_of_ble_eq_true rfl) (Nat.le_of_ble_eq_true rfl) (Nat.le_of_ble_eq_true rfl) (Nat.le_of_ble_eq_true rfl) hlocks (fun t _ h1 h2 => ⟨rfl, h1, h2⟩) (fun z hz => by cases hz) (Nat.le_of_ble_eq_true rfl) (Nat.le_of_ble_eq_true rfl)
set_option maxHeartbeats 4000000 in
set_option maxRecDepth 100000 in
theorem x_ifGone2 (l : Launch) (hl0 : l.stackTraces = false) (D : va_G) (cA : Nat → ClassId) (H : Heap) (r0 n : Nat) (h1 : 1 ≤ n) (h99 : n ≤ 99) (x : Int32) (hx0 : inF x 0 3 = 0) : XT l yX4_ifGone wsX4_ifGone ({ frames := 6, cells := 1, slots := 6, locals := 82 } : Room) D cA [.ref r0, .int (nI n), .int x] H "java/lang/IllegalArgumentException" := by
  refine vx_ofW (cc := cX4_ifGone) (maxL := 4) (ret := (some .int)) (by decide) rfl ?_
  intro p e s m args below meth c s₁ B hml htab hv
  obtain ⟨rfl, hH, hKN, hKX, hXZ⟩ := hv
  have hK := hKN.1
  have hx := B.exec
  have hb := B.bytes
  have hts := atoms_spec (ws := wsX4_ifGone) B.pre
  have hown : s.vm.findClass RX4 = some m.cls := findClass_of_methodNamed B.named
  have hlocks := B.notSynchronized
  subst hH
  have hl := lv_entry ([.ref r0, .int (nI n), .int x] : List Value) (n := 4) (Nat.le_of_ble_eq_true rfl)
  rw [lg_entry_eq]
  generalize (lg_sl ([.ref r0, .int (nI n), .int x] : List Value) ++ List.replicate (4 - (lg_sl ([.ref r0, .int (nI n), .int x] : List Value)).length) Slot.unset).toArray = ls at hl ⊢
  have hl : lv_has ls 4 [(0, .ref r0), (1, .int (nI n)), (2, .int x)] := hl
  refine lv_iload_n hx hb dX4_ifGone_0 rfl (lv_at hl 1 rfl) ?_
  refine lv_iconst (v := 1) hx hb dX4_ifGone_1 (by decide) ?_
  refine lv_bipush (v := 99) hx hb dX4_ifGone_2 (by decide) ?_
  refine ro_S (As := [.int (nI n), .int 1, .int 99]) (rest := []) ⟨hx, hb, hml, hown, hts⟩ (c_X4_isWithin l D cA _ (nI n) 1 99) (cwS2 3 hts gX4_ifGone_X4_isWithin rfl rfl rfl (by decide +kernel) ⟨Nat.le_of_ble_eq_true rfl, Nat.le_of_ble_eq_true rfl⟩) hKN rfl hl.1 rfl (lv_room (Nat.le_of_ble_eq_true rfl)) dX4_ifGone_4 ⟨Nat.zero_le _, Nat.zero_le _⟩ ?_
  refine lz_top (v := 1) (inF_ok (k := n) (a := 1) (b := 99) (by omega) (by omega) (by decide)) ?_
  refine lv_if_eq (tgt := 19) hx hb dX4_ifGone_7 (by decide) (fun h => absurd h (by decide)) (fun _ => ?_)
  refine lv_iload_n hx hb dX4_ifGone_10 rfl (lv_at hl 2 rfl) ?_
  refine lv_iconst (v := 0) hx hb dX4_ifGone_11 (by decide) ?_
  refine lv_iconst (v := 3) hx hb dX4_ifGone_12 (by decide) ?_
  refine ro_S (As := [.int x, .int 0, .int 3]) (rest := []) ⟨hx, hb, hml, hown, hts⟩ (c_X4_isWithin l D cA _ x 0 3) (cwS2 3 hts gX4_ifGone_X4_isWithin rfl rfl rfl (by decide +kernel) ⟨Nat.le_of_ble_eq_true rfl, Nat.le_of_ble_eq_true rfl⟩) hKN rfl hl.1 rfl (lv_room (Nat.le_of_ble_eq_true rfl)) dX4_ifGone_13 ⟨Nat.zero_le _, Nat.zero_le _⟩ ?_
  refine lz_top (v := 0) hx0 ?_
  refine lv_if_ne (tgt := 30) hx hb dX4_ifGone_16 (by decide) (fun h => absurd (by decide) h) (fun _ => ?_)
  obtain ⟨sa, hstr⟩ := hKX.1 (276, "an argument is out of range") (by decide)
  exact vx_throwSW (names := ["java/lang/RuntimeException", "java/lang/Exception"]) (text := "an argument is out of range") (A := noA) hx hb hl0 hown (by decide +kernel) (by decide +kernel) (hts _ mX4_ifGone_x79) (hts _ mX4_ifGone_xi79) hstr (vx_hat (fun w h => hts w (List.mem_cons_of_mem _ (List.mem_append_right _ h))) (B := KXw) (by decide +kernel) hKX.use) (by decide +kernel) hXZ.1 hXZ.2 va_S.rf (hl.1.trans hml.symm) dX4_ifGone_19 dX4_ifGone_22 dX4_ifGone_23 dX4_ifGone_26 dX4_ifGone_29 (fun x hx9 => (htab x hx9).elim) (Nat.le_of_ble_eq_true rfl) (Nat.le_of_ble_eq_true rfl) (Nat.le_of_ble_eq_true rfl) (Nat.le_of_ble_eq_true rfl) hlocks (fun t _ h1 h2 => ⟨rfl, h1, h2⟩) (fun z hz => by cases hz) (Nat.le_of_ble_eq_true rfl) (Nat.le_of_ble_eq_true rfl)
theorem mX4_undo_x132 : Cond.classLink RX4 132 "java/lang/IllegalStateException" ∈ wsX4_undo := by decide +kernel
theorem mX4_undo_xi132 : Cond.initialized "java/lang/IllegalStateException" ∈ wsX4_undo := by decide +kernel
set_option maxHeartbeats 4000000 in
set_option maxRecDepth 100000 in
theorem x_undo (l : Launch) (hl0 : l.stackTraces = false) (D : va_G) (cA : Nat → ClassId) (H : Heap) (Ad : Nat → Nat → Nat) (f : Nat → SV) (o : Nat) (tx : TV) (rt : (Nat → Int32) × (Nat → Int32)) (hP0 : va_P D vwCl (all cA Ad (f, ((nI o), 0), tx, rt)) H) : XT l yX4_undo wsX4_undo ({ frames := 6, cells := 1, slots := 6, locals := 82 } : Room) D cA [.ref (Ad 10 0)] H "java/lang/IllegalStateException" := by
  refine vx_ofW (cc := cX4_undo) (maxL := 1) (ret := (some .int)) (by decide) rfl ?_
  intro p e s m args below meth c s₁ B hml htab hv
  obtain ⟨rfl, hH, hKN, hKX, hXZ⟩ := hv
  have hK := hKN.1
  have hx := B.exec
  have hb := B.bytes
  have hts := atoms_spec (ws := wsX4_undo) B.pre
  have hown : s.vm.findClass RX4 = some m.cls := findClass_of_methodNamed B.named
  have hlocks := B.notSynchronized
  subst hH
  have hWP := hP0
  have hl := lv_entry ([.ref (Ad 10 0)] : List Value) (n := 1) (Nat.le_of_ble_eq_true rfl)
  rw [lg_entry_eq]
  generalize (lg_sl ([.ref (Ad 10 0)] : List Value) ++ List.replicate (1 - (lg_sl ([.ref (Ad 10 0)] : List Value)).length) Slot.unset).toArray = ls at hl ⊢
  have hl : lv_has ls 1 [(0, .ref (Ad 10 0))] := hl
  refine lv_aload_n hx hb dX4_undo_0 rfl (lv_at hl 0 rfl) ?_
  have hP : va_P D vwCl ((wLm cA Ad rt) ++ (rst cA Ad (f, ((nI o), 0), tx, rt) 10)) s.heap := lw_fP 10 (by decide) hWP
  refine va_get (D := D) (ci := 4) (v := .ref (Ad 11 0)) (C := RX4) (T := TX4) (N := 7) hx hb hts iX4_undo_X4 hown hK hP 0 rfl rfl 2 (by decide) (hts _ mX4_undo_f22) (fun _ h9 => h9) rfl dX4_undo_1 ?_
  have hP : va_P D vwCl ((wPa cA Ad ((nI o), 0)) ++ (rst cA Ad (f, ((nI o), 0), tx, rt) 11)) s.heap := lw_fP 11 (by decide) hWP
  refine va_get (D := D) (ci := 1) (v := .int 0) (C := RX1) (T := TX1) (N := 3) hx hb hts iX4_undo_X1 hown hK hP 0 rfl rfl 2 (by decide) (hts _ mX4_undo_f178) (fun _ h9 => h9) rfl dX4_undo_4 ?_
  refine lv_if_ne (tgt := 20) hx hb dX4_undo_7 (by decide) (fun h => absurd (by decide) h) (fun _ => ?_)
  obtain ⟨sa, hstr⟩ := hKX.1 (181, "there is no saved state") (by decide)
  exact vx_throwS (names := ["java/lang/RuntimeException", "java/lang/Exception"]) (text := "there is no saved state") (A := noA) hx hb hl0 hown (by decide +kernel) (by decide +kernel) (hts _ mX4_undo_x132) (hts _ mX4_undo_xi132) hstr (vx_hat (fun w h => hts w (List.mem_cons_of_mem _ (List.mem_append_right _ h))) (B := KXw) (by decide +kernel) hKX.use) (by decide +kernel) hXZ.1 hXZ.2 va_S.rf (hl.1.trans hml.symm) dX4_undo_10 dX4_undo_13 dX4_undo_14 dX4_undo_16 dX4_undo_19 (fun x hx9 => (htab x hx9).elim) (Nat.le_of_ble_eq_true rfl) (Nat.le_of_ble_eq_true rfl) (Nat.le_of_ble_eq_true rfl) (Nat.le_of_ble_eq_true rfl) hlocks (fun t _ h1 h2 => ⟨rfl, h1, h2⟩) (fun z hz => by cases hz) (Nat.le_of_ble_eq_true rfl) (Nat.le_of_ble_eq_true rfl)
theorem mX4_goBack_x132 : Cond.classLink RX4 132 "java/lang/IllegalStateException" ∈ wsX4_goBack := by decide +kernel
theorem mX4_goBack_xi132 : Cond.initialized "java/lang/IllegalStateException" ∈ wsX4_goBack := by decide +kernel
set_option maxHeartbeats 4000000 in
set_option maxRecDepth 100000 in
theorem x_goBack2 (l : Launch) (hl0 : l.stackTraces = false) (D : va_G) (cA : Nat → ClassId) (H : Heap) (Ad : Nat → Nat → Nat) (f : Nat → SV) (o z : Nat) (tx : TV) (rt : (Nat → Int32) × (Nat → Int32)) (hk : rt.1 0 = 0) (hP0 : va_P D vwCl (all cA Ad (f, ((nI o), (nI z)), tx, rt)) H) : XT l yX4_goBack wsX4_goBack ({ frames := 6, cells := 1, slots := 6, locals := 82 } : Room) D cA [.ref (Ad 10 0), .int 0] H "java/lang/IllegalStateException" := by
  refine vx_ofW (cc := cX4_goBack) (maxL := 2) (ret := (some .int)) (by decide) rfl ?_
  intro p e s m args below meth c s₁ B hml htab hv
  obtain ⟨rfl, hH, hKN, hKX, hXZ⟩ := hv
  have hK := hKN.1
  have hx := B.exec
  have hb := B.bytes
  have hts := atoms_spec (ws := wsX4_goBack) B.pre
  have hown : s.vm.findClass RX4 = some m.cls := findClass_of_methodNamed B.named
  have hlocks := B.notSynchronized
  subst hH
  have hWP := hP0
  have hl := lv_entry ([.ref (Ad 10 0), .int 0] : List Value) (n := 2) (Nat.le_of_ble_eq_true rfl)
  rw [lg_entry_eq]
  generalize (lg_sl ([.ref (Ad 10 0), .int 0] : List Value) ++ List.replicate (2 - (lg_sl ([.ref (Ad 10 0), .int 0] : List Value)).length) Slot.unset).toArray = ls at hl ⊢
  have hl : lv_has ls 2 [(0, .ref (Ad 10 0)), (1, .int 0)] := hl
  refine lv_iload_n hx hb dX4_goBack_0 rfl (lv_at hl 1 rfl) ?_
  refine ro_S (As := [.int 0]) (rest := []) ⟨hx, hb, hml, hown, hts⟩ (c_X4_isSlot l D cA _ 0) (cwS2 1 hts gX4_goBack_X4_isSlot rfl rfl rfl (by decide +kernel) ⟨Nat.le_of_ble_eq_true rfl, Nat.le_of_ble_eq_true rfl⟩) hKN rfl hl.1 rfl (lv_room (Nat.le_of_ble_eq_true rfl)) dX4_goBack_1 ⟨Nat.zero_le _, Nat.zero_le _⟩ ?_
  refine lz_top (v := 1) (inF_ok (k := 0) (a := 0) (b := 1) (by omega) (by omega) (by decide)) ?_
  refine lv_if_ne (tgt := 17) hx hb dX4_goBack_4 (by decide) (fun _ => ?_) (fun h => absurd h (by decide))
  refine lv_aload_n hx hb dX4_goBack_17 rfl (lv_at hl 0 rfl) ?_
  have hP : va_P D vwCl ((wLm cA Ad rt) ++ (rst cA Ad (f, ((nI o), (nI z)), tx, rt) 10)) s.heap := lw_fP 10 (by decide) hWP
  refine va_get (D := D) (ci := 4) (v := .ref (Ad 10 2)) (C := RX4) (T := TX4) (N := 7) hx hb hts iX4_goBack_X4 hown hK hP 0 rfl rfl 4 (by decide) (hts _ mX4_goBack_f30) (fun _ h9 => h9) rfl dX4_goBack_18 ?_
  refine lv_iload_n hx hb dX4_goBack_21 rfl (lv_at hl 1 rfl) ?_
  refine lz_zald (k := 0) (f := rt.1) hx hb hK hP 2 1 rfl rfl ⟨by decide, by decide⟩ dX4_goBack_22 ?_
  refine lz_top (v := 0) hk ?_
  refine lv_if_ne (tgt := 36) hx hb dX4_goBack_23 (by decide) (fun h => absurd (by decide) h) (fun _ => ?_)
  obtain ⟨sa, hstr⟩ := hKX.1 (176, "there is no snapshot in it") (by decide)
  exact vx_throwS (names := ["java/lang/RuntimeException", "java/lang/Exception"]) (text := "there is no snapshot in it") (A := noA) hx hb hl0 hown (by decide +kernel) (by decide +kernel) (hts _ mX4_goBack_x132) (hts _ mX4_goBack_xi132) hstr (vx_hat (fun w h => hts w (List.mem_cons_of_mem _ (List.mem_append_right _ h))) (B := KXw) (by decide +kernel) hKX.use) (by decide +kernel) hXZ.1 hXZ.2 va_S.rf (hl.1.trans hml.symm) dX4_goBack_26 dX4_goBack_29 dX4_goBack_30 dX4_goBack_32 dX4_goBack_35 (fun x hx9 => (htab x hx9).elim) (Nat.le_of_ble_eq_true rfl) (Nat.le_of_ble_eq_true rfl) (Nat.le_of_ble_eq_true rfl) (Nat.le_of_ble_eq_true rfl) hlocks (fun t _ h1 h2 => ⟨rfl, h1, h2⟩) (fun z hz => by cases hz) (Nat.le_of_ble_eq_true rfl) (Nat.le_of_ble_eq_true rfl)
set_option maxHeartbeats 4000000 in
set_option maxRecDepth 100000 in
theorem x_goBack3 (l : Launch) (hl0 : l.stackTraces = false) (D : va_G) (cA : Nat → ClassId) (H : Heap) (Ad : Nat → Nat → Nat) (f : Nat → SV) (o z : Nat) (tx : TV) (rt : (Nat → Int32) × (Nat → Int32)) (hk : rt.1 1 = 0) (hP0 : va_P D vwCl (all cA Ad (f, ((nI o), (nI z)), tx, rt)) H) : XT l yX4_goBack wsX4_goBack ({ frames := 6, cells := 1, slots := 6, locals := 82 } : Room) D cA [.ref (Ad 10 0), .int 1] H "java/lang/IllegalStateException" := by
  refine vx_ofW (cc := cX4_goBack) (maxL := 2) (ret := (some .int)) (by decide) rfl ?_
  intro p e s m args below meth c s₁ B hml htab hv
  obtain ⟨rfl, hH, hKN, hKX, hXZ⟩ := hv
  have hK := hKN.1
  have hx := B.exec
  have hb := B.bytes
  have hts := atoms_spec (ws := wsX4_goBack) B.pre
  have hown : s.vm.findClass RX4 = some m.cls := findClass_of_methodNamed B.named
  have hlocks := B.notSynchronized
  subst hH
  have hWP := hP0
  have hl := lv_entry ([.ref (Ad 10 0), .int 1] : List Value) (n := 2) (Nat.le_of_ble_eq_true rfl)
  rw [lg_entry_eq]
  generalize (lg_sl ([.ref (Ad 10 0), .int 1] : List Value) ++ List.replicate (2 - (lg_sl ([.ref (Ad 10 0), .int 1] : List Value)).length) Slot.unset).toArray = ls at hl ⊢
  have hl : lv_has ls 2 [(0, .ref (Ad 10 0)), (1, .int 1)] := hl
  refine lv_iload_n hx hb dX4_goBack_0 rfl (lv_at hl 1 rfl) ?_
  refine ro_S (As := [.int 1]) (rest := []) ⟨hx, hb, hml, hown, hts⟩ (c_X4_isSlot l D cA _ 1) (cwS2 1 hts gX4_goBack_X4_isSlot rfl rfl rfl (by decide +kernel) ⟨Nat.le_of_ble_eq_true rfl, Nat.le_of_ble_eq_true rfl⟩) hKN rfl hl.1 rfl (lv_room (Nat.le_of_ble_eq_true rfl)) dX4_goBack_1 ⟨Nat.zero_le _, Nat.zero_le _⟩ ?_
  refine lz_top (v := 1) (inF_ok (k := 1) (a := 0) (b := 1) (by omega) (by omega) (by decide)) ?_
  refine lv_if_ne (tgt := 17) hx hb dX4_goBack_4 (by decide) (fun _ => ?_) (fun h => absurd h (by decide))
  refine lv_aload_n hx hb dX4_goBack_17 rfl (lv_at hl 0 rfl) ?_
  have hP : va_P D vwCl ((wLm cA Ad rt) ++ (rst cA Ad (f, ((nI o), (nI z)), tx, rt) 10)) s.heap := lw_fP 10 (by decide) hWP
  refine va_get (D := D) (ci := 4) (v := .ref (Ad 10 2)) (C := RX4) (T := TX4) (N := 7) hx hb hts iX4_goBack_X4 hown hK hP 0 rfl rfl 4 (by decide) (hts _ mX4_goBack_f30) (fun _ h9 => h9) rfl dX4_goBack_18 ?_
  refine lv_iload_n hx hb dX4_goBack_21 rfl (lv_at hl 1 rfl) ?_
  refine lz_zald (k := 1) (f := rt.1) hx hb hK hP 2 1 rfl rfl ⟨by decide, by decide⟩ dX4_goBack_22 ?_
  refine lz_top (v := 0) hk ?_
  refine lv_if_ne (tgt := 36) hx hb dX4_goBack_23 (by decide) (fun h => absurd (by decide) h) (fun _ => ?_)
  obtain ⟨sa, hstr⟩ := hKX.1 (176, "there is no snapshot in it") (by decide)
  exact vx_throwS (names := ["java/lang/RuntimeException", "java/lang/Exception"]) (text := "there is no snapshot in it") (A := noA) hx hb hl0 hown (by decide +kernel) (by decide +kernel) (hts _ mX4_goBack_x132) (hts _ mX4_goBack_xi132) hstr (vx_hat (fun w h => hts w (List.mem_cons_of_mem _ (List.mem_append_right _ h))) (B := KXw) (by decide +kernel) hKX.use) (by decide +kernel) hXZ.1 hXZ.2 va_S.rf (hl.1.trans hml.symm) dX4_goBack_26 dX4_goBack_29 dX4_goBack_30 dX4_goBack_32 dX4_goBack_35 (fun x hx9 => (htab x hx9).elim) (Nat.le_of_ble_eq_true rfl) (Nat.le_of_ble_eq_true rfl) (Nat.le_of_ble_eq_true rfl) (Nat.le_of_ble_eq_true rfl) hlocks (fun t _ h1 h2 => ⟨rfl, h1, h2⟩) (fun z hz => by cases hz) (Nat.le_of_ble_eq_true rfl) (Nat.le_of_ble_eq_true rfl)
