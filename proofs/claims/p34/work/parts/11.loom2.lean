-- the loom: the methods of the face that only look, for arguments that are allowed
def inF (x a b : Int32) : Int32 := if x < a then 0 else if b < x then 0 else 1
theorem inF_ok {k a b : Nat} (h1 : a ≤ k) (h2 : k ≤ b) (hb : b < 2 ^ 31) : inF (nI k) (nI a) (nI b) = 1 := by
  unfold inF
  rw [if_neg (nI_nlt h1 (by omega)), if_neg (nI_nlt h2 hb)]
theorem inF_nar (x a b : Int32) : narrow .boolean (.int (inF x a b)) = .int (inF x a b) := by
  unfold inF
  split
  · rfl
  · split <;> rfl
def machS (u : SV) (w : Nat) : Int32 := match w with
  | 0 => u.2.2.2.2.2.2.2.2.2.1
  | 1 => u.2.2.2.2.2.2.2.2.2.2.1
  | 2 => u.2.2.2.2.2.2.2.1 0
  | 3 => u.2.2.2.2.2.2.2.1 1
  | 4 => u.2.2.2.2.2.2.2.1 2
  | 5 => u.2.2.2.2.2.2.2.1 3
  | 6 => if u.2.2.2.2.2.2.2.2.2.2.2.1 = 0 then 0 else 1
  | 7 => u.2.2.2.2.2.2.2.2.2.2.2.2.1
  | _ => u.2.2.2.2.2.2.2.2.2.2.2.2.2
def thofS (u : SV) (t w : Nat) : Int32 := match w with
  | 0 => u.1 t
  | 1 => bitF u.2.2.2.2.1 (nI t)
  | 2 => meansS u t
  | 3 => tellsS u t
  | 4 => bcF (meansS u t ^^^ tellsS u t)
  | 5 => ansS u t &&& (u.1 t ^^^ (-1))
  | 6 => u.1 t &&& (ansS u t ^^^ (-1))
  | _ => u.2.1 t
def riofS (u : SV) (r w : Nat) : Int32 := match w with
  | 0 => u.2.2.1 r
  | 1 => thrS u (nI r)
  | 2 => bcF (thrS u (nI r))
  | 3 => tanT u (nI r) 16
  | _ => if wornS u r = 0 then 0 else 1
def strgS (u : SV) (t r w : Nat) : Int32 := match w with
  | 0 => strF u.2.2.1 r (hopsF u.1 u.2.2.2.2.1 t (nI r))
  | _ => hopsF u.1 u.2.2.2.2.1 t (nI r)
set_option maxHeartbeats 4000000 in
set_option maxRecDepth 100000 in
theorem c_X4_isWithin (l : Launch) (D : va_G) (cA : Nat → ClassId) (H : Heap) (x a b : Int32) : RO l yX4_isWithin wsX4_isWithin ({ frames := 0, cells := 0, slots := 0, locals := 0 } : Room) D cA [.int x, .int a, .int b] H (some (.int (inF x a b))) := by
  refine Met.ofW (cc := cX4_isWithin) (maxL := 3) (ret := (some .boolean)) (by decide) rfl ?_
  intro p e s m args below meth c s₁ B hml hv
  obtain ⟨rfl, hH, hKN⟩ := hv
  have hK := hKN.1
  have hx := B.exec
  have hb := B.bytes
  have hr := B.returns
  have hts := atoms_spec (ws := wsX4_isWithin) B.pre
  have hown : s.vm.findClass RX4 = some m.cls := findClass_of_methodNamed B.named
  have hlocks := B.notSynchronized
  subst hH
  have hH : s.heap = s.heap := rfl
  have hl := lv_entry ([.int x, .int a, .int b] : List Value) (n := 3) (Nat.le_of_ble_eq_true rfl)
  rw [lg_entry_eq]
  generalize (lg_sl ([.int x, .int a, .int b] : List Value) ++ List.replicate (3 - (lg_sl ([.int x, .int a, .int b] : List Value)).length) Slot.unset).toArray = ls at hl ⊢
  have hl : lv_has ls 3 [(0, .int x), (1, .int a), (2, .int b)] := hl
  refine lv_iload_n hx hb dX4_isWithin_0 rfl (lv_at hl 0 rfl) ?_
  refine lv_iload_n hx hb dX4_isWithin_1 rfl (lv_at hl 1 rfl) ?_
  refine lv_icmp_lt (tgt := 14) hx hb dX4_isWithin_2 (by decide) (fun c_2 => ?_) (fun c_2 => ?_)
  · refine lv_iconst (v := 0) hx hb dX4_isWithin_14 (by decide) ?_
    exact ro_zret hx hb hr hlocks hH dX4_isWithin_15 rfl (by simp only [inF, c_2, if_true, if_false])
  · refine lv_iload_n hx hb dX4_isWithin_5 rfl (lv_at hl 0 rfl) ?_
    refine lv_iload_n hx hb dX4_isWithin_6 rfl (lv_at hl 2 rfl) ?_
    refine lv_icmp_gt (tgt := 14) hx hb dX4_isWithin_7 (by decide) (fun c_7 => ?_) (fun c_7 => ?_)
    · refine lv_iconst (v := 0) hx hb dX4_isWithin_14 (by decide) ?_
      exact ro_zret hx hb hr hlocks hH dX4_isWithin_15 rfl (by simp only [inF, c_2, c_7, if_true, if_false])
    · refine lv_iconst (v := 1) hx hb dX4_isWithin_10 (by decide) ?_
      refine lv_goto (tgt := 15) hx hb dX4_isWithin_11 (by decide) ?_
      exact ro_zret hx hb hr hlocks hH dX4_isWithin_15 rfl (by simp only [inF, c_2, c_7, if_true, if_false])
set_option maxHeartbeats 4000000 in
set_option maxRecDepth 100000 in
theorem c_X4_isThread (l : Launch) (D : va_G) (cA : Nat → ClassId) (H : Heap) (x : Int32) : RO l yX4_isThread wsX4_isThread ({ frames := 1, cells := 0, slots := 0, locals := 22 } : Room) D cA [.int x] H (some (.int (inF x 0 15))) := by
  refine Met.ofW (cc := cX4_isThread) (maxL := 1) (ret := (some .boolean)) (by decide) rfl ?_
  intro p e s m args below meth c s₁ B hml hv
  obtain ⟨rfl, hH, hKN⟩ := hv
  have hK := hKN.1
  have hx := B.exec
  have hb := B.bytes
  have hr := B.returns
  have hts := atoms_spec (ws := wsX4_isThread) B.pre
  have hown : s.vm.findClass RX4 = some m.cls := findClass_of_methodNamed B.named
  have hlocks := B.notSynchronized
  subst hH
  have hH : s.heap = s.heap := rfl
  have hl := lv_entry ([.int x] : List Value) (n := 1) (Nat.le_of_ble_eq_true rfl)
  rw [lg_entry_eq]
  generalize (lg_sl ([.int x] : List Value) ++ List.replicate (1 - (lg_sl ([.int x] : List Value)).length) Slot.unset).toArray = ls at hl ⊢
  have hl : lv_has ls 1 [(0, .int x)] := hl
  refine lv_iload_n hx hb dX4_isThread_0 rfl (lv_at hl 0 rfl) ?_
  refine lv_iconst (v := 0) hx hb dX4_isThread_1 (by decide) ?_
  refine lv_bipush (v := 15) hx hb dX4_isThread_2 (by decide) ?_
  refine ro_S (As := [.int x, .int 0, .int 15]) (rest := []) ⟨hx, hb, hml, hown, hts⟩ (c_X4_isWithin l D cA _ x 0 15) (cwS2 3 hts gX4_isThread_X4_isWithin rfl rfl rfl (by decide +kernel) ⟨Nat.le_of_ble_eq_true rfl, Nat.le_of_ble_eq_true rfl⟩) hKN rfl hl.1 rfl (lv_room (Nat.le_of_ble_eq_true rfl)) dX4_isThread_4 ⟨Nat.zero_le _, Nat.zero_le _⟩ ?_
  exact ro_zret hx hb hr hlocks hH dX4_isThread_7 (inF_nar _ _ _) rfl
set_option maxHeartbeats 4000000 in
set_option maxRecDepth 100000 in
theorem c_X4_isRing (l : Launch) (D : va_G) (cA : Nat → ClassId) (H : Heap) (x : Int32) : RO l yX4_isRing wsX4_isRing ({ frames := 1, cells := 0, slots := 0, locals := 22 } : Room) D cA [.int x] H (some (.int (inF x 0 7))) := by
  refine Met.ofW (cc := cX4_isRing) (maxL := 1) (ret := (some .boolean)) (by decide) rfl ?_
  intro p e s m args below meth c s₁ B hml hv
  obtain ⟨rfl, hH, hKN⟩ := hv
  have hK := hKN.1
  have hx := B.exec
  have hb := B.bytes
  have hr := B.returns
  have hts := atoms_spec (ws := wsX4_isRing) B.pre
  have hown : s.vm.findClass RX4 = some m.cls := findClass_of_methodNamed B.named
  have hlocks := B.notSynchronized
  subst hH
  have hH : s.heap = s.heap := rfl
  have hl := lv_entry ([.int x] : List Value) (n := 1) (Nat.le_of_ble_eq_true rfl)
  rw [lg_entry_eq]
  generalize (lg_sl ([.int x] : List Value) ++ List.replicate (1 - (lg_sl ([.int x] : List Value)).length) Slot.unset).toArray = ls at hl ⊢
  have hl : lv_has ls 1 [(0, .int x)] := hl
  refine lv_iload_n hx hb dX4_isRing_0 rfl (lv_at hl 0 rfl) ?_
  refine lv_iconst (v := 0) hx hb dX4_isRing_1 (by decide) ?_
  refine lv_bipush (v := 7) hx hb dX4_isRing_2 (by decide) ?_
  refine ro_S (As := [.int x, .int 0, .int 7]) (rest := []) ⟨hx, hb, hml, hown, hts⟩ (c_X4_isWithin l D cA _ x 0 7) (cwS2 3 hts gX4_isRing_X4_isWithin rfl rfl rfl (by decide +kernel) ⟨Nat.le_of_ble_eq_true rfl, Nat.le_of_ble_eq_true rfl⟩) hKN rfl hl.1 rfl (lv_room (Nat.le_of_ble_eq_true rfl)) dX4_isRing_4 ⟨Nat.zero_le _, Nat.zero_le _⟩ ?_
  exact ro_zret hx hb hr hlocks hH dX4_isRing_7 (inF_nar _ _ _) rfl
set_option maxHeartbeats 4000000 in
set_option maxRecDepth 100000 in
theorem c_X4_isSetting (l : Launch) (D : va_G) (cA : Nat → ClassId) (H : Heap) (x : Int32) : RO l yX4_isSetting wsX4_isSetting ({ frames := 1, cells := 0, slots := 0, locals := 22 } : Room) D cA [.int x] H (some (.int (inF x 0 1))) := by
  refine Met.ofW (cc := cX4_isSetting) (maxL := 1) (ret := (some .boolean)) (by decide) rfl ?_
  intro p e s m args below meth c s₁ B hml hv
  obtain ⟨rfl, hH, hKN⟩ := hv
  have hK := hKN.1
  have hx := B.exec
  have hb := B.bytes
  have hr := B.returns
  have hts := atoms_spec (ws := wsX4_isSetting) B.pre
  have hown : s.vm.findClass RX4 = some m.cls := findClass_of_methodNamed B.named
  have hlocks := B.notSynchronized
  subst hH
  have hH : s.heap = s.heap := rfl
  have hl := lv_entry ([.int x] : List Value) (n := 1) (Nat.le_of_ble_eq_true rfl)
  rw [lg_entry_eq]
  generalize (lg_sl ([.int x] : List Value) ++ List.replicate (1 - (lg_sl ([.int x] : List Value)).length) Slot.unset).toArray = ls at hl ⊢
  have hl : lv_has ls 1 [(0, .int x)] := hl
  refine lv_iload_n hx hb dX4_isSetting_0 rfl (lv_at hl 0 rfl) ?_
  refine lv_iconst (v := 0) hx hb dX4_isSetting_1 (by decide) ?_
  refine lv_iconst (v := 1) hx hb dX4_isSetting_2 (by decide) ?_
  refine ro_S (As := [.int x, .int 0, .int 1]) (rest := []) ⟨hx, hb, hml, hown, hts⟩ (c_X4_isWithin l D cA _ x 0 1) (cwS2 3 hts gX4_isSetting_X4_isWithin rfl rfl rfl (by decide +kernel) ⟨Nat.le_of_ble_eq_true rfl, Nat.le_of_ble_eq_true rfl⟩) hKN rfl hl.1 rfl (lv_room (Nat.le_of_ble_eq_true rfl)) dX4_isSetting_3 ⟨Nat.zero_le _, Nat.zero_le _⟩ ?_
  exact ro_zret hx hb hr hlocks hH dX4_isSetting_6 (inF_nar _ _ _) rfl
set_option maxHeartbeats 4000000 in
set_option maxRecDepth 100000 in
theorem c_X4_isSlot (l : Launch) (D : va_G) (cA : Nat → ClassId) (H : Heap) (x : Int32) : RO l yX4_isSlot wsX4_isSlot ({ frames := 1, cells := 0, slots := 0, locals := 22 } : Room) D cA [.int x] H (some (.int (inF x 0 1))) := by
  refine Met.ofW (cc := cX4_isSlot) (maxL := 1) (ret := (some .boolean)) (by decide) rfl ?_
  intro p e s m args below meth c s₁ B hml hv
  obtain ⟨rfl, hH, hKN⟩ := hv
  have hK := hKN.1
  have hx := B.exec
  have hb := B.bytes
  have hr := B.returns
  have hts := atoms_spec (ws := wsX4_isSlot) B.pre
  have hown : s.vm.findClass RX4 = some m.cls := findClass_of_methodNamed B.named
  have hlocks := B.notSynchronized
  subst hH
  have hH : s.heap = s.heap := rfl
  have hl := lv_entry ([.int x] : List Value) (n := 1) (Nat.le_of_ble_eq_true rfl)
  rw [lg_entry_eq]
  generalize (lg_sl ([.int x] : List Value) ++ List.replicate (1 - (lg_sl ([.int x] : List Value)).length) Slot.unset).toArray = ls at hl ⊢
  have hl : lv_has ls 1 [(0, .int x)] := hl
  refine lv_iload_n hx hb dX4_isSlot_0 rfl (lv_at hl 0 rfl) ?_
  refine lv_iconst (v := 0) hx hb dX4_isSlot_1 (by decide) ?_
  refine lv_iconst (v := 1) hx hb dX4_isSlot_2 (by decide) ?_
  refine ro_S (As := [.int x, .int 0, .int 1]) (rest := []) ⟨hx, hb, hml, hown, hts⟩ (c_X4_isWithin l D cA _ x 0 1) (cwS2 3 hts gX4_isSlot_X4_isWithin rfl rfl rfl (by decide +kernel) ⟨Nat.le_of_ble_eq_true rfl, Nat.le_of_ble_eq_true rfl⟩) hKN rfl hl.1 rfl (lv_room (Nat.le_of_ble_eq_true rfl)) dX4_isSlot_3 ⟨Nat.zero_le _, Nat.zero_le _⟩ ?_
  exact ro_zret hx hb hr hlocks hH dX4_isSlot_6 (inF_nar _ _ _) rfl
theorem mX4_threadOf_f10 : Cond.fieldLink RX4 10 "WireLoom" "now" "LWireLoom$State;" ∈ wsX4_threadOf := by decide +kernel
theorem mX4_threadOf_f63 : Cond.fieldLink RX4 63 "WireLoom$State" "rings" "[I" ∈ wsX4_threadOf := by decide +kernel
theorem mX4_threadOf_f88 : Cond.fieldLink RX4 88 "WireLoom$State" "guarded" "I" ∈ wsX4_threadOf := by decide +kernel
theorem mX4_threadOf_f197 : Cond.fieldLink RX4 197 "WireLoom$State" "readings" "[I" ∈ wsX4_threadOf := by decide +kernel
set_option maxRecDepth 20000 in
theorem iX4_threadOf_X2 : ∀ w ∈ wsX20, w ∈ wsX4_threadOf := by decide +kernel
set_option maxRecDepth 20000 in
theorem iX4_threadOf_X4 : ∀ w ∈ wsX40, w ∈ wsX4_threadOf := by decide +kernel
set_option maxHeartbeats 4000000 in
set_option maxRecDepth 100000 in
theorem c_X4_threadOf (l : Launch) (D : va_G) (cA : Nat → ClassId) (H : Heap) (Ad : Nat → Nat → Nat) (f : Nat → SV) (o z : Nat) (tx : TV) (rt : (Nat → Int32) × (Nat → Int32)) (t : Nat) (ht : t < 16) (w : Nat) (hw : w < 8) (hP0 : va_P D vwCl (all cA Ad (f, ((nI o), (nI z)), tx, rt)) H) : RO l yX4_threadOf wsX4_threadOf ({ frames := 4, cells := 0, slots := 0, locals := 94 } : Room) D cA [.ref (Ad 10 0), .int (nI t), .int (nI w)] H (some (.int (thofS (f 0) t w))) := by
  refine Met.ofW (cc := cX4_threadOf) (maxL := 3) (ret := (some .int)) (by decide) rfl ?_
  intro p e s m args below meth c s₁ B hml hv
  obtain ⟨rfl, hH, hKN⟩ := hv
  have hK := hKN.1
  have hx := B.exec
  have hb := B.bytes
  have hr := B.returns
  have hts := atoms_spec (ws := wsX4_threadOf) B.pre
  have hown : s.vm.findClass RX4 = some m.cls := findClass_of_methodNamed B.named
  have hlocks := B.notSynchronized
  subst hH
  have hH : s.heap = s.heap := rfl
  have hWP := hP0
  have hl := lv_entry ([.ref (Ad 10 0), .int (nI t), .int (nI w)] : List Value) (n := 3) (Nat.le_of_ble_eq_true rfl)
  rw [lg_entry_eq]
  generalize (lg_sl ([.ref (Ad 10 0), .int (nI t), .int (nI w)] : List Value) ++ List.replicate (3 - (lg_sl ([.ref (Ad 10 0), .int (nI t), .int (nI w)] : List Value)).length) Slot.unset).toArray = ls at hl ⊢
  have hl : lv_has ls 3 [(0, .ref (Ad 10 0)), (1, .int (nI t)), (2, .int (nI w))] := hl
  refine lv_iload_n hx hb dX4_threadOf_0 rfl (lv_at hl 1 rfl) ?_
  refine ro_S (As := [.int (nI t)]) (rest := []) ⟨hx, hb, hml, hown, hts⟩ (c_X4_isThread l D cA _ (nI t)) (cwS2 1 hts gX4_threadOf_X4_isThread rfl rfl rfl (by decide +kernel) ⟨Nat.le_of_ble_eq_true rfl, Nat.le_of_ble_eq_true rfl⟩) hKN rfl hl.1 rfl (lv_room (Nat.le_of_ble_eq_true rfl)) dX4_threadOf_1 ⟨Nat.zero_le _, Nat.zero_le _⟩ ?_
  refine lz_top (v := 1) (inF_ok (k := t) (a := 0) (b := 15) (by omega) (by omega) (by decide)) ?_
  refine lv_if_ne (tgt := 17) hx hb dX4_threadOf_4 (by decide) (fun _ => ?_) (fun h => absurd h (by decide))
  refine lv_iload_n hx hb dX4_threadOf_17 rfl (lv_at hl 2 rfl) ?_
  have hc_18 : w = 0 ∨ w = 1 ∨ w = 2 ∨ w = 3 ∨ w = 4 ∨ w = 5 ∨ w = 6 ∨ w = 7 := (by omega)
  rcases hc_18 with rfl | rfl | rfl | rfl | rfl | rfl | rfl | rfl
  · refine lz_top (v := 0) rfl ?_
    refine lv_tableIn (tgt := 64) (off := 46) hx hb dX4_threadOf_18 (by decide) (by decide) rfl (by decide) ?_
    refine lv_aload_n hx hb dX4_threadOf_64 rfl (lv_at hl 0 rfl) ?_
    have hP : va_P D vwCl ((wLm cA Ad rt) ++ (rst cA Ad (f, ((nI o), (nI z)), tx, rt) 10)) s.heap := lw_fP 10 (by decide) hWP
    refine va_get (D := D) (ci := 4) (v := .ref (Ad 0 0)) (C := RX4) (T := TX4) (N := 7) hx hb hts iX4_threadOf_X4 hown hK hP 0 rfl rfl 0 (by decide) (hts _ mX4_threadOf_f10) (fun _ h9 => h9) rfl dX4_threadOf_65 ?_
    have hP : va_P D vwCl ((wSt cA (Ad 0) (f 0)) ++ (rst cA Ad (f, ((nI o), (nI z)), tx, rt) 0)) s.heap := lw_fP 0 (by decide) hWP
    refine va_get (D := D) (ci := 2) (v := .ref ((Ad 0) 1)) (C := RX2) (T := TX2) (N := 8) hx hb hts iX4_threadOf_X2 hown hK hP 0 rfl rfl 0 (by decide) (hts _ mX4_threadOf_f63) (fun _ h9 => h9) rfl dX4_threadOf_68 ?_
    refine lv_iload_n hx hb dX4_threadOf_71 rfl (lv_at hl 1 rfl) ?_
    refine lz_iald (k := t) (f := (f 0).1) hx hb hK hP 1 0 rfl rfl ⟨by omega, by decide⟩ dX4_threadOf_72 ?_
    exact ro_iret hx hb hr hlocks hH dX4_threadOf_73 rfl
  · refine lz_top (v := 1) rfl ?_
    refine lv_tableIn (tgt := 74) (off := 56) hx hb dX4_threadOf_18 (by decide) (by decide) rfl (by decide) ?_
    refine lv_aload_n hx hb dX4_threadOf_74 rfl (lv_at hl 0 rfl) ?_
    have hP : va_P D vwCl ((wLm cA Ad rt) ++ (rst cA Ad (f, ((nI o), (nI z)), tx, rt) 10)) s.heap := lw_fP 10 (by decide) hWP
    refine va_get (D := D) (ci := 4) (v := .ref (Ad 0 0)) (C := RX4) (T := TX4) (N := 7) hx hb hts iX4_threadOf_X4 hown hK hP 0 rfl rfl 0 (by decide) (hts _ mX4_threadOf_f10) (fun _ h9 => h9) rfl dX4_threadOf_75 ?_
    have hP : va_P D vwCl ((wSt cA (Ad 0) (f 0)) ++ (rst cA Ad (f, ((nI o), (nI z)), tx, rt) 0)) s.heap := lw_fP 0 (by decide) hWP
    refine va_get (D := D) (ci := 2) (v := .int ((f 0).2.2.2.2.1)) (C := RX2) (T := TX2) (N := 8) hx hb hts iX4_threadOf_X2 hown hK hP 0 rfl rfl 5 (by decide) (hts _ mX4_threadOf_f88) (fun _ h9 => h9) rfl dX4_threadOf_78 ?_
    refine lv_iload_n hx hb dX4_threadOf_81 rfl (lv_at hl 1 rfl) ?_
    refine ro_S (As := [.int ((f 0).2.2.2.2.1), .int (nI t)]) (rest := []) ⟨hx, hb, hml, hown, hts⟩ (c_X4_bit l D cA _ ((f 0).2.2.2.2.1) (nI t)) (cwS2 2 hts gX4_threadOf_X4_bit rfl rfl rfl (by decide +kernel) ⟨Nat.le_of_ble_eq_true rfl, Nat.le_of_ble_eq_true rfl⟩) hKN rfl hl.1 rfl (lv_room (Nat.le_of_ble_eq_true rfl)) dX4_threadOf_82 ⟨Nat.zero_le _, Nat.zero_le _⟩ ?_
    exact ro_iret hx hb hr hlocks hH dX4_threadOf_85 rfl
  · refine lz_top (v := 2) rfl ?_
    refine lv_tableIn (tgt := 86) (off := 68) hx hb dX4_threadOf_18 (by decide) (by decide) rfl (by decide) ?_
    refine lv_aload_n hx hb dX4_threadOf_86 rfl (lv_at hl 0 rfl) ?_
    have hP : va_P D vwCl ((wLm cA Ad rt) ++ (rst cA Ad (f, ((nI o), (nI z)), tx, rt) 10)) s.heap := lw_fP 10 (by decide) hWP
    refine va_get (D := D) (ci := 4) (v := .ref (Ad 0 0)) (C := RX4) (T := TX4) (N := 7) hx hb hts iX4_threadOf_X4 hown hK hP 0 rfl rfl 0 (by decide) (hts _ mX4_threadOf_f10) (fun _ h9 => h9) rfl dX4_threadOf_87 ?_
    refine lv_iload_n hx hb dX4_threadOf_90 rfl (lv_at hl 1 rfl) ?_
    have hP : va_P D vwCl ((wSt cA (Ad 0) (f 0)) ++ (rst cA Ad (f, ((nI o), (nI z)), tx, rt) 0)) s.heap := lw_fP 0 (by decide) hWP
    refine ro_V (ci := 2) (q0 := 0) (As := [.int (nI t)]) (rest := []) ⟨hx, hb, hml, hown, hts⟩ (c_X2_means l D cA _ (Ad 0) (f 0) t (by omega) (va_P_l hP) ) (cwV 1 hts gX4_threadOf_X2_means rfl rfl rfl (by decide +kernel) ⟨Nat.le_of_ble_eq_true rfl, Nat.le_of_ble_eq_true rfl⟩) hKN hP rfl rfl rfl hl.1 rfl (lv_room (Nat.le_of_ble_eq_true rfl)) dX4_threadOf_91 ⟨Nat.zero_le _, Nat.zero_le _⟩ ?_
    exact ro_iret hx hb hr hlocks hH dX4_threadOf_94 rfl
  · refine lz_top (v := 3) rfl ?_
    refine lv_tableIn (tgt := 95) (off := 77) hx hb dX4_threadOf_18 (by decide) (by decide) rfl (by decide) ?_
    refine lv_aload_n hx hb dX4_threadOf_95 rfl (lv_at hl 0 rfl) ?_
    have hP : va_P D vwCl ((wLm cA Ad rt) ++ (rst cA Ad (f, ((nI o), (nI z)), tx, rt) 10)) s.heap := lw_fP 10 (by decide) hWP
    refine va_get (D := D) (ci := 4) (v := .ref (Ad 0 0)) (C := RX4) (T := TX4) (N := 7) hx hb hts iX4_threadOf_X4 hown hK hP 0 rfl rfl 0 (by decide) (hts _ mX4_threadOf_f10) (fun _ h9 => h9) rfl dX4_threadOf_96 ?_
    refine lv_iload_n hx hb dX4_threadOf_99 rfl (lv_at hl 1 rfl) ?_
    have hP : va_P D vwCl ((wSt cA (Ad 0) (f 0)) ++ (rst cA Ad (f, ((nI o), (nI z)), tx, rt) 0)) s.heap := lw_fP 0 (by decide) hWP
    refine ro_V (ci := 2) (q0 := 0) (As := [.int (nI t)]) (rest := []) ⟨hx, hb, hml, hown, hts⟩ (c_X2_tells l D cA _ (Ad 0) (f 0) t (by omega) (va_P_l hP) ) (cwV 1 hts gX4_threadOf_X2_tells rfl rfl rfl (by decide +kernel) ⟨Nat.le_of_ble_eq_true rfl, Nat.le_of_ble_eq_true rfl⟩) hKN hP rfl rfl rfl hl.1 rfl (lv_room (Nat.le_of_ble_eq_true rfl)) dX4_threadOf_100 ⟨Nat.zero_le _, Nat.zero_le _⟩ ?_
    exact ro_iret hx hb hr hlocks hH dX4_threadOf_103 rfl
  · refine lz_top (v := 4) rfl ?_
    refine lv_tableIn (tgt := 104) (off := 86) hx hb dX4_threadOf_18 (by decide) (by decide) rfl (by decide) ?_
    refine lv_aload_n hx hb dX4_threadOf_104 rfl (lv_at hl 0 rfl) ?_
    have hP : va_P D vwCl ((wLm cA Ad rt) ++ (rst cA Ad (f, ((nI o), (nI z)), tx, rt) 10)) s.heap := lw_fP 10 (by decide) hWP
    refine va_get (D := D) (ci := 4) (v := .ref (Ad 0 0)) (C := RX4) (T := TX4) (N := 7) hx hb hts iX4_threadOf_X4 hown hK hP 0 rfl rfl 0 (by decide) (hts _ mX4_threadOf_f10) (fun _ h9 => h9) rfl dX4_threadOf_105 ?_
    refine lv_iload_n hx hb dX4_threadOf_108 rfl (lv_at hl 1 rfl) ?_
    have hP : va_P D vwCl ((wSt cA (Ad 0) (f 0)) ++ (rst cA Ad (f, ((nI o), (nI z)), tx, rt) 0)) s.heap := lw_fP 0 (by decide) hWP
    refine ro_V (ci := 2) (q0 := 0) (As := [.int (nI t)]) (rest := []) ⟨hx, hb, hml, hown, hts⟩ (c_X2_means l D cA _ (Ad 0) (f 0) t (by omega) (va_P_l hP) ) (cwV 1 hts gX4_threadOf_X2_means rfl rfl rfl (by decide +kernel) ⟨Nat.le_of_ble_eq_true rfl, Nat.le_of_ble_eq_true rfl⟩) hKN hP rfl rfl rfl hl.1 rfl (lv_room (Nat.le_of_ble_eq_true rfl)) dX4_threadOf_109 ⟨Nat.zero_le _, Nat.zero_le _⟩ ?_
    refine lv_aload_n hx hb dX4_threadOf_112 rfl (lv_at hl 0 rfl) ?_
    have hP : va_P D vwCl ((wLm cA Ad rt) ++ (rst cA Ad (f, ((nI o), (nI z)), tx, rt) 10)) s.heap := lw_fP 10 (by decide) hWP
    refine va_get (D := D) (ci := 4) (v := .ref (Ad 0 0)) (C := RX4) (T := TX4) (N := 7) hx hb hts iX4_threadOf_X4 hown hK hP 0 rfl rfl 0 (by decide) (hts _ mX4_threadOf_f10) (fun _ h9 => h9) rfl dX4_threadOf_113 ?_
    refine lv_iload_n hx hb dX4_threadOf_116 rfl (lv_at hl 1 rfl) ?_
    have hP : va_P D vwCl ((wSt cA (Ad 0) (f 0)) ++ (rst cA Ad (f, ((nI o), (nI z)), tx, rt) 0)) s.heap := lw_fP 0 (by decide) hWP
    refine ro_V (ci := 2) (q0 := 0) (As := [.int (nI t)]) (rest := [.int (meansS (f 0) t)]) ⟨hx, hb, hml, hown, hts⟩ (c_X2_tells l D cA _ (Ad 0) (f 0) t (by omega) (va_P_l hP) ) (cwV 1 hts gX4_threadOf_X2_tells rfl rfl rfl (by decide +kernel) ⟨Nat.le_of_ble_eq_true rfl, Nat.le_of_ble_eq_true rfl⟩) hKN hP rfl rfl rfl hl.1 rfl (lv_room (Nat.le_of_ble_eq_true rfl)) dX4_threadOf_117 ⟨Nat.zero_le _, Nat.zero_le _⟩ ?_
    refine lv_ixor hx hb dX4_threadOf_120 ?_
    refine ro_S (As := [.int ((meansS (f 0) t) ^^^ (tellsS (f 0) t))]) (rest := []) ⟨hx, hb, hml, hown, hts⟩ (c_J6_bitCount_0f7a4 l D cA _ ((meansS (f 0) t) ^^^ (tellsS (f 0) t))) (cwS2 1 hts gX4_threadOf_J6_bitCount_0f7a4 rfl rfl rfl (by decide +kernel) ⟨Nat.le_of_ble_eq_true rfl, Nat.le_of_ble_eq_true rfl⟩) hKN rfl hl.1 rfl (lv_room (Nat.le_of_ble_eq_true rfl)) dX4_threadOf_121 ⟨Nat.zero_le _, Nat.zero_le _⟩ ?_
    exact ro_iret hx hb hr hlocks hH dX4_threadOf_124 rfl
  · refine lz_top (v := 5) rfl ?_
    refine lv_tableIn (tgt := 125) (off := 107) hx hb dX4_threadOf_18 (by decide) (by decide) rfl (by decide) ?_
    refine lv_aload_n hx hb dX4_threadOf_125 rfl (lv_at hl 0 rfl) ?_
    have hP : va_P D vwCl ((wLm cA Ad rt) ++ (rst cA Ad (f, ((nI o), (nI z)), tx, rt) 10)) s.heap := lw_fP 10 (by decide) hWP
    refine va_get (D := D) (ci := 4) (v := .ref (Ad 0 0)) (C := RX4) (T := TX4) (N := 7) hx hb hts iX4_threadOf_X4 hown hK hP 0 rfl rfl 0 (by decide) (hts _ mX4_threadOf_f10) (fun _ h9 => h9) rfl dX4_threadOf_126 ?_
    refine lv_iload_n hx hb dX4_threadOf_129 rfl (lv_at hl 1 rfl) ?_
    have hP : va_P D vwCl ((wSt cA (Ad 0) (f 0)) ++ (rst cA Ad (f, ((nI o), (nI z)), tx, rt) 0)) s.heap := lw_fP 0 (by decide) hWP
    refine ro_V (ci := 2) (q0 := 0) (As := [.int (nI t)]) (rest := []) ⟨hx, hb, hml, hown, hts⟩ (c_X2_answering l D cA _ (Ad 0) (f 0) t (by omega) (va_P_l hP) ) (cwV 1 hts gX4_threadOf_X2_answering rfl rfl rfl (by decide +kernel) ⟨Nat.le_of_ble_eq_true rfl, Nat.le_of_ble_eq_true rfl⟩) hKN hP rfl rfl rfl hl.1 rfl (lv_room (Nat.le_of_ble_eq_true rfl)) dX4_threadOf_130 ⟨Nat.zero_le _, Nat.zero_le _⟩ ?_
    refine lv_aload_n hx hb dX4_threadOf_133 rfl (lv_at hl 0 rfl) ?_
    have hP : va_P D vwCl ((wLm cA Ad rt) ++ (rst cA Ad (f, ((nI o), (nI z)), tx, rt) 10)) s.heap := lw_fP 10 (by decide) hWP
    refine va_get (D := D) (ci := 4) (v := .ref (Ad 0 0)) (C := RX4) (T := TX4) (N := 7) hx hb hts iX4_threadOf_X4 hown hK hP 0 rfl rfl 0 (by decide) (hts _ mX4_threadOf_f10) (fun _ h9 => h9) rfl dX4_threadOf_134 ?_
    have hP : va_P D vwCl ((wSt cA (Ad 0) (f 0)) ++ (rst cA Ad (f, ((nI o), (nI z)), tx, rt) 0)) s.heap := lw_fP 0 (by decide) hWP
    refine va_get (D := D) (ci := 2) (v := .ref ((Ad 0) 1)) (C := RX2) (T := TX2) (N := 8) hx hb hts iX4_threadOf_X2 hown hK hP 0 rfl rfl 0 (by decide) (hts _ mX4_threadOf_f63) (fun _ h9 => h9) rfl dX4_threadOf_137 ?_
    refine lv_iload_n hx hb dX4_threadOf_140 rfl (lv_at hl 1 rfl) ?_
    refine lz_iald (k := t) (f := (f 0).1) hx hb hK hP 1 0 rfl rfl ⟨by omega, by decide⟩ dX4_threadOf_141 ?_
    refine lv_iconst (v := (-1)) hx hb dX4_threadOf_142 (by decide) ?_
    refine lv_ixor hx hb dX4_threadOf_143 ?_
    refine lv_iand hx hb dX4_threadOf_144 ?_
    exact ro_iret hx hb hr hlocks hH dX4_threadOf_145 rfl
  · refine lz_top (v := 6) rfl ?_
    refine lv_tableIn (tgt := 146) (off := 128) hx hb dX4_threadOf_18 (by decide) (by decide) rfl (by decide) ?_
    refine lv_aload_n hx hb dX4_threadOf_146 rfl (lv_at hl 0 rfl) ?_
    have hP : va_P D vwCl ((wLm cA Ad rt) ++ (rst cA Ad (f, ((nI o), (nI z)), tx, rt) 10)) s.heap := lw_fP 10 (by decide) hWP
    refine va_get (D := D) (ci := 4) (v := .ref (Ad 0 0)) (C := RX4) (T := TX4) (N := 7) hx hb hts iX4_threadOf_X4 hown hK hP 0 rfl rfl 0 (by decide) (hts _ mX4_threadOf_f10) (fun _ h9 => h9) rfl dX4_threadOf_147 ?_
    have hP : va_P D vwCl ((wSt cA (Ad 0) (f 0)) ++ (rst cA Ad (f, ((nI o), (nI z)), tx, rt) 0)) s.heap := lw_fP 0 (by decide) hWP
    refine va_get (D := D) (ci := 2) (v := .ref ((Ad 0) 1)) (C := RX2) (T := TX2) (N := 8) hx hb hts iX4_threadOf_X2 hown hK hP 0 rfl rfl 0 (by decide) (hts _ mX4_threadOf_f63) (fun _ h9 => h9) rfl dX4_threadOf_150 ?_
    refine lv_iload_n hx hb dX4_threadOf_153 rfl (lv_at hl 1 rfl) ?_
    refine lz_iald (k := t) (f := (f 0).1) hx hb hK hP 1 0 rfl rfl ⟨by omega, by decide⟩ dX4_threadOf_154 ?_
    refine lv_aload_n hx hb dX4_threadOf_155 rfl (lv_at hl 0 rfl) ?_
    have hP : va_P D vwCl ((wLm cA Ad rt) ++ (rst cA Ad (f, ((nI o), (nI z)), tx, rt) 10)) s.heap := lw_fP 10 (by decide) hWP
    refine va_get (D := D) (ci := 4) (v := .ref (Ad 0 0)) (C := RX4) (T := TX4) (N := 7) hx hb hts iX4_threadOf_X4 hown hK hP 0 rfl rfl 0 (by decide) (hts _ mX4_threadOf_f10) (fun _ h9 => h9) rfl dX4_threadOf_156 ?_
    refine lv_iload_n hx hb dX4_threadOf_159 rfl (lv_at hl 1 rfl) ?_
    have hP : va_P D vwCl ((wSt cA (Ad 0) (f 0)) ++ (rst cA Ad (f, ((nI o), (nI z)), tx, rt) 0)) s.heap := lw_fP 0 (by decide) hWP
    refine ro_V (ci := 2) (q0 := 0) (As := [.int (nI t)]) (rest := [.int (((f 0).1) t)]) ⟨hx, hb, hml, hown, hts⟩ (c_X2_answering l D cA _ (Ad 0) (f 0) t (by omega) (va_P_l hP) ) (cwV 1 hts gX4_threadOf_X2_answering rfl rfl rfl (by decide +kernel) ⟨Nat.le_of_ble_eq_true rfl, Nat.le_of_ble_eq_true rfl⟩) hKN hP rfl rfl rfl hl.1 rfl (lv_room (Nat.le_of_ble_eq_true rfl)) dX4_threadOf_160 ⟨Nat.zero_le _, Nat.zero_le _⟩ ?_
    refine lv_iconst (v := (-1)) hx hb dX4_threadOf_163 (by decide) ?_
    refine lv_ixor hx hb dX4_threadOf_164 ?_
    refine lv_iand hx hb dX4_threadOf_165 ?_
    exact ro_iret hx hb hr hlocks hH dX4_threadOf_166 rfl
  · refine lz_top (v := 7) rfl ?_
    refine lv_tableIn (tgt := 167) (off := 149) hx hb dX4_threadOf_18 (by decide) (by decide) rfl (by decide) ?_
    refine lv_aload_n hx hb dX4_threadOf_167 rfl (lv_at hl 0 rfl) ?_
    have hP : va_P D vwCl ((wLm cA Ad rt) ++ (rst cA Ad (f, ((nI o), (nI z)), tx, rt) 10)) s.heap := lw_fP 10 (by decide) hWP
    refine va_get (D := D) (ci := 4) (v := .ref (Ad 0 0)) (C := RX4) (T := TX4) (N := 7) hx hb hts iX4_threadOf_X4 hown hK hP 0 rfl rfl 0 (by decide) (hts _ mX4_threadOf_f10) (fun _ h9 => h9) rfl dX4_threadOf_168 ?_
    have hP : va_P D vwCl ((wSt cA (Ad 0) (f 0)) ++ (rst cA Ad (f, ((nI o), (nI z)), tx, rt) 0)) s.heap := lw_fP 0 (by decide) hWP
    refine va_get (D := D) (ci := 2) (v := .ref ((Ad 0) 2)) (C := RX2) (T := TX2) (N := 8) hx hb hts iX4_threadOf_X2 hown hK hP 0 rfl rfl 1 (by decide) (hts _ mX4_threadOf_f197) (fun _ h9 => h9) rfl dX4_threadOf_171 ?_
    refine lv_iload_n hx hb dX4_threadOf_174 rfl (lv_at hl 1 rfl) ?_
    refine lz_iald (k := t) (f := (f 0).2.1) hx hb hK hP 2 0 rfl rfl ⟨by omega, by decide⟩ dX4_threadOf_175 ?_
    exact ro_iret hx hb hr hlocks hH dX4_threadOf_176 rfl
theorem mX4_ringOf_f10 : Cond.fieldLink RX4 10 "WireLoom" "now" "LWireLoom$State;" ∈ wsX4_ringOf := by decide +kernel
theorem mX4_ringOf_f202 : Cond.fieldLink RX4 202 "WireLoom$State" "wear" "[I" ∈ wsX4_ringOf := by decide +kernel
set_option maxRecDepth 20000 in
theorem iX4_ringOf_X2 : ∀ w ∈ wsX20, w ∈ wsX4_ringOf := by decide +kernel
set_option maxRecDepth 20000 in
theorem iX4_ringOf_X4 : ∀ w ∈ wsX40, w ∈ wsX4_ringOf := by decide +kernel
set_option maxHeartbeats 4000000 in
set_option maxRecDepth 100000 in
theorem c_X4_ringOf (l : Launch) (D : va_G) (cA : Nat → ClassId) (H : Heap) (Ad : Nat → Nat → Nat) (f : Nat → SV) (o z : Nat) (tx : TV) (rt : (Nat → Int32) × (Nat → Int32)) (r : Nat) (hr0 : r < 8) (w : Nat) (hw : w < 5) (hP0 : va_P D vwCl (all cA Ad (f, ((nI o), (nI z)), tx, rt)) H) : RO l yX4_ringOf wsX4_ringOf ({ frames := 4, cells := 0, slots := 0, locals := 96 } : Room) D cA [.ref (Ad 10 0), .int (nI r), .int (nI w)] H (some (.int (riofS (f 0) r w))) := by
  refine Met.ofW (cc := cX4_ringOf) (maxL := 3) (ret := (some .int)) (by decide) rfl ?_
  intro p e s m args below meth c s₁ B hml hv
  obtain ⟨rfl, hH, hKN⟩ := hv
  have hK := hKN.1
  have hx := B.exec
  have hb := B.bytes
  have hr := B.returns
  have hts := atoms_spec (ws := wsX4_ringOf) B.pre
  have hown : s.vm.findClass RX4 = some m.cls := findClass_of_methodNamed B.named
  have hlocks := B.notSynchronized
  subst hH
  have hH : s.heap = s.heap := rfl
  have hWP := hP0
  have hl := lv_entry ([.ref (Ad 10 0), .int (nI r), .int (nI w)] : List Value) (n := 3) (Nat.le_of_ble_eq_true rfl)
  rw [lg_entry_eq]
  generalize (lg_sl ([.ref (Ad 10 0), .int (nI r), .int (nI w)] : List Value) ++ List.replicate (3 - (lg_sl ([.ref (Ad 10 0), .int (nI r), .int (nI w)] : List Value)).length) Slot.unset).toArray = ls at hl ⊢
  have hl : lv_has ls 3 [(0, .ref (Ad 10 0)), (1, .int (nI r)), (2, .int (nI w))] := hl
  refine lv_iload_n hx hb dX4_ringOf_0 rfl (lv_at hl 1 rfl) ?_
  refine ro_S (As := [.int (nI r)]) (rest := []) ⟨hx, hb, hml, hown, hts⟩ (c_X4_isRing l D cA _ (nI r)) (cwS2 1 hts gX4_ringOf_X4_isRing rfl rfl rfl (by decide +kernel) ⟨Nat.le_of_ble_eq_true rfl, Nat.le_of_ble_eq_true rfl⟩) hKN rfl hl.1 rfl (lv_room (Nat.le_of_ble_eq_true rfl)) dX4_ringOf_1 ⟨Nat.zero_le _, Nat.zero_le _⟩ ?_
  refine lz_top (v := 1) (inF_ok (k := r) (a := 0) (b := 7) (by omega) (by omega) (by decide)) ?_
  refine lv_if_ne (tgt := 17) hx hb dX4_ringOf_4 (by decide) (fun _ => ?_) (fun h => absurd h (by decide))
  refine lv_iload_n hx hb dX4_ringOf_17 rfl (lv_at hl 2 rfl) ?_
  have hc_18 : w = 0 ∨ w = 1 ∨ w = 2 ∨ w = 3 ∨ w = 4 := (by omega)
  rcases hc_18 with rfl | rfl | rfl | rfl | rfl
  · refine lz_top (v := 0) rfl ?_
    refine lv_tableIn (tgt := 52) (off := 34) hx hb dX4_ringOf_18 (by decide) (by decide) rfl (by decide) ?_
    refine lv_aload_n hx hb dX4_ringOf_52 rfl (lv_at hl 0 rfl) ?_
    have hP : va_P D vwCl ((wLm cA Ad rt) ++ (rst cA Ad (f, ((nI o), (nI z)), tx, rt) 10)) s.heap := lw_fP 10 (by decide) hWP
    refine va_get (D := D) (ci := 4) (v := .ref (Ad 0 0)) (C := RX4) (T := TX4) (N := 7) hx hb hts iX4_ringOf_X4 hown hK hP 0 rfl rfl 0 (by decide) (hts _ mX4_ringOf_f10) (fun _ h9 => h9) rfl dX4_ringOf_53 ?_
    have hP : va_P D vwCl ((wSt cA (Ad 0) (f 0)) ++ (rst cA Ad (f, ((nI o), (nI z)), tx, rt) 0)) s.heap := lw_fP 0 (by decide) hWP
    refine va_get (D := D) (ci := 2) (v := .ref ((Ad 0) 3)) (C := RX2) (T := TX2) (N := 8) hx hb hts iX4_ringOf_X2 hown hK hP 0 rfl rfl 2 (by decide) (hts _ mX4_ringOf_f202) (fun _ h9 => h9) rfl dX4_ringOf_56 ?_
    refine lv_iload_n hx hb dX4_ringOf_59 rfl (lv_at hl 1 rfl) ?_
    refine lz_iald (k := r) (f := (f 0).2.2.1) hx hb hK hP 3 0 rfl rfl ⟨by omega, by decide⟩ dX4_ringOf_60 ?_
    exact ro_iret hx hb hr hlocks hH dX4_ringOf_61 rfl
  · refine lz_top (v := 1) rfl ?_
    refine lv_tableIn (tgt := 62) (off := 44) hx hb dX4_ringOf_18 (by decide) (by decide) rfl (by decide) ?_
    refine lv_aload_n hx hb dX4_ringOf_62 rfl (lv_at hl 0 rfl) ?_
    have hP : va_P D vwCl ((wLm cA Ad rt) ++ (rst cA Ad (f, ((nI o), (nI z)), tx, rt) 10)) s.heap := lw_fP 10 (by decide) hWP
    refine va_get (D := D) (ci := 4) (v := .ref (Ad 0 0)) (C := RX4) (T := TX4) (N := 7) hx hb hts iX4_ringOf_X4 hown hK hP 0 rfl rfl 0 (by decide) (hts _ mX4_ringOf_f10) (fun _ h9 => h9) rfl dX4_ringOf_63 ?_
    refine lv_iload_n hx hb dX4_ringOf_66 rfl (lv_at hl 1 rfl) ?_
    have hP : va_P D vwCl ((wSt cA (Ad 0) (f 0)) ++ (rst cA Ad (f, ((nI o), (nI z)), tx, rt) 0)) s.heap := lw_fP 0 (by decide) hWP
    refine ro_V (ci := 2) (q0 := 0) (As := [.int (nI r)]) (rest := []) ⟨hx, hb, hml, hown, hts⟩ (c_X2_threadsThrough l D cA _ (Ad 0) (f 0) (nI r) (va_P_l hP) ) (cwV 1 hts gX4_ringOf_X2_threadsThrough rfl rfl rfl (by decide +kernel) ⟨Nat.le_of_ble_eq_true rfl, Nat.le_of_ble_eq_true rfl⟩) hKN hP rfl rfl rfl hl.1 rfl (lv_room (Nat.le_of_ble_eq_true rfl)) dX4_ringOf_67 ⟨Nat.zero_le _, Nat.zero_le _⟩ ?_
    exact ro_iret hx hb hr hlocks hH dX4_ringOf_70 rfl
  · refine lz_top (v := 2) rfl ?_
    refine lv_tableIn (tgt := 71) (off := 53) hx hb dX4_ringOf_18 (by decide) (by decide) rfl (by decide) ?_
    refine lv_aload_n hx hb dX4_ringOf_71 rfl (lv_at hl 0 rfl) ?_
    have hP : va_P D vwCl ((wLm cA Ad rt) ++ (rst cA Ad (f, ((nI o), (nI z)), tx, rt) 10)) s.heap := lw_fP 10 (by decide) hWP
    refine va_get (D := D) (ci := 4) (v := .ref (Ad 0 0)) (C := RX4) (T := TX4) (N := 7) hx hb hts iX4_ringOf_X4 hown hK hP 0 rfl rfl 0 (by decide) (hts _ mX4_ringOf_f10) (fun _ h9 => h9) rfl dX4_ringOf_72 ?_
    refine lv_iload_n hx hb dX4_ringOf_75 rfl (lv_at hl 1 rfl) ?_
    have hP : va_P D vwCl ((wSt cA (Ad 0) (f 0)) ++ (rst cA Ad (f, ((nI o), (nI z)), tx, rt) 0)) s.heap := lw_fP 0 (by decide) hWP
    refine ro_V (ci := 2) (q0 := 0) (As := [.int (nI r)]) (rest := []) ⟨hx, hb, hml, hown, hts⟩ (c_X2_threadsThrough l D cA _ (Ad 0) (f 0) (nI r) (va_P_l hP) ) (cwV 1 hts gX4_ringOf_X2_threadsThrough rfl rfl rfl (by decide +kernel) ⟨Nat.le_of_ble_eq_true rfl, Nat.le_of_ble_eq_true rfl⟩) hKN hP rfl rfl rfl hl.1 rfl (lv_room (Nat.le_of_ble_eq_true rfl)) dX4_ringOf_76 ⟨Nat.zero_le _, Nat.zero_le _⟩ ?_
    refine ro_S (As := [.int (thrS (f 0) (nI r))]) (rest := []) ⟨hx, hb, hml, hown, hts⟩ (c_J6_bitCount_0f7a4 l D cA _ (thrS (f 0) (nI r))) (cwS2 1 hts gX4_ringOf_J6_bitCount_0f7a4 rfl rfl rfl (by decide +kernel) ⟨Nat.le_of_ble_eq_true rfl, Nat.le_of_ble_eq_true rfl⟩) hKN rfl hl.1 rfl (lv_room (Nat.le_of_ble_eq_true rfl)) dX4_ringOf_79 ⟨Nat.zero_le _, Nat.zero_le _⟩ ?_
    exact ro_iret hx hb hr hlocks hH dX4_ringOf_82 rfl
  · refine lz_top (v := 3) rfl ?_
    refine lv_tableIn (tgt := 83) (off := 65) hx hb dX4_ringOf_18 (by decide) (by decide) rfl (by decide) ?_
    refine lv_aload_n hx hb dX4_ringOf_83 rfl (lv_at hl 0 rfl) ?_
    have hP : va_P D vwCl ((wLm cA Ad rt) ++ (rst cA Ad (f, ((nI o), (nI z)), tx, rt) 10)) s.heap := lw_fP 10 (by decide) hWP
    refine va_get (D := D) (ci := 4) (v := .ref (Ad 0 0)) (C := RX4) (T := TX4) (N := 7) hx hb hts iX4_ringOf_X4 hown hK hP 0 rfl rfl 0 (by decide) (hts _ mX4_ringOf_f10) (fun _ h9 => h9) rfl dX4_ringOf_84 ?_
    refine lv_iload_n hx hb dX4_ringOf_87 rfl (lv_at hl 1 rfl) ?_
    have hP : va_P D vwCl ((wSt cA (Ad 0) (f 0)) ++ (rst cA Ad (f, ((nI o), (nI z)), tx, rt) 0)) s.heap := lw_fP 0 (by decide) hWP
    refine ro_V (ci := 2) (q0 := 0) (As := [.int (nI r)]) (rest := []) ⟨hx, hb, hml, hown, hts⟩ (c_X2_threadsAnswered l D cA _ (Ad 0) (f 0) (nI r) (va_P_l hP) ) (cwV 1 hts gX4_ringOf_X2_threadsAnswered rfl rfl rfl (by decide +kernel) ⟨Nat.le_of_ble_eq_true rfl, Nat.le_of_ble_eq_true rfl⟩) hKN hP rfl rfl rfl hl.1 rfl (lv_room (Nat.le_of_ble_eq_true rfl)) dX4_ringOf_88 ⟨Nat.zero_le _, Nat.zero_le _⟩ ?_
    exact ro_iret hx hb hr hlocks hH dX4_ringOf_91 rfl
  · refine lz_top (v := 4) rfl ?_
    refine lv_tableIn (tgt := 92) (off := 74) hx hb dX4_ringOf_18 (by decide) (by decide) rfl (by decide) ?_
    refine lv_aload_n hx hb dX4_ringOf_92 rfl (lv_at hl 0 rfl) ?_
    have hP : va_P D vwCl ((wLm cA Ad rt) ++ (rst cA Ad (f, ((nI o), (nI z)), tx, rt) 10)) s.heap := lw_fP 10 (by decide) hWP
    refine va_get (D := D) (ci := 4) (v := .ref (Ad 0 0)) (C := RX4) (T := TX4) (N := 7) hx hb hts iX4_ringOf_X4 hown hK hP 0 rfl rfl 0 (by decide) (hts _ mX4_ringOf_f10) (fun _ h9 => h9) rfl dX4_ringOf_93 ?_
    refine lv_iload_n hx hb dX4_ringOf_96 rfl (lv_at hl 1 rfl) ?_
    have hP : va_P D vwCl ((wSt cA (Ad 0) (f 0)) ++ (rst cA Ad (f, ((nI o), (nI z)), tx, rt) 0)) s.heap := lw_fP 0 (by decide) hWP
    refine ro_V (ci := 2) (q0 := 0) (As := [.int (nI r)]) (rest := []) ⟨hx, hb, hml, hown, hts⟩ (c_X2_isWornOut l D cA _ (Ad 0) (f 0) r (by omega) (va_P_l hP) ) (cwV 1 hts gX4_ringOf_X2_isWornOut rfl rfl rfl (by decide +kernel) ⟨Nat.le_of_ble_eq_true rfl, Nat.le_of_ble_eq_true rfl⟩) hKN hP rfl rfl rfl hl.1 rfl (lv_room (Nat.le_of_ble_eq_true rfl)) dX4_ringOf_97 ⟨Nat.zero_le _, Nat.zero_le _⟩ ?_
    refine lv_if_eq (tgt := 107) hx hb dX4_ringOf_100 (by decide) (fun c_100 => ?_) (fun c_100 => ?_)
    · refine lv_iconst (v := 0) hx hb dX4_ringOf_107 (by decide) ?_
      exact ro_iret hx hb hr hlocks hH dX4_ringOf_108 (by simp only [riofS, c_100, if_true, if_false])
    · refine lv_iconst (v := 1) hx hb dX4_ringOf_103 (by decide) ?_
      refine lv_goto (tgt := 108) hx hb dX4_ringOf_104 (by decide) ?_
      exact ro_iret hx hb hr hlocks hH dX4_ringOf_108 (by simp only [riofS, c_100, if_true, if_false])
theorem mX4_strength_f10 : Cond.fieldLink RX4 10 "WireLoom" "now" "LWireLoom$State;" ∈ wsX4_strength := by decide +kernel
set_option maxRecDepth 20000 in
theorem iX4_strength_X4 : ∀ w ∈ wsX40, w ∈ wsX4_strength := by decide +kernel
set_option maxHeartbeats 4000000 in
set_option maxRecDepth 100000 in
theorem c_X4_strength (l : Launch) (D : va_G) (cA : Nat → ClassId) (H : Heap) (Ad : Nat → Nat → Nat) (f : Nat → SV) (o z : Nat) (tx : TV) (rt : (Nat → Int32) × (Nat → Int32)) (t : Nat) (ht : t < 16) (r : Nat) (hr0 : r < 8) (w : Nat) (hw : w < 2) (hP0 : va_P D vwCl (all cA Ad (f, ((nI o), (nI z)), tx, rt)) H) : RO l yX4_strength wsX4_strength ({ frames := 3, cells := 0, slots := 0, locals := 70 } : Room) D cA [.ref (Ad 10 0), .int (nI t), .int (nI r), .int (nI w)] H (some (.int (strgS (f 0) t r w))) := by
  refine Met.ofW (cc := cX4_strength) (maxL := 4) (ret := (some .int)) (by decide) rfl ?_
  intro p e s m args below meth c s₁ B hml hv
  obtain ⟨rfl, hH, hKN⟩ := hv
  have hK := hKN.1
  have hx := B.exec
  have hb := B.bytes
  have hr := B.returns
  have hts := atoms_spec (ws := wsX4_strength) B.pre
  have hown : s.vm.findClass RX4 = some m.cls := findClass_of_methodNamed B.named
  have hlocks := B.notSynchronized
  subst hH
  have hH : s.heap = s.heap := rfl
  have hWP := hP0
  have hl := lv_entry ([.ref (Ad 10 0), .int (nI t), .int (nI r), .int (nI w)] : List Value) (n := 4) (Nat.le_of_ble_eq_true rfl)
  rw [lg_entry_eq]
  generalize (lg_sl ([.ref (Ad 10 0), .int (nI t), .int (nI r), .int (nI w)] : List Value) ++ List.replicate (4 - (lg_sl ([.ref (Ad 10 0), .int (nI t), .int (nI r), .int (nI w)] : List Value)).length) Slot.unset).toArray = ls at hl ⊢
  have hl : lv_has ls 4 [(0, .ref (Ad 10 0)), (1, .int (nI t)), (2, .int (nI r)), (3, .int (nI w))] := hl
  refine lv_iload_n hx hb dX4_strength_0 rfl (lv_at hl 1 rfl) ?_
  refine ro_S (As := [.int (nI t)]) (rest := []) ⟨hx, hb, hml, hown, hts⟩ (c_X4_isThread l D cA _ (nI t)) (cwS2 1 hts gX4_strength_X4_isThread rfl rfl rfl (by decide +kernel) ⟨Nat.le_of_ble_eq_true rfl, Nat.le_of_ble_eq_true rfl⟩) hKN rfl hl.1 rfl (lv_room (Nat.le_of_ble_eq_true rfl)) dX4_strength_1 ⟨Nat.zero_le _, Nat.zero_le _⟩ ?_
  refine lz_top (v := 1) (inF_ok (k := t) (a := 0) (b := 15) (by omega) (by omega) (by decide)) ?_
  refine lv_if_eq (tgt := 14) hx hb dX4_strength_4 (by decide) (fun h => absurd h (by decide)) (fun _ => ?_)
  refine lv_iload_n hx hb dX4_strength_7 rfl (lv_at hl 2 rfl) ?_
  refine ro_S (As := [.int (nI r)]) (rest := []) ⟨hx, hb, hml, hown, hts⟩ (c_X4_isRing l D cA _ (nI r)) (cwS2 1 hts gX4_strength_X4_isRing rfl rfl rfl (by decide +kernel) ⟨Nat.le_of_ble_eq_true rfl, Nat.le_of_ble_eq_true rfl⟩) hKN rfl hl.1 rfl (lv_room (Nat.le_of_ble_eq_true rfl)) dX4_strength_8 ⟨Nat.zero_le _, Nat.zero_le _⟩ ?_
  refine lz_top (v := 1) (inF_ok (k := r) (a := 0) (b := 7) (by omega) (by omega) (by decide)) ?_
  refine lv_if_ne (tgt := 24) hx hb dX4_strength_11 (by decide) (fun _ => ?_) (fun h => absurd h (by decide))
  refine lv_iload_n hx hb dX4_strength_24 rfl (lv_at hl 3 rfl) ?_
  have hc_25 : w = 0 ∨ w = 1 := (by omega)
  rcases hc_25 with rfl | rfl
  · refine lz_top (v := 0) rfl ?_
    refine lv_lookup (tgt := 52) (off := 27) hx hb dX4_strength_25 (by decide) (by decide) (by decide) ?_
    refine lv_aload_n hx hb dX4_strength_52 rfl (lv_at hl 0 rfl) ?_
    have hP : va_P D vwCl ((wLm cA Ad rt) ++ (rst cA Ad (f, ((nI o), (nI z)), tx, rt) 10)) s.heap := lw_fP 10 (by decide) hWP
    refine va_get (D := D) (ci := 4) (v := .ref (Ad 0 0)) (C := RX4) (T := TX4) (N := 7) hx hb hts iX4_strength_X4 hown hK hP 0 rfl rfl 0 (by decide) (hts _ mX4_strength_f10) (fun _ h9 => h9) rfl dX4_strength_53 ?_
    refine lv_iload_n hx hb dX4_strength_56 rfl (lv_at hl 2 rfl) ?_
    refine lv_aload_n hx hb dX4_strength_57 rfl (lv_at hl 0 rfl) ?_
    refine va_get (D := D) (ci := 4) (v := .ref (Ad 0 0)) (C := RX4) (T := TX4) (N := 7) hx hb hts iX4_strength_X4 hown hK hP 0 rfl rfl 0 (by decide) (hts _ mX4_strength_f10) (fun _ h9 => h9) rfl dX4_strength_58 ?_
    refine lv_iload_n hx hb dX4_strength_61 rfl (lv_at hl 1 rfl) ?_
    refine lv_iload_n hx hb dX4_strength_62 rfl (lv_at hl 2 rfl) ?_
    have hP : va_P D vwCl ((wSt cA (Ad 0) (f 0)) ++ (rst cA Ad (f, ((nI o), (nI z)), tx, rt) 0)) s.heap := lw_fP 0 (by decide) hWP
    refine ro_V (ci := 2) (q0 := 0) (As := [.int (nI t), .int (nI r)]) (rest := [.int (nI r), .ref (Ad 0 0)]) ⟨hx, hb, hml, hown, hts⟩ (c_X2_hops l D cA _ (Ad 0) (f 0) t (by omega) (nI r) (va_P_l hP) ) (cwV 2 hts gX4_strength_X2_hops rfl rfl rfl (by decide +kernel) ⟨Nat.le_of_ble_eq_true rfl, Nat.le_of_ble_eq_true rfl⟩) hKN hP rfl rfl rfl hl.1 rfl (lv_room (Nat.le_of_ble_eq_true rfl)) dX4_strength_63 ⟨Nat.zero_le _, Nat.zero_le _⟩ ?_
    refine ro_V (ci := 2) (q0 := 0) (As := [.int (nI r), .int (hopsF ((f 0).1) ((f 0).2.2.2.2.1) t (nI r))]) (rest := []) ⟨hx, hb, hml, hown, hts⟩ (c_X2_strengthAt l D cA _ (Ad 0) (f 0) r (by omega) (hopsF ((f 0).1) ((f 0).2.2.2.2.1) t (nI r)) (va_P_l hP) ) (cwV 2 hts gX4_strength_X2_strengthAt rfl rfl rfl (by decide +kernel) ⟨Nat.le_of_ble_eq_true rfl, Nat.le_of_ble_eq_true rfl⟩) hKN hP rfl rfl rfl hl.1 rfl (lv_room (Nat.le_of_ble_eq_true rfl)) dX4_strength_66 ⟨Nat.zero_le _, Nat.zero_le _⟩ ?_
    exact ro_iret hx hb hr hlocks hH dX4_strength_69 rfl
  · refine lz_top (v := 1) rfl ?_
    refine lv_lookup (tgt := 70) (off := 45) hx hb dX4_strength_25 (by decide) (by decide) (by decide) ?_
    refine lv_aload_n hx hb dX4_strength_70 rfl (lv_at hl 0 rfl) ?_
    have hP : va_P D vwCl ((wLm cA Ad rt) ++ (rst cA Ad (f, ((nI o), (nI z)), tx, rt) 10)) s.heap := lw_fP 10 (by decide) hWP
    refine va_get (D := D) (ci := 4) (v := .ref (Ad 0 0)) (C := RX4) (T := TX4) (N := 7) hx hb hts iX4_strength_X4 hown hK hP 0 rfl rfl 0 (by decide) (hts _ mX4_strength_f10) (fun _ h9 => h9) rfl dX4_strength_71 ?_
    refine lv_iload_n hx hb dX4_strength_74 rfl (lv_at hl 1 rfl) ?_
    refine lv_iload_n hx hb dX4_strength_75 rfl (lv_at hl 2 rfl) ?_
    have hP : va_P D vwCl ((wSt cA (Ad 0) (f 0)) ++ (rst cA Ad (f, ((nI o), (nI z)), tx, rt) 0)) s.heap := lw_fP 0 (by decide) hWP
    refine ro_V (ci := 2) (q0 := 0) (As := [.int (nI t), .int (nI r)]) (rest := []) ⟨hx, hb, hml, hown, hts⟩ (c_X2_hops l D cA _ (Ad 0) (f 0) t (by omega) (nI r) (va_P_l hP) ) (cwV 2 hts gX4_strength_X2_hops rfl rfl rfl (by decide +kernel) ⟨Nat.le_of_ble_eq_true rfl, Nat.le_of_ble_eq_true rfl⟩) hKN hP rfl rfl rfl hl.1 rfl (lv_room (Nat.le_of_ble_eq_true rfl)) dX4_strength_76 ⟨Nat.zero_le _, Nat.zero_le _⟩ ?_
    exact ro_iret hx hb hr hlocks hH dX4_strength_79 rfl
theorem mX4_machine_f10 : Cond.fieldLink RX4 10 "WireLoom" "now" "LWireLoom$State;" ∈ wsX4_machine := by decide +kernel
theorem mX4_machine_f110 : Cond.fieldLink RX4 110 "WireLoom$State" "machine" "LWireLoom$Machine;" ∈ wsX4_machine := by decide +kernel
theorem mX4_machine_f224 : Cond.fieldLink RX4 224 "WireLoom$Machine" "place" "I" ∈ wsX4_machine := by decide +kernel
theorem mX4_machine_f227 : Cond.fieldLink RX4 227 "WireLoom$Machine" "count" "I" ∈ wsX4_machine := by decide +kernel
theorem mX4_machine_f230 : Cond.fieldLink RX4 230 "WireLoom$Machine" "cells" "[I" ∈ wsX4_machine := by decide +kernel
theorem mX4_machine_f233 : Cond.fieldLink RX4 233 "WireLoom$Machine" "running" "Z" ∈ wsX4_machine := by decide +kernel
theorem mX4_machine_f114 : Cond.fieldLink RX4 114 "WireLoom$Machine" "steps" "I" ∈ wsX4_machine := by decide +kernel
theorem mX4_machine_f237 : Cond.fieldLink RX4 237 "WireLoom$Machine" "tellings" "I" ∈ wsX4_machine := by decide +kernel
set_option maxRecDepth 20000 in
theorem iX4_machine_X0 : ∀ w ∈ wsX00, w ∈ wsX4_machine := by decide +kernel
set_option maxRecDepth 20000 in
theorem iX4_machine_X2 : ∀ w ∈ wsX20, w ∈ wsX4_machine := by decide +kernel
set_option maxRecDepth 20000 in
theorem iX4_machine_X4 : ∀ w ∈ wsX40, w ∈ wsX4_machine := by decide +kernel
set_option maxHeartbeats 4000000 in
set_option maxRecDepth 100000 in
theorem c_X4_machine (l : Launch) (D : va_G) (cA : Nat → ClassId) (H : Heap) (Ad : Nat → Nat → Nat) (f : Nat → SV) (o z : Nat) (tx : TV) (rt : (Nat → Int32) × (Nat → Int32)) (w : Nat) (hw : w < 9) (hP0 : va_P D vwCl (all cA Ad (f, ((nI o), (nI z)), tx, rt)) H) : RO l yX4_machine wsX4_machine ({ frames := 0, cells := 0, slots := 0, locals := 0 } : Room) D cA [.ref (Ad 10 0), .int (nI w)] H (some (.int (machS (f 0) w))) := by
  refine Met.ofW (cc := cX4_machine) (maxL := 2) (ret := (some .int)) (by decide) rfl ?_
  intro p e s m args below meth c s₁ B hml hv
  obtain ⟨rfl, hH, hKN⟩ := hv
  have hK := hKN.1
  have hx := B.exec
  have hb := B.bytes
  have hr := B.returns
  have hts := atoms_spec (ws := wsX4_machine) B.pre
  have hown : s.vm.findClass RX4 = some m.cls := findClass_of_methodNamed B.named
  have hlocks := B.notSynchronized
  subst hH
  have hH : s.heap = s.heap := rfl
  have hWP := hP0
  have hl := lv_entry ([.ref (Ad 10 0), .int (nI w)] : List Value) (n := 2) (Nat.le_of_ble_eq_true rfl)
  rw [lg_entry_eq]
  generalize (lg_sl ([.ref (Ad 10 0), .int (nI w)] : List Value) ++ List.replicate (2 - (lg_sl ([.ref (Ad 10 0), .int (nI w)] : List Value)).length) Slot.unset).toArray = ls at hl ⊢
  have hl : lv_has ls 2 [(0, .ref (Ad 10 0)), (1, .int (nI w))] := hl
  refine lv_iload_n hx hb dX4_machine_0 rfl (lv_at hl 1 rfl) ?_
  have hc_1 : w = 0 ∨ w = 1 ∨ w = 2 ∨ w = 3 ∨ w = 4 ∨ w = 5 ∨ w = 6 ∨ w = 7 ∨ w = 8 := (by omega)
  rcases hc_1 with rfl | rfl | rfl | rfl | rfl | rfl | rfl | rfl | rfl
  · refine lz_top (v := 0) rfl ?_
    refine lv_tableIn (tgt := 52) (off := 51) hx hb dX4_machine_1 (by decide) (by decide) rfl (by decide) ?_
    refine lv_aload_n hx hb dX4_machine_52 rfl (lv_at hl 0 rfl) ?_
    have hP : va_P D vwCl ((wLm cA Ad rt) ++ (rst cA Ad (f, ((nI o), (nI z)), tx, rt) 10)) s.heap := lw_fP 10 (by decide) hWP
    refine va_get (D := D) (ci := 4) (v := .ref (Ad 0 0)) (C := RX4) (T := TX4) (N := 7) hx hb hts iX4_machine_X4 hown hK hP 0 rfl rfl 0 (by decide) (hts _ mX4_machine_f10) (fun _ h9 => h9) rfl dX4_machine_53 ?_
    have hP : va_P D vwCl ((wSt cA (Ad 0) (f 0)) ++ (rst cA Ad (f, ((nI o), (nI z)), tx, rt) 0)) s.heap := lw_fP 0 (by decide) hWP
    refine va_get (D := D) (ci := 2) (v := .ref ((Ad 0) 5)) (C := RX2) (T := TX2) (N := 8) hx hb hts iX4_machine_X2 hown hK hP 0 rfl rfl 4 (by decide) (hts _ mX4_machine_f110) (fun _ h9 => h9) rfl dX4_machine_56 ?_
    refine va_get (D := D) (ci := 0) (v := .int ((f 0).2.2.2.2.2.2.2.2.2.1)) (C := RX0) (T := TX0) (N := 7) hx hb hts iX4_machine_X0 hown hK hP 5 rfl rfl 2 (by decide) (hts _ mX4_machine_f224) (fun _ h9 => h9) rfl dX4_machine_59 ?_
    exact ro_iret hx hb hr hlocks hH dX4_machine_62 rfl
  · refine lz_top (v := 1) rfl ?_
    refine lv_tableIn (tgt := 63) (off := 62) hx hb dX4_machine_1 (by decide) (by decide) rfl (by decide) ?_
    refine lv_aload_n hx hb dX4_machine_63 rfl (lv_at hl 0 rfl) ?_
    have hP : va_P D vwCl ((wLm cA Ad rt) ++ (rst cA Ad (f, ((nI o), (nI z)), tx, rt) 10)) s.heap := lw_fP 10 (by decide) hWP
    refine va_get (D := D) (ci := 4) (v := .ref (Ad 0 0)) (C := RX4) (T := TX4) (N := 7) hx hb hts iX4_machine_X4 hown hK hP 0 rfl rfl 0 (by decide) (hts _ mX4_machine_f10) (fun _ h9 => h9) rfl dX4_machine_64 ?_
    have hP : va_P D vwCl ((wSt cA (Ad 0) (f 0)) ++ (rst cA Ad (f, ((nI o), (nI z)), tx, rt) 0)) s.heap := lw_fP 0 (by decide) hWP
    refine va_get (D := D) (ci := 2) (v := .ref ((Ad 0) 5)) (C := RX2) (T := TX2) (N := 8) hx hb hts iX4_machine_X2 hown hK hP 0 rfl rfl 4 (by decide) (hts _ mX4_machine_f110) (fun _ h9 => h9) rfl dX4_machine_67 ?_
    refine va_get (D := D) (ci := 0) (v := .int ((f 0).2.2.2.2.2.2.2.2.2.2.1)) (C := RX0) (T := TX0) (N := 7) hx hb hts iX4_machine_X0 hown hK hP 5 rfl rfl 3 (by decide) (hts _ mX4_machine_f227) (fun _ h9 => h9) rfl dX4_machine_70 ?_
    exact ro_iret hx hb hr hlocks hH dX4_machine_73 rfl
  · refine lz_top (v := 2) rfl ?_
    refine lv_tableIn (tgt := 74) (off := 73) hx hb dX4_machine_1 (by decide) (by decide) rfl (by decide) ?_
    refine lv_aload_n hx hb dX4_machine_74 rfl (lv_at hl 0 rfl) ?_
    have hP : va_P D vwCl ((wLm cA Ad rt) ++ (rst cA Ad (f, ((nI o), (nI z)), tx, rt) 10)) s.heap := lw_fP 10 (by decide) hWP
    refine va_get (D := D) (ci := 4) (v := .ref (Ad 0 0)) (C := RX4) (T := TX4) (N := 7) hx hb hts iX4_machine_X4 hown hK hP 0 rfl rfl 0 (by decide) (hts _ mX4_machine_f10) (fun _ h9 => h9) rfl dX4_machine_75 ?_
    have hP : va_P D vwCl ((wSt cA (Ad 0) (f 0)) ++ (rst cA Ad (f, ((nI o), (nI z)), tx, rt) 0)) s.heap := lw_fP 0 (by decide) hWP
    refine va_get (D := D) (ci := 2) (v := .ref ((Ad 0) 5)) (C := RX2) (T := TX2) (N := 8) hx hb hts iX4_machine_X2 hown hK hP 0 rfl rfl 4 (by decide) (hts _ mX4_machine_f110) (fun _ h9 => h9) rfl dX4_machine_78 ?_
    refine va_get (D := D) (ci := 0) (v := .ref ((Ad 0) 6)) (C := RX0) (T := TX0) (N := 7) hx hb hts iX4_machine_X0 hown hK hP 5 rfl rfl 0 (by decide) (hts _ mX4_machine_f230) (fun _ h9 => h9) rfl dX4_machine_81 ?_
    refine lv_iload_n hx hb dX4_machine_84 rfl (lv_at hl 1 rfl) ?_
    refine lv_iconst (v := 2) hx hb dX4_machine_85 (by decide) ?_
    refine lz_isub (v := 0) hx hb dX4_machine_86 (by decide) ?_
    refine lz_iald (k := 0) (f := (f 0).2.2.2.2.2.2.2.1) hx hb hK hP 6 0 rfl rfl ⟨by decide, by decide⟩ dX4_machine_87 ?_
    exact ro_iret hx hb hr hlocks hH dX4_machine_88 rfl
  · refine lz_top (v := 3) rfl ?_
    refine lv_tableIn (tgt := 74) (off := 73) hx hb dX4_machine_1 (by decide) (by decide) rfl (by decide) ?_
    refine lv_aload_n hx hb dX4_machine_74 rfl (lv_at hl 0 rfl) ?_
    have hP : va_P D vwCl ((wLm cA Ad rt) ++ (rst cA Ad (f, ((nI o), (nI z)), tx, rt) 10)) s.heap := lw_fP 10 (by decide) hWP
    refine va_get (D := D) (ci := 4) (v := .ref (Ad 0 0)) (C := RX4) (T := TX4) (N := 7) hx hb hts iX4_machine_X4 hown hK hP 0 rfl rfl 0 (by decide) (hts _ mX4_machine_f10) (fun _ h9 => h9) rfl dX4_machine_75 ?_
    have hP : va_P D vwCl ((wSt cA (Ad 0) (f 0)) ++ (rst cA Ad (f, ((nI o), (nI z)), tx, rt) 0)) s.heap := lw_fP 0 (by decide) hWP
    refine va_get (D := D) (ci := 2) (v := .ref ((Ad 0) 5)) (C := RX2) (T := TX2) (N := 8) hx hb hts iX4_machine_X2 hown hK hP 0 rfl rfl 4 (by decide) (hts _ mX4_machine_f110) (fun _ h9 => h9) rfl dX4_machine_78 ?_
    refine va_get (D := D) (ci := 0) (v := .ref ((Ad 0) 6)) (C := RX0) (T := TX0) (N := 7) hx hb hts iX4_machine_X0 hown hK hP 5 rfl rfl 0 (by decide) (hts _ mX4_machine_f230) (fun _ h9 => h9) rfl dX4_machine_81 ?_
    refine lv_iload_n hx hb dX4_machine_84 rfl (lv_at hl 1 rfl) ?_
    refine lv_iconst (v := 2) hx hb dX4_machine_85 (by decide) ?_
    refine lz_isub (v := 1) hx hb dX4_machine_86 (by decide) ?_
    refine lz_iald (k := 1) (f := (f 0).2.2.2.2.2.2.2.1) hx hb hK hP 6 0 rfl rfl ⟨by decide, by decide⟩ dX4_machine_87 ?_
    exact ro_iret hx hb hr hlocks hH dX4_machine_88 rfl
  · refine lz_top (v := 4) rfl ?_
    refine lv_tableIn (tgt := 74) (off := 73) hx hb dX4_machine_1 (by decide) (by decide) rfl (by decide) ?_
    refine lv_aload_n hx hb dX4_machine_74 rfl (lv_at hl 0 rfl) ?_
    have hP : va_P D vwCl ((wLm cA Ad rt) ++ (rst cA Ad (f, ((nI o), (nI z)), tx, rt) 10)) s.heap := lw_fP 10 (by decide) hWP
    refine va_get (D := D) (ci := 4) (v := .ref (Ad 0 0)) (C := RX4) (T := TX4) (N := 7) hx hb hts iX4_machine_X4 hown hK hP 0 rfl rfl 0 (by decide) (hts _ mX4_machine_f10) (fun _ h9 => h9) rfl dX4_machine_75 ?_
    have hP : va_P D vwCl ((wSt cA (Ad 0) (f 0)) ++ (rst cA Ad (f, ((nI o), (nI z)), tx, rt) 0)) s.heap := lw_fP 0 (by decide) hWP
    refine va_get (D := D) (ci := 2) (v := .ref ((Ad 0) 5)) (C := RX2) (T := TX2) (N := 8) hx hb hts iX4_machine_X2 hown hK hP 0 rfl rfl 4 (by decide) (hts _ mX4_machine_f110) (fun _ h9 => h9) rfl dX4_machine_78 ?_
    refine va_get (D := D) (ci := 0) (v := .ref ((Ad 0) 6)) (C := RX0) (T := TX0) (N := 7) hx hb hts iX4_machine_X0 hown hK hP 5 rfl rfl 0 (by decide) (hts _ mX4_machine_f230) (fun _ h9 => h9) rfl dX4_machine_81 ?_
    refine lv_iload_n hx hb dX4_machine_84 rfl (lv_at hl 1 rfl) ?_
    refine lv_iconst (v := 2) hx hb dX4_machine_85 (by decide) ?_
    refine lz_isub (v := 2) hx hb dX4_machine_86 (by decide) ?_
    refine lz_iald (k := 2) (f := (f 0).2.2.2.2.2.2.2.1) hx hb hK hP 6 0 rfl rfl ⟨by decide, by decide⟩ dX4_machine_87 ?_
    exact ro_iret hx hb hr hlocks hH dX4_machine_88 rfl
  · refine lz_top (v := 5) rfl ?_
    refine lv_tableIn (tgt := 74) (off := 73) hx hb dX4_machine_1 (by decide) (by decide) rfl (by decide) ?_
    refine lv_aload_n hx hb dX4_machine_74 rfl (lv_at hl 0 rfl) ?_
    have hP : va_P D vwCl ((wLm cA Ad rt) ++ (rst cA Ad (f, ((nI o), (nI z)), tx, rt) 10)) s.heap := lw_fP 10 (by decide) hWP
    refine va_get (D := D) (ci := 4) (v := .ref (Ad 0 0)) (C := RX4) (T := TX4) (N := 7) hx hb hts iX4_machine_X4 hown hK hP 0 rfl rfl 0 (by decide) (hts _ mX4_machine_f10) (fun _ h9 => h9) rfl dX4_machine_75 ?_
    have hP : va_P D vwCl ((wSt cA (Ad 0) (f 0)) ++ (rst cA Ad (f, ((nI o), (nI z)), tx, rt) 0)) s.heap := lw_fP 0 (by decide) hWP
    refine va_get (D := D) (ci := 2) (v := .ref ((Ad 0) 5)) (C := RX2) (T := TX2) (N := 8) hx hb hts iX4_machine_X2 hown hK hP 0 rfl rfl 4 (by decide) (hts _ mX4_machine_f110) (fun _ h9 => h9) rfl dX4_machine_78 ?_
    refine va_get (D := D) (ci := 0) (v := .ref ((Ad 0) 6)) (C := RX0) (T := TX0) (N := 7) hx hb hts iX4_machine_X0 hown hK hP 5 rfl rfl 0 (by decide) (hts _ mX4_machine_f230) (fun _ h9 => h9) rfl dX4_machine_81 ?_
    refine lv_iload_n hx hb dX4_machine_84 rfl (lv_at hl 1 rfl) ?_
    refine lv_iconst (v := 2) hx hb dX4_machine_85 (by decide) ?_
    refine lz_isub (v := 3) hx hb dX4_machine_86 (by decide) ?_
    refine lz_iald (k := 3) (f := (f 0).2.2.2.2.2.2.2.1) hx hb hK hP 6 0 rfl rfl ⟨by decide, by decide⟩ dX4_machine_87 ?_
    exact ro_iret hx hb hr hlocks hH dX4_machine_88 rfl
  · refine lz_top (v := 6) rfl ?_
    refine lv_tableIn (tgt := 89) (off := 88) hx hb dX4_machine_1 (by decide) (by decide) rfl (by decide) ?_
    refine lv_aload_n hx hb dX4_machine_89 rfl (lv_at hl 0 rfl) ?_
    have hP : va_P D vwCl ((wLm cA Ad rt) ++ (rst cA Ad (f, ((nI o), (nI z)), tx, rt) 10)) s.heap := lw_fP 10 (by decide) hWP
    refine va_get (D := D) (ci := 4) (v := .ref (Ad 0 0)) (C := RX4) (T := TX4) (N := 7) hx hb hts iX4_machine_X4 hown hK hP 0 rfl rfl 0 (by decide) (hts _ mX4_machine_f10) (fun _ h9 => h9) rfl dX4_machine_90 ?_
    have hP : va_P D vwCl ((wSt cA (Ad 0) (f 0)) ++ (rst cA Ad (f, ((nI o), (nI z)), tx, rt) 0)) s.heap := lw_fP 0 (by decide) hWP
    refine va_get (D := D) (ci := 2) (v := .ref ((Ad 0) 5)) (C := RX2) (T := TX2) (N := 8) hx hb hts iX4_machine_X2 hown hK hP 0 rfl rfl 4 (by decide) (hts _ mX4_machine_f110) (fun _ h9 => h9) rfl dX4_machine_93 ?_
    refine va_get (D := D) (ci := 0) (v := .int ((f 0).2.2.2.2.2.2.2.2.2.2.2.1)) (C := RX0) (T := TX0) (N := 7) hx hb hts iX4_machine_X0 hown hK hP 5 rfl rfl 4 (by decide) (hts _ mX4_machine_f233) (fun _ h9 => h9) rfl dX4_machine_96 ?_
    refine lv_if_eq (tgt := 106) hx hb dX4_machine_99 (by decide) (fun c_99 => ?_) (fun c_99 => ?_)
    · refine lv_iconst (v := 0) hx hb dX4_machine_106 (by decide) ?_
      exact ro_iret hx hb hr hlocks hH dX4_machine_107 (by simp only [machS, c_99, if_true, if_false])
    · refine lv_iconst (v := 1) hx hb dX4_machine_102 (by decide) ?_
      refine lv_goto (tgt := 107) hx hb dX4_machine_103 (by decide) ?_
      exact ro_iret hx hb hr hlocks hH dX4_machine_107 (by simp only [machS, c_99, if_true, if_false])
  · refine lz_top (v := 7) rfl ?_
    refine lv_tableIn (tgt := 108) (off := 107) hx hb dX4_machine_1 (by decide) (by decide) rfl (by decide) ?_
    refine lv_aload_n hx hb dX4_machine_108 rfl (lv_at hl 0 rfl) ?_
    have hP : va_P D vwCl ((wLm cA Ad rt) ++ (rst cA Ad (f, ((nI o), (nI z)), tx, rt) 10)) s.heap := lw_fP 10 (by decide) hWP
    refine va_get (D := D) (ci := 4) (v := .ref (Ad 0 0)) (C := RX4) (T := TX4) (N := 7) hx hb hts iX4_machine_X4 hown hK hP 0 rfl rfl 0 (by decide) (hts _ mX4_machine_f10) (fun _ h9 => h9) rfl dX4_machine_109 ?_
    have hP : va_P D vwCl ((wSt cA (Ad 0) (f 0)) ++ (rst cA Ad (f, ((nI o), (nI z)), tx, rt) 0)) s.heap := lw_fP 0 (by decide) hWP
    refine va_get (D := D) (ci := 2) (v := .ref ((Ad 0) 5)) (C := RX2) (T := TX2) (N := 8) hx hb hts iX4_machine_X2 hown hK hP 0 rfl rfl 4 (by decide) (hts _ mX4_machine_f110) (fun _ h9 => h9) rfl dX4_machine_112 ?_
    refine va_get (D := D) (ci := 0) (v := .int ((f 0).2.2.2.2.2.2.2.2.2.2.2.2.1)) (C := RX0) (T := TX0) (N := 7) hx hb hts iX4_machine_X0 hown hK hP 5 rfl rfl 5 (by decide) (hts _ mX4_machine_f114) (fun _ h9 => h9) rfl dX4_machine_115 ?_
    exact ro_iret hx hb hr hlocks hH dX4_machine_118 rfl
  · refine lz_top (v := 8) rfl ?_
    refine lv_tableIn (tgt := 119) (off := 118) hx hb dX4_machine_1 (by decide) (by decide) rfl (by decide) ?_
    refine lv_aload_n hx hb dX4_machine_119 rfl (lv_at hl 0 rfl) ?_
    have hP : va_P D vwCl ((wLm cA Ad rt) ++ (rst cA Ad (f, ((nI o), (nI z)), tx, rt) 10)) s.heap := lw_fP 10 (by decide) hWP
    refine va_get (D := D) (ci := 4) (v := .ref (Ad 0 0)) (C := RX4) (T := TX4) (N := 7) hx hb hts iX4_machine_X4 hown hK hP 0 rfl rfl 0 (by decide) (hts _ mX4_machine_f10) (fun _ h9 => h9) rfl dX4_machine_120 ?_
    have hP : va_P D vwCl ((wSt cA (Ad 0) (f 0)) ++ (rst cA Ad (f, ((nI o), (nI z)), tx, rt) 0)) s.heap := lw_fP 0 (by decide) hWP
    refine va_get (D := D) (ci := 2) (v := .ref ((Ad 0) 5)) (C := RX2) (T := TX2) (N := 8) hx hb hts iX4_machine_X2 hown hK hP 0 rfl rfl 4 (by decide) (hts _ mX4_machine_f110) (fun _ h9 => h9) rfl dX4_machine_123 ?_
    refine va_get (D := D) (ci := 0) (v := .int ((f 0).2.2.2.2.2.2.2.2.2.2.2.2.2)) (C := RX0) (T := TX0) (N := 7) hx hb hts iX4_machine_X0 hown hK hP 5 rfl rfl 6 (by decide) (hts _ mX4_machine_f237) (fun _ h9 => h9) rfl dX4_machine_126 ?_
    exact ro_iret hx hb hr hlocks hH dX4_machine_129 rfl
theorem mX4_told_f10 : Cond.fieldLink RX4 10 "WireLoom" "now" "LWireLoom$State;" ∈ wsX4_told := by decide +kernel
theorem mX4_told_f110 : Cond.fieldLink RX4 110 "WireLoom$State" "machine" "LWireLoom$Machine;" ∈ wsX4_told := by decide +kernel
theorem mX4_told_f244 : Cond.fieldLink RX4 244 "WireLoom$Machine" "latest" "[I" ∈ wsX4_told := by decide +kernel
set_option maxRecDepth 20000 in
theorem iX4_told_X0 : ∀ w ∈ wsX00, w ∈ wsX4_told := by decide +kernel
set_option maxRecDepth 20000 in
theorem iX4_told_X2 : ∀ w ∈ wsX20, w ∈ wsX4_told := by decide +kernel
set_option maxRecDepth 20000 in
theorem iX4_told_X4 : ∀ w ∈ wsX40, w ∈ wsX4_told := by decide +kernel
set_option maxHeartbeats 4000000 in
set_option maxRecDepth 100000 in
theorem c_X4_told (l : Launch) (D : va_G) (cA : Nat → ClassId) (H : Heap) (Ad : Nat → Nat → Nat) (f : Nat → SV) (o z : Nat) (tx : TV) (rt : (Nat → Int32) × (Nat → Int32)) (w : Nat) (hw : w < 8) (hP0 : va_P D vwCl (all cA Ad (f, ((nI o), (nI z)), tx, rt)) H) : RO l yX4_told wsX4_told ({ frames := 1, cells := 0, slots := 0, locals := 22 } : Room) D cA [.ref (Ad 10 0), .int (nI w)] H (some (.int ((f 0).2.2.2.2.2.2.2.2.1 w))) := by
  refine Met.ofW (cc := cX4_told) (maxL := 2) (ret := (some .int)) (by decide) rfl ?_
  intro p e s m args below meth c s₁ B hml hv
  obtain ⟨rfl, hH, hKN⟩ := hv
  have hK := hKN.1
  have hx := B.exec
  have hb := B.bytes
  have hr := B.returns
  have hts := atoms_spec (ws := wsX4_told) B.pre
  have hown : s.vm.findClass RX4 = some m.cls := findClass_of_methodNamed B.named
  have hlocks := B.notSynchronized
  subst hH
  have hH : s.heap = s.heap := rfl
  have hWP := hP0
  have hl := lv_entry ([.ref (Ad 10 0), .int (nI w)] : List Value) (n := 2) (Nat.le_of_ble_eq_true rfl)
  rw [lg_entry_eq]
  generalize (lg_sl ([.ref (Ad 10 0), .int (nI w)] : List Value) ++ List.replicate (2 - (lg_sl ([.ref (Ad 10 0), .int (nI w)] : List Value)).length) Slot.unset).toArray = ls at hl ⊢
  have hl : lv_has ls 2 [(0, .ref (Ad 10 0)), (1, .int (nI w))] := hl
  refine lv_iload_n hx hb dX4_told_0 rfl (lv_at hl 1 rfl) ?_
  refine lv_iconst (v := 0) hx hb dX4_told_1 (by decide) ?_
  refine lv_bipush (v := 7) hx hb dX4_told_2 (by decide) ?_
  refine ro_S (As := [.int (nI w), .int 0, .int 7]) (rest := []) ⟨hx, hb, hml, hown, hts⟩ (c_X4_isWithin l D cA _ (nI w) 0 7) (cwS2 3 hts gX4_told_X4_isWithin rfl rfl rfl (by decide +kernel) ⟨Nat.le_of_ble_eq_true rfl, Nat.le_of_ble_eq_true rfl⟩) hKN rfl hl.1 rfl (lv_room (Nat.le_of_ble_eq_true rfl)) dX4_told_4 ⟨Nat.zero_le _, Nat.zero_le _⟩ ?_
  refine lz_top (v := 1) (inF_ok (k := w) (a := 0) (b := 7) (by omega) (by omega) (by decide)) ?_
  refine lv_if_ne (tgt := 20) hx hb dX4_told_7 (by decide) (fun _ => ?_) (fun h => absurd h (by decide))
  refine lv_aload_n hx hb dX4_told_20 rfl (lv_at hl 0 rfl) ?_
  have hP : va_P D vwCl ((wLm cA Ad rt) ++ (rst cA Ad (f, ((nI o), (nI z)), tx, rt) 10)) s.heap := lw_fP 10 (by decide) hWP
  refine va_get (D := D) (ci := 4) (v := .ref (Ad 0 0)) (C := RX4) (T := TX4) (N := 7) hx hb hts iX4_told_X4 hown hK hP 0 rfl rfl 0 (by decide) (hts _ mX4_told_f10) (fun _ h9 => h9) rfl dX4_told_21 ?_
  have hP : va_P D vwCl ((wSt cA (Ad 0) (f 0)) ++ (rst cA Ad (f, ((nI o), (nI z)), tx, rt) 0)) s.heap := lw_fP 0 (by decide) hWP
  refine va_get (D := D) (ci := 2) (v := .ref ((Ad 0) 5)) (C := RX2) (T := TX2) (N := 8) hx hb hts iX4_told_X2 hown hK hP 0 rfl rfl 4 (by decide) (hts _ mX4_told_f110) (fun _ h9 => h9) rfl dX4_told_24 ?_
  refine va_get (D := D) (ci := 0) (v := .ref ((Ad 0) 7)) (C := RX0) (T := TX0) (N := 7) hx hb hts iX4_told_X0 hown hK hP 5 rfl rfl 1 (by decide) (hts _ mX4_told_f244) (fun _ h9 => h9) rfl dX4_told_27 ?_
  refine lv_iload_n hx hb dX4_told_30 rfl (lv_at hl 1 rfl) ?_
  refine lz_iald (k := w) (f := (f 0).2.2.2.2.2.2.2.2.1) hx hb hK hP 7 0 rfl rfl ⟨by omega, by decide⟩ dX4_told_31 ?_
  exact ro_iret hx hb hr hlocks hH dX4_told_32 rfl
theorem mX4_setting_f10 : Cond.fieldLink RX4 10 "WireLoom" "now" "LWireLoom$State;" ∈ wsX4_setting := by decide +kernel
theorem mX4_setting_f104 : Cond.fieldLink RX4 104 "WireLoom$State" "settings" "[I" ∈ wsX4_setting := by decide +kernel
set_option maxRecDepth 20000 in
theorem iX4_setting_X2 : ∀ w ∈ wsX20, w ∈ wsX4_setting := by decide +kernel
set_option maxRecDepth 20000 in
theorem iX4_setting_X4 : ∀ w ∈ wsX40, w ∈ wsX4_setting := by decide +kernel
set_option maxHeartbeats 4000000 in
set_option maxRecDepth 100000 in
theorem c_X4_setting (l : Launch) (D : va_G) (cA : Nat → ClassId) (H : Heap) (Ad : Nat → Nat → Nat) (f : Nat → SV) (o z : Nat) (tx : TV) (rt : (Nat → Int32) × (Nat → Int32)) (w : Nat) (hw : w < 2) (hP0 : va_P D vwCl (all cA Ad (f, ((nI o), (nI z)), tx, rt)) H) : RO l yX4_setting wsX4_setting ({ frames := 2, cells := 0, slots := 0, locals := 42 } : Room) D cA [.ref (Ad 10 0), .int (nI w)] H (some (.int ((f 0).2.2.2.1 w))) := by
  refine Met.ofW (cc := cX4_setting) (maxL := 2) (ret := (some .int)) (by decide) rfl ?_
  intro p e s m args below meth c s₁ B hml hv
  obtain ⟨rfl, hH, hKN⟩ := hv
  have hK := hKN.1
  have hx := B.exec
  have hb := B.bytes
  have hr := B.returns
  have hts := atoms_spec (ws := wsX4_setting) B.pre
  have hown : s.vm.findClass RX4 = some m.cls := findClass_of_methodNamed B.named
  have hlocks := B.notSynchronized
  subst hH
  have hH : s.heap = s.heap := rfl
  have hWP := hP0
  have hl := lv_entry ([.ref (Ad 10 0), .int (nI w)] : List Value) (n := 2) (Nat.le_of_ble_eq_true rfl)
  rw [lg_entry_eq]
  generalize (lg_sl ([.ref (Ad 10 0), .int (nI w)] : List Value) ++ List.replicate (2 - (lg_sl ([.ref (Ad 10 0), .int (nI w)] : List Value)).length) Slot.unset).toArray = ls at hl ⊢
  have hl : lv_has ls 2 [(0, .ref (Ad 10 0)), (1, .int (nI w))] := hl
  refine lv_iload_n hx hb dX4_setting_0 rfl (lv_at hl 1 rfl) ?_
  refine ro_S (As := [.int (nI w)]) (rest := []) ⟨hx, hb, hml, hown, hts⟩ (c_X4_isSetting l D cA _ (nI w)) (cwS2 1 hts gX4_setting_X4_isSetting rfl rfl rfl (by decide +kernel) ⟨Nat.le_of_ble_eq_true rfl, Nat.le_of_ble_eq_true rfl⟩) hKN rfl hl.1 rfl (lv_room (Nat.le_of_ble_eq_true rfl)) dX4_setting_1 ⟨Nat.zero_le _, Nat.zero_le _⟩ ?_
  refine lz_top (v := 1) (inF_ok (k := w) (a := 0) (b := 1) (by omega) (by omega) (by decide)) ?_
  refine lv_if_ne (tgt := 17) hx hb dX4_setting_4 (by decide) (fun _ => ?_) (fun h => absurd h (by decide))
  refine lv_aload_n hx hb dX4_setting_17 rfl (lv_at hl 0 rfl) ?_
  have hP : va_P D vwCl ((wLm cA Ad rt) ++ (rst cA Ad (f, ((nI o), (nI z)), tx, rt) 10)) s.heap := lw_fP 10 (by decide) hWP
  refine va_get (D := D) (ci := 4) (v := .ref (Ad 0 0)) (C := RX4) (T := TX4) (N := 7) hx hb hts iX4_setting_X4 hown hK hP 0 rfl rfl 0 (by decide) (hts _ mX4_setting_f10) (fun _ h9 => h9) rfl dX4_setting_18 ?_
  have hP : va_P D vwCl ((wSt cA (Ad 0) (f 0)) ++ (rst cA Ad (f, ((nI o), (nI z)), tx, rt) 0)) s.heap := lw_fP 0 (by decide) hWP
  refine va_get (D := D) (ci := 2) (v := .ref ((Ad 0) 4)) (C := RX2) (T := TX2) (N := 8) hx hb hts iX4_setting_X2 hown hK hP 0 rfl rfl 3 (by decide) (hts _ mX4_setting_f104) (fun _ h9 => h9) rfl dX4_setting_21 ?_
  refine lv_iload_n hx hb dX4_setting_24 rfl (lv_at hl 1 rfl) ?_
  refine lz_iald (k := w) (f := (f 0).2.2.2.1) hx hb hK hP 4 0 rfl rfl ⟨by omega, by decide⟩ dX4_setting_25 ?_
  exact ro_iret hx hb hr hlocks hH dX4_setting_26 rfl
theorem mX4_lastsFor_f10 : Cond.fieldLink RX4 10 "WireLoom" "now" "LWireLoom$State;" ∈ wsX4_lastsFor := by decide +kernel
set_option maxRecDepth 20000 in
theorem iX4_lastsFor_X4 : ∀ w ∈ wsX40, w ∈ wsX4_lastsFor := by decide +kernel
set_option maxHeartbeats 4000000 in
set_option maxRecDepth 100000 in
theorem c_X4_lastsFor (l : Launch) (D : va_G) (cA : Nat → ClassId) (H : Heap) (Ad : Nat → Nat → Nat) (f : Nat → SV) (o z : Nat) (tx : TV) (rt : (Nat → Int32) × (Nat → Int32)) (t : Nat) (ht : t < 16) (hP0 : va_P D vwCl (all cA Ad (f, ((nI o), (nI z)), tx, rt)) H) : RO l yX4_lastsFor wsX4_lastsFor ({ frames := 2, cells := 0, slots := 0, locals := 46 } : Room) D cA [.ref (Ad 10 0), .int (nI t)] H (some (.int (rucS (f 0) t))) := by
  refine Met.ofW (cc := cX4_lastsFor) (maxL := 2) (ret := (some .int)) (by decide) rfl ?_
  intro p e s m args below meth c s₁ B hml hv
  obtain ⟨rfl, hH, hKN⟩ := hv
  have hK := hKN.1
  have hx := B.exec
  have hb := B.bytes
  have hr := B.returns
  have hts := atoms_spec (ws := wsX4_lastsFor) B.pre
  have hown : s.vm.findClass RX4 = some m.cls := findClass_of_methodNamed B.named
  have hlocks := B.notSynchronized
  subst hH
  have hH : s.heap = s.heap := rfl
  have hWP := hP0
  have hl := lv_entry ([.ref (Ad 10 0), .int (nI t)] : List Value) (n := 2) (Nat.le_of_ble_eq_true rfl)
  rw [lg_entry_eq]
  generalize (lg_sl ([.ref (Ad 10 0), .int (nI t)] : List Value) ++ List.replicate (2 - (lg_sl ([.ref (Ad 10 0), .int (nI t)] : List Value)).length) Slot.unset).toArray = ls at hl ⊢
  have hl : lv_has ls 2 [(0, .ref (Ad 10 0)), (1, .int (nI t))] := hl
  refine lv_iload_n hx hb dX4_lastsFor_0 rfl (lv_at hl 1 rfl) ?_
  refine ro_S (As := [.int (nI t)]) (rest := []) ⟨hx, hb, hml, hown, hts⟩ (c_X4_isThread l D cA _ (nI t)) (cwS2 1 hts gX4_lastsFor_X4_isThread rfl rfl rfl (by decide +kernel) ⟨Nat.le_of_ble_eq_true rfl, Nat.le_of_ble_eq_true rfl⟩) hKN rfl hl.1 rfl (lv_room (Nat.le_of_ble_eq_true rfl)) dX4_lastsFor_1 ⟨Nat.zero_le _, Nat.zero_le _⟩ ?_
  refine lz_top (v := 1) (inF_ok (k := t) (a := 0) (b := 15) (by omega) (by omega) (by decide)) ?_
  refine lv_if_ne (tgt := 17) hx hb dX4_lastsFor_4 (by decide) (fun _ => ?_) (fun h => absurd h (by decide))
  refine lv_aload_n hx hb dX4_lastsFor_17 rfl (lv_at hl 0 rfl) ?_
  have hP : va_P D vwCl ((wLm cA Ad rt) ++ (rst cA Ad (f, ((nI o), (nI z)), tx, rt) 10)) s.heap := lw_fP 10 (by decide) hWP
  refine va_get (D := D) (ci := 4) (v := .ref (Ad 0 0)) (C := RX4) (T := TX4) (N := 7) hx hb hts iX4_lastsFor_X4 hown hK hP 0 rfl rfl 0 (by decide) (hts _ mX4_lastsFor_f10) (fun _ h9 => h9) rfl dX4_lastsFor_18 ?_
  refine lv_iload_n hx hb dX4_lastsFor_21 rfl (lv_at hl 1 rfl) ?_
  have hP : va_P D vwCl ((wSt cA (Ad 0) (f 0)) ++ (rst cA Ad (f, ((nI o), (nI z)), tx, rt) 0)) s.heap := lw_fP 0 (by decide) hWP
  refine ro_V (ci := 2) (q0 := 0) (As := [.int (nI t)]) (rest := []) ⟨hx, hb, hml, hown, hts⟩ (c_X2_readingsUntilChange l D cA _ (Ad 0) (f 0) t (by omega) (va_P_l hP) ) (cwV 1 hts gX4_lastsFor_X2_readingsUntilChange rfl rfl rfl (by decide +kernel) ⟨Nat.le_of_ble_eq_true rfl, Nat.le_of_ble_eq_true rfl⟩) hKN hP rfl rfl rfl hl.1 rfl (lv_room (Nat.le_of_ble_eq_true rfl)) dX4_lastsFor_22 ⟨Nat.zero_le _, Nat.zero_le _⟩ ?_
  exact ro_iret hx hb hr hlocks hH dX4_lastsFor_25 rfl
