-- the reference's row: what is written to it
def capF (x : Int32) : Int32 := if x ≤ 99 then x else 99
def wrF (f : Nat → Int32) (b r : Nat) (x : Int32) : Nat → Int32 := upd f (b + 17 + r) (capF (f (b + 17 + r) + x))
def rdF (f : Nat → Int32) (b t : Nat) : Nat → Int32 := upd (upd f (b + 44 + t) (f (b + 44 + t) + 1)) (b + 61) ((upd f (b + 44 + t) (f (b + 44 + t) + 1)) (b + 61) + 1)
def stF (f : Nat → Int32) (b : Nat) : Nat → Int32 := upd (upd (upd (rdF f b 0) (b + 27) 1) (b + 34) ((upd (rdF f b 0) (b + 27) 1) (b + 34) + 1)) (b + 33) 0
def cpT (f : Nat → Int32) (a c n : Nat) : Nat → Int32 := fun j => if c ≤ j ∧ j < c + n then f (j - c + a) else f j
def layW (f : Nat → Int32) (b : Nat) (o : Int32) : Nat → Nat → Int32
  | 0 => f
  | k + 1 => wrF (layW f b o k) b k (if hasF o (nI k) = 0 then 0 else 2)
theorem layW_succ (f : Nat → Int32) (b : Nat) (o : Int32) (k : Nat) : layW f b o (k + 1) = wrF (layW f b o k) b k (if hasF o (nI k) = 0 then 0 else 2) := rfl
theorem upd_ne {f : Nat → Int32} {i j : Nat} {x : Int32} (h : j ≠ i) : upd f i x j = f j := if_neg h
theorem upd_eq {f : Nat → Int32} {i : Nat} {x : Int32} : upd f i x i = x := if_pos rfl
theorem upd_self (f : Nat → Int32) (i : Nat) : upd f i (f i) = f := by
  funext j
  unfold upd
  split
  · rename_i h
    rw [h]
  · rfl
theorem nI_m (a b : Nat) : nI a * nI b = nI (a * b) := (Int32.ofNat_mul a b).symm
theorem wr0 {f : Nat → Int32} {b r : Nat} (h : ZR f b) (hr : r < 8) : wrF f b r 0 = f := by
  unfold wrF
  rw [h.we r hr, show capF ((0 : Int32) + 0) = 0 from by decide, ← h.we r hr, upd_self]
theorem cpT_succ {f : Nat → Int32} {a c k : Nat} (h : a + 62 ≤ c ∨ c + 62 ≤ a) (hk : k < 62) : cpT f a c (k + 1) = upd (cpT f a c k) (c + k) (cpT f a c k (a + k)) := by
  funext j
  unfold upd cpT
  by_cases hj : j = c + k
  · rw [if_pos hj, if_pos (by omega), if_neg (by omega), hj]
    congr 1
    omega
  · rw [if_neg hj]
    by_cases h2 : c ≤ j ∧ j < c + k
    · rw [if_pos h2, if_pos (by omega)]
    · rw [if_neg h2, if_neg (by omega)]
theorem cpT_0 (f : Nat → Int32) (a c : Nat) : cpT f a c 0 = f := by
  funext j
  unfold cpT
  rw [if_neg (by omega)]
theorem FR.upd {f : Nat → Int32} {b i : Nat} {x : Int32} (h : FR f b) (hi : i < b ∨ b + 62 ≤ i) : FR (upd f i x) b := fun j hj => by rw [upd_ne (by omega)]; exact h j hj
theorem FR.to {f : Nat → Int32} {a : Nat} (c : Nat) (h : FR f a) : FR (cpT f a c 62) c := fun j hj => by
  unfold cpT
  rw [if_pos (by omega), show c + j - c + a = a + j by omega]
  exact h j hj
theorem FR.off {f : Nat → Int32} {a b c n : Nat} (h : FR f b) (hd : b + 62 ≤ c ∨ c + n ≤ b) : FR (cpT f a c n) b := fun j hj => by
  unfold cpT
  rw [if_neg (by omega)]
  exact h j hj
theorem FR.rd {f : Nat → Int32} {b t : Nat} (h : FR f 0) (hb : 62 ≤ b) : FR (rdF f b t) 0 := FR.upd (FR.upd h (by omega)) (by omega)
theorem FR.st {f : Nat → Int32} {b : Nat} (h : FR f 0) (hb : 62 ≤ b) : FR (stF f b) 0 := FR.upd (FR.upd (FR.upd (FR.rd h hb) (by omega)) (by omega)) (by omega)
theorem ZR.upd {f : Nat → Int32} {b i : Nat} {x : Int32} (h : ZR f b) (hi : i < b ∨ b + 27 ≤ i ∨ i = b + 16) : ZR (upd f i x) b :=
  ⟨fun j hj => by rw [upd_ne (by omega)]; exact h.th j hj, fun j hj => by rw [upd_ne (by omega)]; exact h.we j hj, by rw [upd_ne (by omega)]; exact h.s0, by rw [upd_ne (by omega)]; exact h.s1⟩
theorem ZR.rd {f : Nat → Int32} {b t : Nat} (h : ZR f b) : ZR (rdF f b t) b := ZR.upd (ZR.upd h (by omega)) (by omega)
theorem rd_27 {f : Nat → Int32} {b t : Nat} : rdF f b t (b + 27) = f (b + 27) := by unfold rdF; rw [upd_ne (by omega), upd_ne (by omega)]
theorem st_33 {f : Nat → Int32} {b : Nat} : stF f b (b + 33) = 0 := upd_eq
theorem st_27 {f : Nat → Int32} {b : Nat} : stF f b (b + 27) = 1 := by unfold stF; rw [upd_ne (by omega), upd_ne (by omega), upd_eq]
theorem st_ne {f : Nat → Int32} {b j : Nat} (h : j < b + 27 ∨ (b + 27 < j ∧ j < b + 33) ∨ (b + 34 < j ∧ j < b + 44)) : stF f b j = f j := by
  unfold stF rdF
  rw [upd_ne (by omega), upd_ne (by omega), upd_ne (by omega), upd_ne (by omega), upd_ne (by omega)]
theorem mX5_holds_f23 : Cond.fieldLink RX5 23 "WireLoomModel" "thrown" "I" ∈ wsX5_holds := by decide +kernel
set_option maxRecDepth 20000 in
theorem iX5_holds_X5 : ∀ w ∈ wsX50, w ∈ wsX5_holds := by decide +kernel
set_option maxHeartbeats 4000000 in
set_option maxRecDepth 100000 in
theorem c_X5_holds0 (l : Launch) (D : va_G) (cA : Nat → ClassId) (H : Heap) (a : Nat → Nat) (u : MDV) (hP0 : va_P D vwCl (wMd cA a u) H) (hD0 : va_D (fun _ => True) (wMd cA a u)) : MU l yX5_holds wsX5_holds ({ frames := 0, cells := 0, slots := 0, locals := 0 } : Room) D cA [.ref (a 0), .int 0] H (wMd cA a u) (wMd cA a (0, u.2.1, u.2.2.1, u.2.2.2.1, u.2.2.2.2.1, u.2.2.2.2.2.1, u.2.2.2.2.2.2.1, u.2.2.2.2.2.2.2.1, u.2.2.2.2.2.2.2.2.1, u.2.2.2.2.2.2.2.2.2)) (some (.int 1)) := by
  refine Met.ofW (cc := cX5_holds) (maxL := 2) (ret := (some .boolean)) (by decide) rfl ?_
  intro p e s m args below meth c s₁ B hml hv
  obtain ⟨rfl, hH, hKN⟩ := hv
  have hK := hKN.1
  have hx := B.exec
  have hb := B.bytes
  have hr := B.returns
  have hts := atoms_spec (ws := wsX5_holds) B.pre
  have hown : s.vm.findClass RX5 = some m.cls := findClass_of_methodNamed B.named
  have hlocks := B.notSynchronized
  subst hH
  have hD := hD0.self (sz := s.heap.size)
  generalize hAe : va_A (wMd cA a u) s.heap.size = A at hD ⊢
  have hA : ∀ q : Nat, s.heap.size ≤ q → A q := fun q h => by rw [← hAe]; exact Or.inr h
  have hS : va_S A s.heap s.heap [] := va_S.rf
  have hP : va_P D vwCl (wMd cA a u) s.heap := hP0
  have hl := lv_entry ([.ref (a 0), .int 0] : List Value) (n := 2) (Nat.le_of_ble_eq_true rfl)
  rw [lg_entry_eq]
  generalize (lg_sl ([.ref (a 0), .int 0] : List Value) ++ List.replicate (2 - (lg_sl ([.ref (a 0), .int 0] : List Value)).length) Slot.unset).toArray = ls at hl ⊢
  have hl : lv_has ls 2 [(0, .ref (a 0)), (1, .int 0)] := hl
  refine lv_aload_n hx hb dX5_holds_0 rfl (lv_at hl 0 rfl) ?_
  refine lv_iload_n hx hb dX5_holds_1 rfl (lv_at hl 1 rfl) ?_
  refine va_put (D := D) (ci := 5) (v := .int 0) (ty := .int) (C := RX5) (T := TX5) (N := 10) hx hb hts iX5_holds_X5 tyX5 tyX5_ok nmX5 hown hK hP hD hS 0 rfl rfl 0 (by decide) (hts _ mX5_holds_f23) (fun _ h9 => h9) rfl (by decide +kernel) rfl rfl (Nat.le_of_ble_eq_true rfl) dX5_holds_2 (fun H locs hP hD hS => ?_)
  have hP : va_P D vwCl (wMd cA a (0, u.2.1, u.2.2.1, u.2.2.2.1, u.2.2.2.2.1, u.2.2.2.2.2.1, u.2.2.2.2.2.2.1, u.2.2.2.2.2.2.2.1, u.2.2.2.2.2.2.2.2.1, u.2.2.2.2.2.2.2.2.2)) H := hP
  have hD : va_D A (wMd cA a (0, u.2.1, u.2.2.1, u.2.2.2.1, u.2.2.2.2.1, u.2.2.2.2.2.1, u.2.2.2.2.2.2.1, u.2.2.2.2.2.2.2.1, u.2.2.2.2.2.2.2.2.1, u.2.2.2.2.2.2.2.2.2)) := hD
  refine lv_iload_n hx hb dX5_holds_5 rfl (lv_at hl 1 rfl) ?_
  refine lv_if_ne (tgt := 13) hx hb dX5_holds_6 (by decide) (fun h => absurd (by decide) h) (fun _ => ?_)
  refine lv_iconst (v := 1) hx hb dX5_holds_9 (by decide) ?_
  refine lv_goto (tgt := 14) hx hb dX5_holds_10 (by decide) ?_
  exact mu_zret hx hb hr hlocks dX5_holds_14 hAe hS hP rfl rfl
set_option maxHeartbeats 4000000 in
set_option maxRecDepth 100000 in
theorem c_X5_holds1 (l : Launch) (D : va_G) (cA : Nat → ClassId) (H : Heap) (a : Nat → Nat) (u : MDV) (hP0 : va_P D vwCl (wMd cA a u) H) (hD0 : va_D (fun _ => True) (wMd cA a u)) : MU l yX5_holds wsX5_holds ({ frames := 0, cells := 0, slots := 0, locals := 0 } : Room) D cA [.ref (a 0), .int 1] H (wMd cA a u) (wMd cA a (1, u.2.1, u.2.2.1, u.2.2.2.1, u.2.2.2.2.1, u.2.2.2.2.2.1, u.2.2.2.2.2.2.1, u.2.2.2.2.2.2.2.1, u.2.2.2.2.2.2.2.2.1, u.2.2.2.2.2.2.2.2.2)) (some (.int 0)) := by
  refine Met.ofW (cc := cX5_holds) (maxL := 2) (ret := (some .boolean)) (by decide) rfl ?_
  intro p e s m args below meth c s₁ B hml hv
  obtain ⟨rfl, hH, hKN⟩ := hv
  have hK := hKN.1
  have hx := B.exec
  have hb := B.bytes
  have hr := B.returns
  have hts := atoms_spec (ws := wsX5_holds) B.pre
  have hown : s.vm.findClass RX5 = some m.cls := findClass_of_methodNamed B.named
  have hlocks := B.notSynchronized
  subst hH
  have hD := hD0.self (sz := s.heap.size)
  generalize hAe : va_A (wMd cA a u) s.heap.size = A at hD ⊢
  have hA : ∀ q : Nat, s.heap.size ≤ q → A q := fun q h => by rw [← hAe]; exact Or.inr h
  have hS : va_S A s.heap s.heap [] := va_S.rf
  have hP : va_P D vwCl (wMd cA a u) s.heap := hP0
  have hl := lv_entry ([.ref (a 0), .int 1] : List Value) (n := 2) (Nat.le_of_ble_eq_true rfl)
  rw [lg_entry_eq]
  generalize (lg_sl ([.ref (a 0), .int 1] : List Value) ++ List.replicate (2 - (lg_sl ([.ref (a 0), .int 1] : List Value)).length) Slot.unset).toArray = ls at hl ⊢
  have hl : lv_has ls 2 [(0, .ref (a 0)), (1, .int 1)] := hl
  refine lv_aload_n hx hb dX5_holds_0 rfl (lv_at hl 0 rfl) ?_
  refine lv_iload_n hx hb dX5_holds_1 rfl (lv_at hl 1 rfl) ?_
  refine va_put (D := D) (ci := 5) (v := .int 1) (ty := .int) (C := RX5) (T := TX5) (N := 10) hx hb hts iX5_holds_X5 tyX5 tyX5_ok nmX5 hown hK hP hD hS 0 rfl rfl 0 (by decide) (hts _ mX5_holds_f23) (fun _ h9 => h9) rfl (by decide +kernel) rfl rfl (Nat.le_of_ble_eq_true rfl) dX5_holds_2 (fun H locs hP hD hS => ?_)
  have hP : va_P D vwCl (wMd cA a (1, u.2.1, u.2.2.1, u.2.2.2.1, u.2.2.2.2.1, u.2.2.2.2.2.1, u.2.2.2.2.2.2.1, u.2.2.2.2.2.2.2.1, u.2.2.2.2.2.2.2.2.1, u.2.2.2.2.2.2.2.2.2)) H := hP
  have hD : va_D A (wMd cA a (1, u.2.1, u.2.2.1, u.2.2.2.1, u.2.2.2.2.1, u.2.2.2.2.2.1, u.2.2.2.2.2.2.1, u.2.2.2.2.2.2.2.1, u.2.2.2.2.2.2.2.2.1, u.2.2.2.2.2.2.2.2.2)) := hD
  refine lv_iload_n hx hb dX5_holds_5 rfl (lv_at hl 1 rfl) ?_
  refine lv_if_ne (tgt := 13) hx hb dX5_holds_6 (by decide) (fun _ => ?_) (fun h => absurd h (by decide))
  refine lv_iconst (v := 0) hx hb dX5_holds_13 (by decide) ?_
  exact mu_zret hx hb hr hlocks dX5_holds_14 hAe hS hP rfl rfl
set_option maxHeartbeats 4000000 in
set_option maxRecDepth 100000 in
theorem c_X5_holds2 (l : Launch) (D : va_G) (cA : Nat → ClassId) (H : Heap) (a : Nat → Nat) (u : MDV) (hP0 : va_P D vwCl (wMd cA a u) H) (hD0 : va_D (fun _ => True) (wMd cA a u)) : MU l yX5_holds wsX5_holds ({ frames := 0, cells := 0, slots := 0, locals := 0 } : Room) D cA [.ref (a 0), .int 2] H (wMd cA a u) (wMd cA a (2, u.2.1, u.2.2.1, u.2.2.2.1, u.2.2.2.2.1, u.2.2.2.2.2.1, u.2.2.2.2.2.2.1, u.2.2.2.2.2.2.2.1, u.2.2.2.2.2.2.2.2.1, u.2.2.2.2.2.2.2.2.2)) (some (.int 0)) := by
  refine Met.ofW (cc := cX5_holds) (maxL := 2) (ret := (some .boolean)) (by decide) rfl ?_
  intro p e s m args below meth c s₁ B hml hv
  obtain ⟨rfl, hH, hKN⟩ := hv
  have hK := hKN.1
  have hx := B.exec
  have hb := B.bytes
  have hr := B.returns
  have hts := atoms_spec (ws := wsX5_holds) B.pre
  have hown : s.vm.findClass RX5 = some m.cls := findClass_of_methodNamed B.named
  have hlocks := B.notSynchronized
  subst hH
  have hD := hD0.self (sz := s.heap.size)
  generalize hAe : va_A (wMd cA a u) s.heap.size = A at hD ⊢
  have hA : ∀ q : Nat, s.heap.size ≤ q → A q := fun q h => by rw [← hAe]; exact Or.inr h
  have hS : va_S A s.heap s.heap [] := va_S.rf
  have hP : va_P D vwCl (wMd cA a u) s.heap := hP0
  have hl := lv_entry ([.ref (a 0), .int 2] : List Value) (n := 2) (Nat.le_of_ble_eq_true rfl)
  rw [lg_entry_eq]
  generalize (lg_sl ([.ref (a 0), .int 2] : List Value) ++ List.replicate (2 - (lg_sl ([.ref (a 0), .int 2] : List Value)).length) Slot.unset).toArray = ls at hl ⊢
  have hl : lv_has ls 2 [(0, .ref (a 0)), (1, .int 2)] := hl
  refine lv_aload_n hx hb dX5_holds_0 rfl (lv_at hl 0 rfl) ?_
  refine lv_iload_n hx hb dX5_holds_1 rfl (lv_at hl 1 rfl) ?_
  refine va_put (D := D) (ci := 5) (v := .int 2) (ty := .int) (C := RX5) (T := TX5) (N := 10) hx hb hts iX5_holds_X5 tyX5 tyX5_ok nmX5 hown hK hP hD hS 0 rfl rfl 0 (by decide) (hts _ mX5_holds_f23) (fun _ h9 => h9) rfl (by decide +kernel) rfl rfl (Nat.le_of_ble_eq_true rfl) dX5_holds_2 (fun H locs hP hD hS => ?_)
  have hP : va_P D vwCl (wMd cA a (2, u.2.1, u.2.2.1, u.2.2.2.1, u.2.2.2.2.1, u.2.2.2.2.2.1, u.2.2.2.2.2.2.1, u.2.2.2.2.2.2.2.1, u.2.2.2.2.2.2.2.2.1, u.2.2.2.2.2.2.2.2.2)) H := hP
  have hD : va_D A (wMd cA a (2, u.2.1, u.2.2.1, u.2.2.2.1, u.2.2.2.2.1, u.2.2.2.2.2.1, u.2.2.2.2.2.2.1, u.2.2.2.2.2.2.2.1, u.2.2.2.2.2.2.2.2.1, u.2.2.2.2.2.2.2.2.2)) := hD
  refine lv_iload_n hx hb dX5_holds_5 rfl (lv_at hl 1 rfl) ?_
  refine lv_if_ne (tgt := 13) hx hb dX5_holds_6 (by decide) (fun _ => ?_) (fun h => absurd h (by decide))
  refine lv_iconst (v := 0) hx hb dX5_holds_13 (by decide) ?_
  exact mu_zret hx hb hr hlocks dX5_holds_14 hAe hS hP rfl rfl
theorem mX5_wears_f7 : Cond.fieldLink RX5 7 "WireLoomModel" "s" "[I" ∈ wsX5_wears := by decide +kernel
set_option maxRecDepth 20000 in
theorem iX5_wears_X5 : ∀ w ∈ wsX50, w ∈ wsX5_wears := by decide +kernel
set_option maxHeartbeats 4000000 in
set_option maxRecDepth 100000 in
theorem c_X5_wears (l : Launch) (D : va_G) (cA : Nat → ClassId) (H : Heap) (a : Nat → Nat) (u : MDV) (b : Nat) (hb5 : b ≤ 558) (r : Nat) (hr0 : r < 8) (x : Int32) (hP0 : va_P D vwCl (wMd cA a u) H) (hD0 : va_D (fun _ => True) (wMd cA a u)) : MU l yX5_wears wsX5_wears ({ frames := 0, cells := 0, slots := 0, locals := 0 } : Room) D cA [.ref (a 0), .int (nI b), .int (nI r), .int x] H (wMd cA a u) (wMd cA a (u.1, (wrF u.2.1 b r x), u.2.2.1, u.2.2.2.1, u.2.2.2.2.1, u.2.2.2.2.2.1, u.2.2.2.2.2.2.1, u.2.2.2.2.2.2.2.1, u.2.2.2.2.2.2.2.2.1, u.2.2.2.2.2.2.2.2.2)) none := by
  refine Met.ofW (cc := cX5_wears) (maxL := 5) (ret := none) (by decide) rfl ?_
  intro p e s m args below meth c s₁ B hml hv
  obtain ⟨rfl, hH, hKN⟩ := hv
  have hK := hKN.1
  have hx := B.exec
  have hb := B.bytes
  have hr := B.returns
  have hts := atoms_spec (ws := wsX5_wears) B.pre
  have hown : s.vm.findClass RX5 = some m.cls := findClass_of_methodNamed B.named
  have hlocks := B.notSynchronized
  subst hH
  have hD := hD0.self (sz := s.heap.size)
  generalize hAe : va_A (wMd cA a u) s.heap.size = A at hD ⊢
  have hA : ∀ q : Nat, s.heap.size ≤ q → A q := fun q h => by rw [← hAe]; exact Or.inr h
  have hS : va_S A s.heap s.heap [] := va_S.rf
  have hP : va_P D vwCl (wMd cA a u) s.heap := hP0
  have hl := lv_entry ([.ref (a 0), .int (nI b), .int (nI r), .int x] : List Value) (n := 5) (Nat.le_of_ble_eq_true rfl)
  rw [lg_entry_eq]
  generalize (lg_sl ([.ref (a 0), .int (nI b), .int (nI r), .int x] : List Value) ++ List.replicate (5 - (lg_sl ([.ref (a 0), .int (nI b), .int (nI r), .int x] : List Value)).length) Slot.unset).toArray = ls at hl ⊢
  have hl : lv_has ls 5 [(0, .ref (a 0)), (1, .int (nI b)), (2, .int (nI r)), (3, .int x)] := hl
  refine lv_aload_n hx hb dX5_wears_0 rfl (lv_at hl 0 rfl) ?_
  refine va_get (D := D) (ci := 5) (v := .ref (a 1)) (C := RX5) (T := TX5) (N := 10) hx hb hts iX5_wears_X5 hown hK hP 0 rfl rfl 1 (by decide) (hts _ mX5_wears_f7) (fun _ h9 => h9) rfl dX5_wears_1 ?_
  refine lv_iload_n hx hb dX5_wears_4 rfl (lv_at hl 1 rfl) ?_
  refine lv_bipush (v := 17) hx hb dX5_wears_5 (by decide) ?_
  refine lz_iadd (v := (nI (b + 17))) hx hb dX5_wears_7 (nI_add _ _) ?_
  refine lv_iload_n hx hb dX5_wears_8 rfl (lv_at hl 2 rfl) ?_
  refine lz_iadd (v := (nI ((b + 17) + r))) hx hb dX5_wears_9 (nI_add _ _) ?_
  refine lz_iald (k := ((b + 17) + r)) (f := u.2.1) hx hb hK hP 1 0 rfl rfl ⟨by omega, by decide⟩ dX5_wears_10 ?_
  refine lv_iload_n hx hb dX5_wears_11 rfl (lv_at hl 3 rfl) ?_
  refine lv_iadd hx hb dX5_wears_12 ?_
  refine lv_istore (lv' := [(4, .int ((u.2.1 ((b + 17) + r)) + x)), (0, .ref (a 0)), (1, .int (nI b)), (2, .int (nI r)), (3, .int x)]) hx hb dX5_wears_13 hl (by decide) rfl (fun ls hl => ?_)
  refine lv_aload_n hx hb dX5_wears_15 rfl (lv_at hl 1 rfl) ?_
  refine va_get (D := D) (ci := 5) (v := .ref (a 1)) (C := RX5) (T := TX5) (N := 10) hx hb hts iX5_wears_X5 hown hK hP 0 rfl rfl 1 (by decide) (hts _ mX5_wears_f7) (fun _ h9 => h9) rfl dX5_wears_16 ?_
  refine lv_iload_n hx hb dX5_wears_19 rfl (lv_at hl 2 rfl) ?_
  refine lv_bipush (v := 17) hx hb dX5_wears_20 (by decide) ?_
  refine lz_iadd (v := (nI (b + 17))) hx hb dX5_wears_22 (nI_add _ _) ?_
  refine lv_iload_n hx hb dX5_wears_23 rfl (lv_at hl 3 rfl) ?_
  refine lz_iadd (v := (nI ((b + 17) + r))) hx hb dX5_wears_24 (nI_add _ _) ?_
  refine lv_iload hx hb dX5_wears_25 (lv_at hl 0 rfl) ?_
  refine lv_bipush (v := 99) hx hb dX5_wears_27 (by decide) ?_
  refine lv_icmp_le (tgt := 37) hx hb dX5_wears_29 (by decide) (fun c_29 => ?_) (fun c_29 => ?_)
  · refine lv_iload hx hb dX5_wears_37 (lv_at hl 0 rfl) ?_
    refine lz_iast (k := ((b + 17) + r)) (f := u.2.1) hx hb hK hP hD hS 1 0 rfl rfl ⟨by omega, by decide⟩ dX5_wears_39 (fun H locs hP hD hS => ?_)
    have hP : va_P D vwCl (wMd cA a (u.1, (upd u.2.1 ((b + 17) + r) ((u.2.1 ((b + 17) + r)) + x)), u.2.2.1, u.2.2.2.1, u.2.2.2.2.1, u.2.2.2.2.2.1, u.2.2.2.2.2.2.1, u.2.2.2.2.2.2.2.1, u.2.2.2.2.2.2.2.2.1, u.2.2.2.2.2.2.2.2.2)) H := hP
    have hD : va_D A (wMd cA a (u.1, (upd u.2.1 ((b + 17) + r) ((u.2.1 ((b + 17) + r)) + x)), u.2.2.1, u.2.2.2.1, u.2.2.2.2.1, u.2.2.2.2.2.1, u.2.2.2.2.2.2.1, u.2.2.2.2.2.2.2.1, u.2.2.2.2.2.2.2.2.1, u.2.2.2.2.2.2.2.2.2)) := hD
    exact mu_vret hx hb hr hlocks dX5_wears_40 hAe hS (by have e9 : wrF u.2.1 b r x = (upd u.2.1 ((b + 17) + r) ((u.2.1 ((b + 17) + r)) + x)) := (by simp only [wrF, capF, c_29, if_true, if_false]); rw [e9]; exact hP)
  · refine lv_bipush (v := 99) hx hb dX5_wears_32 (by decide) ?_
    refine lv_goto (tgt := 39) hx hb dX5_wears_34 (by decide) ?_
    refine lz_iast (k := ((b + 17) + r)) (f := u.2.1) hx hb hK hP hD hS 1 0 rfl rfl ⟨by omega, by decide⟩ dX5_wears_39 (fun H locs hP hD hS => ?_)
    have hP : va_P D vwCl (wMd cA a (u.1, (upd u.2.1 ((b + 17) + r) 99), u.2.2.1, u.2.2.2.1, u.2.2.2.2.1, u.2.2.2.2.2.1, u.2.2.2.2.2.2.1, u.2.2.2.2.2.2.2.1, u.2.2.2.2.2.2.2.2.1, u.2.2.2.2.2.2.2.2.2)) H := hP
    have hD : va_D A (wMd cA a (u.1, (upd u.2.1 ((b + 17) + r) 99), u.2.2.1, u.2.2.2.1, u.2.2.2.2.1, u.2.2.2.2.2.1, u.2.2.2.2.2.2.1, u.2.2.2.2.2.2.2.1, u.2.2.2.2.2.2.2.2.1, u.2.2.2.2.2.2.2.2.2)) := hD
    exact mu_vret hx hb hr hlocks dX5_wears_40 hAe hS (by have e9 : wrF u.2.1 b r x = (upd u.2.1 ((b + 17) + r) 99) := (by simp only [wrF, capF, c_29, if_true, if_false]); rw [e9]; exact hP)
theorem mX5_reads_f7 : Cond.fieldLink RX5 7 "WireLoomModel" "s" "[I" ∈ wsX5_reads := by decide +kernel
set_option maxRecDepth 20000 in
theorem iX5_reads_X5 : ∀ w ∈ wsX50, w ∈ wsX5_reads := by decide +kernel
set_option maxHeartbeats 4000000 in
set_option maxRecDepth 100000 in
theorem c_X5_reads (l : Launch) (D : va_G) (cA : Nat → ClassId) (H : Heap) (a : Nat → Nat) (u : MDV) (b : Nat) (hb5 : b ≤ 558) (t : Nat) (ht : t < 16) (hZ : ZR u.2.1 b) (hP0 : va_P D vwCl (wMd cA a u) H) (hD0 : va_D (fun _ => True) (wMd cA a u)) : MU l yX5_reads wsX5_reads ({ frames := 6, cells := 0, slots := 0, locals := 145 } : Room) D cA [.ref (a 0), .int (nI b), .int (nI t)] H (wMd cA a u) (wMd cA a (u.1, (rdF u.2.1 b t), u.2.2.1, u.2.2.2.1, u.2.2.2.2.1, u.2.2.2.2.2.1, u.2.2.2.2.2.2.1, u.2.2.2.2.2.2.2.1, u.2.2.2.2.2.2.2.2.1, u.2.2.2.2.2.2.2.2.2)) (some (.int 0)) := by
  refine Met.ofW (cc := cX5_reads) (maxL := 5) (ret := (some .int)) (by decide) rfl ?_
  intro p e s m args below meth c s₁ B hml hv
  obtain ⟨rfl, hH, hKN⟩ := hv
  have hK := hKN.1
  have hx := B.exec
  have hb := B.bytes
  have hr := B.returns
  have hts := atoms_spec (ws := wsX5_reads) B.pre
  have hown : s.vm.findClass RX5 = some m.cls := findClass_of_methodNamed B.named
  have hlocks := B.notSynchronized
  subst hH
  have hD := hD0.self (sz := s.heap.size)
  generalize hAe : va_A (wMd cA a u) s.heap.size = A at hD ⊢
  have hA : ∀ q : Nat, s.heap.size ≤ q → A q := fun q h => by rw [← hAe]; exact Or.inr h
  have hS : va_S A s.heap s.heap [] := va_S.rf
  have hP : va_P D vwCl (wMd cA a u) s.heap := hP0
  have hl := lv_entry ([.ref (a 0), .int (nI b), .int (nI t)] : List Value) (n := 5) (Nat.le_of_ble_eq_true rfl)
  rw [lg_entry_eq]
  generalize (lg_sl ([.ref (a 0), .int (nI b), .int (nI t)] : List Value) ++ List.replicate (5 - (lg_sl ([.ref (a 0), .int (nI b), .int (nI t)] : List Value)).length) Slot.unset).toArray = ls at hl ⊢
  have hl : lv_has ls 5 [(0, .ref (a 0)), (1, .int (nI b)), (2, .int (nI t))] := hl
  refine lv_aload_n hx hb dX5_reads_0 rfl (lv_at hl 0 rfl) ?_
  refine lv_iload_n hx hb dX5_reads_1 rfl (lv_at hl 1 rfl) ?_
  refine lv_iload_n hx hb dX5_reads_2 rfl (lv_at hl 2 rfl) ?_
  refine ro_V (ci := 5) (q0 := 0) (As := [.int (nI b), .int (nI t)]) (rest := []) ⟨hx, hb, hml, hown, hts⟩ (c_X5_wordOf l D cA _ a u b (by omega) t (by omega) hZ hP) (cwV 2 hts gX5_reads_X5_wordOf rfl rfl rfl (by decide +kernel) ⟨Nat.le_of_ble_eq_true rfl, Nat.le_of_ble_eq_true rfl⟩) hKN hP rfl rfl rfl hl.1 rfl (lv_room (Nat.le_of_ble_eq_true rfl)) dX5_reads_3 ⟨Nat.zero_le _, Nat.zero_le _⟩ ?_
  refine lv_istore_n (lv' := [(3, .int 0), (0, .ref (a 0)), (1, .int (nI b)), (2, .int (nI t))]) hx hb dX5_reads_6 rfl hl (by decide) rfl (fun ls hl => ?_)
  refine lv_iconst (v := 0) hx hb dX5_reads_7 (by decide) ?_
  refine lv_istore (lv' := [(4, .int 0), (3, .int 0), (0, .ref (a 0)), (1, .int (nI b)), (2, .int (nI t))]) hx hb dX5_reads_8 hl (by decide) rfl (fun ls hl => ?_)
  have loop10 : ∀ (n10 k10 : Nat), k10 + n10 = 8 → ∀ (H : Heap) (locs : List Loc), va_P D vwCl (wMd cA a u) H → va_D A (wMd cA a u) → va_S A s.heap H locs → ∀ (ls : Array Slot), lv_has ls 5 [(4, .int (nI k10)), (3, .int 0), (0, .ref (a 0)), (1, .int (nI b)), (2, .int (nI t))] → W p l e ({ frames := 6, cells := 0, slots := 0, locals := 145 } : Room) s m ([.ref (a 0), .int (nI b), .int (nI t)] : List Value).toArray below meth c H locs 0 0 (MQ below (muQ D s.heap (wMd cA a u) (wMd cA a (u.1, (rdF u.2.1 b t), u.2.2.1, u.2.2.2.1, u.2.2.2.2.1, u.2.2.2.2.2.1, u.2.2.2.2.2.2.1, u.2.2.2.2.2.2.2.1, u.2.2.2.2.2.2.2.2.1, u.2.2.2.2.2.2.2.2.2)) (some (.int 0))) ([.ref (a 0), .int (nI b), .int (nI t)] : List Value).toArray s 0 0 A) (F0 m 10 ls []) := by
    intro n10
    induction n10 with
    | zero =>
      intro k10 hk10 H locs hP hD hS ls hl
      obtain rfl : 8 = k10 := by omega
      refine lv_iload hx hb dX5_reads_10 (lv_at hl 0 rfl) ?_
      refine lv_bipush (v := 8) hx hb dX5_reads_12 (by decide) ?_
      refine lv_icmp_ge (tgt := 51) hx hb dX5_reads_14 (by decide) (fun _ => ?_) (fun h => absurd (by decide) h)
      refine lv_aload_n hx hb dX5_reads_51 rfl (lv_at hl 2 rfl) ?_
      refine va_get (D := D) (ci := 5) (v := .ref (a 1)) (C := RX5) (T := TX5) (N := 10) hx hb hts iX5_reads_X5 hown hK hP 0 rfl rfl 1 (by decide) (hts _ mX5_reads_f7) (fun _ h9 => h9) rfl dX5_reads_52 ?_
      refine lv_iload_n hx hb dX5_reads_55 rfl (lv_at hl 3 rfl) ?_
      refine lv_bipush (v := 44) hx hb dX5_reads_56 (by decide) ?_
      refine lz_iadd (v := (nI (b + 44))) hx hb dX5_reads_58 (nI_add _ _) ?_
      refine lv_iload_n hx hb dX5_reads_59 rfl (lv_at hl 4 rfl) ?_
      refine lz_iadd (v := (nI ((b + 44) + t))) hx hb dX5_reads_60 (nI_add _ _) ?_
      refine lv_dup2_11 hx hb dX5_reads_61 rfl rfl ?_
      refine lz_iald (k := ((b + 44) + t)) (f := u.2.1) hx hb hK hP 1 0 rfl rfl ⟨by omega, by decide⟩ dX5_reads_62 ?_
      refine lv_iconst (v := 1) hx hb dX5_reads_63 (by decide) ?_
      refine lv_iadd hx hb dX5_reads_64 ?_
      refine lz_iast (k := ((b + 44) + t)) (f := u.2.1) hx hb hK hP hD hS 1 0 rfl rfl ⟨by omega, by decide⟩ dX5_reads_65 (fun H locs hP hD hS => ?_)
      have hP : va_P D vwCl (wMd cA a (u.1, (upd u.2.1 ((b + 44) + t) ((u.2.1 ((b + 44) + t)) + 1)), u.2.2.1, u.2.2.2.1, u.2.2.2.2.1, u.2.2.2.2.2.1, u.2.2.2.2.2.2.1, u.2.2.2.2.2.2.2.1, u.2.2.2.2.2.2.2.2.1, u.2.2.2.2.2.2.2.2.2)) H := hP
      have hD : va_D A (wMd cA a (u.1, (upd u.2.1 ((b + 44) + t) ((u.2.1 ((b + 44) + t)) + 1)), u.2.2.1, u.2.2.2.1, u.2.2.2.2.1, u.2.2.2.2.2.1, u.2.2.2.2.2.2.1, u.2.2.2.2.2.2.2.1, u.2.2.2.2.2.2.2.2.1, u.2.2.2.2.2.2.2.2.2)) := hD
      refine lv_aload_n hx hb dX5_reads_66 rfl (lv_at hl 2 rfl) ?_
      refine va_get (D := D) (ci := 5) (v := .ref (a 1)) (C := RX5) (T := TX5) (N := 10) hx hb hts iX5_reads_X5 hown hK hP 0 rfl rfl 1 (by decide) (hts _ mX5_reads_f7) (fun _ h9 => h9) rfl dX5_reads_67 ?_
      refine lv_iload_n hx hb dX5_reads_70 rfl (lv_at hl 3 rfl) ?_
      refine lv_bipush (v := 61) hx hb dX5_reads_71 (by decide) ?_
      refine lz_iadd (v := (nI (b + 61))) hx hb dX5_reads_73 (nI_add _ _) ?_
      refine lv_dup2_11 hx hb dX5_reads_74 rfl rfl ?_
      refine lz_iald (k := (b + 61)) (f := (upd u.2.1 ((b + 44) + t) ((u.2.1 ((b + 44) + t)) + 1))) hx hb hK hP 1 0 rfl rfl ⟨by omega, by decide⟩ dX5_reads_75 ?_
      refine lv_iconst (v := 1) hx hb dX5_reads_76 (by decide) ?_
      refine lv_iadd hx hb dX5_reads_77 ?_
      refine lz_iast (k := (b + 61)) (f := (upd u.2.1 ((b + 44) + t) ((u.2.1 ((b + 44) + t)) + 1))) hx hb hK hP hD hS 1 0 rfl rfl ⟨by omega, by decide⟩ dX5_reads_78 (fun H locs hP hD hS => ?_)
      have hP : va_P D vwCl (wMd cA a (u.1, (upd (upd u.2.1 ((b + 44) + t) ((u.2.1 ((b + 44) + t)) + 1)) (b + 61) (((upd u.2.1 ((b + 44) + t) ((u.2.1 ((b + 44) + t)) + 1)) (b + 61)) + 1)), u.2.2.1, u.2.2.2.1, u.2.2.2.2.1, u.2.2.2.2.2.1, u.2.2.2.2.2.2.1, u.2.2.2.2.2.2.2.1, u.2.2.2.2.2.2.2.2.1, u.2.2.2.2.2.2.2.2.2)) H := hP
      have hD : va_D A (wMd cA a (u.1, (upd (upd u.2.1 ((b + 44) + t) ((u.2.1 ((b + 44) + t)) + 1)) (b + 61) (((upd u.2.1 ((b + 44) + t) ((u.2.1 ((b + 44) + t)) + 1)) (b + 61)) + 1)), u.2.2.1, u.2.2.2.1, u.2.2.2.2.1, u.2.2.2.2.2.1, u.2.2.2.2.2.2.1, u.2.2.2.2.2.2.2.1, u.2.2.2.2.2.2.2.2.1, u.2.2.2.2.2.2.2.2.2)) := hD
      refine lv_iload_n hx hb dX5_reads_79 rfl (lv_at hl 1 rfl) ?_
      exact mu_iret hx hb hr hlocks dX5_reads_80 hAe hS hP rfl
    | succ n10 ih10 =>
      intro k10 hk10 H locs hP hD hS ls hl
      have hlt10 : k10 < 8 := by omega
      refine lv_iload hx hb dX5_reads_10 (lv_at hl 0 rfl) ?_
      refine lv_bipush (v := 8) hx hb dX5_reads_12 (by decide) ?_
      refine lv_icmp_ge (tgt := 51) hx hb dX5_reads_14 (by decide) (fun h => absurd h (nI_ge hlt10 (by first | decide | omega))) (fun _ => ?_)
      refine lv_aload_n hx hb dX5_reads_17 rfl (lv_at hl 2 rfl) ?_
      refine lv_iload_n hx hb dX5_reads_18 rfl (lv_at hl 3 rfl) ?_
      refine lv_iload hx hb dX5_reads_19 (lv_at hl 0 rfl) ?_
      refine lv_aload_n hx hb dX5_reads_21 rfl (lv_at hl 2 rfl) ?_
      refine va_get (D := D) (ci := 5) (v := .ref (a 1)) (C := RX5) (T := TX5) (N := 10) hx hb hts iX5_reads_X5 hown hK hP 0 rfl rfl 1 (by decide) (hts _ mX5_reads_f7) (fun _ h9 => h9) rfl dX5_reads_22 ?_
      refine lv_iload_n hx hb dX5_reads_25 rfl (lv_at hl 3 rfl) ?_
      refine lv_iload_n hx hb dX5_reads_26 rfl (lv_at hl 4 rfl) ?_
      refine lz_iadd (v := (nI (b + t))) hx hb dX5_reads_27 (nI_add _ _) ?_
      refine lz_iald (k := (b + t)) (f := u.2.1) hx hb hK hP 1 0 rfl rfl ⟨by omega, by decide⟩ dX5_reads_28 ?_
      refine lz_top (v := 0) (hZ.th t ht) ?_
      refine lv_iload hx hb dX5_reads_29 (lv_at hl 0 rfl) ?_
      refine ro_S (As := [.int 0, .int (nI k10)]) (rest := [.int (nI k10), .int (nI b), .ref (a 0)]) ⟨hx, hb, hml, hown, hts⟩ (c_X5_has0 l D cA _ (nI k10)) (cwS2 2 hts gX5_reads_X5_has rfl rfl rfl (by decide +kernel) ⟨Nat.le_of_ble_eq_true rfl, Nat.le_of_ble_eq_true rfl⟩) hKN rfl hl.1 rfl (lv_room (Nat.le_of_ble_eq_true rfl)) dX5_reads_31 ⟨Nat.zero_le _, Nat.zero_le _⟩ ?_
      refine lv_if_eq (tgt := 41) hx hb dX5_reads_34 (by decide) (fun _ => ?_) (fun h => absurd (by decide) h)
      refine lv_iconst (v := 0) hx hb dX5_reads_41 (by decide) ?_
      refine mu_V (ci := 5) (q0 := 0) (As := [.int (nI b), .int (nI k10), .int 0]) (rest := []) (ws' := (wMd cA a (u.1, (wrF u.2.1 b k10 0), u.2.2.1, u.2.2.2.1, u.2.2.2.2.1, u.2.2.2.2.2.1, u.2.2.2.2.2.2.1, u.2.2.2.2.2.2.2.1, u.2.2.2.2.2.2.2.2.1, u.2.2.2.2.2.2.2.2.2))) ⟨hx, hb, hml, hown, hts⟩ (c_X5_wears l D cA _ a u b (by omega) k10 (by omega) 0 hP (hD.weaken (fun _ _ _ _ => trivial))) (cwV 3 hts gX5_reads_X5_wears rfl rfl rfl (by decide +kernel) ⟨Nat.le_of_ble_eq_true rfl, Nat.le_of_ble_eq_true rfl⟩) hKN hP hD hS hA rfl rfl [0, 1, 2, 3, 4] rfl ((wMd_fst _ _ _).trans (wMd_fst _ _ _).symm) rfl rfl hl.1 rfl (lv_room (Nat.le_of_ble_eq_true rfl)) dX5_reads_42 ⟨Nat.zero_le _, Nat.zero_le _⟩ (fun H locs hP hD hS => ?_)
      rw [wr0 hZ (by omega)] at hP hD
      have hP : va_P D vwCl (wMd cA a u) H := hP
      have hD : va_D A (wMd cA a u) := hD
      refine lv_iinc (v := (nI (k10 + 1))) (lv' := [(4, .int (nI (k10 + 1))), (3, .int 0), (0, .ref (a 0)), (1, .int (nI b)), (2, .int (nI t))]) hx hb dX5_reads_45 hl (k := 0) rfl (nI_1 _) (by decide) rfl (fun ls hl => ?_)
      refine lv_goto (tgt := 10) hx hb dX5_reads_48 (by decide) ?_
      exact ih10 (k10 + 1) (by omega) _ _ hP hD hS ls (lv_sub hl [0, 1, 2, 3, 4] rfl)
  exact loop10 8 0 (by omega) _ _ hP hD hS ls (lv_sub hl [0, 1, 2, 3, 4] rfl)
theorem mX5_copies_f7 : Cond.fieldLink RX5 7 "WireLoomModel" "s" "[I" ∈ wsX5_copies := by decide +kernel
set_option maxRecDepth 20000 in
theorem iX5_copies_X5 : ∀ w ∈ wsX50, w ∈ wsX5_copies := by decide +kernel
set_option maxHeartbeats 4000000 in
set_option maxRecDepth 100000 in
theorem c_X5_copies (l : Launch) (D : va_G) (cA : Nat → ClassId) (H : Heap) (a : Nat → Nat) (u : MDV) (fr to : Nat) (hfr : fr ≤ 9) (hto : to ≤ 9) (hne : fr + 1 ≤ to ∨ to + 1 ≤ fr) (hP0 : va_P D vwCl (wMd cA a u) H) (hD0 : va_D (fun _ => True) (wMd cA a u)) : MU l yX5_copies wsX5_copies ({ frames := 0, cells := 0, slots := 0, locals := 0 } : Room) D cA [.ref (a 0), .int (nI fr), .int (nI to)] H (wMd cA a u) (wMd cA a (u.1, (cpT u.2.1 (62 * fr) (62 * to) 62), u.2.2.1, u.2.2.2.1, u.2.2.2.2.1, u.2.2.2.2.2.1, u.2.2.2.2.2.2.1, u.2.2.2.2.2.2.2.1, u.2.2.2.2.2.2.2.2.1, u.2.2.2.2.2.2.2.2.2)) none := by
  refine Met.ofW (cc := cX5_copies) (maxL := 4) (ret := none) (by decide) rfl ?_
  intro p e s m args below meth c s₁ B hml hv
  obtain ⟨rfl, hH, hKN⟩ := hv
  have hK := hKN.1
  have hx := B.exec
  have hb := B.bytes
  have hr := B.returns
  have hts := atoms_spec (ws := wsX5_copies) B.pre
  have hown : s.vm.findClass RX5 = some m.cls := findClass_of_methodNamed B.named
  have hlocks := B.notSynchronized
  subst hH
  have hD := hD0.self (sz := s.heap.size)
  generalize hAe : va_A (wMd cA a u) s.heap.size = A at hD ⊢
  have hA : ∀ q : Nat, s.heap.size ≤ q → A q := fun q h => by rw [← hAe]; exact Or.inr h
  have hS : va_S A s.heap s.heap [] := va_S.rf
  have hP : va_P D vwCl (wMd cA a u) s.heap := hP0
  have hl := lv_entry ([.ref (a 0), .int (nI fr), .int (nI to)] : List Value) (n := 4) (Nat.le_of_ble_eq_true rfl)
  rw [lg_entry_eq]
  generalize (lg_sl ([.ref (a 0), .int (nI fr), .int (nI to)] : List Value) ++ List.replicate (4 - (lg_sl ([.ref (a 0), .int (nI fr), .int (nI to)] : List Value)).length) Slot.unset).toArray = ls at hl ⊢
  have hl : lv_has ls 4 [(0, .ref (a 0)), (1, .int (nI fr)), (2, .int (nI to))] := hl
  refine lv_iconst (v := 0) hx hb dX5_copies_0 (by decide) ?_
  refine lv_istore_n (lv' := [(3, .int 0), (0, .ref (a 0)), (1, .int (nI fr)), (2, .int (nI to))]) hx hb dX5_copies_1 rfl hl (by decide) rfl (fun ls hl => ?_)
  have loop2 : ∀ (n2 k2 : Nat), k2 + n2 = 62 → ∀ (H : Heap) (locs : List Loc), va_P D vwCl (wMd cA a (u.1, (cpT u.2.1 (62 * fr) (62 * to) k2), u.2.2.1, u.2.2.2.1, u.2.2.2.2.1, u.2.2.2.2.2.1, u.2.2.2.2.2.2.1, u.2.2.2.2.2.2.2.1, u.2.2.2.2.2.2.2.2.1, u.2.2.2.2.2.2.2.2.2)) H → va_D A (wMd cA a (u.1, (cpT u.2.1 (62 * fr) (62 * to) k2), u.2.2.1, u.2.2.2.1, u.2.2.2.2.1, u.2.2.2.2.2.1, u.2.2.2.2.2.2.1, u.2.2.2.2.2.2.2.1, u.2.2.2.2.2.2.2.2.1, u.2.2.2.2.2.2.2.2.2)) → va_S A s.heap H locs → ∀ (ls : Array Slot), lv_has ls 4 [(3, .int (nI k2)), (0, .ref (a 0)), (1, .int (nI fr)), (2, .int (nI to))] → W p l e ({ frames := 0, cells := 0, slots := 0, locals := 0 } : Room) s m ([.ref (a 0), .int (nI fr), .int (nI to)] : List Value).toArray below meth c H locs 0 0 (MQ below (muQ D s.heap (wMd cA a u) (wMd cA a (u.1, (cpT u.2.1 (62 * fr) (62 * to) 62), u.2.2.1, u.2.2.2.1, u.2.2.2.2.1, u.2.2.2.2.2.1, u.2.2.2.2.2.2.1, u.2.2.2.2.2.2.2.1, u.2.2.2.2.2.2.2.2.1, u.2.2.2.2.2.2.2.2.2)) none) ([.ref (a 0), .int (nI fr), .int (nI to)] : List Value).toArray s 0 0 A) (F0 m 2 ls []) := by
    intro n2
    induction n2 with
    | zero =>
      intro k2 hk2 H locs hP hD hS ls hl
      obtain rfl : 62 = k2 := by omega
      refine lv_iload_n hx hb dX5_copies_2 rfl (lv_at hl 0 rfl) ?_
      refine lv_bipush (v := 62) hx hb dX5_copies_3 (by decide) ?_
      refine lv_icmp_ge (tgt := 36) hx hb dX5_copies_5 (by decide) (fun _ => ?_) (fun h => absurd (by decide) h)
      exact mu_vret hx hb hr hlocks dX5_copies_36 hAe hS hP
    | succ n2 ih2 =>
      intro k2 hk2 H locs hP hD hS ls hl
      have hlt2 : k2 < 62 := by omega
      refine lv_iload_n hx hb dX5_copies_2 rfl (lv_at hl 0 rfl) ?_
      refine lv_bipush (v := 62) hx hb dX5_copies_3 (by decide) ?_
      refine lv_icmp_ge (tgt := 36) hx hb dX5_copies_5 (by decide) (fun h => absurd h (nI_ge hlt2 (by first | decide | omega))) (fun _ => ?_)
      refine lv_aload_n hx hb dX5_copies_8 rfl (lv_at hl 1 rfl) ?_
      refine va_get (D := D) (ci := 5) (v := .ref (a 1)) (C := RX5) (T := TX5) (N := 10) hx hb hts iX5_copies_X5 hown hK hP 0 rfl rfl 1 (by decide) (hts _ mX5_copies_f7) (fun _ h9 => h9) rfl dX5_copies_9 ?_
      refine lv_bipush (v := 62) hx hb dX5_copies_12 (by decide) ?_
      refine lv_iload_n hx hb dX5_copies_14 rfl (lv_at hl 3 rfl) ?_
      refine lz_imul (v := (nI (62 * to))) hx hb dX5_copies_15 (nI_m 62 to) ?_
      refine lv_iload_n hx hb dX5_copies_16 rfl (lv_at hl 0 rfl) ?_
      refine lz_iadd (v := (nI ((62 * to) + k2))) hx hb dX5_copies_17 (nI_add _ _) ?_
      refine lv_aload_n hx hb dX5_copies_18 rfl (lv_at hl 1 rfl) ?_
      refine va_get (D := D) (ci := 5) (v := .ref (a 1)) (C := RX5) (T := TX5) (N := 10) hx hb hts iX5_copies_X5 hown hK hP 0 rfl rfl 1 (by decide) (hts _ mX5_copies_f7) (fun _ h9 => h9) rfl dX5_copies_19 ?_
      refine lv_bipush (v := 62) hx hb dX5_copies_22 (by decide) ?_
      refine lv_iload_n hx hb dX5_copies_24 rfl (lv_at hl 2 rfl) ?_
      refine lz_imul (v := (nI (62 * fr))) hx hb dX5_copies_25 (nI_m 62 fr) ?_
      refine lv_iload_n hx hb dX5_copies_26 rfl (lv_at hl 0 rfl) ?_
      refine lz_iadd (v := (nI ((62 * fr) + k2))) hx hb dX5_copies_27 (nI_add _ _) ?_
      refine lz_iald (k := ((62 * fr) + k2)) (f := (cpT u.2.1 (62 * fr) (62 * to) k2)) hx hb hK hP 1 0 rfl rfl ⟨by omega, by decide⟩ dX5_copies_28 ?_
      refine lz_iast (k := ((62 * to) + k2)) (f := (cpT u.2.1 (62 * fr) (62 * to) k2)) hx hb hK hP hD hS 1 0 rfl rfl ⟨by omega, by decide⟩ dX5_copies_29 (fun H locs hP hD hS => ?_)
      have hP : va_P D vwCl (wMd cA a (u.1, (upd (cpT u.2.1 (62 * fr) (62 * to) k2) ((62 * to) + k2) ((cpT u.2.1 (62 * fr) (62 * to) k2) ((62 * fr) + k2))), u.2.2.1, u.2.2.2.1, u.2.2.2.2.1, u.2.2.2.2.2.1, u.2.2.2.2.2.2.1, u.2.2.2.2.2.2.2.1, u.2.2.2.2.2.2.2.2.1, u.2.2.2.2.2.2.2.2.2)) H := hP
      have hD : va_D A (wMd cA a (u.1, (upd (cpT u.2.1 (62 * fr) (62 * to) k2) ((62 * to) + k2) ((cpT u.2.1 (62 * fr) (62 * to) k2) ((62 * fr) + k2))), u.2.2.1, u.2.2.2.1, u.2.2.2.2.1, u.2.2.2.2.2.1, u.2.2.2.2.2.2.1, u.2.2.2.2.2.2.2.1, u.2.2.2.2.2.2.2.2.1, u.2.2.2.2.2.2.2.2.2)) := hD
      refine lv_iinc (v := (nI (k2 + 1))) (lv' := [(3, .int (nI (k2 + 1))), (0, .ref (a 0)), (1, .int (nI fr)), (2, .int (nI to))]) hx hb dX5_copies_30 hl (k := 0) rfl (nI_1 _) (by decide) rfl (fun ls hl => ?_)
      refine lv_goto (tgt := 2) hx hb dX5_copies_33 (by decide) ?_
      have e_1 : (cpT u.2.1 (62 * fr) (62 * to) (k2 + 1)) = (upd (cpT u.2.1 (62 * fr) (62 * to) k2) ((62 * to) + k2) ((cpT u.2.1 (62 * fr) (62 * to) k2) ((62 * fr) + k2))) := (cpT_succ (by omega) (by omega))
      exact ih2 (k2 + 1) (by omega) _ _ (by rw [e_1]; exact hP) (by rw [e_1]; exact hD) hS ls (lv_sub hl [0, 1, 2, 3] rfl)
  exact loop2 62 0 (by omega) _ _ (by rw [cpT_0]; exact hP) (by rw [cpT_0]; exact hD) hS ls (lv_sub hl [0, 1, 2, 3] rfl)
theorem mX5_digit_f108 : Cond.fieldLink RX5 108 "WireLoomModel" "at" "I" ∈ wsX5_digit := by decide +kernel
theorem mX5_digit_f105 : Cond.fieldLink RX5 105 "WireLoomModel" "length" "I" ∈ wsX5_digit := by decide +kernel
set_option maxRecDepth 20000 in
theorem iX5_digit_X5 : ∀ w ∈ wsX50, w ∈ wsX5_digit := by decide +kernel
set_option maxHeartbeats 4000000 in
set_option maxRecDepth 100000 in
theorem c_X5_digit (l : Launch) (D : va_G) (cA : Nat → ClassId) (H : Heap) (a : Nat → Nat) (th : Int32) (f kp tx wo : Nat → Int32) (hs : Int64) (hP0 : va_P D vwCl (wMd cA a (th, f, 0, kp, tx, 0, wo, 0, 0, hs)) H) (hD0 : va_D (fun _ => True) (wMd cA a (th, f, 0, kp, tx, 0, wo, 0, 0, hs))) : MU l yX5_digit wsX5_digit ({ frames := 1, cells := 0, slots := 0, locals := 22 } : Room) D cA [.ref (a 0)] H (wMd cA a (th, f, 0, kp, tx, 0, wo, 0, 0, hs)) (wMd cA a (th, f, 0, kp, tx, 0, wo, 0, 0, hs)) (some (.int (-1))) := by
  refine Met.ofW (cc := cX5_digit) (maxL := 3) (ret := (some .int)) (by decide) rfl ?_
  intro p e s m args below meth c s₁ B hml hv
  obtain ⟨rfl, hH, hKN⟩ := hv
  have hK := hKN.1
  have hx := B.exec
  have hb := B.bytes
  have hr := B.returns
  have hts := atoms_spec (ws := wsX5_digit) B.pre
  have hown : s.vm.findClass RX5 = some m.cls := findClass_of_methodNamed B.named
  have hlocks := B.notSynchronized
  subst hH
  have hD := hD0.self (sz := s.heap.size)
  generalize hAe : va_A (wMd cA a (th, f, 0, kp, tx, 0, wo, 0, 0, hs)) s.heap.size = A at hD ⊢
  have hA : ∀ q : Nat, s.heap.size ≤ q → A q := fun q h => by rw [← hAe]; exact Or.inr h
  have hS : va_S A s.heap s.heap [] := va_S.rf
  have hP : va_P D vwCl (wMd cA a (th, f, 0, kp, tx, 0, wo, 0, 0, hs)) s.heap := hP0
  have hl := lv_entry ([.ref (a 0)] : List Value) (n := 3) (Nat.le_of_ble_eq_true rfl)
  rw [lg_entry_eq]
  generalize (lg_sl ([.ref (a 0)] : List Value) ++ List.replicate (3 - (lg_sl ([.ref (a 0)] : List Value)).length) Slot.unset).toArray = ls at hl ⊢
  have hl : lv_has ls 3 [(0, .ref (a 0))] := hl
  refine lv_aload_n hx hb dX5_digit_0 rfl (lv_at hl 0 rfl) ?_
  refine va_get (D := D) (ci := 5) (v := .int 0) (C := RX5) (T := TX5) (N := 10) hx hb hts iX5_digit_X5 hown hK hP 0 rfl rfl 8 (by decide) (hts _ mX5_digit_f108) (fun _ h9 => h9) rfl dX5_digit_1 ?_
  refine lv_aload_n hx hb dX5_digit_4 rfl (lv_at hl 0 rfl) ?_
  refine va_get (D := D) (ci := 5) (v := .int 0) (C := RX5) (T := TX5) (N := 10) hx hb hts iX5_digit_X5 hown hK hP 0 rfl rfl 5 (by decide) (hts _ mX5_digit_f105) (fun _ h9 => h9) rfl dX5_digit_5 ?_
  refine lv_icmp_ge (tgt := 23) hx hb dX5_digit_8 (by decide) (fun _ => ?_) (fun h => absurd (by decide) h)
  refine lv_iconst (v := 0) hx hb dX5_digit_23 (by decide) ?_
  refine lv_istore_n (lv' := [(1, .int 0), (0, .ref (a 0))]) hx hb dX5_digit_24 rfl hl (by decide) rfl (fun ls hl => ?_)
  refine lv_iload_n hx hb dX5_digit_25 rfl (lv_at hl 0 rfl) ?_
  refine lv_bipush (v := 48) hx hb dX5_digit_26 (by decide) ?_
  refine lv_bipush (v := 57) hx hb dX5_digit_28 (by decide) ?_
  refine ro_S (As := [.int 0, .int 48, .int 57]) (rest := []) ⟨hx, hb, hml, hown, hts⟩ (c_X5_in l D cA _ 0 48 57) (cwS2 3 hts gX5_digit_X5_in rfl rfl rfl (by decide +kernel) ⟨Nat.le_of_ble_eq_true rfl, Nat.le_of_ble_eq_true rfl⟩) hKN rfl hl.1 rfl (lv_room (Nat.le_of_ble_eq_true rfl)) dX5_digit_30 ⟨Nat.zero_le _, Nat.zero_le _⟩ ?_
  refine lz_top (v := 0) (by decide) ?_
  refine lv_if_eq (tgt := 43) hx hb dX5_digit_33 (by decide) (fun _ => ?_) (fun h => absurd (by decide) h)
  refine lv_iload_n hx hb dX5_digit_43 rfl (lv_at hl 0 rfl) ?_
  refine lv_bipush (v := 97) hx hb dX5_digit_44 (by decide) ?_
  refine lv_bipush (v := 102) hx hb dX5_digit_46 (by decide) ?_
  refine ro_S (As := [.int 0, .int 97, .int 102]) (rest := []) ⟨hx, hb, hml, hown, hts⟩ (c_X5_in l D cA _ 0 97 102) (cwS2 3 hts gX5_digit_X5_in rfl rfl rfl (by decide +kernel) ⟨Nat.le_of_ble_eq_true rfl, Nat.le_of_ble_eq_true rfl⟩) hKN rfl hl.1 rfl (lv_room (Nat.le_of_ble_eq_true rfl)) dX5_digit_48 ⟨Nat.zero_le _, Nat.zero_le _⟩ ?_
  refine lz_top (v := 0) (by decide) ?_
  refine lv_if_eq (tgt := 64) hx hb dX5_digit_51 (by decide) (fun _ => ?_) (fun h => absurd (by decide) h)
  refine lv_iconst (v := (-1)) hx hb dX5_digit_64 (by decide) ?_
  refine lv_istore_n (lv' := [(2, .int (-1)), (1, .int 0), (0, .ref (a 0))]) hx hb dX5_digit_65 rfl hl (by decide) rfl (fun ls hl => ?_)
  refine lv_aload_n hx hb dX5_digit_66 rfl (lv_at hl 2 rfl) ?_
  refine lv_dup hx hb dX5_digit_67 rfl ?_
  refine va_get (D := D) (ci := 5) (v := .int 0) (C := RX5) (T := TX5) (N := 10) hx hb hts iX5_digit_X5 hown hK hP 0 rfl rfl 8 (by decide) (hts _ mX5_digit_f108) (fun _ h9 => h9) rfl dX5_digit_68 ?_
  refine lv_iload_n hx hb dX5_digit_71 rfl (lv_at hl 0 rfl) ?_
  refine lv_iconst (v := (-1)) hx hb dX5_digit_72 (by decide) ?_
  refine lv_icmp_ne (tgt := 80) hx hb dX5_digit_73 (by decide) (fun h => absurd (by decide) h) (fun _ => ?_)
  refine lv_iconst (v := 0) hx hb dX5_digit_76 (by decide) ?_
  refine lv_goto (tgt := 81) hx hb dX5_digit_77 (by decide) ?_
  refine lz_iadd (v := 0) hx hb dX5_digit_81 (by decide) ?_
  refine va_put (D := D) (ci := 5) (v := .int 0) (ty := .int) (C := RX5) (T := TX5) (N := 10) hx hb hts iX5_digit_X5 tyX5 tyX5_ok nmX5 hown hK hP hD hS 0 rfl rfl 8 (by decide) (hts _ mX5_digit_f108) (fun _ h9 => h9) rfl (by decide +kernel) rfl rfl (Nat.le_of_ble_eq_true rfl) dX5_digit_82 (fun H locs hP hD hS => ?_)
  have hP : va_P D vwCl (wMd cA a (th, f, 0, kp, tx, 0, wo, 0, 0, hs)) H := hP
  have hD : va_D A (wMd cA a (th, f, 0, kp, tx, 0, wo, 0, 0, hs)) := hD
  refine lv_iload_n hx hb dX5_digit_85 rfl (lv_at hl 0 rfl) ?_
  exact mu_iret hx hb hr hlocks dX5_digit_86 hAe hS hP rfl
set_option maxHeartbeats 4000000 in
set_option maxRecDepth 100000 in
theorem c_X5_isWord (l : Launch) (D : va_G) (cA : Nat → ClassId) (H : Heap) (a : Nat → Nat) (th : Int32) (f kp tx wo : Nat → Int32) (hs : Int64) (hP0 : va_P D vwCl (wMd cA a (th, f, 0, kp, tx, 0, wo, 0, 0, hs)) H) (hD0 : va_D (fun _ => True) (wMd cA a (th, f, 0, kp, tx, 0, wo, 0, 0, hs))) : MU l yX5_isWord wsX5_isWord ({ frames := 2, cells := 0, slots := 0, locals := 44 } : Room) D cA [.ref (a 0)] H (wMd cA a (th, f, 0, kp, tx, 0, wo, 0, 0, hs)) (wMd cA a (th, f, 0, kp, tx, 0, wo, 0, 0, hs)) (some (.int 0)) := by
  refine Met.ofW (cc := cX5_isWord) (maxL := 3) (ret := (some .boolean)) (by decide) rfl ?_
  intro p e s m args below meth c s₁ B hml hv
  obtain ⟨rfl, hH, hKN⟩ := hv
  have hK := hKN.1
  have hx := B.exec
  have hb := B.bytes
  have hr := B.returns
  have hts := atoms_spec (ws := wsX5_isWord) B.pre
  have hown : s.vm.findClass RX5 = some m.cls := findClass_of_methodNamed B.named
  have hlocks := B.notSynchronized
  subst hH
  have hD := hD0.self (sz := s.heap.size)
  generalize hAe : va_A (wMd cA a (th, f, 0, kp, tx, 0, wo, 0, 0, hs)) s.heap.size = A at hD ⊢
  have hA : ∀ q : Nat, s.heap.size ≤ q → A q := fun q h => by rw [← hAe]; exact Or.inr h
  have hS : va_S A s.heap s.heap [] := va_S.rf
  have hP : va_P D vwCl (wMd cA a (th, f, 0, kp, tx, 0, wo, 0, 0, hs)) s.heap := hP0
  have hl := lv_entry ([.ref (a 0)] : List Value) (n := 3) (Nat.le_of_ble_eq_true rfl)
  rw [lg_entry_eq]
  generalize (lg_sl ([.ref (a 0)] : List Value) ++ List.replicate (3 - (lg_sl ([.ref (a 0)] : List Value)).length) Slot.unset).toArray = ls at hl ⊢
  have hl : lv_has ls 3 [(0, .ref (a 0))] := hl
  refine lv_aload_n hx hb dX5_isWord_0 rfl (lv_at hl 0 rfl) ?_
  refine mu_V (ci := 5) (q0 := 0) (As := []) (rest := []) (ws' := (wMd cA a (th, f, 0, kp, tx, 0, wo, 0, 0, hs))) ⟨hx, hb, hml, hown, hts⟩ (c_X5_digit l D cA _ a th f kp tx wo hs hP (hD.weaken (fun _ _ _ _ => trivial))) (cwV 0 hts gX5_isWord_X5_digit rfl rfl rfl (by decide +kernel) ⟨Nat.le_of_ble_eq_true rfl, Nat.le_of_ble_eq_true rfl⟩) hKN hP hD hS hA rfl rfl [0, 1, 2, 3, 4] rfl ((wMd_fst _ _ _).trans (wMd_fst _ _ _).symm) rfl rfl hl.1 rfl (lv_room (Nat.le_of_ble_eq_true rfl)) dX5_isWord_1 ⟨Nat.zero_le _, Nat.zero_le _⟩ (fun H locs hP hD hS => ?_)
  refine lv_istore_n (lv' := [(1, .int (-1)), (0, .ref (a 0))]) hx hb dX5_isWord_4 rfl hl (by decide) rfl (fun ls hl => ?_)
  refine lv_iload_n hx hb dX5_isWord_5 rfl (lv_at hl 0 rfl) ?_
  refine lv_iconst (v := (-1)) hx hb dX5_isWord_6 (by decide) ?_
  refine lv_icmp_ne (tgt := 14) hx hb dX5_isWord_7 (by decide) (fun h => absurd (by decide) h) (fun _ => ?_)
  refine lv_iconst (v := (-1)) hx hb dX5_isWord_10 (by decide) ?_
  refine lv_goto (tgt := 18) hx hb dX5_isWord_11 (by decide) ?_
  refine lv_istore_n (lv' := [(2, .int (-1)), (1, .int (-1)), (0, .ref (a 0))]) hx hb dX5_isWord_18 rfl hl (by decide) rfl (fun ls hl => ?_)
  refine lv_iload_n hx hb dX5_isWord_19 rfl (lv_at hl 0 rfl) ?_
  refine lv_iconst (v := (-1)) hx hb dX5_isWord_20 (by decide) ?_
  refine lv_icmp_ne (tgt := 26) hx hb dX5_isWord_21 (by decide) (fun h => absurd (by decide) h) (fun _ => ?_)
  refine lv_iconst (v := 0) hx hb dX5_isWord_24 (by decide) ?_
  exact mu_zret hx hb hr hlocks dX5_isWord_25 hAe hS hP rfl rfl
theorem mX5_isProgram_f108 : Cond.fieldLink RX5 108 "WireLoomModel" "at" "I" ∈ wsX5_isProgram := by decide +kernel
theorem mX5_isProgram_f115 : Cond.fieldLink RX5 115 "WireLoomModel" "many" "I" ∈ wsX5_isProgram := by decide +kernel
set_option maxRecDepth 20000 in
theorem iX5_isProgram_X5 : ∀ w ∈ wsX50, w ∈ wsX5_isProgram := by decide +kernel
set_option maxHeartbeats 4000000 in
set_option maxRecDepth 100000 in
theorem c_X5_isProgram (l : Launch) (D : va_G) (cA : Nat → ClassId) (H : Heap) (a : Nat → Nat) (th : Int32) (f kp tx wo : Nat → Int32) (hs : Int64) (hP0 : va_P D vwCl (wMd cA a (th, f, 0, kp, tx, 0, wo, 0, 0, hs)) H) (hD0 : va_D (fun _ => True) (wMd cA a (th, f, 0, kp, tx, 0, wo, 0, 0, hs))) : MU l yX5_isProgram wsX5_isProgram ({ frames := 3, cells := 0, slots := 0, locals := 66 } : Room) D cA [.ref (a 0)] H (wMd cA a (th, f, 0, kp, tx, 0, wo, 0, 0, hs)) (wMd cA a (th, f, 0, kp, tx, 0, wo, 0, 0, hs)) (some (.int 0)) := by
  refine Met.ofW (cc := cX5_isProgram) (maxL := 1) (ret := (some .boolean)) (by decide) rfl ?_
  intro p e s m args below meth c s₁ B hml hv
  obtain ⟨rfl, hH, hKN⟩ := hv
  have hK := hKN.1
  have hx := B.exec
  have hb := B.bytes
  have hr := B.returns
  have hts := atoms_spec (ws := wsX5_isProgram) B.pre
  have hown : s.vm.findClass RX5 = some m.cls := findClass_of_methodNamed B.named
  have hlocks := B.notSynchronized
  subst hH
  have hD := hD0.self (sz := s.heap.size)
  generalize hAe : va_A (wMd cA a (th, f, 0, kp, tx, 0, wo, 0, 0, hs)) s.heap.size = A at hD ⊢
  have hA : ∀ q : Nat, s.heap.size ≤ q → A q := fun q h => by rw [← hAe]; exact Or.inr h
  have hS : va_S A s.heap s.heap [] := va_S.rf
  have hP : va_P D vwCl (wMd cA a (th, f, 0, kp, tx, 0, wo, 0, 0, hs)) s.heap := hP0
  have hl := lv_entry ([.ref (a 0)] : List Value) (n := 1) (Nat.le_of_ble_eq_true rfl)
  rw [lg_entry_eq]
  generalize (lg_sl ([.ref (a 0)] : List Value) ++ List.replicate (1 - (lg_sl ([.ref (a 0)] : List Value)).length) Slot.unset).toArray = ls at hl ⊢
  have hl : lv_has ls 1 [(0, .ref (a 0))] := hl
  refine lv_aload_n hx hb dX5_isProgram_0 rfl (lv_at hl 0 rfl) ?_
  refine lv_iconst (v := 0) hx hb dX5_isProgram_1 (by decide) ?_
  refine va_put (D := D) (ci := 5) (v := .int 0) (ty := .int) (C := RX5) (T := TX5) (N := 10) hx hb hts iX5_isProgram_X5 tyX5 tyX5_ok nmX5 hown hK hP hD hS 0 rfl rfl 8 (by decide) (hts _ mX5_isProgram_f108) (fun _ h9 => h9) rfl (by decide +kernel) rfl rfl (Nat.le_of_ble_eq_true rfl) dX5_isProgram_2 (fun H locs hP hD hS => ?_)
  have hP : va_P D vwCl (wMd cA a (th, f, 0, kp, tx, 0, wo, 0, 0, hs)) H := hP
  have hD : va_D A (wMd cA a (th, f, 0, kp, tx, 0, wo, 0, 0, hs)) := hD
  refine lv_aload_n hx hb dX5_isProgram_5 rfl (lv_at hl 0 rfl) ?_
  refine lv_iconst (v := 0) hx hb dX5_isProgram_6 (by decide) ?_
  refine va_put (D := D) (ci := 5) (v := .int 0) (ty := .int) (C := RX5) (T := TX5) (N := 10) hx hb hts iX5_isProgram_X5 tyX5 tyX5_ok nmX5 hown hK hP hD hS 0 rfl rfl 7 (by decide) (hts _ mX5_isProgram_f115) (fun _ h9 => h9) rfl (by decide +kernel) rfl rfl (Nat.le_of_ble_eq_true rfl) dX5_isProgram_7 (fun H locs hP hD hS => ?_)
  have hP : va_P D vwCl (wMd cA a (th, f, 0, kp, tx, 0, wo, 0, 0, hs)) H := hP
  have hD : va_D A (wMd cA a (th, f, 0, kp, tx, 0, wo, 0, 0, hs)) := hD
  refine lv_aload_n hx hb dX5_isProgram_10 rfl (lv_at hl 0 rfl) ?_
  refine mu_V (ci := 5) (q0 := 0) (As := []) (rest := []) (ws' := (wMd cA a (th, f, 0, kp, tx, 0, wo, 0, 0, hs))) ⟨hx, hb, hml, hown, hts⟩ (c_X5_isWord l D cA _ a th f kp tx wo hs hP (hD.weaken (fun _ _ _ _ => trivial))) (cwV 0 hts gX5_isProgram_X5_isWord rfl rfl rfl (by decide +kernel) ⟨Nat.le_of_ble_eq_true rfl, Nat.le_of_ble_eq_true rfl⟩) hKN hP hD hS hA rfl rfl [0, 1, 2, 3, 4] rfl ((wMd_fst _ _ _).trans (wMd_fst _ _ _).symm) rfl rfl hl.1 rfl (lv_room (Nat.le_of_ble_eq_true rfl)) dX5_isProgram_11 ⟨Nat.zero_le _, Nat.zero_le _⟩ (fun H locs hP hD hS => ?_)
  refine lv_if_eq (tgt := 72) hx hb dX5_isProgram_14 (by decide) (fun _ => ?_) (fun h => absurd (by decide) h)
  refine lv_iconst (v := 0) hx hb dX5_isProgram_72 (by decide) ?_
  exact mu_zret hx hb hr hlocks dX5_isProgram_73 hAe hS hP rfl rfl
theorem mX5_save_f76 : Cond.fieldLink RX5 76 "WireLoomModel" "saved" "I" ∈ wsX5_save := by decide +kernel
set_option maxRecDepth 20000 in
theorem iX5_save_X5 : ∀ w ∈ wsX50, w ∈ wsX5_save := by decide +kernel
set_option maxHeartbeats 4000000 in
set_option maxRecDepth 100000 in
theorem c_X5_save (l : Launch) (D : va_G) (cA : Nat → ClassId) (H : Heap) (a : Nat → Nat) (th : Int32) (f kp tx wo : Nat → Int32) (hs : Int64) (hP0 : va_P D vwCl (wMd cA a (th, f, 0, kp, tx, 0, wo, 0, 0, hs)) H) (hD0 : va_D (fun _ => True) (wMd cA a (th, f, 0, kp, tx, 0, wo, 0, 0, hs))) : MU l yX5_save wsX5_save ({ frames := 1, cells := 0, slots := 0, locals := 23 } : Room) D cA [.ref (a 0)] H (wMd cA a (th, f, 0, kp, tx, 0, wo, 0, 0, hs)) (wMd cA a (th, (cpT f (62 * 0) (62 * 1) 62), 1, kp, tx, 0, wo, 0, 0, hs)) none := by
  refine Met.ofW (cc := cX5_save) (maxL := 2) (ret := none) (by decide) rfl ?_
  intro p e s m args below meth c s₁ B hml hv
  obtain ⟨rfl, hH, hKN⟩ := hv
  have hK := hKN.1
  have hx := B.exec
  have hb := B.bytes
  have hr := B.returns
  have hts := atoms_spec (ws := wsX5_save) B.pre
  have hown : s.vm.findClass RX5 = some m.cls := findClass_of_methodNamed B.named
  have hlocks := B.notSynchronized
  subst hH
  have hD := hD0.self (sz := s.heap.size)
  generalize hAe : va_A (wMd cA a (th, f, 0, kp, tx, 0, wo, 0, 0, hs)) s.heap.size = A at hD ⊢
  have hA : ∀ q : Nat, s.heap.size ≤ q → A q := fun q h => by rw [← hAe]; exact Or.inr h
  have hS : va_S A s.heap s.heap [] := va_S.rf
  have hP : va_P D vwCl (wMd cA a (th, f, 0, kp, tx, 0, wo, 0, 0, hs)) s.heap := hP0
  have hl := lv_entry ([.ref (a 0)] : List Value) (n := 2) (Nat.le_of_ble_eq_true rfl)
  rw [lg_entry_eq]
  generalize (lg_sl ([.ref (a 0)] : List Value) ++ List.replicate (2 - (lg_sl ([.ref (a 0)] : List Value)).length) Slot.unset).toArray = ls at hl ⊢
  have hl : lv_has ls 2 [(0, .ref (a 0))] := hl
  refine lv_iconst (v := 1) hx hb dX5_save_0 (by decide) ?_
  refine lv_istore_n (lv' := [(1, .int 1), (0, .ref (a 0))]) hx hb dX5_save_1 rfl hl (by decide) rfl (fun ls hl => ?_)
  refine lv_iload_n hx hb dX5_save_2 rfl (lv_at hl 0 rfl) ?_
  refine lv_bipush (v := 6) hx hb dX5_save_3 (by decide) ?_
  refine lv_icmp_ge (tgt := 31) hx hb dX5_save_5 (by decide) (fun h => absurd h (by decide)) (fun _ => ?_)
  refine lv_aload_n hx hb dX5_save_8 rfl (lv_at hl 1 rfl) ?_
  refine va_get (D := D) (ci := 5) (v := .int 0) (C := RX5) (T := TX5) (N := 10) hx hb hts iX5_save_X5 hown hK hP 0 rfl rfl 2 (by decide) (hts _ mX5_save_f76) (fun _ h9 => h9) rfl dX5_save_9 ?_
  refine lv_bipush (v := 6) hx hb dX5_save_12 (by decide) ?_
  refine lv_icmp_ne (tgt := 31) hx hb dX5_save_14 (by decide) (fun _ => ?_) (fun h => absurd h (by decide))
  refine lv_aload_n hx hb dX5_save_31 rfl (lv_at hl 1 rfl) ?_
  refine lv_dup hx hb dX5_save_32 rfl ?_
  refine va_get (D := D) (ci := 5) (v := .int 0) (C := RX5) (T := TX5) (N := 10) hx hb hts iX5_save_X5 hown hK hP 0 rfl rfl 2 (by decide) (hts _ mX5_save_f76) (fun _ h9 => h9) rfl dX5_save_33 ?_
  refine lv_aload_n hx hb dX5_save_36 rfl (lv_at hl 1 rfl) ?_
  refine va_get (D := D) (ci := 5) (v := .int 0) (C := RX5) (T := TX5) (N := 10) hx hb hts iX5_save_X5 hown hK hP 0 rfl rfl 2 (by decide) (hts _ mX5_save_f76) (fun _ h9 => h9) rfl dX5_save_37 ?_
  refine lv_bipush (v := 6) hx hb dX5_save_40 (by decide) ?_
  refine lv_icmp_ge (tgt := 49) hx hb dX5_save_42 (by decide) (fun h => absurd h (by decide)) (fun _ => ?_)
  refine lv_iconst (v := 1) hx hb dX5_save_45 (by decide) ?_
  refine lv_goto (tgt := 50) hx hb dX5_save_46 (by decide) ?_
  refine lz_iadd (v := 1) hx hb dX5_save_50 (by decide) ?_
  refine va_put (D := D) (ci := 5) (v := .int 1) (ty := .int) (C := RX5) (T := TX5) (N := 10) hx hb hts iX5_save_X5 tyX5 tyX5_ok nmX5 hown hK hP hD hS 0 rfl rfl 2 (by decide) (hts _ mX5_save_f76) (fun _ h9 => h9) rfl (by decide +kernel) rfl rfl (Nat.le_of_ble_eq_true rfl) dX5_save_51 (fun H locs hP hD hS => ?_)
  have hP : va_P D vwCl (wMd cA a (th, f, 1, kp, tx, 0, wo, 0, 0, hs)) H := hP
  have hD : va_D A (wMd cA a (th, f, 1, kp, tx, 0, wo, 0, 0, hs)) := hD
  refine lv_aload_n hx hb dX5_save_54 rfl (lv_at hl 1 rfl) ?_
  refine lv_iconst (v := 0) hx hb dX5_save_55 (by decide) ?_
  refine lv_aload_n hx hb dX5_save_56 rfl (lv_at hl 1 rfl) ?_
  refine va_get (D := D) (ci := 5) (v := .int 1) (C := RX5) (T := TX5) (N := 10) hx hb hts iX5_save_X5 hown hK hP 0 rfl rfl 2 (by decide) (hts _ mX5_save_f76) (fun _ h9 => h9) rfl dX5_save_57 ?_
  refine mu_V (ci := 5) (q0 := 0) (As := [.int 0, .int 1]) (rest := []) (ws' := (wMd cA a (th, (cpT f (62 * 0) (62 * 1) 62), 1, kp, tx, 0, wo, 0, 0, hs))) ⟨hx, hb, hml, hown, hts⟩ (c_X5_copies l D cA _ a (th, f, 1, kp, tx, 0, wo, 0, 0, hs) 0 1 (by omega) (by omega) (by omega) hP (hD.weaken (fun _ _ _ _ => trivial))) (cwV 2 hts gX5_save_X5_copies rfl rfl rfl (by decide +kernel) ⟨Nat.le_of_ble_eq_true rfl, Nat.le_of_ble_eq_true rfl⟩) hKN hP hD hS hA rfl rfl [0, 1, 2, 3, 4] rfl ((wMd_fst _ _ _).trans (wMd_fst _ _ _).symm) rfl rfl hl.1 rfl (lv_room (Nat.le_of_ble_eq_true rfl)) dX5_save_60 ⟨Nat.zero_le _, Nat.zero_le _⟩ (fun H locs hP hD hS => ?_)
  exact mu_vret hx hb hr hlocks dX5_save_63 hAe hS hP
theorem mX5_steps_f7 : Cond.fieldLink RX5 7 "WireLoomModel" "s" "[I" ∈ wsX5_steps := by decide +kernel
set_option maxRecDepth 20000 in
theorem iX5_steps_X5 : ∀ w ∈ wsX50, w ∈ wsX5_steps := by decide +kernel
set_option maxHeartbeats 4000000 in
set_option maxRecDepth 100000 in
theorem c_X5_steps (l : Launch) (D : va_G) (cA : Nat → ClassId) (H : Heap) (a : Nat → Nat) (u : MDV) (b : Nat) (hb5 : b ≤ 558) (hZ : ZR u.2.1 b) (hp : u.2.1 (b + 27) = 0) (hP0 : va_P D vwCl (wMd cA a u) H) (hD0 : va_D (fun _ => True) (wMd cA a u)) : MU l yX5_steps wsX5_steps ({ frames := 7, cells := 0, slots := 0, locals := 169 } : Room) D cA [.ref (a 0), .int (nI b)] H (wMd cA a u) (wMd cA a (u.1, (upd (upd (upd (rdF u.2.1 b 0) (b + 27) 1) (b + 34) (((upd (rdF u.2.1 b 0) (b + 27) 1) (b + 34)) + 1)) (b + 33) 0), u.2.2.1, u.2.2.2.1, u.2.2.2.2.1, u.2.2.2.2.2.1, u.2.2.2.2.2.2.1, u.2.2.2.2.2.2.2.1, u.2.2.2.2.2.2.2.2.1, u.2.2.2.2.2.2.2.2.2)) none := by
  refine Met.ofW (cc := cX5_steps) (maxL := 5) (ret := none) (by decide) rfl ?_
  intro p e s m args below meth c s₁ B hml hv
  obtain ⟨rfl, hH, hKN⟩ := hv
  have hK := hKN.1
  have hx := B.exec
  have hb := B.bytes
  have hr := B.returns
  have hts := atoms_spec (ws := wsX5_steps) B.pre
  have hown : s.vm.findClass RX5 = some m.cls := findClass_of_methodNamed B.named
  have hlocks := B.notSynchronized
  subst hH
  have hD := hD0.self (sz := s.heap.size)
  generalize hAe : va_A (wMd cA a u) s.heap.size = A at hD ⊢
  have hA : ∀ q : Nat, s.heap.size ≤ q → A q := fun q h => by rw [← hAe]; exact Or.inr h
  have hS : va_S A s.heap s.heap [] := va_S.rf
  have hP : va_P D vwCl (wMd cA a u) s.heap := hP0
  have hl := lv_entry ([.ref (a 0), .int (nI b)] : List Value) (n := 5) (Nat.le_of_ble_eq_true rfl)
  rw [lg_entry_eq]
  generalize (lg_sl ([.ref (a 0), .int (nI b)] : List Value) ++ List.replicate (5 - (lg_sl ([.ref (a 0), .int (nI b)] : List Value)).length) Slot.unset).toArray = ls at hl ⊢
  have hl : lv_has ls 5 [(0, .ref (a 0)), (1, .int (nI b))] := hl
  refine lv_aload_n hx hb dX5_steps_0 rfl (lv_at hl 0 rfl) ?_
  refine lv_iload_n hx hb dX5_steps_1 rfl (lv_at hl 1 rfl) ?_
  refine lv_aload_n hx hb dX5_steps_2 rfl (lv_at hl 0 rfl) ?_
  refine va_get (D := D) (ci := 5) (v := .ref (a 1)) (C := RX5) (T := TX5) (N := 10) hx hb hts iX5_steps_X5 hown hK hP 0 rfl rfl 1 (by decide) (hts _ mX5_steps_f7) (fun _ h9 => h9) rfl dX5_steps_3 ?_
  refine lv_iload_n hx hb dX5_steps_6 rfl (lv_at hl 1 rfl) ?_
  refine lv_bipush (v := 27) hx hb dX5_steps_7 (by decide) ?_
  refine lz_iadd (v := (nI (b + 27))) hx hb dX5_steps_9 (nI_add _ _) ?_
  refine lz_iald (k := (b + 27)) (f := u.2.1) hx hb hK hP 1 0 rfl rfl ⟨by omega, by decide⟩ dX5_steps_10 ?_
  refine lz_top (v := 0) hp ?_
  refine mu_V (ci := 5) (q0 := 0) (As := [.int (nI b), .int 0]) (rest := []) (ws' := (wMd cA a (u.1, (rdF u.2.1 b 0), u.2.2.1, u.2.2.2.1, u.2.2.2.2.1, u.2.2.2.2.2.1, u.2.2.2.2.2.2.1, u.2.2.2.2.2.2.2.1, u.2.2.2.2.2.2.2.2.1, u.2.2.2.2.2.2.2.2.2))) ⟨hx, hb, hml, hown, hts⟩ (c_X5_reads l D cA _ a u b (by omega) 0 (by omega) hZ hP (hD.weaken (fun _ _ _ _ => trivial))) (cwV 2 hts gX5_steps_X5_reads rfl rfl rfl (by decide +kernel) ⟨Nat.le_of_ble_eq_true rfl, Nat.le_of_ble_eq_true rfl⟩) hKN hP hD hS hA rfl rfl [0, 1, 2, 3, 4] rfl ((wMd_fst _ _ _).trans (wMd_fst _ _ _).symm) rfl rfl hl.1 rfl (lv_room (Nat.le_of_ble_eq_true rfl)) dX5_steps_11 ⟨Nat.zero_le _, Nat.zero_le _⟩ (fun H locs hP hD hS => ?_)
  refine lv_istore_n (lv' := [(2, .int 0), (0, .ref (a 0)), (1, .int (nI b))]) hx hb dX5_steps_14 rfl hl (by decide) rfl (fun ls hl => ?_)
  refine lv_iload_n hx hb dX5_steps_15 rfl (lv_at hl 0 rfl) ?_
  refine lv_bipush (v := 32) hx hb dX5_steps_16 (by decide) ?_
  refine lz_irem (v := 0) hx hb dX5_steps_18 (by decide) (by decide) ?_
  refine lv_istore_n (lv' := [(3, .int 0), (2, .int 0), (0, .ref (a 0)), (1, .int (nI b))]) hx hb dX5_steps_19 rfl hl (by decide) rfl (fun ls hl => ?_)
  refine lv_iload_n hx hb dX5_steps_20 rfl (lv_at hl 3 rfl) ?_
  refine lv_bipush (v := 29) hx hb dX5_steps_21 (by decide) ?_
  refine lz_iadd (v := (nI (b + 29))) hx hb dX5_steps_23 (nI_add _ _) ?_
  refine lv_iload_n hx hb dX5_steps_24 rfl (lv_at hl 0 rfl) ?_
  refine lv_iconst (v := 4) hx hb dX5_steps_25 (by decide) ?_
  refine lz_irem (v := 0) hx hb dX5_steps_26 (by decide) (by decide) ?_
  refine lz_iadd (v := (nI ((b + 29) + 0))) hx hb dX5_steps_27 (nI_add _ _) ?_
  refine lv_istore (lv' := [(4, .int (nI ((b + 29) + 0))), (3, .int 0), (2, .int 0), (0, .ref (a 0)), (1, .int (nI b))]) hx hb dX5_steps_28 hl (by decide) rfl (fun ls hl => ?_)
  refine lv_aload_n hx hb dX5_steps_30 rfl (lv_at hl 3 rfl) ?_
  refine va_get (D := D) (ci := 5) (v := .ref (a 1)) (C := RX5) (T := TX5) (N := 10) hx hb hts iX5_steps_X5 hown hK hP 0 rfl rfl 1 (by decide) (hts _ mX5_steps_f7) (fun _ h9 => h9) rfl dX5_steps_31 ?_
  refine lv_iload_n hx hb dX5_steps_34 rfl (lv_at hl 4 rfl) ?_
  refine lv_bipush (v := 27) hx hb dX5_steps_35 (by decide) ?_
  refine lz_iadd (v := (nI (b + 27))) hx hb dX5_steps_37 (nI_add _ _) ?_
  refine lv_aload_n hx hb dX5_steps_38 rfl (lv_at hl 3 rfl) ?_
  refine va_get (D := D) (ci := 5) (v := .ref (a 1)) (C := RX5) (T := TX5) (N := 10) hx hb hts iX5_steps_X5 hown hK hP 0 rfl rfl 1 (by decide) (hts _ mX5_steps_f7) (fun _ h9 => h9) rfl dX5_steps_39 ?_
  refine lv_iload_n hx hb dX5_steps_42 rfl (lv_at hl 4 rfl) ?_
  refine lv_bipush (v := 27) hx hb dX5_steps_43 (by decide) ?_
  refine lz_iadd (v := (nI (b + 27))) hx hb dX5_steps_45 (nI_add _ _) ?_
  refine lz_iald (k := (b + 27)) (f := (rdF u.2.1 b 0)) hx hb hK hP 1 0 rfl rfl ⟨by omega, by decide⟩ dX5_steps_46 ?_
  refine lz_top (v := 0) (rd_27.trans hp) ?_
  refine lv_iconst (v := 1) hx hb dX5_steps_47 (by decide) ?_
  refine lz_iadd (v := 1) hx hb dX5_steps_48 (by decide) ?_
  refine lv_bipush (v := 16) hx hb dX5_steps_49 (by decide) ?_
  refine lz_irem (v := 1) hx hb dX5_steps_51 (by decide) (by decide) ?_
  refine lz_iast (k := (b + 27)) (f := (rdF u.2.1 b 0)) hx hb hK hP hD hS 1 0 rfl rfl ⟨by omega, by decide⟩ dX5_steps_52 (fun H locs hP hD hS => ?_)
  have hP : va_P D vwCl (wMd cA a (u.1, (upd (rdF u.2.1 b 0) (b + 27) 1), u.2.2.1, u.2.2.2.1, u.2.2.2.2.1, u.2.2.2.2.2.1, u.2.2.2.2.2.2.1, u.2.2.2.2.2.2.2.1, u.2.2.2.2.2.2.2.2.1, u.2.2.2.2.2.2.2.2.2)) H := hP
  have hD : va_D A (wMd cA a (u.1, (upd (rdF u.2.1 b 0) (b + 27) 1), u.2.2.1, u.2.2.2.1, u.2.2.2.2.1, u.2.2.2.2.2.1, u.2.2.2.2.2.2.1, u.2.2.2.2.2.2.2.1, u.2.2.2.2.2.2.2.2.1, u.2.2.2.2.2.2.2.2.2)) := hD
  refine lv_aload_n hx hb dX5_steps_53 rfl (lv_at hl 3 rfl) ?_
  refine va_get (D := D) (ci := 5) (v := .ref (a 1)) (C := RX5) (T := TX5) (N := 10) hx hb hts iX5_steps_X5 hown hK hP 0 rfl rfl 1 (by decide) (hts _ mX5_steps_f7) (fun _ h9 => h9) rfl dX5_steps_54 ?_
  refine lv_iload_n hx hb dX5_steps_57 rfl (lv_at hl 4 rfl) ?_
  refine lv_bipush (v := 34) hx hb dX5_steps_58 (by decide) ?_
  refine lz_iadd (v := (nI (b + 34))) hx hb dX5_steps_60 (nI_add _ _) ?_
  refine lv_dup2_11 hx hb dX5_steps_61 rfl rfl ?_
  refine lz_iald (k := (b + 34)) (f := (upd (rdF u.2.1 b 0) (b + 27) 1)) hx hb hK hP 1 0 rfl rfl ⟨by omega, by decide⟩ dX5_steps_62 ?_
  refine lv_iconst (v := 1) hx hb dX5_steps_63 (by decide) ?_
  refine lv_iadd hx hb dX5_steps_64 ?_
  refine lz_iast (k := (b + 34)) (f := (upd (rdF u.2.1 b 0) (b + 27) 1)) hx hb hK hP hD hS 1 0 rfl rfl ⟨by omega, by decide⟩ dX5_steps_65 (fun H locs hP hD hS => ?_)
  have hP : va_P D vwCl (wMd cA a (u.1, (upd (upd (rdF u.2.1 b 0) (b + 27) 1) (b + 34) (((upd (rdF u.2.1 b 0) (b + 27) 1) (b + 34)) + 1)), u.2.2.1, u.2.2.2.1, u.2.2.2.2.1, u.2.2.2.2.2.1, u.2.2.2.2.2.2.1, u.2.2.2.2.2.2.2.1, u.2.2.2.2.2.2.2.2.1, u.2.2.2.2.2.2.2.2.2)) H := hP
  have hD : va_D A (wMd cA a (u.1, (upd (upd (rdF u.2.1 b 0) (b + 27) 1) (b + 34) (((upd (rdF u.2.1 b 0) (b + 27) 1) (b + 34)) + 1)), u.2.2.1, u.2.2.2.1, u.2.2.2.2.1, u.2.2.2.2.2.1, u.2.2.2.2.2.2.1, u.2.2.2.2.2.2.2.1, u.2.2.2.2.2.2.2.2.1, u.2.2.2.2.2.2.2.2.2)) := hD
  refine lv_iload_n hx hb dX5_steps_66 rfl (lv_at hl 2 rfl) ?_
  refine lv_bipush (v := 32) hx hb dX5_steps_67 (by decide) ?_
  refine lz_idiv (v := 0) hx hb dX5_steps_69 (by decide) (by decide) ?_
  refine lv_tableIn (tgt := 112) (off := 42) hx hb dX5_steps_70 (by decide) (by decide) rfl (by decide) ?_
  refine lv_aload_n hx hb dX5_steps_112 rfl (lv_at hl 3 rfl) ?_
  refine va_get (D := D) (ci := 5) (v := .ref (a 1)) (C := RX5) (T := TX5) (N := 10) hx hb hts iX5_steps_X5 hown hK hP 0 rfl rfl 1 (by decide) (hts _ mX5_steps_f7) (fun _ h9 => h9) rfl dX5_steps_113 ?_
  refine lv_iload_n hx hb dX5_steps_116 rfl (lv_at hl 4 rfl) ?_
  refine lv_bipush (v := 33) hx hb dX5_steps_117 (by decide) ?_
  refine lz_iadd (v := (nI (b + 33))) hx hb dX5_steps_119 (nI_add _ _) ?_
  refine lv_iconst (v := 0) hx hb dX5_steps_120 (by decide) ?_
  refine lz_iast (k := (b + 33)) (f := (upd (upd (rdF u.2.1 b 0) (b + 27) 1) (b + 34) (((upd (rdF u.2.1 b 0) (b + 27) 1) (b + 34)) + 1))) hx hb hK hP hD hS 1 0 rfl rfl ⟨by omega, by decide⟩ dX5_steps_121 (fun H locs hP hD hS => ?_)
  have hP : va_P D vwCl (wMd cA a (u.1, (upd (upd (upd (rdF u.2.1 b 0) (b + 27) 1) (b + 34) (((upd (rdF u.2.1 b 0) (b + 27) 1) (b + 34)) + 1)) (b + 33) 0), u.2.2.1, u.2.2.2.1, u.2.2.2.2.1, u.2.2.2.2.2.1, u.2.2.2.2.2.2.1, u.2.2.2.2.2.2.2.1, u.2.2.2.2.2.2.2.2.1, u.2.2.2.2.2.2.2.2.2)) H := hP
  have hD : va_D A (wMd cA a (u.1, (upd (upd (upd (rdF u.2.1 b 0) (b + 27) 1) (b + 34) (((upd (rdF u.2.1 b 0) (b + 27) 1) (b + 34)) + 1)) (b + 33) 0), u.2.2.1, u.2.2.2.1, u.2.2.2.2.1, u.2.2.2.2.2.1, u.2.2.2.2.2.2.1, u.2.2.2.2.2.2.2.1, u.2.2.2.2.2.2.2.2.1, u.2.2.2.2.2.2.2.2.2)) := hD
  refine lv_goto (tgt := 282) hx hb dX5_steps_122 (by decide) ?_
  exact mu_vret hx hb hr hlocks dX5_steps_282 hAe hS hP
theorem mX5_goes_f7 : Cond.fieldLink RX5 7 "WireLoomModel" "s" "[I" ∈ wsX5_goes := by decide +kernel
set_option maxRecDepth 20000 in
theorem iX5_goes_X5 : ∀ w ∈ wsX50, w ∈ wsX5_goes := by decide +kernel
set_option maxHeartbeats 4000000 in
set_option maxRecDepth 100000 in
theorem c_X5_goes (l : Launch) (D : va_G) (cA : Nat → ClassId) (H : Heap) (a : Nat → Nat) (u : MDV) (b : Nat) (hb5 : b ≤ 558) (hZ : ZR u.2.1 b) (hp : u.2.1 (b + 27) = 0) (hr9 : u.2.1 (b + 33) = 1) (st : Nat) (hst : 1 ≤ st) (hst2 : st ≤ 99) (hP0 : va_P D vwCl (wMd cA a u) H) (hD0 : va_D (fun _ => True) (wMd cA a u)) : MU l yX5_goes wsX5_goes ({ frames := 8, cells := 0, slots := 0, locals := 193 } : Room) D cA [.ref (a 0), .int (nI b), .int (nI st)] H (wMd cA a u) (wMd cA a (u.1, (stF u.2.1 b), u.2.2.1, u.2.2.2.1, u.2.2.2.2.1, u.2.2.2.2.2.1, u.2.2.2.2.2.2.1, u.2.2.2.2.2.2.2.1, u.2.2.2.2.2.2.2.2.1, u.2.2.2.2.2.2.2.2.2)) (some (.int 1)) := by
  refine Met.ofW (cc := cX5_goes) (maxL := 4) (ret := (some .int)) (by decide) rfl ?_
  intro p e s m args below meth c s₁ B hml hv
  obtain ⟨rfl, hH, hKN⟩ := hv
  have hK := hKN.1
  have hx := B.exec
  have hb := B.bytes
  have hr := B.returns
  have hts := atoms_spec (ws := wsX5_goes) B.pre
  have hown : s.vm.findClass RX5 = some m.cls := findClass_of_methodNamed B.named
  have hlocks := B.notSynchronized
  subst hH
  have hD := hD0.self (sz := s.heap.size)
  generalize hAe : va_A (wMd cA a u) s.heap.size = A at hD ⊢
  have hA : ∀ q : Nat, s.heap.size ≤ q → A q := fun q h => by rw [← hAe]; exact Or.inr h
  have hS : va_S A s.heap s.heap [] := va_S.rf
  have hP : va_P D vwCl (wMd cA a u) s.heap := hP0
  have hl := lv_entry ([.ref (a 0), .int (nI b), .int (nI st)] : List Value) (n := 4) (Nat.le_of_ble_eq_true rfl)
  rw [lg_entry_eq]
  generalize (lg_sl ([.ref (a 0), .int (nI b), .int (nI st)] : List Value) ++ List.replicate (4 - (lg_sl ([.ref (a 0), .int (nI b), .int (nI st)] : List Value)).length) Slot.unset).toArray = ls at hl ⊢
  have hl : lv_has ls 4 [(0, .ref (a 0)), (1, .int (nI b)), (2, .int (nI st))] := hl
  refine lv_iconst (v := 0) hx hb dX5_goes_0 (by decide) ?_
  refine lv_istore_n (lv' := [(3, .int 0), (0, .ref (a 0)), (1, .int (nI b)), (2, .int (nI st))]) hx hb dX5_goes_1 rfl hl (by decide) rfl (fun ls hl => ?_)
  refine lv_iload_n hx hb dX5_goes_2 rfl (lv_at hl 0 rfl) ?_
  refine lv_iload_n hx hb dX5_goes_3 rfl (lv_at hl 3 rfl) ?_
  refine lv_icmp_ge (tgt := 31) hx hb dX5_goes_4 (by decide) (fun h => absurd h (fun h9 => absurd h9 (nI_ge (a := 0) (b := st) (by omega) (by omega)))) (fun _ => ?_)
  refine lv_aload_n hx hb dX5_goes_7 rfl (lv_at hl 1 rfl) ?_
  refine va_get (D := D) (ci := 5) (v := .ref (a 1)) (C := RX5) (T := TX5) (N := 10) hx hb hts iX5_goes_X5 hown hK hP 0 rfl rfl 1 (by decide) (hts _ mX5_goes_f7) (fun _ h9 => h9) rfl dX5_goes_8 ?_
  refine lv_iload_n hx hb dX5_goes_11 rfl (lv_at hl 2 rfl) ?_
  refine lv_bipush (v := 33) hx hb dX5_goes_12 (by decide) ?_
  refine lz_iadd (v := (nI (b + 33))) hx hb dX5_goes_14 (nI_add _ _) ?_
  refine lz_iald (k := (b + 33)) (f := u.2.1) hx hb hK hP 1 0 rfl rfl ⟨by omega, by decide⟩ dX5_goes_15 ?_
  refine lz_top (v := 1) hr9 ?_
  refine lv_iconst (v := 1) hx hb dX5_goes_16 (by decide) ?_
  refine lv_icmp_ne (tgt := 31) hx hb dX5_goes_17 (by decide) (fun h => absurd (by decide) h) (fun _ => ?_)
  refine lv_aload_n hx hb dX5_goes_20 rfl (lv_at hl 1 rfl) ?_
  refine lv_iload_n hx hb dX5_goes_21 rfl (lv_at hl 2 rfl) ?_
  refine mu_V (ci := 5) (q0 := 0) (As := [.int (nI b)]) (rest := []) (ws' := (wMd cA a (u.1, (stF u.2.1 b), u.2.2.1, u.2.2.2.1, u.2.2.2.2.1, u.2.2.2.2.2.1, u.2.2.2.2.2.2.1, u.2.2.2.2.2.2.2.1, u.2.2.2.2.2.2.2.2.1, u.2.2.2.2.2.2.2.2.2))) ⟨hx, hb, hml, hown, hts⟩ (c_X5_steps l D cA _ a u b (by omega) hZ hp hP (hD.weaken (fun _ _ _ _ => trivial))) (cwV 1 hts gX5_goes_X5_steps rfl rfl rfl (by decide +kernel) ⟨Nat.le_of_ble_eq_true rfl, Nat.le_of_ble_eq_true rfl⟩) hKN hP hD hS hA rfl rfl [0, 1, 2, 3, 4] rfl ((wMd_fst _ _ _).trans (wMd_fst _ _ _).symm) rfl rfl hl.1 rfl (lv_room (Nat.le_of_ble_eq_true rfl)) dX5_goes_22 ⟨Nat.zero_le _, Nat.zero_le _⟩ (fun H locs hP hD hS => ?_)
  refine lv_iinc (v := 1) (lv' := [(3, .int 1), (0, .ref (a 0)), (1, .int (nI b)), (2, .int (nI st))]) hx hb dX5_goes_25 hl (k := 0) rfl (by decide) (by decide) rfl (fun ls hl => ?_)
  refine lv_goto (tgt := 2) hx hb dX5_goes_28 (by decide) ?_
  refine lv_iload_n hx hb dX5_goes_2 rfl (lv_at hl 0 rfl) ?_
  refine lv_iload_n hx hb dX5_goes_3 rfl (lv_at hl 3 rfl) ?_
  refine lv_icmp_ge (tgt := 31) hx hb dX5_goes_4 (by decide) (fun c_4 => ?_) (fun c_4 => ?_)
  · refine lv_iload_n hx hb dX5_goes_31 rfl (lv_at hl 0 rfl) ?_
    exact mu_iret hx hb hr hlocks dX5_goes_32 hAe hS hP rfl
  · refine lv_aload_n hx hb dX5_goes_7 rfl (lv_at hl 1 rfl) ?_
    refine va_get (D := D) (ci := 5) (v := .ref (a 1)) (C := RX5) (T := TX5) (N := 10) hx hb hts iX5_goes_X5 hown hK hP 0 rfl rfl 1 (by decide) (hts _ mX5_goes_f7) (fun _ h9 => h9) rfl dX5_goes_8 ?_
    refine lv_iload_n hx hb dX5_goes_11 rfl (lv_at hl 2 rfl) ?_
    refine lv_bipush (v := 33) hx hb dX5_goes_12 (by decide) ?_
    refine lz_iadd (v := (nI (b + 33))) hx hb dX5_goes_14 (nI_add _ _) ?_
    refine lz_iald (k := (b + 33)) (f := (stF u.2.1 b)) hx hb hK hP 1 0 rfl rfl ⟨by omega, by decide⟩ dX5_goes_15 ?_
    refine lz_top (v := 0) st_33 ?_
    refine lv_iconst (v := 1) hx hb dX5_goes_16 (by decide) ?_
    refine lv_icmp_ne (tgt := 31) hx hb dX5_goes_17 (by decide) (fun _ => ?_) (fun h => absurd h (by decide))
    refine lv_iload_n hx hb dX5_goes_31 rfl (lv_at hl 0 rfl) ?_
    exact mu_iret hx hb hr hlocks dX5_goes_32 hAe hS hP rfl
