-- the loom: the methods of the face that write, for arguments that are allowed
def pushF (f : Nat → SV) (j : Nat) : Nat → SV := fun i => if i < 4 then f i else if i = 4 + j then f 0 else f i
theorem pushF_eq (f : Nat → SV) (j : Nat) : upS f (4 + j) (f 0) = pushF f j := by
  funext i
  unfold upS pushF
  by_cases h : i < 4
  · rw [if_pos h, if_neg (by omega)]
  · rw [if_neg h]
def setGd (u : SV) (g : Int32) : SV := (u.1, u.2.1, u.2.2.1, u.2.2.2.1, g, u.2.2.2.2.2)
def wtT (u : SV) (w : Nat → Int32) : Nat → Nat → Int32
  | 0 => w
  | k + 1 => upd (wtT u w k) k (tellsS u k)
theorem wtT_succ (u : SV) (w : Nat → Int32) (k : Nat) : wtT u w (k + 1) = upd (wtT u w k) k (tellsS u k) := rfl
def ptI (w : Nat → Int32) (t : Nat) (p0 : Int32) : Nat → Int32
  | 0 => p0
  | o + 1 => if w o = w t then ptI w t p0 o + 1 else ptI w t p0 o
theorem ptI_succ (w : Nat → Int32) (t : Nat) (p0 : Int32) (o : Nat) : ptI w t p0 (o + 1) = (if w o = w t then ptI w t p0 o + 1 else ptI w t p0 o) := rfl
def ptT (u : SV) (w : Nat → Int32) : Nat → Int32
  | 0 => 0
  | t + 1 => ptI (upd (wtT u w t) t (tellsS u t)) t (ptT u w t) t
theorem ptT_succ (u : SV) (w : Nat → Int32) (t : Nat) : ptT u w (t + 1) = ptI (upd (wtT u w t) t (tellsS u t)) t (ptT u w t) t := rfl
def bgT (u : SV) : Nat → Int32 × Int32 × Int32
  | 0 => (-1, -1, u.2.2.2.2.1)
  | k + 1 => if bitF u.2.2.2.2.1 (nI k) = 0 then (if rightT (setGd u (u.2.2.2.2.1 ||| (1 <<< (nI k &&& 31)))) 16 ≤ (bgT u k).2.1 then ((bgT u k).1, (bgT u k).2.1, u.2.2.2.2.1 ||| (1 <<< (nI k &&& 31))) else (nI k, rightT (setGd u (u.2.2.2.2.1 ||| (1 <<< (nI k &&& 31)))) 16, u.2.2.2.2.1 ||| (1 <<< (nI k &&& 31)))) else bgT u k
theorem bgT_succ (u : SV) (k : Nat) : bgT u (k + 1) = (if bitF u.2.2.2.2.1 (nI k) = 0 then (if rightT (setGd u (u.2.2.2.2.1 ||| (1 <<< (nI k &&& 31)))) 16 ≤ (bgT u k).2.1 then ((bgT u k).1, (bgT u k).2.1, u.2.2.2.2.1 ||| (1 <<< (nI k &&& 31))) else (nI k, rightT (setGd u (u.2.2.2.2.1 ||| (1 <<< (nI k &&& 31)))) 16, u.2.2.2.2.1 ||| (1 <<< (nI k &&& 31)))) else bgT u k) := rfl
def goneS (u : SV) (N w : Nat) : Int32 := match w with
  | 0 => nI (runS N u).1
  | 1 => (runS N u).2.2.2.2.2.2.2.2.2.2.2.1
  | 2 => (runS N u).2.2.2.2.2.2.2.2.2.2.1
  | _ => (runS N u).2.2.2.2.2.2.2.2.2.2.2.2.2.2 - u.2.2.2.2.2.2.2.2.2.2.2.2.2
def countS (u : SV) (z : Nat) (w : Nat → Int32) (k : Nat) : Int32 := match k with
  | 0 => cbtT u 16
  | 1 => cbrT u 8
  | 2 => u.2.2.2.2.2.1
  | 3 => u.2.2.2.2.2.2.1
  | 4 => rightT u 16
  | 5 => bcF u.2.2.2.2.1
  | 6 => gwT u 8
  | 7 => ptT u w 16
  | 8 => fubT u.1 16
  | _ => nI z
def wrT (cd : Nat → Int32) (u : SV) (a : Nat) : Nat → Nat → Int32
  | 0 => cd
  | j + 1 => upd (upd (wrT cd u a j) (2 * j) (signF (tellN u (a + j) / 16))) (2 * j + 1) (signF (tellN u (a + j) % 16))
theorem wrT_succ (cd : Nat → Int32) (u : SV) (a j : Nat) : wrT cd u a (j + 1) = upd (upd (wrT cd u a j) (2 * j) (signF (tellN u (a + j) / 16))) (2 * j + 1) (signF (tellN u (a + j) % 16)) := rfl
theorem mX4_cross_f22 : Cond.fieldLink RX4 22 "WireLoom" "past" "LWireLoom$Past;" ∈ wsX4_cross := by decide +kernel
theorem mX4_cross_f10 : Cond.fieldLink RX4 10 "WireLoom" "now" "LWireLoom$State;" ∈ wsX4_cross := by decide +kernel
theorem mX4_cross_f63 : Cond.fieldLink RX4 63 "WireLoom$State" "rings" "[I" ∈ wsX4_cross := by decide +kernel
set_option maxRecDepth 20000 in
theorem iX4_cross_X2 : ∀ w ∈ wsX20, w ∈ wsX4_cross := by decide +kernel
set_option maxRecDepth 20000 in
theorem iX4_cross_X4 : ∀ w ∈ wsX40, w ∈ wsX4_cross := by decide +kernel
set_option maxHeartbeats 4000000 in
set_option maxRecDepth 100000 in
theorem c_X4_cross (l : Launch) (D : va_G) (cA : Nat → ClassId) (H : Heap) (Ad : Nat → Nat → Nat) (f : Nat → SV) (o z : Nat) (tx : TV) (rt : (Nat → Int32) × (Nat → Int32)) (ho : o < 6) (hz6 : z ≤ 6) (hz : (f 0).2.2.2.2.2.2.2.2.2.2.2.1 = 0 ∨ (f 0).2.2.2.2.2.2.2.2.2.2.2.1 = 1) (t : Nat) (ht : t < 16) (r : Nat) (hr0 : r < 8) (hP0 : va_P D vwCl (all cA Ad (f, ((nI o), (nI z)), tx, rt)) H) (hD0 : va_D (fun _ => True) (all cA Ad (f, ((nI o), (nI z)), tx, rt))) : MU l yX4_cross wsX4_cross ({ frames := 4, cells := 0, slots := 0, locals := 93 } : Room) D cA [.ref (Ad 10 0), .int (nI t), .int (nI r)] H (all cA Ad (f, ((nI o), (nI z)), tx, rt)) (all cA Ad (upS (pushF f ((o + z) % 6)) 0 (layS (f 0) t ((f 0).1 t ^^^ (1 <<< (nI r &&& 31)))), (nI (if z < 6 then o else (o + 1) % 6), nI (if z < 6 then z + 1 else z)), tx, rt)) (some (.int (bitF ((f 0).1 t ^^^ (1 <<< (nI r &&& 31))) (nI r)))) := by
  refine Met.ofW (cc := cX4_cross) (maxL := 3) (ret := (some .int)) (by decide) rfl ?_
  intro p e s m args below meth c s₁ B hml hv
  obtain ⟨rfl, hH, hKN⟩ := hv
  have hK := hKN.1
  have hx := B.exec
  have hb := B.bytes
  have hr := B.returns
  have hts := atoms_spec (ws := wsX4_cross) B.pre
  have hown : s.vm.findClass RX4 = some m.cls := findClass_of_methodNamed B.named
  have hlocks := B.notSynchronized
  subst hH
  have hWD := hD0.self (sz := s.heap.size)
  generalize hAe : va_A (all cA Ad (f, ((nI o), (nI z)), tx, rt)) s.heap.size = A at hWD ⊢
  have hA : ∀ q : Nat, s.heap.size ≤ q → A q := fun q h => by rw [← hAe]; exact Or.inr h
  have hS : va_S A s.heap s.heap [] := va_S.rf
  have hWP : va_P D vwCl (all cA Ad (f, ((nI o), (nI z)), tx, rt)) s.heap := hP0
  have hl := lv_entry ([.ref (Ad 10 0), .int (nI t), .int (nI r)] : List Value) (n := 3) (Nat.le_of_ble_eq_true rfl)
  rw [lg_entry_eq]
  generalize (lg_sl ([.ref (Ad 10 0), .int (nI t), .int (nI r)] : List Value) ++ List.replicate (3 - (lg_sl ([.ref (Ad 10 0), .int (nI t), .int (nI r)] : List Value)).length) Slot.unset).toArray = ls at hl ⊢
  have hl : lv_has ls 3 [(0, .ref (Ad 10 0)), (1, .int (nI t)), (2, .int (nI r))] := hl
  refine lv_iload_n hx hb dX4_cross_0 rfl (lv_at hl 1 rfl) ?_
  refine ro_S (As := [.int (nI t)]) (rest := []) ⟨hx, hb, hml, hown, hts⟩ (c_X4_isThread l D cA _ (nI t)) (cwS2 1 hts gX4_cross_X4_isThread rfl rfl rfl (by decide +kernel) ⟨Nat.le_of_ble_eq_true rfl, Nat.le_of_ble_eq_true rfl⟩) hKN rfl hl.1 rfl (lv_room (Nat.le_of_ble_eq_true rfl)) dX4_cross_1 ⟨Nat.zero_le _, Nat.zero_le _⟩ ?_
  refine lz_top (v := 1) (inF_ok (k := t) (a := 0) (b := 15) (by omega) (by omega) (by decide)) ?_
  refine lv_if_eq (tgt := 14) hx hb dX4_cross_4 (by decide) (fun h => absurd h (by decide)) (fun _ => ?_)
  refine lv_iload_n hx hb dX4_cross_7 rfl (lv_at hl 2 rfl) ?_
  refine ro_S (As := [.int (nI r)]) (rest := []) ⟨hx, hb, hml, hown, hts⟩ (c_X4_isRing l D cA _ (nI r)) (cwS2 1 hts gX4_cross_X4_isRing rfl rfl rfl (by decide +kernel) ⟨Nat.le_of_ble_eq_true rfl, Nat.le_of_ble_eq_true rfl⟩) hKN rfl hl.1 rfl (lv_room (Nat.le_of_ble_eq_true rfl)) dX4_cross_8 ⟨Nat.zero_le _, Nat.zero_le _⟩ ?_
  refine lz_top (v := 1) (inF_ok (k := r) (a := 0) (b := 7) (by omega) (by omega) (by decide)) ?_
  refine lv_if_ne (tgt := 24) hx hb dX4_cross_11 (by decide) (fun _ => ?_) (fun h => absurd h (by decide))
  refine lv_aload_n hx hb dX4_cross_24 rfl (lv_at hl 0 rfl) ?_
  have hP : va_P D vwCl ((wLm cA Ad rt) ++ (rst cA Ad (f, ((nI o), (nI z)), tx, rt) 10)) s.heap := lw_fP 10 (by decide) hWP
  have hD : va_D A ((wLm cA Ad rt) ++ (rst cA Ad (f, ((nI o), (nI z)), tx, rt) 10)) := lw_fD 10 (by decide) hWD
  refine va_get (D := D) (ci := 4) (v := .ref (Ad 11 0)) (C := RX4) (T := TX4) (N := 7) hx hb hts iX4_cross_X4 hown hK hP 0 rfl rfl 2 (by decide) (hts _ mX4_cross_f22) (fun _ h9 => h9) rfl dX4_cross_25 ?_
  refine lv_aload_n hx hb dX4_cross_28 rfl (lv_at hl 0 rfl) ?_
  refine va_get (D := D) (ci := 4) (v := .ref (Ad 0 0)) (C := RX4) (T := TX4) (N := 7) hx hb hts iX4_cross_X4 hown hK hP 0 rfl rfl 0 (by decide) (hts _ mX4_cross_f10) (fun _ h9 => h9) rfl dX4_cross_29 ?_
  refine mu_Vw (ci := 1) (q0 := 0) (As := [.ref (Ad 0 0)]) (rest := []) ⟨hx, hb, hml, hown, hts⟩ (c_X1_push l D cA _ Ad f o z tx rt ho hz6 hz hWP (hWD.weaken (fun _ _ _ _ => trivial))) (cwV 1 hts gX4_cross_X1_push rfl rfl rfl (by decide +kernel) ⟨Nat.le_of_ble_eq_true rfl, Nat.le_of_ble_eq_true rfl⟩) hKN hWP hWD hS hA (lw_fP 11 (by decide) hWP : va_P D vwCl ((wPa cA Ad ((nI o), (nI z))) ++ (rst cA Ad (f, ((nI o), (nI z)), tx, rt) 11)) s.heap) rfl rfl (all_fst _ _ _ _) rfl hl.1 rfl (lv_room (Nat.le_of_ble_eq_true rfl)) dX4_cross_32 ⟨Nat.zero_le _, Nat.zero_le _⟩ (fun H locs hWP hWD hS => ?_)
  have hWP : va_P D vwCl (all cA Ad ((pushF f ((o + z) % 6)), ((nI (if z < 6 then o else (o + 1) % 6)), (nI (if z < 6 then z + 1 else z))), tx, rt)) H := by rw [pushF_eq] at hWP; exact hWP
  have hWD : va_D A (all cA Ad ((pushF f ((o + z) % 6)), ((nI (if z < 6 then o else (o + 1) % 6)), (nI (if z < 6 then z + 1 else z))), tx, rt)) := by rw [pushF_eq] at hWD; exact hWD
  refine lv_aload_n hx hb dX4_cross_35 rfl (lv_at hl 0 rfl) ?_
  have hP : va_P D vwCl ((wLm cA Ad rt) ++ (rst cA Ad ((pushF f ((o + z) % 6)), ((nI (if z < 6 then o else (o + 1) % 6)), (nI (if z < 6 then z + 1 else z))), tx, rt) 10)) H := lw_fP 10 (by decide) hWP
  have hD : va_D A ((wLm cA Ad rt) ++ (rst cA Ad ((pushF f ((o + z) % 6)), ((nI (if z < 6 then o else (o + 1) % 6)), (nI (if z < 6 then z + 1 else z))), tx, rt) 10)) := lw_fD 10 (by decide) hWD
  refine va_get (D := D) (ci := 4) (v := .ref (Ad 0 0)) (C := RX4) (T := TX4) (N := 7) hx hb hts iX4_cross_X4 hown hK hP 0 rfl rfl 0 (by decide) (hts _ mX4_cross_f10) (fun _ h9 => h9) rfl dX4_cross_36 ?_
  refine lv_iload_n hx hb dX4_cross_39 rfl (lv_at hl 1 rfl) ?_
  refine lv_aload_n hx hb dX4_cross_40 rfl (lv_at hl 0 rfl) ?_
  refine va_get (D := D) (ci := 4) (v := .ref (Ad 0 0)) (C := RX4) (T := TX4) (N := 7) hx hb hts iX4_cross_X4 hown hK hP 0 rfl rfl 0 (by decide) (hts _ mX4_cross_f10) (fun _ h9 => h9) rfl dX4_cross_41 ?_
  have hP : va_P D vwCl ((wSt cA (Ad 0) (f 0)) ++ (rst cA Ad ((pushF f ((o + z) % 6)), ((nI (if z < 6 then o else (o + 1) % 6)), (nI (if z < 6 then z + 1 else z))), tx, rt) 0)) H := lw_fP 0 (by decide) hWP
  have hD : va_D A ((wSt cA (Ad 0) (f 0)) ++ (rst cA Ad ((pushF f ((o + z) % 6)), ((nI (if z < 6 then o else (o + 1) % 6)), (nI (if z < 6 then z + 1 else z))), tx, rt) 0)) := lw_fD 0 (by decide) hWD
  refine va_get (D := D) (ci := 2) (v := .ref ((Ad 0) 1)) (C := RX2) (T := TX2) (N := 8) hx hb hts iX4_cross_X2 hown hK hP 0 rfl rfl 0 (by decide) (hts _ mX4_cross_f63) (fun _ h9 => h9) rfl dX4_cross_44 ?_
  refine lv_iload_n hx hb dX4_cross_47 rfl (lv_at hl 1 rfl) ?_
  refine lz_iald (k := t) (f := (f 0).1) hx hb hK hP 1 0 rfl rfl ⟨by omega, by decide⟩ dX4_cross_48 ?_
  refine lv_iconst (v := 1) hx hb dX4_cross_49 (by decide) ?_
  refine lv_iload_n hx hb dX4_cross_50 rfl (lv_at hl 2 rfl) ?_
  refine lv_ishl hx hb dX4_cross_51 ?_
  refine lv_ixor hx hb dX4_cross_52 ?_
  refine mu_Va (ci := 2) (q0 := 0) (As := [.int (nI t), .int ((((f 0).1) t) ^^^ (1 <<< ((nI r) &&& 31)))]) (rest := []) ⟨hx, hb, hml, hown, hts⟩ (c_X2_layThrough l D cA _ (Ad 0) (f 0) t (by omega) ((((f 0).1) t) ^^^ (1 <<< ((nI r) &&& 31))) (va_P_l hP) (va_D_l hD)) (cwV 2 hts gX4_cross_X2_layThrough rfl rfl rfl (by decide +kernel) ⟨Nat.le_of_ble_eq_true rfl, Nat.le_of_ble_eq_true rfl⟩) hKN hP hD hS hA rfl rfl ((wSt_fst _ _ _).trans (wSt_fst _ _ _).symm) rfl hl.1 rfl (lv_room (Nat.le_of_ble_eq_true rfl)) dX4_cross_53 ⟨Nat.zero_le _, Nat.zero_le _⟩ (fun H locs hP hD hS => ?_)
  have hP : va_P D vwCl ((wSt cA (Ad 0) ((layS (f 0) t ((((f 0).1) t) ^^^ (1 <<< ((nI r) &&& 31)))).1, (layS (f 0) t ((((f 0).1) t) ^^^ (1 <<< ((nI r) &&& 31)))).2.1, (layS (f 0) t ((((f 0).1) t) ^^^ (1 <<< ((nI r) &&& 31)))).2.2.1, (layS (f 0) t ((((f 0).1) t) ^^^ (1 <<< ((nI r) &&& 31)))).2.2.2.1, (layS (f 0) t ((((f 0).1) t) ^^^ (1 <<< ((nI r) &&& 31)))).2.2.2.2.1, (layS (f 0) t ((((f 0).1) t) ^^^ (1 <<< ((nI r) &&& 31)))).2.2.2.2.2.1, (layS (f 0) t ((((f 0).1) t) ^^^ (1 <<< ((nI r) &&& 31)))).2.2.2.2.2.2.1, (layS (f 0) t ((((f 0).1) t) ^^^ (1 <<< ((nI r) &&& 31)))).2.2.2.2.2.2.2.1, (layS (f 0) t ((((f 0).1) t) ^^^ (1 <<< ((nI r) &&& 31)))).2.2.2.2.2.2.2.2.1, (layS (f 0) t ((((f 0).1) t) ^^^ (1 <<< ((nI r) &&& 31)))).2.2.2.2.2.2.2.2.2.1, (layS (f 0) t ((((f 0).1) t) ^^^ (1 <<< ((nI r) &&& 31)))).2.2.2.2.2.2.2.2.2.2.1, (layS (f 0) t ((((f 0).1) t) ^^^ (1 <<< ((nI r) &&& 31)))).2.2.2.2.2.2.2.2.2.2.2.1, (layS (f 0) t ((((f 0).1) t) ^^^ (1 <<< ((nI r) &&& 31)))).2.2.2.2.2.2.2.2.2.2.2.2.1, (layS (f 0) t ((((f 0).1) t) ^^^ (1 <<< ((nI r) &&& 31)))).2.2.2.2.2.2.2.2.2.2.2.2.2)) ++ (rst cA Ad ((pushF f ((o + z) % 6)), ((nI (if z < 6 then o else (o + 1) % 6)), (nI (if z < 6 then z + 1 else z))), tx, rt) 0)) H := hP
  have hD : va_D A ((wSt cA (Ad 0) ((layS (f 0) t ((((f 0).1) t) ^^^ (1 <<< ((nI r) &&& 31)))).1, (layS (f 0) t ((((f 0).1) t) ^^^ (1 <<< ((nI r) &&& 31)))).2.1, (layS (f 0) t ((((f 0).1) t) ^^^ (1 <<< ((nI r) &&& 31)))).2.2.1, (layS (f 0) t ((((f 0).1) t) ^^^ (1 <<< ((nI r) &&& 31)))).2.2.2.1, (layS (f 0) t ((((f 0).1) t) ^^^ (1 <<< ((nI r) &&& 31)))).2.2.2.2.1, (layS (f 0) t ((((f 0).1) t) ^^^ (1 <<< ((nI r) &&& 31)))).2.2.2.2.2.1, (layS (f 0) t ((((f 0).1) t) ^^^ (1 <<< ((nI r) &&& 31)))).2.2.2.2.2.2.1, (layS (f 0) t ((((f 0).1) t) ^^^ (1 <<< ((nI r) &&& 31)))).2.2.2.2.2.2.2.1, (layS (f 0) t ((((f 0).1) t) ^^^ (1 <<< ((nI r) &&& 31)))).2.2.2.2.2.2.2.2.1, (layS (f 0) t ((((f 0).1) t) ^^^ (1 <<< ((nI r) &&& 31)))).2.2.2.2.2.2.2.2.2.1, (layS (f 0) t ((((f 0).1) t) ^^^ (1 <<< ((nI r) &&& 31)))).2.2.2.2.2.2.2.2.2.2.1, (layS (f 0) t ((((f 0).1) t) ^^^ (1 <<< ((nI r) &&& 31)))).2.2.2.2.2.2.2.2.2.2.2.1, (layS (f 0) t ((((f 0).1) t) ^^^ (1 <<< ((nI r) &&& 31)))).2.2.2.2.2.2.2.2.2.2.2.2.1, (layS (f 0) t ((((f 0).1) t) ^^^ (1 <<< ((nI r) &&& 31)))).2.2.2.2.2.2.2.2.2.2.2.2.2)) ++ (rst cA Ad ((pushF f ((o + z) % 6)), ((nI (if z < 6 then o else (o + 1) % 6)), (nI (if z < 6 then z + 1 else z))), tx, rt) 0)) := hD
  refine lv_pop hx hb dX4_cross_56 rfl ?_
  refine lv_aload_n hx hb dX4_cross_57 rfl (lv_at hl 0 rfl) ?_
  have hWP : va_P D vwCl (all cA Ad ((upS (pushF f ((o + z) % 6)) 0 ((layS (f 0) t ((((f 0).1) t) ^^^ (1 <<< ((nI r) &&& 31)))).1, (layS (f 0) t ((((f 0).1) t) ^^^ (1 <<< ((nI r) &&& 31)))).2.1, (layS (f 0) t ((((f 0).1) t) ^^^ (1 <<< ((nI r) &&& 31)))).2.2.1, (layS (f 0) t ((((f 0).1) t) ^^^ (1 <<< ((nI r) &&& 31)))).2.2.2.1, (layS (f 0) t ((((f 0).1) t) ^^^ (1 <<< ((nI r) &&& 31)))).2.2.2.2.1, (layS (f 0) t ((((f 0).1) t) ^^^ (1 <<< ((nI r) &&& 31)))).2.2.2.2.2.1, (layS (f 0) t ((((f 0).1) t) ^^^ (1 <<< ((nI r) &&& 31)))).2.2.2.2.2.2.1, (layS (f 0) t ((((f 0).1) t) ^^^ (1 <<< ((nI r) &&& 31)))).2.2.2.2.2.2.2.1, (layS (f 0) t ((((f 0).1) t) ^^^ (1 <<< ((nI r) &&& 31)))).2.2.2.2.2.2.2.2.1, (layS (f 0) t ((((f 0).1) t) ^^^ (1 <<< ((nI r) &&& 31)))).2.2.2.2.2.2.2.2.2.1, (layS (f 0) t ((((f 0).1) t) ^^^ (1 <<< ((nI r) &&& 31)))).2.2.2.2.2.2.2.2.2.2.1, (layS (f 0) t ((((f 0).1) t) ^^^ (1 <<< ((nI r) &&& 31)))).2.2.2.2.2.2.2.2.2.2.2.1, (layS (f 0) t ((((f 0).1) t) ^^^ (1 <<< ((nI r) &&& 31)))).2.2.2.2.2.2.2.2.2.2.2.2.1, (layS (f 0) t ((((f 0).1) t) ^^^ (1 <<< ((nI r) &&& 31)))).2.2.2.2.2.2.2.2.2.2.2.2.2)), ((nI (if z < 6 then o else (o + 1) % 6)), (nI (if z < 6 then z + 1 else z))), tx, rt)) H := lw_uP 0 ((upS (pushF f ((o + z) % 6)) 0 ((layS (f 0) t ((((f 0).1) t) ^^^ (1 <<< ((nI r) &&& 31)))).1, (layS (f 0) t ((((f 0).1) t) ^^^ (1 <<< ((nI r) &&& 31)))).2.1, (layS (f 0) t ((((f 0).1) t) ^^^ (1 <<< ((nI r) &&& 31)))).2.2.1, (layS (f 0) t ((((f 0).1) t) ^^^ (1 <<< ((nI r) &&& 31)))).2.2.2.1, (layS (f 0) t ((((f 0).1) t) ^^^ (1 <<< ((nI r) &&& 31)))).2.2.2.2.1, (layS (f 0) t ((((f 0).1) t) ^^^ (1 <<< ((nI r) &&& 31)))).2.2.2.2.2.1, (layS (f 0) t ((((f 0).1) t) ^^^ (1 <<< ((nI r) &&& 31)))).2.2.2.2.2.2.1, (layS (f 0) t ((((f 0).1) t) ^^^ (1 <<< ((nI r) &&& 31)))).2.2.2.2.2.2.2.1, (layS (f 0) t ((((f 0).1) t) ^^^ (1 <<< ((nI r) &&& 31)))).2.2.2.2.2.2.2.2.1, (layS (f 0) t ((((f 0).1) t) ^^^ (1 <<< ((nI r) &&& 31)))).2.2.2.2.2.2.2.2.2.1, (layS (f 0) t ((((f 0).1) t) ^^^ (1 <<< ((nI r) &&& 31)))).2.2.2.2.2.2.2.2.2.2.1, (layS (f 0) t ((((f 0).1) t) ^^^ (1 <<< ((nI r) &&& 31)))).2.2.2.2.2.2.2.2.2.2.2.1, (layS (f 0) t ((((f 0).1) t) ^^^ (1 <<< ((nI r) &&& 31)))).2.2.2.2.2.2.2.2.2.2.2.2.1, (layS (f 0) t ((((f 0).1) t) ^^^ (1 <<< ((nI r) &&& 31)))).2.2.2.2.2.2.2.2.2.2.2.2.2)), ((nI (if z < 6 then o else (o + 1) % 6)), (nI (if z < 6 then z + 1 else z))), tx, rt) (by decide) (bc_st 0 _ (by decide)) hP
  have hWD : va_D A (all cA Ad ((upS (pushF f ((o + z) % 6)) 0 ((layS (f 0) t ((((f 0).1) t) ^^^ (1 <<< ((nI r) &&& 31)))).1, (layS (f 0) t ((((f 0).1) t) ^^^ (1 <<< ((nI r) &&& 31)))).2.1, (layS (f 0) t ((((f 0).1) t) ^^^ (1 <<< ((nI r) &&& 31)))).2.2.1, (layS (f 0) t ((((f 0).1) t) ^^^ (1 <<< ((nI r) &&& 31)))).2.2.2.1, (layS (f 0) t ((((f 0).1) t) ^^^ (1 <<< ((nI r) &&& 31)))).2.2.2.2.1, (layS (f 0) t ((((f 0).1) t) ^^^ (1 <<< ((nI r) &&& 31)))).2.2.2.2.2.1, (layS (f 0) t ((((f 0).1) t) ^^^ (1 <<< ((nI r) &&& 31)))).2.2.2.2.2.2.1, (layS (f 0) t ((((f 0).1) t) ^^^ (1 <<< ((nI r) &&& 31)))).2.2.2.2.2.2.2.1, (layS (f 0) t ((((f 0).1) t) ^^^ (1 <<< ((nI r) &&& 31)))).2.2.2.2.2.2.2.2.1, (layS (f 0) t ((((f 0).1) t) ^^^ (1 <<< ((nI r) &&& 31)))).2.2.2.2.2.2.2.2.2.1, (layS (f 0) t ((((f 0).1) t) ^^^ (1 <<< ((nI r) &&& 31)))).2.2.2.2.2.2.2.2.2.2.1, (layS (f 0) t ((((f 0).1) t) ^^^ (1 <<< ((nI r) &&& 31)))).2.2.2.2.2.2.2.2.2.2.2.1, (layS (f 0) t ((((f 0).1) t) ^^^ (1 <<< ((nI r) &&& 31)))).2.2.2.2.2.2.2.2.2.2.2.2.1, (layS (f 0) t ((((f 0).1) t) ^^^ (1 <<< ((nI r) &&& 31)))).2.2.2.2.2.2.2.2.2.2.2.2.2)), ((nI (if z < 6 then o else (o + 1) % 6)), (nI (if z < 6 then z + 1 else z))), tx, rt)) := lw_uD 0 ((upS (pushF f ((o + z) % 6)) 0 ((layS (f 0) t ((((f 0).1) t) ^^^ (1 <<< ((nI r) &&& 31)))).1, (layS (f 0) t ((((f 0).1) t) ^^^ (1 <<< ((nI r) &&& 31)))).2.1, (layS (f 0) t ((((f 0).1) t) ^^^ (1 <<< ((nI r) &&& 31)))).2.2.1, (layS (f 0) t ((((f 0).1) t) ^^^ (1 <<< ((nI r) &&& 31)))).2.2.2.1, (layS (f 0) t ((((f 0).1) t) ^^^ (1 <<< ((nI r) &&& 31)))).2.2.2.2.1, (layS (f 0) t ((((f 0).1) t) ^^^ (1 <<< ((nI r) &&& 31)))).2.2.2.2.2.1, (layS (f 0) t ((((f 0).1) t) ^^^ (1 <<< ((nI r) &&& 31)))).2.2.2.2.2.2.1, (layS (f 0) t ((((f 0).1) t) ^^^ (1 <<< ((nI r) &&& 31)))).2.2.2.2.2.2.2.1, (layS (f 0) t ((((f 0).1) t) ^^^ (1 <<< ((nI r) &&& 31)))).2.2.2.2.2.2.2.2.1, (layS (f 0) t ((((f 0).1) t) ^^^ (1 <<< ((nI r) &&& 31)))).2.2.2.2.2.2.2.2.2.1, (layS (f 0) t ((((f 0).1) t) ^^^ (1 <<< ((nI r) &&& 31)))).2.2.2.2.2.2.2.2.2.2.1, (layS (f 0) t ((((f 0).1) t) ^^^ (1 <<< ((nI r) &&& 31)))).2.2.2.2.2.2.2.2.2.2.2.1, (layS (f 0) t ((((f 0).1) t) ^^^ (1 <<< ((nI r) &&& 31)))).2.2.2.2.2.2.2.2.2.2.2.2.1, (layS (f 0) t ((((f 0).1) t) ^^^ (1 <<< ((nI r) &&& 31)))).2.2.2.2.2.2.2.2.2.2.2.2.2)), ((nI (if z < 6 then o else (o + 1) % 6)), (nI (if z < 6 then z + 1 else z))), tx, rt) (by decide) (bc_st 0 _ (by decide)) hD
  have hP : va_P D vwCl ((wLm cA Ad rt) ++ (rst cA Ad ((upS (pushF f ((o + z) % 6)) 0 ((layS (f 0) t ((((f 0).1) t) ^^^ (1 <<< ((nI r) &&& 31)))).1, (layS (f 0) t ((((f 0).1) t) ^^^ (1 <<< ((nI r) &&& 31)))).2.1, (layS (f 0) t ((((f 0).1) t) ^^^ (1 <<< ((nI r) &&& 31)))).2.2.1, (layS (f 0) t ((((f 0).1) t) ^^^ (1 <<< ((nI r) &&& 31)))).2.2.2.1, (layS (f 0) t ((((f 0).1) t) ^^^ (1 <<< ((nI r) &&& 31)))).2.2.2.2.1, (layS (f 0) t ((((f 0).1) t) ^^^ (1 <<< ((nI r) &&& 31)))).2.2.2.2.2.1, (layS (f 0) t ((((f 0).1) t) ^^^ (1 <<< ((nI r) &&& 31)))).2.2.2.2.2.2.1, (layS (f 0) t ((((f 0).1) t) ^^^ (1 <<< ((nI r) &&& 31)))).2.2.2.2.2.2.2.1, (layS (f 0) t ((((f 0).1) t) ^^^ (1 <<< ((nI r) &&& 31)))).2.2.2.2.2.2.2.2.1, (layS (f 0) t ((((f 0).1) t) ^^^ (1 <<< ((nI r) &&& 31)))).2.2.2.2.2.2.2.2.2.1, (layS (f 0) t ((((f 0).1) t) ^^^ (1 <<< ((nI r) &&& 31)))).2.2.2.2.2.2.2.2.2.2.1, (layS (f 0) t ((((f 0).1) t) ^^^ (1 <<< ((nI r) &&& 31)))).2.2.2.2.2.2.2.2.2.2.2.1, (layS (f 0) t ((((f 0).1) t) ^^^ (1 <<< ((nI r) &&& 31)))).2.2.2.2.2.2.2.2.2.2.2.2.1, (layS (f 0) t ((((f 0).1) t) ^^^ (1 <<< ((nI r) &&& 31)))).2.2.2.2.2.2.2.2.2.2.2.2.2)), ((nI (if z < 6 then o else (o + 1) % 6)), (nI (if z < 6 then z + 1 else z))), tx, rt) 10)) H := lw_fP 10 (by decide) hWP
  have hD : va_D A ((wLm cA Ad rt) ++ (rst cA Ad ((upS (pushF f ((o + z) % 6)) 0 ((layS (f 0) t ((((f 0).1) t) ^^^ (1 <<< ((nI r) &&& 31)))).1, (layS (f 0) t ((((f 0).1) t) ^^^ (1 <<< ((nI r) &&& 31)))).2.1, (layS (f 0) t ((((f 0).1) t) ^^^ (1 <<< ((nI r) &&& 31)))).2.2.1, (layS (f 0) t ((((f 0).1) t) ^^^ (1 <<< ((nI r) &&& 31)))).2.2.2.1, (layS (f 0) t ((((f 0).1) t) ^^^ (1 <<< ((nI r) &&& 31)))).2.2.2.2.1, (layS (f 0) t ((((f 0).1) t) ^^^ (1 <<< ((nI r) &&& 31)))).2.2.2.2.2.1, (layS (f 0) t ((((f 0).1) t) ^^^ (1 <<< ((nI r) &&& 31)))).2.2.2.2.2.2.1, (layS (f 0) t ((((f 0).1) t) ^^^ (1 <<< ((nI r) &&& 31)))).2.2.2.2.2.2.2.1, (layS (f 0) t ((((f 0).1) t) ^^^ (1 <<< ((nI r) &&& 31)))).2.2.2.2.2.2.2.2.1, (layS (f 0) t ((((f 0).1) t) ^^^ (1 <<< ((nI r) &&& 31)))).2.2.2.2.2.2.2.2.2.1, (layS (f 0) t ((((f 0).1) t) ^^^ (1 <<< ((nI r) &&& 31)))).2.2.2.2.2.2.2.2.2.2.1, (layS (f 0) t ((((f 0).1) t) ^^^ (1 <<< ((nI r) &&& 31)))).2.2.2.2.2.2.2.2.2.2.2.1, (layS (f 0) t ((((f 0).1) t) ^^^ (1 <<< ((nI r) &&& 31)))).2.2.2.2.2.2.2.2.2.2.2.2.1, (layS (f 0) t ((((f 0).1) t) ^^^ (1 <<< ((nI r) &&& 31)))).2.2.2.2.2.2.2.2.2.2.2.2.2)), ((nI (if z < 6 then o else (o + 1) % 6)), (nI (if z < 6 then z + 1 else z))), tx, rt) 10)) := lw_fD 10 (by decide) hWD
  refine va_get (D := D) (ci := 4) (v := .ref (Ad 0 0)) (C := RX4) (T := TX4) (N := 7) hx hb hts iX4_cross_X4 hown hK hP 0 rfl rfl 0 (by decide) (hts _ mX4_cross_f10) (fun _ h9 => h9) rfl dX4_cross_58 ?_
  have hP : va_P D vwCl ((wSt cA (Ad 0) ((layS (f 0) t ((((f 0).1) t) ^^^ (1 <<< ((nI r) &&& 31)))).1, (layS (f 0) t ((((f 0).1) t) ^^^ (1 <<< ((nI r) &&& 31)))).2.1, (layS (f 0) t ((((f 0).1) t) ^^^ (1 <<< ((nI r) &&& 31)))).2.2.1, (layS (f 0) t ((((f 0).1) t) ^^^ (1 <<< ((nI r) &&& 31)))).2.2.2.1, (layS (f 0) t ((((f 0).1) t) ^^^ (1 <<< ((nI r) &&& 31)))).2.2.2.2.1, (layS (f 0) t ((((f 0).1) t) ^^^ (1 <<< ((nI r) &&& 31)))).2.2.2.2.2.1, (layS (f 0) t ((((f 0).1) t) ^^^ (1 <<< ((nI r) &&& 31)))).2.2.2.2.2.2.1, (layS (f 0) t ((((f 0).1) t) ^^^ (1 <<< ((nI r) &&& 31)))).2.2.2.2.2.2.2.1, (layS (f 0) t ((((f 0).1) t) ^^^ (1 <<< ((nI r) &&& 31)))).2.2.2.2.2.2.2.2.1, (layS (f 0) t ((((f 0).1) t) ^^^ (1 <<< ((nI r) &&& 31)))).2.2.2.2.2.2.2.2.2.1, (layS (f 0) t ((((f 0).1) t) ^^^ (1 <<< ((nI r) &&& 31)))).2.2.2.2.2.2.2.2.2.2.1, (layS (f 0) t ((((f 0).1) t) ^^^ (1 <<< ((nI r) &&& 31)))).2.2.2.2.2.2.2.2.2.2.2.1, (layS (f 0) t ((((f 0).1) t) ^^^ (1 <<< ((nI r) &&& 31)))).2.2.2.2.2.2.2.2.2.2.2.2.1, (layS (f 0) t ((((f 0).1) t) ^^^ (1 <<< ((nI r) &&& 31)))).2.2.2.2.2.2.2.2.2.2.2.2.2)) ++ (rst cA Ad ((upS (pushF f ((o + z) % 6)) 0 ((layS (f 0) t ((((f 0).1) t) ^^^ (1 <<< ((nI r) &&& 31)))).1, (layS (f 0) t ((((f 0).1) t) ^^^ (1 <<< ((nI r) &&& 31)))).2.1, (layS (f 0) t ((((f 0).1) t) ^^^ (1 <<< ((nI r) &&& 31)))).2.2.1, (layS (f 0) t ((((f 0).1) t) ^^^ (1 <<< ((nI r) &&& 31)))).2.2.2.1, (layS (f 0) t ((((f 0).1) t) ^^^ (1 <<< ((nI r) &&& 31)))).2.2.2.2.1, (layS (f 0) t ((((f 0).1) t) ^^^ (1 <<< ((nI r) &&& 31)))).2.2.2.2.2.1, (layS (f 0) t ((((f 0).1) t) ^^^ (1 <<< ((nI r) &&& 31)))).2.2.2.2.2.2.1, (layS (f 0) t ((((f 0).1) t) ^^^ (1 <<< ((nI r) &&& 31)))).2.2.2.2.2.2.2.1, (layS (f 0) t ((((f 0).1) t) ^^^ (1 <<< ((nI r) &&& 31)))).2.2.2.2.2.2.2.2.1, (layS (f 0) t ((((f 0).1) t) ^^^ (1 <<< ((nI r) &&& 31)))).2.2.2.2.2.2.2.2.2.1, (layS (f 0) t ((((f 0).1) t) ^^^ (1 <<< ((nI r) &&& 31)))).2.2.2.2.2.2.2.2.2.2.1, (layS (f 0) t ((((f 0).1) t) ^^^ (1 <<< ((nI r) &&& 31)))).2.2.2.2.2.2.2.2.2.2.2.1, (layS (f 0) t ((((f 0).1) t) ^^^ (1 <<< ((nI r) &&& 31)))).2.2.2.2.2.2.2.2.2.2.2.2.1, (layS (f 0) t ((((f 0).1) t) ^^^ (1 <<< ((nI r) &&& 31)))).2.2.2.2.2.2.2.2.2.2.2.2.2)), ((nI (if z < 6 then o else (o + 1) % 6)), (nI (if z < 6 then z + 1 else z))), tx, rt) 0)) H := lw_fP 0 (by decide) hWP
  have hD : va_D A ((wSt cA (Ad 0) ((layS (f 0) t ((((f 0).1) t) ^^^ (1 <<< ((nI r) &&& 31)))).1, (layS (f 0) t ((((f 0).1) t) ^^^ (1 <<< ((nI r) &&& 31)))).2.1, (layS (f 0) t ((((f 0).1) t) ^^^ (1 <<< ((nI r) &&& 31)))).2.2.1, (layS (f 0) t ((((f 0).1) t) ^^^ (1 <<< ((nI r) &&& 31)))).2.2.2.1, (layS (f 0) t ((((f 0).1) t) ^^^ (1 <<< ((nI r) &&& 31)))).2.2.2.2.1, (layS (f 0) t ((((f 0).1) t) ^^^ (1 <<< ((nI r) &&& 31)))).2.2.2.2.2.1, (layS (f 0) t ((((f 0).1) t) ^^^ (1 <<< ((nI r) &&& 31)))).2.2.2.2.2.2.1, (layS (f 0) t ((((f 0).1) t) ^^^ (1 <<< ((nI r) &&& 31)))).2.2.2.2.2.2.2.1, (layS (f 0) t ((((f 0).1) t) ^^^ (1 <<< ((nI r) &&& 31)))).2.2.2.2.2.2.2.2.1, (layS (f 0) t ((((f 0).1) t) ^^^ (1 <<< ((nI r) &&& 31)))).2.2.2.2.2.2.2.2.2.1, (layS (f 0) t ((((f 0).1) t) ^^^ (1 <<< ((nI r) &&& 31)))).2.2.2.2.2.2.2.2.2.2.1, (layS (f 0) t ((((f 0).1) t) ^^^ (1 <<< ((nI r) &&& 31)))).2.2.2.2.2.2.2.2.2.2.2.1, (layS (f 0) t ((((f 0).1) t) ^^^ (1 <<< ((nI r) &&& 31)))).2.2.2.2.2.2.2.2.2.2.2.2.1, (layS (f 0) t ((((f 0).1) t) ^^^ (1 <<< ((nI r) &&& 31)))).2.2.2.2.2.2.2.2.2.2.2.2.2)) ++ (rst cA Ad ((upS (pushF f ((o + z) % 6)) 0 ((layS (f 0) t ((((f 0).1) t) ^^^ (1 <<< ((nI r) &&& 31)))).1, (layS (f 0) t ((((f 0).1) t) ^^^ (1 <<< ((nI r) &&& 31)))).2.1, (layS (f 0) t ((((f 0).1) t) ^^^ (1 <<< ((nI r) &&& 31)))).2.2.1, (layS (f 0) t ((((f 0).1) t) ^^^ (1 <<< ((nI r) &&& 31)))).2.2.2.1, (layS (f 0) t ((((f 0).1) t) ^^^ (1 <<< ((nI r) &&& 31)))).2.2.2.2.1, (layS (f 0) t ((((f 0).1) t) ^^^ (1 <<< ((nI r) &&& 31)))).2.2.2.2.2.1, (layS (f 0) t ((((f 0).1) t) ^^^ (1 <<< ((nI r) &&& 31)))).2.2.2.2.2.2.1, (layS (f 0) t ((((f 0).1) t) ^^^ (1 <<< ((nI r) &&& 31)))).2.2.2.2.2.2.2.1, (layS (f 0) t ((((f 0).1) t) ^^^ (1 <<< ((nI r) &&& 31)))).2.2.2.2.2.2.2.2.1, (layS (f 0) t ((((f 0).1) t) ^^^ (1 <<< ((nI r) &&& 31)))).2.2.2.2.2.2.2.2.2.1, (layS (f 0) t ((((f 0).1) t) ^^^ (1 <<< ((nI r) &&& 31)))).2.2.2.2.2.2.2.2.2.2.1, (layS (f 0) t ((((f 0).1) t) ^^^ (1 <<< ((nI r) &&& 31)))).2.2.2.2.2.2.2.2.2.2.2.1, (layS (f 0) t ((((f 0).1) t) ^^^ (1 <<< ((nI r) &&& 31)))).2.2.2.2.2.2.2.2.2.2.2.2.1, (layS (f 0) t ((((f 0).1) t) ^^^ (1 <<< ((nI r) &&& 31)))).2.2.2.2.2.2.2.2.2.2.2.2.2)), ((nI (if z < 6 then o else (o + 1) % 6)), (nI (if z < 6 then z + 1 else z))), tx, rt) 0)) := lw_fD 0 (by decide) hWD
  refine va_get (D := D) (ci := 2) (v := .ref ((Ad 0) 1)) (C := RX2) (T := TX2) (N := 8) hx hb hts iX4_cross_X2 hown hK hP 0 rfl rfl 0 (by decide) (hts _ mX4_cross_f63) (fun _ h9 => h9) rfl dX4_cross_61 ?_
  refine lv_iload_n hx hb dX4_cross_64 rfl (lv_at hl 1 rfl) ?_
  refine lz_iald (k := t) (f := ((layS (f 0) t ((((f 0).1) t) ^^^ (1 <<< ((nI r) &&& 31)))).1, (layS (f 0) t ((((f 0).1) t) ^^^ (1 <<< ((nI r) &&& 31)))).2.1, (layS (f 0) t ((((f 0).1) t) ^^^ (1 <<< ((nI r) &&& 31)))).2.2.1, (layS (f 0) t ((((f 0).1) t) ^^^ (1 <<< ((nI r) &&& 31)))).2.2.2.1, (layS (f 0) t ((((f 0).1) t) ^^^ (1 <<< ((nI r) &&& 31)))).2.2.2.2.1, (layS (f 0) t ((((f 0).1) t) ^^^ (1 <<< ((nI r) &&& 31)))).2.2.2.2.2.1, (layS (f 0) t ((((f 0).1) t) ^^^ (1 <<< ((nI r) &&& 31)))).2.2.2.2.2.2.1, (layS (f 0) t ((((f 0).1) t) ^^^ (1 <<< ((nI r) &&& 31)))).2.2.2.2.2.2.2.1, (layS (f 0) t ((((f 0).1) t) ^^^ (1 <<< ((nI r) &&& 31)))).2.2.2.2.2.2.2.2.1, (layS (f 0) t ((((f 0).1) t) ^^^ (1 <<< ((nI r) &&& 31)))).2.2.2.2.2.2.2.2.2.1, (layS (f 0) t ((((f 0).1) t) ^^^ (1 <<< ((nI r) &&& 31)))).2.2.2.2.2.2.2.2.2.2.1, (layS (f 0) t ((((f 0).1) t) ^^^ (1 <<< ((nI r) &&& 31)))).2.2.2.2.2.2.2.2.2.2.2.1, (layS (f 0) t ((((f 0).1) t) ^^^ (1 <<< ((nI r) &&& 31)))).2.2.2.2.2.2.2.2.2.2.2.2.1, (layS (f 0) t ((((f 0).1) t) ^^^ (1 <<< ((nI r) &&& 31)))).2.2.2.2.2.2.2.2.2.2.2.2.2).1) hx hb hK hP 1 0 rfl rfl ⟨by omega, by decide⟩ dX4_cross_65 ?_
  refine lv_iload_n hx hb dX4_cross_66 rfl (lv_at hl 2 rfl) ?_
  refine ro_S (As := [.int ((((layS (f 0) t ((((f 0).1) t) ^^^ (1 <<< ((nI r) &&& 31)))).1, (layS (f 0) t ((((f 0).1) t) ^^^ (1 <<< ((nI r) &&& 31)))).2.1, (layS (f 0) t ((((f 0).1) t) ^^^ (1 <<< ((nI r) &&& 31)))).2.2.1, (layS (f 0) t ((((f 0).1) t) ^^^ (1 <<< ((nI r) &&& 31)))).2.2.2.1, (layS (f 0) t ((((f 0).1) t) ^^^ (1 <<< ((nI r) &&& 31)))).2.2.2.2.1, (layS (f 0) t ((((f 0).1) t) ^^^ (1 <<< ((nI r) &&& 31)))).2.2.2.2.2.1, (layS (f 0) t ((((f 0).1) t) ^^^ (1 <<< ((nI r) &&& 31)))).2.2.2.2.2.2.1, (layS (f 0) t ((((f 0).1) t) ^^^ (1 <<< ((nI r) &&& 31)))).2.2.2.2.2.2.2.1, (layS (f 0) t ((((f 0).1) t) ^^^ (1 <<< ((nI r) &&& 31)))).2.2.2.2.2.2.2.2.1, (layS (f 0) t ((((f 0).1) t) ^^^ (1 <<< ((nI r) &&& 31)))).2.2.2.2.2.2.2.2.2.1, (layS (f 0) t ((((f 0).1) t) ^^^ (1 <<< ((nI r) &&& 31)))).2.2.2.2.2.2.2.2.2.2.1, (layS (f 0) t ((((f 0).1) t) ^^^ (1 <<< ((nI r) &&& 31)))).2.2.2.2.2.2.2.2.2.2.2.1, (layS (f 0) t ((((f 0).1) t) ^^^ (1 <<< ((nI r) &&& 31)))).2.2.2.2.2.2.2.2.2.2.2.2.1, (layS (f 0) t ((((f 0).1) t) ^^^ (1 <<< ((nI r) &&& 31)))).2.2.2.2.2.2.2.2.2.2.2.2.2).1) t), .int (nI r)]) (rest := []) ⟨hx, hb, hml, hown, hts⟩ (c_X4_bit l D cA _ ((((layS (f 0) t ((((f 0).1) t) ^^^ (1 <<< ((nI r) &&& 31)))).1, (layS (f 0) t ((((f 0).1) t) ^^^ (1 <<< ((nI r) &&& 31)))).2.1, (layS (f 0) t ((((f 0).1) t) ^^^ (1 <<< ((nI r) &&& 31)))).2.2.1, (layS (f 0) t ((((f 0).1) t) ^^^ (1 <<< ((nI r) &&& 31)))).2.2.2.1, (layS (f 0) t ((((f 0).1) t) ^^^ (1 <<< ((nI r) &&& 31)))).2.2.2.2.1, (layS (f 0) t ((((f 0).1) t) ^^^ (1 <<< ((nI r) &&& 31)))).2.2.2.2.2.1, (layS (f 0) t ((((f 0).1) t) ^^^ (1 <<< ((nI r) &&& 31)))).2.2.2.2.2.2.1, (layS (f 0) t ((((f 0).1) t) ^^^ (1 <<< ((nI r) &&& 31)))).2.2.2.2.2.2.2.1, (layS (f 0) t ((((f 0).1) t) ^^^ (1 <<< ((nI r) &&& 31)))).2.2.2.2.2.2.2.2.1, (layS (f 0) t ((((f 0).1) t) ^^^ (1 <<< ((nI r) &&& 31)))).2.2.2.2.2.2.2.2.2.1, (layS (f 0) t ((((f 0).1) t) ^^^ (1 <<< ((nI r) &&& 31)))).2.2.2.2.2.2.2.2.2.2.1, (layS (f 0) t ((((f 0).1) t) ^^^ (1 <<< ((nI r) &&& 31)))).2.2.2.2.2.2.2.2.2.2.2.1, (layS (f 0) t ((((f 0).1) t) ^^^ (1 <<< ((nI r) &&& 31)))).2.2.2.2.2.2.2.2.2.2.2.2.1, (layS (f 0) t ((((f 0).1) t) ^^^ (1 <<< ((nI r) &&& 31)))).2.2.2.2.2.2.2.2.2.2.2.2.2).1) t) (nI r)) (cwS2 2 hts gX4_cross_X4_bit rfl rfl rfl (by decide +kernel) ⟨Nat.le_of_ble_eq_true rfl, Nat.le_of_ble_eq_true rfl⟩) hKN rfl hl.1 rfl (lv_room (Nat.le_of_ble_eq_true rfl)) dX4_cross_67 ⟨Nat.zero_le _, Nat.zero_le _⟩ ?_
  exact mu_iret hx hb hr hlocks dX4_cross_70 hAe hS hWP (by show bitF (upd (f 0).1 t _ t) (nI r) = _; rw [show upd (f 0).1 t ((f 0).1 t ^^^ (1 <<< (nI r &&& 31))) t = _ from if_pos rfl])
theorem mX4_lay_f22 : Cond.fieldLink RX4 22 "WireLoom" "past" "LWireLoom$Past;" ∈ wsX4_lay := by decide +kernel
theorem mX4_lay_f10 : Cond.fieldLink RX4 10 "WireLoom" "now" "LWireLoom$State;" ∈ wsX4_lay := by decide +kernel
set_option maxRecDepth 20000 in
theorem iX4_lay_X4 : ∀ w ∈ wsX40, w ∈ wsX4_lay := by decide +kernel
set_option maxHeartbeats 4000000 in
set_option maxRecDepth 100000 in
theorem c_X4_lay (l : Launch) (D : va_G) (cA : Nat → ClassId) (H : Heap) (Ad : Nat → Nat → Nat) (f : Nat → SV) (o z : Nat) (tx : TV) (rt : (Nat → Int32) × (Nat → Int32)) (ho : o < 6) (hz6 : z ≤ 6) (hz : (f 0).2.2.2.2.2.2.2.2.2.2.2.1 = 0 ∨ (f 0).2.2.2.2.2.2.2.2.2.2.2.1 = 1) (t : Nat) (ht : t < 16) (w : Nat) (hw : w < 256) (hP0 : va_P D vwCl (all cA Ad (f, ((nI o), (nI z)), tx, rt)) H) (hD0 : va_D (fun _ => True) (all cA Ad (f, ((nI o), (nI z)), tx, rt))) : MU l yX4_lay wsX4_lay ({ frames := 4, cells := 0, slots := 0, locals := 93 } : Room) D cA [.ref (Ad 10 0), .int (nI t), .int (nI w)] H (all cA Ad (f, ((nI o), (nI z)), tx, rt)) (all cA Ad (upS (pushF f ((o + z) % 6)) 0 (layS (f 0) t (wordF (f 0).2.2.2.1 (nI w))), (nI (if z < 6 then o else (o + 1) % 6), nI (if z < 6 then z + 1 else z)), tx, rt)) (some (.int (bcF ((f 0).1 t ^^^ wordF (f 0).2.2.2.1 (nI w))))) := by
  refine Met.ofW (cc := cX4_lay) (maxL := 3) (ret := (some .int)) (by decide) rfl ?_
  intro p e s m args below meth c s₁ B hml hv
  obtain ⟨rfl, hH, hKN⟩ := hv
  have hK := hKN.1
  have hx := B.exec
  have hb := B.bytes
  have hr := B.returns
  have hts := atoms_spec (ws := wsX4_lay) B.pre
  have hown : s.vm.findClass RX4 = some m.cls := findClass_of_methodNamed B.named
  have hlocks := B.notSynchronized
  subst hH
  have hWD := hD0.self (sz := s.heap.size)
  generalize hAe : va_A (all cA Ad (f, ((nI o), (nI z)), tx, rt)) s.heap.size = A at hWD ⊢
  have hA : ∀ q : Nat, s.heap.size ≤ q → A q := fun q h => by rw [← hAe]; exact Or.inr h
  have hS : va_S A s.heap s.heap [] := va_S.rf
  have hWP : va_P D vwCl (all cA Ad (f, ((nI o), (nI z)), tx, rt)) s.heap := hP0
  have hl := lv_entry ([.ref (Ad 10 0), .int (nI t), .int (nI w)] : List Value) (n := 3) (Nat.le_of_ble_eq_true rfl)
  rw [lg_entry_eq]
  generalize (lg_sl ([.ref (Ad 10 0), .int (nI t), .int (nI w)] : List Value) ++ List.replicate (3 - (lg_sl ([.ref (Ad 10 0), .int (nI t), .int (nI w)] : List Value)).length) Slot.unset).toArray = ls at hl ⊢
  have hl : lv_has ls 3 [(0, .ref (Ad 10 0)), (1, .int (nI t)), (2, .int (nI w))] := hl
  refine lv_iload_n hx hb dX4_lay_0 rfl (lv_at hl 1 rfl) ?_
  refine ro_S (As := [.int (nI t)]) (rest := []) ⟨hx, hb, hml, hown, hts⟩ (c_X4_isThread l D cA _ (nI t)) (cwS2 1 hts gX4_lay_X4_isThread rfl rfl rfl (by decide +kernel) ⟨Nat.le_of_ble_eq_true rfl, Nat.le_of_ble_eq_true rfl⟩) hKN rfl hl.1 rfl (lv_room (Nat.le_of_ble_eq_true rfl)) dX4_lay_1 ⟨Nat.zero_le _, Nat.zero_le _⟩ ?_
  refine lz_top (v := 1) (inF_ok (k := t) (a := 0) (b := 15) (by omega) (by omega) (by decide)) ?_
  refine lv_if_ne (tgt := 17) hx hb dX4_lay_4 (by decide) (fun _ => ?_) (fun h => absurd h (by decide))
  refine lv_iload_n hx hb dX4_lay_17 rfl (lv_at hl 2 rfl) ?_
  refine lv_iconst (v := 0) hx hb dX4_lay_18 (by decide) ?_
  refine lv_sipush (v := 255) hx hb dX4_lay_19 (by decide) ?_
  refine ro_S (As := [.int (nI w), .int 0, .int 255]) (rest := []) ⟨hx, hb, hml, hown, hts⟩ (c_X4_isWithin l D cA _ (nI w) 0 255) (cwS2 3 hts gX4_lay_X4_isWithin rfl rfl rfl (by decide +kernel) ⟨Nat.le_of_ble_eq_true rfl, Nat.le_of_ble_eq_true rfl⟩) hKN rfl hl.1 rfl (lv_room (Nat.le_of_ble_eq_true rfl)) dX4_lay_22 ⟨Nat.zero_le _, Nat.zero_le _⟩ ?_
  refine lz_top (v := 1) (inF_ok (k := w) (a := 0) (b := 255) (by omega) (by omega) (by decide)) ?_
  refine lv_if_ne (tgt := 38) hx hb dX4_lay_25 (by decide) (fun _ => ?_) (fun h => absurd h (by decide))
  refine lv_aload_n hx hb dX4_lay_38 rfl (lv_at hl 0 rfl) ?_
  have hP : va_P D vwCl ((wLm cA Ad rt) ++ (rst cA Ad (f, ((nI o), (nI z)), tx, rt) 10)) s.heap := lw_fP 10 (by decide) hWP
  have hD : va_D A ((wLm cA Ad rt) ++ (rst cA Ad (f, ((nI o), (nI z)), tx, rt) 10)) := lw_fD 10 (by decide) hWD
  refine va_get (D := D) (ci := 4) (v := .ref (Ad 11 0)) (C := RX4) (T := TX4) (N := 7) hx hb hts iX4_lay_X4 hown hK hP 0 rfl rfl 2 (by decide) (hts _ mX4_lay_f22) (fun _ h9 => h9) rfl dX4_lay_39 ?_
  refine lv_aload_n hx hb dX4_lay_42 rfl (lv_at hl 0 rfl) ?_
  refine va_get (D := D) (ci := 4) (v := .ref (Ad 0 0)) (C := RX4) (T := TX4) (N := 7) hx hb hts iX4_lay_X4 hown hK hP 0 rfl rfl 0 (by decide) (hts _ mX4_lay_f10) (fun _ h9 => h9) rfl dX4_lay_43 ?_
  refine mu_Vw (ci := 1) (q0 := 0) (As := [.ref (Ad 0 0)]) (rest := []) ⟨hx, hb, hml, hown, hts⟩ (c_X1_push l D cA _ Ad f o z tx rt ho hz6 hz hWP (hWD.weaken (fun _ _ _ _ => trivial))) (cwV 1 hts gX4_lay_X1_push rfl rfl rfl (by decide +kernel) ⟨Nat.le_of_ble_eq_true rfl, Nat.le_of_ble_eq_true rfl⟩) hKN hWP hWD hS hA (lw_fP 11 (by decide) hWP : va_P D vwCl ((wPa cA Ad ((nI o), (nI z))) ++ (rst cA Ad (f, ((nI o), (nI z)), tx, rt) 11)) s.heap) rfl rfl (all_fst _ _ _ _) rfl hl.1 rfl (lv_room (Nat.le_of_ble_eq_true rfl)) dX4_lay_46 ⟨Nat.zero_le _, Nat.zero_le _⟩ (fun H locs hWP hWD hS => ?_)
  have hWP : va_P D vwCl (all cA Ad ((pushF f ((o + z) % 6)), ((nI (if z < 6 then o else (o + 1) % 6)), (nI (if z < 6 then z + 1 else z))), tx, rt)) H := by rw [pushF_eq] at hWP; exact hWP
  have hWD : va_D A (all cA Ad ((pushF f ((o + z) % 6)), ((nI (if z < 6 then o else (o + 1) % 6)), (nI (if z < 6 then z + 1 else z))), tx, rt)) := by rw [pushF_eq] at hWD; exact hWD
  refine lv_aload_n hx hb dX4_lay_49 rfl (lv_at hl 0 rfl) ?_
  have hP : va_P D vwCl ((wLm cA Ad rt) ++ (rst cA Ad ((pushF f ((o + z) % 6)), ((nI (if z < 6 then o else (o + 1) % 6)), (nI (if z < 6 then z + 1 else z))), tx, rt) 10)) H := lw_fP 10 (by decide) hWP
  have hD : va_D A ((wLm cA Ad rt) ++ (rst cA Ad ((pushF f ((o + z) % 6)), ((nI (if z < 6 then o else (o + 1) % 6)), (nI (if z < 6 then z + 1 else z))), tx, rt) 10)) := lw_fD 10 (by decide) hWD
  refine va_get (D := D) (ci := 4) (v := .ref (Ad 0 0)) (C := RX4) (T := TX4) (N := 7) hx hb hts iX4_lay_X4 hown hK hP 0 rfl rfl 0 (by decide) (hts _ mX4_lay_f10) (fun _ h9 => h9) rfl dX4_lay_50 ?_
  refine lv_iload_n hx hb dX4_lay_53 rfl (lv_at hl 1 rfl) ?_
  refine lv_aload_n hx hb dX4_lay_54 rfl (lv_at hl 0 rfl) ?_
  refine va_get (D := D) (ci := 4) (v := .ref (Ad 0 0)) (C := RX4) (T := TX4) (N := 7) hx hb hts iX4_lay_X4 hown hK hP 0 rfl rfl 0 (by decide) (hts _ mX4_lay_f10) (fun _ h9 => h9) rfl dX4_lay_55 ?_
  refine lv_iload_n hx hb dX4_lay_58 rfl (lv_at hl 2 rfl) ?_
  have hP : va_P D vwCl ((wSt cA (Ad 0) (f 0)) ++ (rst cA Ad ((pushF f ((o + z) % 6)), ((nI (if z < 6 then o else (o + 1) % 6)), (nI (if z < 6 then z + 1 else z))), tx, rt) 0)) H := lw_fP 0 (by decide) hWP
  have hD : va_D A ((wSt cA (Ad 0) (f 0)) ++ (rst cA Ad ((pushF f ((o + z) % 6)), ((nI (if z < 6 then o else (o + 1) % 6)), (nI (if z < 6 then z + 1 else z))), tx, rt) 0)) := lw_fD 0 (by decide) hWD
  refine ro_V (ci := 2) (q0 := 0) (As := [.int (nI w)]) (rest := [.int (nI t), .ref (Ad 0 0)]) ⟨hx, hb, hml, hown, hts⟩ (c_X2_asWord l D cA _ (Ad 0) (f 0) (nI w) (va_P_l hP) ) (cwV 1 hts gX4_lay_X2_asWord rfl rfl rfl (by decide +kernel) ⟨Nat.le_of_ble_eq_true rfl, Nat.le_of_ble_eq_true rfl⟩) hKN hP rfl rfl rfl hl.1 rfl (lv_room (Nat.le_of_ble_eq_true rfl)) dX4_lay_59 ⟨Nat.zero_le _, Nat.zero_le _⟩ ?_
  refine mu_Va (ci := 2) (q0 := 0) (As := [.int (nI t), .int (wordF ((f 0).2.2.2.1) (nI w))]) (rest := []) ⟨hx, hb, hml, hown, hts⟩ (c_X2_layThrough l D cA _ (Ad 0) (f 0) t (by omega) (wordF ((f 0).2.2.2.1) (nI w)) (va_P_l hP) (va_D_l hD)) (cwV 2 hts gX4_lay_X2_layThrough rfl rfl rfl (by decide +kernel) ⟨Nat.le_of_ble_eq_true rfl, Nat.le_of_ble_eq_true rfl⟩) hKN hP hD hS hA rfl rfl ((wSt_fst _ _ _).trans (wSt_fst _ _ _).symm) rfl hl.1 rfl (lv_room (Nat.le_of_ble_eq_true rfl)) dX4_lay_62 ⟨Nat.zero_le _, Nat.zero_le _⟩ (fun H locs hP hD hS => ?_)
  have hP : va_P D vwCl ((wSt cA (Ad 0) ((layS (f 0) t (wordF ((f 0).2.2.2.1) (nI w))).1, (layS (f 0) t (wordF ((f 0).2.2.2.1) (nI w))).2.1, (layS (f 0) t (wordF ((f 0).2.2.2.1) (nI w))).2.2.1, (layS (f 0) t (wordF ((f 0).2.2.2.1) (nI w))).2.2.2.1, (layS (f 0) t (wordF ((f 0).2.2.2.1) (nI w))).2.2.2.2.1, (layS (f 0) t (wordF ((f 0).2.2.2.1) (nI w))).2.2.2.2.2.1, (layS (f 0) t (wordF ((f 0).2.2.2.1) (nI w))).2.2.2.2.2.2.1, (layS (f 0) t (wordF ((f 0).2.2.2.1) (nI w))).2.2.2.2.2.2.2.1, (layS (f 0) t (wordF ((f 0).2.2.2.1) (nI w))).2.2.2.2.2.2.2.2.1, (layS (f 0) t (wordF ((f 0).2.2.2.1) (nI w))).2.2.2.2.2.2.2.2.2.1, (layS (f 0) t (wordF ((f 0).2.2.2.1) (nI w))).2.2.2.2.2.2.2.2.2.2.1, (layS (f 0) t (wordF ((f 0).2.2.2.1) (nI w))).2.2.2.2.2.2.2.2.2.2.2.1, (layS (f 0) t (wordF ((f 0).2.2.2.1) (nI w))).2.2.2.2.2.2.2.2.2.2.2.2.1, (layS (f 0) t (wordF ((f 0).2.2.2.1) (nI w))).2.2.2.2.2.2.2.2.2.2.2.2.2)) ++ (rst cA Ad ((pushF f ((o + z) % 6)), ((nI (if z < 6 then o else (o + 1) % 6)), (nI (if z < 6 then z + 1 else z))), tx, rt) 0)) H := hP
  have hD : va_D A ((wSt cA (Ad 0) ((layS (f 0) t (wordF ((f 0).2.2.2.1) (nI w))).1, (layS (f 0) t (wordF ((f 0).2.2.2.1) (nI w))).2.1, (layS (f 0) t (wordF ((f 0).2.2.2.1) (nI w))).2.2.1, (layS (f 0) t (wordF ((f 0).2.2.2.1) (nI w))).2.2.2.1, (layS (f 0) t (wordF ((f 0).2.2.2.1) (nI w))).2.2.2.2.1, (layS (f 0) t (wordF ((f 0).2.2.2.1) (nI w))).2.2.2.2.2.1, (layS (f 0) t (wordF ((f 0).2.2.2.1) (nI w))).2.2.2.2.2.2.1, (layS (f 0) t (wordF ((f 0).2.2.2.1) (nI w))).2.2.2.2.2.2.2.1, (layS (f 0) t (wordF ((f 0).2.2.2.1) (nI w))).2.2.2.2.2.2.2.2.1, (layS (f 0) t (wordF ((f 0).2.2.2.1) (nI w))).2.2.2.2.2.2.2.2.2.1, (layS (f 0) t (wordF ((f 0).2.2.2.1) (nI w))).2.2.2.2.2.2.2.2.2.2.1, (layS (f 0) t (wordF ((f 0).2.2.2.1) (nI w))).2.2.2.2.2.2.2.2.2.2.2.1, (layS (f 0) t (wordF ((f 0).2.2.2.1) (nI w))).2.2.2.2.2.2.2.2.2.2.2.2.1, (layS (f 0) t (wordF ((f 0).2.2.2.1) (nI w))).2.2.2.2.2.2.2.2.2.2.2.2.2)) ++ (rst cA Ad ((pushF f ((o + z) % 6)), ((nI (if z < 6 then o else (o + 1) % 6)), (nI (if z < 6 then z + 1 else z))), tx, rt) 0)) := hD
  have hWP : va_P D vwCl (all cA Ad ((upS (pushF f ((o + z) % 6)) 0 ((layS (f 0) t (wordF ((f 0).2.2.2.1) (nI w))).1, (layS (f 0) t (wordF ((f 0).2.2.2.1) (nI w))).2.1, (layS (f 0) t (wordF ((f 0).2.2.2.1) (nI w))).2.2.1, (layS (f 0) t (wordF ((f 0).2.2.2.1) (nI w))).2.2.2.1, (layS (f 0) t (wordF ((f 0).2.2.2.1) (nI w))).2.2.2.2.1, (layS (f 0) t (wordF ((f 0).2.2.2.1) (nI w))).2.2.2.2.2.1, (layS (f 0) t (wordF ((f 0).2.2.2.1) (nI w))).2.2.2.2.2.2.1, (layS (f 0) t (wordF ((f 0).2.2.2.1) (nI w))).2.2.2.2.2.2.2.1, (layS (f 0) t (wordF ((f 0).2.2.2.1) (nI w))).2.2.2.2.2.2.2.2.1, (layS (f 0) t (wordF ((f 0).2.2.2.1) (nI w))).2.2.2.2.2.2.2.2.2.1, (layS (f 0) t (wordF ((f 0).2.2.2.1) (nI w))).2.2.2.2.2.2.2.2.2.2.1, (layS (f 0) t (wordF ((f 0).2.2.2.1) (nI w))).2.2.2.2.2.2.2.2.2.2.2.1, (layS (f 0) t (wordF ((f 0).2.2.2.1) (nI w))).2.2.2.2.2.2.2.2.2.2.2.2.1, (layS (f 0) t (wordF ((f 0).2.2.2.1) (nI w))).2.2.2.2.2.2.2.2.2.2.2.2.2)), ((nI (if z < 6 then o else (o + 1) % 6)), (nI (if z < 6 then z + 1 else z))), tx, rt)) H := lw_uP 0 ((upS (pushF f ((o + z) % 6)) 0 ((layS (f 0) t (wordF ((f 0).2.2.2.1) (nI w))).1, (layS (f 0) t (wordF ((f 0).2.2.2.1) (nI w))).2.1, (layS (f 0) t (wordF ((f 0).2.2.2.1) (nI w))).2.2.1, (layS (f 0) t (wordF ((f 0).2.2.2.1) (nI w))).2.2.2.1, (layS (f 0) t (wordF ((f 0).2.2.2.1) (nI w))).2.2.2.2.1, (layS (f 0) t (wordF ((f 0).2.2.2.1) (nI w))).2.2.2.2.2.1, (layS (f 0) t (wordF ((f 0).2.2.2.1) (nI w))).2.2.2.2.2.2.1, (layS (f 0) t (wordF ((f 0).2.2.2.1) (nI w))).2.2.2.2.2.2.2.1, (layS (f 0) t (wordF ((f 0).2.2.2.1) (nI w))).2.2.2.2.2.2.2.2.1, (layS (f 0) t (wordF ((f 0).2.2.2.1) (nI w))).2.2.2.2.2.2.2.2.2.1, (layS (f 0) t (wordF ((f 0).2.2.2.1) (nI w))).2.2.2.2.2.2.2.2.2.2.1, (layS (f 0) t (wordF ((f 0).2.2.2.1) (nI w))).2.2.2.2.2.2.2.2.2.2.2.1, (layS (f 0) t (wordF ((f 0).2.2.2.1) (nI w))).2.2.2.2.2.2.2.2.2.2.2.2.1, (layS (f 0) t (wordF ((f 0).2.2.2.1) (nI w))).2.2.2.2.2.2.2.2.2.2.2.2.2)), ((nI (if z < 6 then o else (o + 1) % 6)), (nI (if z < 6 then z + 1 else z))), tx, rt) (by decide) (bc_st 0 _ (by decide)) hP
  have hWD : va_D A (all cA Ad ((upS (pushF f ((o + z) % 6)) 0 ((layS (f 0) t (wordF ((f 0).2.2.2.1) (nI w))).1, (layS (f 0) t (wordF ((f 0).2.2.2.1) (nI w))).2.1, (layS (f 0) t (wordF ((f 0).2.2.2.1) (nI w))).2.2.1, (layS (f 0) t (wordF ((f 0).2.2.2.1) (nI w))).2.2.2.1, (layS (f 0) t (wordF ((f 0).2.2.2.1) (nI w))).2.2.2.2.1, (layS (f 0) t (wordF ((f 0).2.2.2.1) (nI w))).2.2.2.2.2.1, (layS (f 0) t (wordF ((f 0).2.2.2.1) (nI w))).2.2.2.2.2.2.1, (layS (f 0) t (wordF ((f 0).2.2.2.1) (nI w))).2.2.2.2.2.2.2.1, (layS (f 0) t (wordF ((f 0).2.2.2.1) (nI w))).2.2.2.2.2.2.2.2.1, (layS (f 0) t (wordF ((f 0).2.2.2.1) (nI w))).2.2.2.2.2.2.2.2.2.1, (layS (f 0) t (wordF ((f 0).2.2.2.1) (nI w))).2.2.2.2.2.2.2.2.2.2.1, (layS (f 0) t (wordF ((f 0).2.2.2.1) (nI w))).2.2.2.2.2.2.2.2.2.2.2.1, (layS (f 0) t (wordF ((f 0).2.2.2.1) (nI w))).2.2.2.2.2.2.2.2.2.2.2.2.1, (layS (f 0) t (wordF ((f 0).2.2.2.1) (nI w))).2.2.2.2.2.2.2.2.2.2.2.2.2)), ((nI (if z < 6 then o else (o + 1) % 6)), (nI (if z < 6 then z + 1 else z))), tx, rt)) := lw_uD 0 ((upS (pushF f ((o + z) % 6)) 0 ((layS (f 0) t (wordF ((f 0).2.2.2.1) (nI w))).1, (layS (f 0) t (wordF ((f 0).2.2.2.1) (nI w))).2.1, (layS (f 0) t (wordF ((f 0).2.2.2.1) (nI w))).2.2.1, (layS (f 0) t (wordF ((f 0).2.2.2.1) (nI w))).2.2.2.1, (layS (f 0) t (wordF ((f 0).2.2.2.1) (nI w))).2.2.2.2.1, (layS (f 0) t (wordF ((f 0).2.2.2.1) (nI w))).2.2.2.2.2.1, (layS (f 0) t (wordF ((f 0).2.2.2.1) (nI w))).2.2.2.2.2.2.1, (layS (f 0) t (wordF ((f 0).2.2.2.1) (nI w))).2.2.2.2.2.2.2.1, (layS (f 0) t (wordF ((f 0).2.2.2.1) (nI w))).2.2.2.2.2.2.2.2.1, (layS (f 0) t (wordF ((f 0).2.2.2.1) (nI w))).2.2.2.2.2.2.2.2.2.1, (layS (f 0) t (wordF ((f 0).2.2.2.1) (nI w))).2.2.2.2.2.2.2.2.2.2.1, (layS (f 0) t (wordF ((f 0).2.2.2.1) (nI w))).2.2.2.2.2.2.2.2.2.2.2.1, (layS (f 0) t (wordF ((f 0).2.2.2.1) (nI w))).2.2.2.2.2.2.2.2.2.2.2.2.1, (layS (f 0) t (wordF ((f 0).2.2.2.1) (nI w))).2.2.2.2.2.2.2.2.2.2.2.2.2)), ((nI (if z < 6 then o else (o + 1) % 6)), (nI (if z < 6 then z + 1 else z))), tx, rt) (by decide) (bc_st 0 _ (by decide)) hD
  exact mu_iret hx hb hr hlocks dX4_lay_65 hAe hS hWP rfl
theorem mX4_guard_f22 : Cond.fieldLink RX4 22 "WireLoom" "past" "LWireLoom$Past;" ∈ wsX4_guard := by decide +kernel
theorem mX4_guard_f10 : Cond.fieldLink RX4 10 "WireLoom" "now" "LWireLoom$State;" ∈ wsX4_guard := by decide +kernel
theorem mX4_guard_f88 : Cond.fieldLink RX4 88 "WireLoom$State" "guarded" "I" ∈ wsX4_guard := by decide +kernel
set_option maxRecDepth 20000 in
theorem iX4_guard_X2 : ∀ w ∈ wsX20, w ∈ wsX4_guard := by decide +kernel
set_option maxRecDepth 20000 in
theorem iX4_guard_X4 : ∀ w ∈ wsX40, w ∈ wsX4_guard := by decide +kernel
set_option maxHeartbeats 4000000 in
set_option maxRecDepth 100000 in
theorem c_X4_guard (l : Launch) (D : va_G) (cA : Nat → ClassId) (H : Heap) (Ad : Nat → Nat → Nat) (f : Nat → SV) (o z : Nat) (tx : TV) (rt : (Nat → Int32) × (Nat → Int32)) (ho : o < 6) (hz6 : z ≤ 6) (hz : (f 0).2.2.2.2.2.2.2.2.2.2.2.1 = 0 ∨ (f 0).2.2.2.2.2.2.2.2.2.2.2.1 = 1) (t : Nat) (ht : t < 16) (hP0 : va_P D vwCl (all cA Ad (f, ((nI o), (nI z)), tx, rt)) H) (hD0 : va_D (fun _ => True) (all cA Ad (f, ((nI o), (nI z)), tx, rt))) : MU l yX4_guard wsX4_guard ({ frames := 4, cells := 0, slots := 0, locals := 93 } : Room) D cA [.ref (Ad 10 0), .int (nI t)] H (all cA Ad (f, ((nI o), (nI z)), tx, rt)) (all cA Ad (upS (pushF f ((o + z) % 6)) 0 (setGd (f 0) ((f 0).2.2.2.2.1 ^^^ (1 <<< (nI t &&& 31)))), (nI (if z < 6 then o else (o + 1) % 6), nI (if z < 6 then z + 1 else z)), tx, rt)) (some (.int (bitF ((f 0).2.2.2.2.1 ^^^ (1 <<< (nI t &&& 31))) (nI t)))) := by
  refine Met.ofW (cc := cX4_guard) (maxL := 2) (ret := (some .int)) (by decide) rfl ?_
  intro p e s m args below meth c s₁ B hml hv
  obtain ⟨rfl, hH, hKN⟩ := hv
  have hK := hKN.1
  have hx := B.exec
  have hb := B.bytes
  have hr := B.returns
  have hts := atoms_spec (ws := wsX4_guard) B.pre
  have hown : s.vm.findClass RX4 = some m.cls := findClass_of_methodNamed B.named
  have hlocks := B.notSynchronized
  subst hH
  have hWD := hD0.self (sz := s.heap.size)
  generalize hAe : va_A (all cA Ad (f, ((nI o), (nI z)), tx, rt)) s.heap.size = A at hWD ⊢
  have hA : ∀ q : Nat, s.heap.size ≤ q → A q := fun q h => by rw [← hAe]; exact Or.inr h
  have hS : va_S A s.heap s.heap [] := va_S.rf
  have hWP : va_P D vwCl (all cA Ad (f, ((nI o), (nI z)), tx, rt)) s.heap := hP0
  have hl := lv_entry ([.ref (Ad 10 0), .int (nI t)] : List Value) (n := 2) (Nat.le_of_ble_eq_true rfl)
  rw [lg_entry_eq]
  generalize (lg_sl ([.ref (Ad 10 0), .int (nI t)] : List Value) ++ List.replicate (2 - (lg_sl ([.ref (Ad 10 0), .int (nI t)] : List Value)).length) Slot.unset).toArray = ls at hl ⊢
  have hl : lv_has ls 2 [(0, .ref (Ad 10 0)), (1, .int (nI t))] := hl
  refine lv_iload_n hx hb dX4_guard_0 rfl (lv_at hl 1 rfl) ?_
  refine ro_S (As := [.int (nI t)]) (rest := []) ⟨hx, hb, hml, hown, hts⟩ (c_X4_isThread l D cA _ (nI t)) (cwS2 1 hts gX4_guard_X4_isThread rfl rfl rfl (by decide +kernel) ⟨Nat.le_of_ble_eq_true rfl, Nat.le_of_ble_eq_true rfl⟩) hKN rfl hl.1 rfl (lv_room (Nat.le_of_ble_eq_true rfl)) dX4_guard_1 ⟨Nat.zero_le _, Nat.zero_le _⟩ ?_
  refine lz_top (v := 1) (inF_ok (k := t) (a := 0) (b := 15) (by omega) (by omega) (by decide)) ?_
  refine lv_if_ne (tgt := 17) hx hb dX4_guard_4 (by decide) (fun _ => ?_) (fun h => absurd h (by decide))
  refine lv_aload_n hx hb dX4_guard_17 rfl (lv_at hl 0 rfl) ?_
  have hP : va_P D vwCl ((wLm cA Ad rt) ++ (rst cA Ad (f, ((nI o), (nI z)), tx, rt) 10)) s.heap := lw_fP 10 (by decide) hWP
  have hD : va_D A ((wLm cA Ad rt) ++ (rst cA Ad (f, ((nI o), (nI z)), tx, rt) 10)) := lw_fD 10 (by decide) hWD
  refine va_get (D := D) (ci := 4) (v := .ref (Ad 11 0)) (C := RX4) (T := TX4) (N := 7) hx hb hts iX4_guard_X4 hown hK hP 0 rfl rfl 2 (by decide) (hts _ mX4_guard_f22) (fun _ h9 => h9) rfl dX4_guard_18 ?_
  refine lv_aload_n hx hb dX4_guard_21 rfl (lv_at hl 0 rfl) ?_
  refine va_get (D := D) (ci := 4) (v := .ref (Ad 0 0)) (C := RX4) (T := TX4) (N := 7) hx hb hts iX4_guard_X4 hown hK hP 0 rfl rfl 0 (by decide) (hts _ mX4_guard_f10) (fun _ h9 => h9) rfl dX4_guard_22 ?_
  refine mu_Vw (ci := 1) (q0 := 0) (As := [.ref (Ad 0 0)]) (rest := []) ⟨hx, hb, hml, hown, hts⟩ (c_X1_push l D cA _ Ad f o z tx rt ho hz6 hz hWP (hWD.weaken (fun _ _ _ _ => trivial))) (cwV 1 hts gX4_guard_X1_push rfl rfl rfl (by decide +kernel) ⟨Nat.le_of_ble_eq_true rfl, Nat.le_of_ble_eq_true rfl⟩) hKN hWP hWD hS hA (lw_fP 11 (by decide) hWP : va_P D vwCl ((wPa cA Ad ((nI o), (nI z))) ++ (rst cA Ad (f, ((nI o), (nI z)), tx, rt) 11)) s.heap) rfl rfl (all_fst _ _ _ _) rfl hl.1 rfl (lv_room (Nat.le_of_ble_eq_true rfl)) dX4_guard_25 ⟨Nat.zero_le _, Nat.zero_le _⟩ (fun H locs hWP hWD hS => ?_)
  have hWP : va_P D vwCl (all cA Ad ((pushF f ((o + z) % 6)), ((nI (if z < 6 then o else (o + 1) % 6)), (nI (if z < 6 then z + 1 else z))), tx, rt)) H := by rw [pushF_eq] at hWP; exact hWP
  have hWD : va_D A (all cA Ad ((pushF f ((o + z) % 6)), ((nI (if z < 6 then o else (o + 1) % 6)), (nI (if z < 6 then z + 1 else z))), tx, rt)) := by rw [pushF_eq] at hWD; exact hWD
  refine lv_aload_n hx hb dX4_guard_28 rfl (lv_at hl 0 rfl) ?_
  have hP : va_P D vwCl ((wLm cA Ad rt) ++ (rst cA Ad ((pushF f ((o + z) % 6)), ((nI (if z < 6 then o else (o + 1) % 6)), (nI (if z < 6 then z + 1 else z))), tx, rt) 10)) H := lw_fP 10 (by decide) hWP
  have hD : va_D A ((wLm cA Ad rt) ++ (rst cA Ad ((pushF f ((o + z) % 6)), ((nI (if z < 6 then o else (o + 1) % 6)), (nI (if z < 6 then z + 1 else z))), tx, rt) 10)) := lw_fD 10 (by decide) hWD
  refine va_get (D := D) (ci := 4) (v := .ref (Ad 0 0)) (C := RX4) (T := TX4) (N := 7) hx hb hts iX4_guard_X4 hown hK hP 0 rfl rfl 0 (by decide) (hts _ mX4_guard_f10) (fun _ h9 => h9) rfl dX4_guard_29 ?_
  refine lv_aload_n hx hb dX4_guard_32 rfl (lv_at hl 0 rfl) ?_
  refine va_get (D := D) (ci := 4) (v := .ref (Ad 0 0)) (C := RX4) (T := TX4) (N := 7) hx hb hts iX4_guard_X4 hown hK hP 0 rfl rfl 0 (by decide) (hts _ mX4_guard_f10) (fun _ h9 => h9) rfl dX4_guard_33 ?_
  have hP : va_P D vwCl ((wSt cA (Ad 0) (f 0)) ++ (rst cA Ad ((pushF f ((o + z) % 6)), ((nI (if z < 6 then o else (o + 1) % 6)), (nI (if z < 6 then z + 1 else z))), tx, rt) 0)) H := lw_fP 0 (by decide) hWP
  have hD : va_D A ((wSt cA (Ad 0) (f 0)) ++ (rst cA Ad ((pushF f ((o + z) % 6)), ((nI (if z < 6 then o else (o + 1) % 6)), (nI (if z < 6 then z + 1 else z))), tx, rt) 0)) := lw_fD 0 (by decide) hWD
  refine va_get (D := D) (ci := 2) (v := .int ((f 0).2.2.2.2.1)) (C := RX2) (T := TX2) (N := 8) hx hb hts iX4_guard_X2 hown hK hP 0 rfl rfl 5 (by decide) (hts _ mX4_guard_f88) (fun _ h9 => h9) rfl dX4_guard_36 ?_
  refine lv_iconst (v := 1) hx hb dX4_guard_39 (by decide) ?_
  refine lv_iload_n hx hb dX4_guard_40 rfl (lv_at hl 1 rfl) ?_
  refine lv_ishl hx hb dX4_guard_41 ?_
  refine lv_ixor hx hb dX4_guard_42 ?_
  refine va_put (D := D) (ci := 2) (v := .int ((f 0).2.2.2.2.1 ^^^ (1 <<< ((nI t) &&& 31)))) (ty := .int) (C := RX2) (T := TX2) (N := 8) hx hb hts iX4_guard_X2 tyX2 tyX2_ok nmX2 hown hK hP hD hS 0 rfl rfl 5 (by decide) (hts _ mX4_guard_f88) (fun _ h9 => h9) rfl (by decide +kernel) rfl rfl (Nat.le_of_ble_eq_true rfl) dX4_guard_43 (fun H locs hP hD hS => ?_)
  have hP : va_P D vwCl ((wSt cA (Ad 0) ((f 0).1, (f 0).2.1, (f 0).2.2.1, (f 0).2.2.2.1, ((f 0).2.2.2.2.1 ^^^ (1 <<< ((nI t) &&& 31))), (f 0).2.2.2.2.2.1, (f 0).2.2.2.2.2.2.1, (f 0).2.2.2.2.2.2.2.1, (f 0).2.2.2.2.2.2.2.2.1, (f 0).2.2.2.2.2.2.2.2.2.1, (f 0).2.2.2.2.2.2.2.2.2.2.1, (f 0).2.2.2.2.2.2.2.2.2.2.2.1, (f 0).2.2.2.2.2.2.2.2.2.2.2.2.1, (f 0).2.2.2.2.2.2.2.2.2.2.2.2.2)) ++ (rst cA Ad ((pushF f ((o + z) % 6)), ((nI (if z < 6 then o else (o + 1) % 6)), (nI (if z < 6 then z + 1 else z))), tx, rt) 0)) H := hP
  have hD : va_D A ((wSt cA (Ad 0) ((f 0).1, (f 0).2.1, (f 0).2.2.1, (f 0).2.2.2.1, ((f 0).2.2.2.2.1 ^^^ (1 <<< ((nI t) &&& 31))), (f 0).2.2.2.2.2.1, (f 0).2.2.2.2.2.2.1, (f 0).2.2.2.2.2.2.2.1, (f 0).2.2.2.2.2.2.2.2.1, (f 0).2.2.2.2.2.2.2.2.2.1, (f 0).2.2.2.2.2.2.2.2.2.2.1, (f 0).2.2.2.2.2.2.2.2.2.2.2.1, (f 0).2.2.2.2.2.2.2.2.2.2.2.2.1, (f 0).2.2.2.2.2.2.2.2.2.2.2.2.2)) ++ (rst cA Ad ((pushF f ((o + z) % 6)), ((nI (if z < 6 then o else (o + 1) % 6)), (nI (if z < 6 then z + 1 else z))), tx, rt) 0)) := hD
  refine lv_aload_n hx hb dX4_guard_46 rfl (lv_at hl 0 rfl) ?_
  have hWP : va_P D vwCl (all cA Ad ((upS (pushF f ((o + z) % 6)) 0 ((f 0).1, (f 0).2.1, (f 0).2.2.1, (f 0).2.2.2.1, ((f 0).2.2.2.2.1 ^^^ (1 <<< ((nI t) &&& 31))), (f 0).2.2.2.2.2.1, (f 0).2.2.2.2.2.2.1, (f 0).2.2.2.2.2.2.2.1, (f 0).2.2.2.2.2.2.2.2.1, (f 0).2.2.2.2.2.2.2.2.2.1, (f 0).2.2.2.2.2.2.2.2.2.2.1, (f 0).2.2.2.2.2.2.2.2.2.2.2.1, (f 0).2.2.2.2.2.2.2.2.2.2.2.2.1, (f 0).2.2.2.2.2.2.2.2.2.2.2.2.2)), ((nI (if z < 6 then o else (o + 1) % 6)), (nI (if z < 6 then z + 1 else z))), tx, rt)) H := lw_uP 0 ((upS (pushF f ((o + z) % 6)) 0 ((f 0).1, (f 0).2.1, (f 0).2.2.1, (f 0).2.2.2.1, ((f 0).2.2.2.2.1 ^^^ (1 <<< ((nI t) &&& 31))), (f 0).2.2.2.2.2.1, (f 0).2.2.2.2.2.2.1, (f 0).2.2.2.2.2.2.2.1, (f 0).2.2.2.2.2.2.2.2.1, (f 0).2.2.2.2.2.2.2.2.2.1, (f 0).2.2.2.2.2.2.2.2.2.2.1, (f 0).2.2.2.2.2.2.2.2.2.2.2.1, (f 0).2.2.2.2.2.2.2.2.2.2.2.2.1, (f 0).2.2.2.2.2.2.2.2.2.2.2.2.2)), ((nI (if z < 6 then o else (o + 1) % 6)), (nI (if z < 6 then z + 1 else z))), tx, rt) (by decide) (bc_st 0 _ (by decide)) hP
  have hWD : va_D A (all cA Ad ((upS (pushF f ((o + z) % 6)) 0 ((f 0).1, (f 0).2.1, (f 0).2.2.1, (f 0).2.2.2.1, ((f 0).2.2.2.2.1 ^^^ (1 <<< ((nI t) &&& 31))), (f 0).2.2.2.2.2.1, (f 0).2.2.2.2.2.2.1, (f 0).2.2.2.2.2.2.2.1, (f 0).2.2.2.2.2.2.2.2.1, (f 0).2.2.2.2.2.2.2.2.2.1, (f 0).2.2.2.2.2.2.2.2.2.2.1, (f 0).2.2.2.2.2.2.2.2.2.2.2.1, (f 0).2.2.2.2.2.2.2.2.2.2.2.2.1, (f 0).2.2.2.2.2.2.2.2.2.2.2.2.2)), ((nI (if z < 6 then o else (o + 1) % 6)), (nI (if z < 6 then z + 1 else z))), tx, rt)) := lw_uD 0 ((upS (pushF f ((o + z) % 6)) 0 ((f 0).1, (f 0).2.1, (f 0).2.2.1, (f 0).2.2.2.1, ((f 0).2.2.2.2.1 ^^^ (1 <<< ((nI t) &&& 31))), (f 0).2.2.2.2.2.1, (f 0).2.2.2.2.2.2.1, (f 0).2.2.2.2.2.2.2.1, (f 0).2.2.2.2.2.2.2.2.1, (f 0).2.2.2.2.2.2.2.2.2.1, (f 0).2.2.2.2.2.2.2.2.2.2.1, (f 0).2.2.2.2.2.2.2.2.2.2.2.1, (f 0).2.2.2.2.2.2.2.2.2.2.2.2.1, (f 0).2.2.2.2.2.2.2.2.2.2.2.2.2)), ((nI (if z < 6 then o else (o + 1) % 6)), (nI (if z < 6 then z + 1 else z))), tx, rt) (by decide) (bc_st 0 _ (by decide)) hD
  have hP : va_P D vwCl ((wLm cA Ad rt) ++ (rst cA Ad ((upS (pushF f ((o + z) % 6)) 0 ((f 0).1, (f 0).2.1, (f 0).2.2.1, (f 0).2.2.2.1, ((f 0).2.2.2.2.1 ^^^ (1 <<< ((nI t) &&& 31))), (f 0).2.2.2.2.2.1, (f 0).2.2.2.2.2.2.1, (f 0).2.2.2.2.2.2.2.1, (f 0).2.2.2.2.2.2.2.2.1, (f 0).2.2.2.2.2.2.2.2.2.1, (f 0).2.2.2.2.2.2.2.2.2.2.1, (f 0).2.2.2.2.2.2.2.2.2.2.2.1, (f 0).2.2.2.2.2.2.2.2.2.2.2.2.1, (f 0).2.2.2.2.2.2.2.2.2.2.2.2.2)), ((nI (if z < 6 then o else (o + 1) % 6)), (nI (if z < 6 then z + 1 else z))), tx, rt) 10)) H := lw_fP 10 (by decide) hWP
  have hD : va_D A ((wLm cA Ad rt) ++ (rst cA Ad ((upS (pushF f ((o + z) % 6)) 0 ((f 0).1, (f 0).2.1, (f 0).2.2.1, (f 0).2.2.2.1, ((f 0).2.2.2.2.1 ^^^ (1 <<< ((nI t) &&& 31))), (f 0).2.2.2.2.2.1, (f 0).2.2.2.2.2.2.1, (f 0).2.2.2.2.2.2.2.1, (f 0).2.2.2.2.2.2.2.2.1, (f 0).2.2.2.2.2.2.2.2.2.1, (f 0).2.2.2.2.2.2.2.2.2.2.1, (f 0).2.2.2.2.2.2.2.2.2.2.2.1, (f 0).2.2.2.2.2.2.2.2.2.2.2.2.1, (f 0).2.2.2.2.2.2.2.2.2.2.2.2.2)), ((nI (if z < 6 then o else (o + 1) % 6)), (nI (if z < 6 then z + 1 else z))), tx, rt) 10)) := lw_fD 10 (by decide) hWD
  refine va_get (D := D) (ci := 4) (v := .ref (Ad 0 0)) (C := RX4) (T := TX4) (N := 7) hx hb hts iX4_guard_X4 hown hK hP 0 rfl rfl 0 (by decide) (hts _ mX4_guard_f10) (fun _ h9 => h9) rfl dX4_guard_47 ?_
  have hP : va_P D vwCl ((wSt cA (Ad 0) ((f 0).1, (f 0).2.1, (f 0).2.2.1, (f 0).2.2.2.1, ((f 0).2.2.2.2.1 ^^^ (1 <<< ((nI t) &&& 31))), (f 0).2.2.2.2.2.1, (f 0).2.2.2.2.2.2.1, (f 0).2.2.2.2.2.2.2.1, (f 0).2.2.2.2.2.2.2.2.1, (f 0).2.2.2.2.2.2.2.2.2.1, (f 0).2.2.2.2.2.2.2.2.2.2.1, (f 0).2.2.2.2.2.2.2.2.2.2.2.1, (f 0).2.2.2.2.2.2.2.2.2.2.2.2.1, (f 0).2.2.2.2.2.2.2.2.2.2.2.2.2)) ++ (rst cA Ad ((upS (pushF f ((o + z) % 6)) 0 ((f 0).1, (f 0).2.1, (f 0).2.2.1, (f 0).2.2.2.1, ((f 0).2.2.2.2.1 ^^^ (1 <<< ((nI t) &&& 31))), (f 0).2.2.2.2.2.1, (f 0).2.2.2.2.2.2.1, (f 0).2.2.2.2.2.2.2.1, (f 0).2.2.2.2.2.2.2.2.1, (f 0).2.2.2.2.2.2.2.2.2.1, (f 0).2.2.2.2.2.2.2.2.2.2.1, (f 0).2.2.2.2.2.2.2.2.2.2.2.1, (f 0).2.2.2.2.2.2.2.2.2.2.2.2.1, (f 0).2.2.2.2.2.2.2.2.2.2.2.2.2)), ((nI (if z < 6 then o else (o + 1) % 6)), (nI (if z < 6 then z + 1 else z))), tx, rt) 0)) H := lw_fP 0 (by decide) hWP
  have hD : va_D A ((wSt cA (Ad 0) ((f 0).1, (f 0).2.1, (f 0).2.2.1, (f 0).2.2.2.1, ((f 0).2.2.2.2.1 ^^^ (1 <<< ((nI t) &&& 31))), (f 0).2.2.2.2.2.1, (f 0).2.2.2.2.2.2.1, (f 0).2.2.2.2.2.2.2.1, (f 0).2.2.2.2.2.2.2.2.1, (f 0).2.2.2.2.2.2.2.2.2.1, (f 0).2.2.2.2.2.2.2.2.2.2.1, (f 0).2.2.2.2.2.2.2.2.2.2.2.1, (f 0).2.2.2.2.2.2.2.2.2.2.2.2.1, (f 0).2.2.2.2.2.2.2.2.2.2.2.2.2)) ++ (rst cA Ad ((upS (pushF f ((o + z) % 6)) 0 ((f 0).1, (f 0).2.1, (f 0).2.2.1, (f 0).2.2.2.1, ((f 0).2.2.2.2.1 ^^^ (1 <<< ((nI t) &&& 31))), (f 0).2.2.2.2.2.1, (f 0).2.2.2.2.2.2.1, (f 0).2.2.2.2.2.2.2.1, (f 0).2.2.2.2.2.2.2.2.1, (f 0).2.2.2.2.2.2.2.2.2.1, (f 0).2.2.2.2.2.2.2.2.2.2.1, (f 0).2.2.2.2.2.2.2.2.2.2.2.1, (f 0).2.2.2.2.2.2.2.2.2.2.2.2.1, (f 0).2.2.2.2.2.2.2.2.2.2.2.2.2)), ((nI (if z < 6 then o else (o + 1) % 6)), (nI (if z < 6 then z + 1 else z))), tx, rt) 0)) := lw_fD 0 (by decide) hWD
  refine va_get (D := D) (ci := 2) (v := .int (((f 0).1, (f 0).2.1, (f 0).2.2.1, (f 0).2.2.2.1, ((f 0).2.2.2.2.1 ^^^ (1 <<< ((nI t) &&& 31))), (f 0).2.2.2.2.2.1, (f 0).2.2.2.2.2.2.1, (f 0).2.2.2.2.2.2.2.1, (f 0).2.2.2.2.2.2.2.2.1, (f 0).2.2.2.2.2.2.2.2.2.1, (f 0).2.2.2.2.2.2.2.2.2.2.1, (f 0).2.2.2.2.2.2.2.2.2.2.2.1, (f 0).2.2.2.2.2.2.2.2.2.2.2.2.1, (f 0).2.2.2.2.2.2.2.2.2.2.2.2.2).2.2.2.2.1)) (C := RX2) (T := TX2) (N := 8) hx hb hts iX4_guard_X2 hown hK hP 0 rfl rfl 5 (by decide) (hts _ mX4_guard_f88) (fun _ h9 => h9) rfl dX4_guard_50 ?_
  refine lv_iload_n hx hb dX4_guard_53 rfl (lv_at hl 1 rfl) ?_
  refine ro_S (As := [.int (((f 0).1, (f 0).2.1, (f 0).2.2.1, (f 0).2.2.2.1, ((f 0).2.2.2.2.1 ^^^ (1 <<< ((nI t) &&& 31))), (f 0).2.2.2.2.2.1, (f 0).2.2.2.2.2.2.1, (f 0).2.2.2.2.2.2.2.1, (f 0).2.2.2.2.2.2.2.2.1, (f 0).2.2.2.2.2.2.2.2.2.1, (f 0).2.2.2.2.2.2.2.2.2.2.1, (f 0).2.2.2.2.2.2.2.2.2.2.2.1, (f 0).2.2.2.2.2.2.2.2.2.2.2.2.1, (f 0).2.2.2.2.2.2.2.2.2.2.2.2.2).2.2.2.2.1), .int (nI t)]) (rest := []) ⟨hx, hb, hml, hown, hts⟩ (c_X4_bit l D cA _ (((f 0).1, (f 0).2.1, (f 0).2.2.1, (f 0).2.2.2.1, ((f 0).2.2.2.2.1 ^^^ (1 <<< ((nI t) &&& 31))), (f 0).2.2.2.2.2.1, (f 0).2.2.2.2.2.2.1, (f 0).2.2.2.2.2.2.2.1, (f 0).2.2.2.2.2.2.2.2.1, (f 0).2.2.2.2.2.2.2.2.2.1, (f 0).2.2.2.2.2.2.2.2.2.2.1, (f 0).2.2.2.2.2.2.2.2.2.2.2.1, (f 0).2.2.2.2.2.2.2.2.2.2.2.2.1, (f 0).2.2.2.2.2.2.2.2.2.2.2.2.2).2.2.2.2.1) (nI t)) (cwS2 2 hts gX4_guard_X4_bit rfl rfl rfl (by decide +kernel) ⟨Nat.le_of_ble_eq_true rfl, Nat.le_of_ble_eq_true rfl⟩) hKN rfl hl.1 rfl (lv_room (Nat.le_of_ble_eq_true rfl)) dX4_guard_54 ⟨Nat.zero_le _, Nat.zero_le _⟩ ?_
  exact mu_iret hx hb hr hlocks dX4_guard_57 hAe hS hWP rfl
theorem mX4_change_f22 : Cond.fieldLink RX4 22 "WireLoom" "past" "LWireLoom$Past;" ∈ wsX4_change := by decide +kernel
theorem mX4_change_f10 : Cond.fieldLink RX4 10 "WireLoom" "now" "LWireLoom$State;" ∈ wsX4_change := by decide +kernel
set_option maxRecDepth 20000 in
theorem iX4_change_X4 : ∀ w ∈ wsX40, w ∈ wsX4_change := by decide +kernel
set_option maxHeartbeats 4000000 in
set_option maxRecDepth 100000 in
theorem c_X4_change (l : Launch) (D : va_G) (cA : Nat → ClassId) (H : Heap) (Ad : Nat → Nat → Nat) (f : Nat → SV) (o z : Nat) (tx : TV) (rt : (Nat → Int32) × (Nat → Int32)) (ho : o < 6) (hz6 : z ≤ 6) (hz : (f 0).2.2.2.2.2.2.2.2.2.2.2.1 = 0 ∨ (f 0).2.2.2.2.2.2.2.2.2.2.2.1 = 1) (r : Nat) (hr0 : r < 8) (hP0 : va_P D vwCl (all cA Ad (f, ((nI o), (nI z)), tx, rt)) H) (hD0 : va_D (fun _ => True) (all cA Ad (f, ((nI o), (nI z)), tx, rt))) : MU l yX4_change wsX4_change ({ frames := 4, cells := 0, slots := 0, locals := 93 } : Room) D cA [.ref (Ad 10 0), .int (nI r)] H (all cA Ad (f, ((nI o), (nI z)), tx, rt)) (all cA Ad (upS (pushF f ((o + z) % 6)) 0 (renewS (f 0) r), (nI (if z < 6 then o else (o + 1) % 6), nI (if z < 6 then z + 1 else z)), tx, rt)) (some (.int (bcF (thrS (f 0) (nI r))))) := by
  refine Met.ofW (cc := cX4_change) (maxL := 2) (ret := (some .int)) (by decide) rfl ?_
  intro p e s m args below meth c s₁ B hml hv
  obtain ⟨rfl, hH, hKN⟩ := hv
  have hK := hKN.1
  have hx := B.exec
  have hb := B.bytes
  have hr := B.returns
  have hts := atoms_spec (ws := wsX4_change) B.pre
  have hown : s.vm.findClass RX4 = some m.cls := findClass_of_methodNamed B.named
  have hlocks := B.notSynchronized
  subst hH
  have hWD := hD0.self (sz := s.heap.size)
  generalize hAe : va_A (all cA Ad (f, ((nI o), (nI z)), tx, rt)) s.heap.size = A at hWD ⊢
  have hA : ∀ q : Nat, s.heap.size ≤ q → A q := fun q h => by rw [← hAe]; exact Or.inr h
  have hS : va_S A s.heap s.heap [] := va_S.rf
  have hWP : va_P D vwCl (all cA Ad (f, ((nI o), (nI z)), tx, rt)) s.heap := hP0
  have hl := lv_entry ([.ref (Ad 10 0), .int (nI r)] : List Value) (n := 2) (Nat.le_of_ble_eq_true rfl)
  rw [lg_entry_eq]
  generalize (lg_sl ([.ref (Ad 10 0), .int (nI r)] : List Value) ++ List.replicate (2 - (lg_sl ([.ref (Ad 10 0), .int (nI r)] : List Value)).length) Slot.unset).toArray = ls at hl ⊢
  have hl : lv_has ls 2 [(0, .ref (Ad 10 0)), (1, .int (nI r))] := hl
  refine lv_iload_n hx hb dX4_change_0 rfl (lv_at hl 1 rfl) ?_
  refine ro_S (As := [.int (nI r)]) (rest := []) ⟨hx, hb, hml, hown, hts⟩ (c_X4_isRing l D cA _ (nI r)) (cwS2 1 hts gX4_change_X4_isRing rfl rfl rfl (by decide +kernel) ⟨Nat.le_of_ble_eq_true rfl, Nat.le_of_ble_eq_true rfl⟩) hKN rfl hl.1 rfl (lv_room (Nat.le_of_ble_eq_true rfl)) dX4_change_1 ⟨Nat.zero_le _, Nat.zero_le _⟩ ?_
  refine lz_top (v := 1) (inF_ok (k := r) (a := 0) (b := 7) (by omega) (by omega) (by decide)) ?_
  refine lv_if_ne (tgt := 17) hx hb dX4_change_4 (by decide) (fun _ => ?_) (fun h => absurd h (by decide))
  refine lv_aload_n hx hb dX4_change_17 rfl (lv_at hl 0 rfl) ?_
  have hP : va_P D vwCl ((wLm cA Ad rt) ++ (rst cA Ad (f, ((nI o), (nI z)), tx, rt) 10)) s.heap := lw_fP 10 (by decide) hWP
  have hD : va_D A ((wLm cA Ad rt) ++ (rst cA Ad (f, ((nI o), (nI z)), tx, rt) 10)) := lw_fD 10 (by decide) hWD
  refine va_get (D := D) (ci := 4) (v := .ref (Ad 11 0)) (C := RX4) (T := TX4) (N := 7) hx hb hts iX4_change_X4 hown hK hP 0 rfl rfl 2 (by decide) (hts _ mX4_change_f22) (fun _ h9 => h9) rfl dX4_change_18 ?_
  refine lv_aload_n hx hb dX4_change_21 rfl (lv_at hl 0 rfl) ?_
  refine va_get (D := D) (ci := 4) (v := .ref (Ad 0 0)) (C := RX4) (T := TX4) (N := 7) hx hb hts iX4_change_X4 hown hK hP 0 rfl rfl 0 (by decide) (hts _ mX4_change_f10) (fun _ h9 => h9) rfl dX4_change_22 ?_
  refine mu_Vw (ci := 1) (q0 := 0) (As := [.ref (Ad 0 0)]) (rest := []) ⟨hx, hb, hml, hown, hts⟩ (c_X1_push l D cA _ Ad f o z tx rt ho hz6 hz hWP (hWD.weaken (fun _ _ _ _ => trivial))) (cwV 1 hts gX4_change_X1_push rfl rfl rfl (by decide +kernel) ⟨Nat.le_of_ble_eq_true rfl, Nat.le_of_ble_eq_true rfl⟩) hKN hWP hWD hS hA (lw_fP 11 (by decide) hWP : va_P D vwCl ((wPa cA Ad ((nI o), (nI z))) ++ (rst cA Ad (f, ((nI o), (nI z)), tx, rt) 11)) s.heap) rfl rfl (all_fst _ _ _ _) rfl hl.1 rfl (lv_room (Nat.le_of_ble_eq_true rfl)) dX4_change_25 ⟨Nat.zero_le _, Nat.zero_le _⟩ (fun H locs hWP hWD hS => ?_)
  have hWP : va_P D vwCl (all cA Ad ((pushF f ((o + z) % 6)), ((nI (if z < 6 then o else (o + 1) % 6)), (nI (if z < 6 then z + 1 else z))), tx, rt)) H := by rw [pushF_eq] at hWP; exact hWP
  have hWD : va_D A (all cA Ad ((pushF f ((o + z) % 6)), ((nI (if z < 6 then o else (o + 1) % 6)), (nI (if z < 6 then z + 1 else z))), tx, rt)) := by rw [pushF_eq] at hWD; exact hWD
  refine lv_aload_n hx hb dX4_change_28 rfl (lv_at hl 0 rfl) ?_
  have hP : va_P D vwCl ((wLm cA Ad rt) ++ (rst cA Ad ((pushF f ((o + z) % 6)), ((nI (if z < 6 then o else (o + 1) % 6)), (nI (if z < 6 then z + 1 else z))), tx, rt) 10)) H := lw_fP 10 (by decide) hWP
  have hD : va_D A ((wLm cA Ad rt) ++ (rst cA Ad ((pushF f ((o + z) % 6)), ((nI (if z < 6 then o else (o + 1) % 6)), (nI (if z < 6 then z + 1 else z))), tx, rt) 10)) := lw_fD 10 (by decide) hWD
  refine va_get (D := D) (ci := 4) (v := .ref (Ad 0 0)) (C := RX4) (T := TX4) (N := 7) hx hb hts iX4_change_X4 hown hK hP 0 rfl rfl 0 (by decide) (hts _ mX4_change_f10) (fun _ h9 => h9) rfl dX4_change_29 ?_
  refine lv_iload_n hx hb dX4_change_32 rfl (lv_at hl 1 rfl) ?_
  have hP : va_P D vwCl ((wSt cA (Ad 0) (f 0)) ++ (rst cA Ad ((pushF f ((o + z) % 6)), ((nI (if z < 6 then o else (o + 1) % 6)), (nI (if z < 6 then z + 1 else z))), tx, rt) 0)) H := lw_fP 0 (by decide) hWP
  have hD : va_D A ((wSt cA (Ad 0) (f 0)) ++ (rst cA Ad ((pushF f ((o + z) % 6)), ((nI (if z < 6 then o else (o + 1) % 6)), (nI (if z < 6 then z + 1 else z))), tx, rt) 0)) := lw_fD 0 (by decide) hWD
  refine mu_Va (ci := 2) (q0 := 0) (As := [.int (nI r)]) (rest := []) ⟨hx, hb, hml, hown, hts⟩ (c_X2_renewRing l D cA _ (Ad 0) (f 0) r (by omega) (va_P_l hP) (va_D_l hD)) (cwV 1 hts gX4_change_X2_renewRing rfl rfl rfl (by decide +kernel) ⟨Nat.le_of_ble_eq_true rfl, Nat.le_of_ble_eq_true rfl⟩) hKN hP hD hS hA rfl rfl ((wSt_fst _ _ _).trans (wSt_fst _ _ _).symm) rfl hl.1 rfl (lv_room (Nat.le_of_ble_eq_true rfl)) dX4_change_33 ⟨Nat.zero_le _, Nat.zero_le _⟩ (fun H locs hP hD hS => ?_)
  have hP : va_P D vwCl ((wSt cA (Ad 0) ((renewS (f 0) r).1, (renewS (f 0) r).2.1, (renewS (f 0) r).2.2.1, (renewS (f 0) r).2.2.2.1, (renewS (f 0) r).2.2.2.2.1, (renewS (f 0) r).2.2.2.2.2.1, (renewS (f 0) r).2.2.2.2.2.2.1, (renewS (f 0) r).2.2.2.2.2.2.2.1, (renewS (f 0) r).2.2.2.2.2.2.2.2.1, (renewS (f 0) r).2.2.2.2.2.2.2.2.2.1, (renewS (f 0) r).2.2.2.2.2.2.2.2.2.2.1, (renewS (f 0) r).2.2.2.2.2.2.2.2.2.2.2.1, (renewS (f 0) r).2.2.2.2.2.2.2.2.2.2.2.2.1, (renewS (f 0) r).2.2.2.2.2.2.2.2.2.2.2.2.2)) ++ (rst cA Ad ((pushF f ((o + z) % 6)), ((nI (if z < 6 then o else (o + 1) % 6)), (nI (if z < 6 then z + 1 else z))), tx, rt) 0)) H := hP
  have hD : va_D A ((wSt cA (Ad 0) ((renewS (f 0) r).1, (renewS (f 0) r).2.1, (renewS (f 0) r).2.2.1, (renewS (f 0) r).2.2.2.1, (renewS (f 0) r).2.2.2.2.1, (renewS (f 0) r).2.2.2.2.2.1, (renewS (f 0) r).2.2.2.2.2.2.1, (renewS (f 0) r).2.2.2.2.2.2.2.1, (renewS (f 0) r).2.2.2.2.2.2.2.2.1, (renewS (f 0) r).2.2.2.2.2.2.2.2.2.1, (renewS (f 0) r).2.2.2.2.2.2.2.2.2.2.1, (renewS (f 0) r).2.2.2.2.2.2.2.2.2.2.2.1, (renewS (f 0) r).2.2.2.2.2.2.2.2.2.2.2.2.1, (renewS (f 0) r).2.2.2.2.2.2.2.2.2.2.2.2.2)) ++ (rst cA Ad ((pushF f ((o + z) % 6)), ((nI (if z < 6 then o else (o + 1) % 6)), (nI (if z < 6 then z + 1 else z))), tx, rt) 0)) := hD
  have hWP : va_P D vwCl (all cA Ad ((upS (pushF f ((o + z) % 6)) 0 ((renewS (f 0) r).1, (renewS (f 0) r).2.1, (renewS (f 0) r).2.2.1, (renewS (f 0) r).2.2.2.1, (renewS (f 0) r).2.2.2.2.1, (renewS (f 0) r).2.2.2.2.2.1, (renewS (f 0) r).2.2.2.2.2.2.1, (renewS (f 0) r).2.2.2.2.2.2.2.1, (renewS (f 0) r).2.2.2.2.2.2.2.2.1, (renewS (f 0) r).2.2.2.2.2.2.2.2.2.1, (renewS (f 0) r).2.2.2.2.2.2.2.2.2.2.1, (renewS (f 0) r).2.2.2.2.2.2.2.2.2.2.2.1, (renewS (f 0) r).2.2.2.2.2.2.2.2.2.2.2.2.1, (renewS (f 0) r).2.2.2.2.2.2.2.2.2.2.2.2.2)), ((nI (if z < 6 then o else (o + 1) % 6)), (nI (if z < 6 then z + 1 else z))), tx, rt)) H := lw_uP 0 ((upS (pushF f ((o + z) % 6)) 0 ((renewS (f 0) r).1, (renewS (f 0) r).2.1, (renewS (f 0) r).2.2.1, (renewS (f 0) r).2.2.2.1, (renewS (f 0) r).2.2.2.2.1, (renewS (f 0) r).2.2.2.2.2.1, (renewS (f 0) r).2.2.2.2.2.2.1, (renewS (f 0) r).2.2.2.2.2.2.2.1, (renewS (f 0) r).2.2.2.2.2.2.2.2.1, (renewS (f 0) r).2.2.2.2.2.2.2.2.2.1, (renewS (f 0) r).2.2.2.2.2.2.2.2.2.2.1, (renewS (f 0) r).2.2.2.2.2.2.2.2.2.2.2.1, (renewS (f 0) r).2.2.2.2.2.2.2.2.2.2.2.2.1, (renewS (f 0) r).2.2.2.2.2.2.2.2.2.2.2.2.2)), ((nI (if z < 6 then o else (o + 1) % 6)), (nI (if z < 6 then z + 1 else z))), tx, rt) (by decide) (bc_st 0 _ (by decide)) hP
  have hWD : va_D A (all cA Ad ((upS (pushF f ((o + z) % 6)) 0 ((renewS (f 0) r).1, (renewS (f 0) r).2.1, (renewS (f 0) r).2.2.1, (renewS (f 0) r).2.2.2.1, (renewS (f 0) r).2.2.2.2.1, (renewS (f 0) r).2.2.2.2.2.1, (renewS (f 0) r).2.2.2.2.2.2.1, (renewS (f 0) r).2.2.2.2.2.2.2.1, (renewS (f 0) r).2.2.2.2.2.2.2.2.1, (renewS (f 0) r).2.2.2.2.2.2.2.2.2.1, (renewS (f 0) r).2.2.2.2.2.2.2.2.2.2.1, (renewS (f 0) r).2.2.2.2.2.2.2.2.2.2.2.1, (renewS (f 0) r).2.2.2.2.2.2.2.2.2.2.2.2.1, (renewS (f 0) r).2.2.2.2.2.2.2.2.2.2.2.2.2)), ((nI (if z < 6 then o else (o + 1) % 6)), (nI (if z < 6 then z + 1 else z))), tx, rt)) := lw_uD 0 ((upS (pushF f ((o + z) % 6)) 0 ((renewS (f 0) r).1, (renewS (f 0) r).2.1, (renewS (f 0) r).2.2.1, (renewS (f 0) r).2.2.2.1, (renewS (f 0) r).2.2.2.2.1, (renewS (f 0) r).2.2.2.2.2.1, (renewS (f 0) r).2.2.2.2.2.2.1, (renewS (f 0) r).2.2.2.2.2.2.2.1, (renewS (f 0) r).2.2.2.2.2.2.2.2.1, (renewS (f 0) r).2.2.2.2.2.2.2.2.2.1, (renewS (f 0) r).2.2.2.2.2.2.2.2.2.2.1, (renewS (f 0) r).2.2.2.2.2.2.2.2.2.2.2.1, (renewS (f 0) r).2.2.2.2.2.2.2.2.2.2.2.2.1, (renewS (f 0) r).2.2.2.2.2.2.2.2.2.2.2.2.2)), ((nI (if z < 6 then o else (o + 1) % 6)), (nI (if z < 6 then z + 1 else z))), tx, rt) (by decide) (bc_st 0 _ (by decide)) hD
  exact mu_iret hx hb hr hlocks dX4_change_36 hAe hS hWP rfl
theorem mX4_set_f22 : Cond.fieldLink RX4 22 "WireLoom" "past" "LWireLoom$Past;" ∈ wsX4_set := by decide +kernel
theorem mX4_set_f10 : Cond.fieldLink RX4 10 "WireLoom" "now" "LWireLoom$State;" ∈ wsX4_set := by decide +kernel
theorem mX4_set_f104 : Cond.fieldLink RX4 104 "WireLoom$State" "settings" "[I" ∈ wsX4_set := by decide +kernel
set_option maxRecDepth 20000 in
theorem iX4_set_X2 : ∀ w ∈ wsX20, w ∈ wsX4_set := by decide +kernel
set_option maxRecDepth 20000 in
theorem iX4_set_X4 : ∀ w ∈ wsX40, w ∈ wsX4_set := by decide +kernel
set_option maxHeartbeats 4000000 in
set_option maxRecDepth 100000 in
theorem c_X4_set0 (l : Launch) (D : va_G) (cA : Nat → ClassId) (H : Heap) (Ad : Nat → Nat → Nat) (f : Nat → SV) (o z : Nat) (tx : TV) (rt : (Nat → Int32) × (Nat → Int32)) (ho : o < 6) (hz6 : z ≤ 6) (hz : (f 0).2.2.2.2.2.2.2.2.2.2.2.1 = 0 ∨ (f 0).2.2.2.2.2.2.2.2.2.2.2.1 = 1) (v : Nat) (h1 : 1 ≤ v) (h8 : v ≤ 8) (hP0 : va_P D vwCl (all cA Ad (f, ((nI o), (nI z)), tx, rt)) H) (hD0 : va_D (fun _ => True) (all cA Ad (f, ((nI o), (nI z)), tx, rt))) : MU l yX4_set wsX4_set ({ frames := 4, cells := 0, slots := 0, locals := 93 } : Room) D cA [.ref (Ad 10 0), .int 0, .int (nI v)] H (all cA Ad (f, ((nI o), (nI z)), tx, rt)) (all cA Ad (upS (pushF f ((o + z) % 6)) 0 ((f 0).1, (f 0).2.1, (f 0).2.2.1, upd (f 0).2.2.2.1 0 (nI v), (f 0).2.2.2.2), (nI (if z < 6 then o else (o + 1) % 6), nI (if z < 6 then z + 1 else z)), tx, rt)) (some (.int ((f 0).2.2.2.1 0))) := by
  refine Met.ofW (cc := cX4_set) (maxL := 4) (ret := (some .int)) (by decide) rfl ?_
  intro p e s m args below meth c s₁ B hml hv
  obtain ⟨rfl, hH, hKN⟩ := hv
  have hK := hKN.1
  have hx := B.exec
  have hb := B.bytes
  have hr := B.returns
  have hts := atoms_spec (ws := wsX4_set) B.pre
  have hown : s.vm.findClass RX4 = some m.cls := findClass_of_methodNamed B.named
  have hlocks := B.notSynchronized
  subst hH
  have hWD := hD0.self (sz := s.heap.size)
  generalize hAe : va_A (all cA Ad (f, ((nI o), (nI z)), tx, rt)) s.heap.size = A at hWD ⊢
  have hA : ∀ q : Nat, s.heap.size ≤ q → A q := fun q h => by rw [← hAe]; exact Or.inr h
  have hS : va_S A s.heap s.heap [] := va_S.rf
  have hWP : va_P D vwCl (all cA Ad (f, ((nI o), (nI z)), tx, rt)) s.heap := hP0
  have hl := lv_entry ([.ref (Ad 10 0), .int 0, .int (nI v)] : List Value) (n := 4) (Nat.le_of_ble_eq_true rfl)
  rw [lg_entry_eq]
  generalize (lg_sl ([.ref (Ad 10 0), .int 0, .int (nI v)] : List Value) ++ List.replicate (4 - (lg_sl ([.ref (Ad 10 0), .int 0, .int (nI v)] : List Value)).length) Slot.unset).toArray = ls at hl ⊢
  have hl : lv_has ls 4 [(0, .ref (Ad 10 0)), (1, .int 0), (2, .int (nI v))] := hl
  refine lv_iload_n hx hb dX4_set_0 rfl (lv_at hl 1 rfl) ?_
  refine ro_S (As := [.int 0]) (rest := []) ⟨hx, hb, hml, hown, hts⟩ (c_X4_isSetting l D cA _ 0) (cwS2 1 hts gX4_set_X4_isSetting rfl rfl rfl (by decide +kernel) ⟨Nat.le_of_ble_eq_true rfl, Nat.le_of_ble_eq_true rfl⟩) hKN rfl hl.1 rfl (lv_room (Nat.le_of_ble_eq_true rfl)) dX4_set_1 ⟨Nat.zero_le _, Nat.zero_le _⟩ ?_
  refine lz_top (v := 1) (inF_ok (k := 0) (a := 0) (b := 1) (by omega) (by omega) (by decide)) ?_
  refine lv_if_ne (tgt := 17) hx hb dX4_set_4 (by decide) (fun _ => ?_) (fun h => absurd h (by decide))
  refine lv_iload_n hx hb dX4_set_17 rfl (lv_at hl 2 rfl) ?_
  refine lv_iload_n hx hb dX4_set_18 rfl (lv_at hl 1 rfl) ?_
  refine lv_if_ne (tgt := 26) hx hb dX4_set_19 (by decide) (fun h => absurd (by decide) h) (fun _ => ?_)
  refine lv_iconst (v := 1) hx hb dX4_set_22 (by decide) ?_
  refine lv_goto (tgt := 27) hx hb dX4_set_23 (by decide) ?_
  refine lv_iload_n hx hb dX4_set_27 rfl (lv_at hl 1 rfl) ?_
  refine lv_if_ne (tgt := 36) hx hb dX4_set_28 (by decide) (fun h => absurd (by decide) h) (fun _ => ?_)
  refine lv_bipush (v := 8) hx hb dX4_set_31 (by decide) ?_
  refine lv_goto (tgt := 37) hx hb dX4_set_33 (by decide) ?_
  refine ro_S (As := [.int (nI v), .int 1, .int 8]) (rest := []) ⟨hx, hb, hml, hown, hts⟩ (c_X4_isWithin l D cA _ (nI v) 1 8) (cwS2 3 hts gX4_set_X4_isWithin rfl rfl rfl (by decide +kernel) ⟨Nat.le_of_ble_eq_true rfl, Nat.le_of_ble_eq_true rfl⟩) hKN rfl hl.1 rfl (lv_room (Nat.le_of_ble_eq_true rfl)) dX4_set_37 ⟨Nat.zero_le _, Nat.zero_le _⟩ ?_
  refine lz_top (v := 1) (inF_ok (k := v) (a := 1) (b := 8) (by omega) (by omega) (by decide)) ?_
  refine lv_if_ne (tgt := 53) hx hb dX4_set_40 (by decide) (fun _ => ?_) (fun h => absurd h (by decide))
  refine lv_aload_n hx hb dX4_set_53 rfl (lv_at hl 0 rfl) ?_
  have hP : va_P D vwCl ((wLm cA Ad rt) ++ (rst cA Ad (f, ((nI o), (nI z)), tx, rt) 10)) s.heap := lw_fP 10 (by decide) hWP
  have hD : va_D A ((wLm cA Ad rt) ++ (rst cA Ad (f, ((nI o), (nI z)), tx, rt) 10)) := lw_fD 10 (by decide) hWD
  refine va_get (D := D) (ci := 4) (v := .ref (Ad 11 0)) (C := RX4) (T := TX4) (N := 7) hx hb hts iX4_set_X4 hown hK hP 0 rfl rfl 2 (by decide) (hts _ mX4_set_f22) (fun _ h9 => h9) rfl dX4_set_54 ?_
  refine lv_aload_n hx hb dX4_set_57 rfl (lv_at hl 0 rfl) ?_
  refine va_get (D := D) (ci := 4) (v := .ref (Ad 0 0)) (C := RX4) (T := TX4) (N := 7) hx hb hts iX4_set_X4 hown hK hP 0 rfl rfl 0 (by decide) (hts _ mX4_set_f10) (fun _ h9 => h9) rfl dX4_set_58 ?_
  refine mu_Vw (ci := 1) (q0 := 0) (As := [.ref (Ad 0 0)]) (rest := []) ⟨hx, hb, hml, hown, hts⟩ (c_X1_push l D cA _ Ad f o z tx rt ho hz6 hz hWP (hWD.weaken (fun _ _ _ _ => trivial))) (cwV 1 hts gX4_set_X1_push rfl rfl rfl (by decide +kernel) ⟨Nat.le_of_ble_eq_true rfl, Nat.le_of_ble_eq_true rfl⟩) hKN hWP hWD hS hA (lw_fP 11 (by decide) hWP : va_P D vwCl ((wPa cA Ad ((nI o), (nI z))) ++ (rst cA Ad (f, ((nI o), (nI z)), tx, rt) 11)) s.heap) rfl rfl (all_fst _ _ _ _) rfl hl.1 rfl (lv_room (Nat.le_of_ble_eq_true rfl)) dX4_set_61 ⟨Nat.zero_le _, Nat.zero_le _⟩ (fun H locs hWP hWD hS => ?_)
  have hWP : va_P D vwCl (all cA Ad ((pushF f ((o + z) % 6)), ((nI (if z < 6 then o else (o + 1) % 6)), (nI (if z < 6 then z + 1 else z))), tx, rt)) H := by rw [pushF_eq] at hWP; exact hWP
  have hWD : va_D A (all cA Ad ((pushF f ((o + z) % 6)), ((nI (if z < 6 then o else (o + 1) % 6)), (nI (if z < 6 then z + 1 else z))), tx, rt)) := by rw [pushF_eq] at hWD; exact hWD
  refine lv_aload_n hx hb dX4_set_64 rfl (lv_at hl 0 rfl) ?_
  have hP : va_P D vwCl ((wLm cA Ad rt) ++ (rst cA Ad ((pushF f ((o + z) % 6)), ((nI (if z < 6 then o else (o + 1) % 6)), (nI (if z < 6 then z + 1 else z))), tx, rt) 10)) H := lw_fP 10 (by decide) hWP
  have hD : va_D A ((wLm cA Ad rt) ++ (rst cA Ad ((pushF f ((o + z) % 6)), ((nI (if z < 6 then o else (o + 1) % 6)), (nI (if z < 6 then z + 1 else z))), tx, rt) 10)) := lw_fD 10 (by decide) hWD
  refine va_get (D := D) (ci := 4) (v := .ref (Ad 0 0)) (C := RX4) (T := TX4) (N := 7) hx hb hts iX4_set_X4 hown hK hP 0 rfl rfl 0 (by decide) (hts _ mX4_set_f10) (fun _ h9 => h9) rfl dX4_set_65 ?_
  have hP : va_P D vwCl ((wSt cA (Ad 0) (f 0)) ++ (rst cA Ad ((pushF f ((o + z) % 6)), ((nI (if z < 6 then o else (o + 1) % 6)), (nI (if z < 6 then z + 1 else z))), tx, rt) 0)) H := lw_fP 0 (by decide) hWP
  have hD : va_D A ((wSt cA (Ad 0) (f 0)) ++ (rst cA Ad ((pushF f ((o + z) % 6)), ((nI (if z < 6 then o else (o + 1) % 6)), (nI (if z < 6 then z + 1 else z))), tx, rt) 0)) := lw_fD 0 (by decide) hWD
  refine va_get (D := D) (ci := 2) (v := .ref ((Ad 0) 4)) (C := RX2) (T := TX2) (N := 8) hx hb hts iX4_set_X2 hown hK hP 0 rfl rfl 3 (by decide) (hts _ mX4_set_f104) (fun _ h9 => h9) rfl dX4_set_68 ?_
  refine lv_iload_n hx hb dX4_set_71 rfl (lv_at hl 1 rfl) ?_
  refine lz_iald (k := 0) (f := (f 0).2.2.2.1) hx hb hK hP 4 0 rfl rfl ⟨by decide, by decide⟩ dX4_set_72 ?_
  refine lv_istore_n (lv' := [(3, .int (((f 0).2.2.2.1) 0)), (0, .ref (Ad 10 0)), (1, .int 0), (2, .int (nI v))]) hx hb dX4_set_73 rfl hl (by decide) rfl (fun ls hl => ?_)
  refine lv_aload_n hx hb dX4_set_74 rfl (lv_at hl 1 rfl) ?_
  have hP : va_P D vwCl ((wLm cA Ad rt) ++ (rst cA Ad ((pushF f ((o + z) % 6)), ((nI (if z < 6 then o else (o + 1) % 6)), (nI (if z < 6 then z + 1 else z))), tx, rt) 10)) H := lw_fP 10 (by decide) hWP
  have hD : va_D A ((wLm cA Ad rt) ++ (rst cA Ad ((pushF f ((o + z) % 6)), ((nI (if z < 6 then o else (o + 1) % 6)), (nI (if z < 6 then z + 1 else z))), tx, rt) 10)) := lw_fD 10 (by decide) hWD
  refine va_get (D := D) (ci := 4) (v := .ref (Ad 0 0)) (C := RX4) (T := TX4) (N := 7) hx hb hts iX4_set_X4 hown hK hP 0 rfl rfl 0 (by decide) (hts _ mX4_set_f10) (fun _ h9 => h9) rfl dX4_set_75 ?_
  have hP : va_P D vwCl ((wSt cA (Ad 0) (f 0)) ++ (rst cA Ad ((pushF f ((o + z) % 6)), ((nI (if z < 6 then o else (o + 1) % 6)), (nI (if z < 6 then z + 1 else z))), tx, rt) 0)) H := lw_fP 0 (by decide) hWP
  have hD : va_D A ((wSt cA (Ad 0) (f 0)) ++ (rst cA Ad ((pushF f ((o + z) % 6)), ((nI (if z < 6 then o else (o + 1) % 6)), (nI (if z < 6 then z + 1 else z))), tx, rt) 0)) := lw_fD 0 (by decide) hWD
  refine va_get (D := D) (ci := 2) (v := .ref ((Ad 0) 4)) (C := RX2) (T := TX2) (N := 8) hx hb hts iX4_set_X2 hown hK hP 0 rfl rfl 3 (by decide) (hts _ mX4_set_f104) (fun _ h9 => h9) rfl dX4_set_78 ?_
  refine lv_iload_n hx hb dX4_set_81 rfl (lv_at hl 2 rfl) ?_
  refine lv_iload_n hx hb dX4_set_82 rfl (lv_at hl 3 rfl) ?_
  refine lz_iast (k := 0) (f := (f 0).2.2.2.1) hx hb hK hP hD hS 4 0 rfl rfl ⟨by decide, by decide⟩ dX4_set_83 (fun H locs hP hD hS => ?_)
  have hP : va_P D vwCl ((wSt cA (Ad 0) ((f 0).1, (f 0).2.1, (f 0).2.2.1, (upd ((f 0).2.2.2.1) 0 (nI v)), (f 0).2.2.2.2.1, (f 0).2.2.2.2.2.1, (f 0).2.2.2.2.2.2.1, (f 0).2.2.2.2.2.2.2.1, (f 0).2.2.2.2.2.2.2.2.1, (f 0).2.2.2.2.2.2.2.2.2.1, (f 0).2.2.2.2.2.2.2.2.2.2.1, (f 0).2.2.2.2.2.2.2.2.2.2.2.1, (f 0).2.2.2.2.2.2.2.2.2.2.2.2.1, (f 0).2.2.2.2.2.2.2.2.2.2.2.2.2)) ++ (rst cA Ad ((pushF f ((o + z) % 6)), ((nI (if z < 6 then o else (o + 1) % 6)), (nI (if z < 6 then z + 1 else z))), tx, rt) 0)) H := hP
  have hD : va_D A ((wSt cA (Ad 0) ((f 0).1, (f 0).2.1, (f 0).2.2.1, (upd ((f 0).2.2.2.1) 0 (nI v)), (f 0).2.2.2.2.1, (f 0).2.2.2.2.2.1, (f 0).2.2.2.2.2.2.1, (f 0).2.2.2.2.2.2.2.1, (f 0).2.2.2.2.2.2.2.2.1, (f 0).2.2.2.2.2.2.2.2.2.1, (f 0).2.2.2.2.2.2.2.2.2.2.1, (f 0).2.2.2.2.2.2.2.2.2.2.2.1, (f 0).2.2.2.2.2.2.2.2.2.2.2.2.1, (f 0).2.2.2.2.2.2.2.2.2.2.2.2.2)) ++ (rst cA Ad ((pushF f ((o + z) % 6)), ((nI (if z < 6 then o else (o + 1) % 6)), (nI (if z < 6 then z + 1 else z))), tx, rt) 0)) := hD
  refine lv_iload_n hx hb dX4_set_84 rfl (lv_at hl 0 rfl) ?_
  have hWP : va_P D vwCl (all cA Ad ((upS (pushF f ((o + z) % 6)) 0 ((f 0).1, (f 0).2.1, (f 0).2.2.1, (upd ((f 0).2.2.2.1) 0 (nI v)), (f 0).2.2.2.2.1, (f 0).2.2.2.2.2.1, (f 0).2.2.2.2.2.2.1, (f 0).2.2.2.2.2.2.2.1, (f 0).2.2.2.2.2.2.2.2.1, (f 0).2.2.2.2.2.2.2.2.2.1, (f 0).2.2.2.2.2.2.2.2.2.2.1, (f 0).2.2.2.2.2.2.2.2.2.2.2.1, (f 0).2.2.2.2.2.2.2.2.2.2.2.2.1, (f 0).2.2.2.2.2.2.2.2.2.2.2.2.2)), ((nI (if z < 6 then o else (o + 1) % 6)), (nI (if z < 6 then z + 1 else z))), tx, rt)) H := lw_uP 0 ((upS (pushF f ((o + z) % 6)) 0 ((f 0).1, (f 0).2.1, (f 0).2.2.1, (upd ((f 0).2.2.2.1) 0 (nI v)), (f 0).2.2.2.2.1, (f 0).2.2.2.2.2.1, (f 0).2.2.2.2.2.2.1, (f 0).2.2.2.2.2.2.2.1, (f 0).2.2.2.2.2.2.2.2.1, (f 0).2.2.2.2.2.2.2.2.2.1, (f 0).2.2.2.2.2.2.2.2.2.2.1, (f 0).2.2.2.2.2.2.2.2.2.2.2.1, (f 0).2.2.2.2.2.2.2.2.2.2.2.2.1, (f 0).2.2.2.2.2.2.2.2.2.2.2.2.2)), ((nI (if z < 6 then o else (o + 1) % 6)), (nI (if z < 6 then z + 1 else z))), tx, rt) (by decide) (bc_st 0 _ (by decide)) hP
  have hWD : va_D A (all cA Ad ((upS (pushF f ((o + z) % 6)) 0 ((f 0).1, (f 0).2.1, (f 0).2.2.1, (upd ((f 0).2.2.2.1) 0 (nI v)), (f 0).2.2.2.2.1, (f 0).2.2.2.2.2.1, (f 0).2.2.2.2.2.2.1, (f 0).2.2.2.2.2.2.2.1, (f 0).2.2.2.2.2.2.2.2.1, (f 0).2.2.2.2.2.2.2.2.2.1, (f 0).2.2.2.2.2.2.2.2.2.2.1, (f 0).2.2.2.2.2.2.2.2.2.2.2.1, (f 0).2.2.2.2.2.2.2.2.2.2.2.2.1, (f 0).2.2.2.2.2.2.2.2.2.2.2.2.2)), ((nI (if z < 6 then o else (o + 1) % 6)), (nI (if z < 6 then z + 1 else z))), tx, rt)) := lw_uD 0 ((upS (pushF f ((o + z) % 6)) 0 ((f 0).1, (f 0).2.1, (f 0).2.2.1, (upd ((f 0).2.2.2.1) 0 (nI v)), (f 0).2.2.2.2.1, (f 0).2.2.2.2.2.1, (f 0).2.2.2.2.2.2.1, (f 0).2.2.2.2.2.2.2.1, (f 0).2.2.2.2.2.2.2.2.1, (f 0).2.2.2.2.2.2.2.2.2.1, (f 0).2.2.2.2.2.2.2.2.2.2.1, (f 0).2.2.2.2.2.2.2.2.2.2.2.1, (f 0).2.2.2.2.2.2.2.2.2.2.2.2.1, (f 0).2.2.2.2.2.2.2.2.2.2.2.2.2)), ((nI (if z < 6 then o else (o + 1) % 6)), (nI (if z < 6 then z + 1 else z))), tx, rt) (by decide) (bc_st 0 _ (by decide)) hD
  exact mu_iret hx hb hr hlocks dX4_set_85 hAe hS hWP rfl
set_option maxHeartbeats 4000000 in
set_option maxRecDepth 100000 in
theorem c_X4_set1 (l : Launch) (D : va_G) (cA : Nat → ClassId) (H : Heap) (Ad : Nat → Nat → Nat) (f : Nat → SV) (o z : Nat) (tx : TV) (rt : (Nat → Int32) × (Nat → Int32)) (ho : o < 6) (hz6 : z ≤ 6) (hz : (f 0).2.2.2.2.2.2.2.2.2.2.2.1 = 0 ∨ (f 0).2.2.2.2.2.2.2.2.2.2.2.1 = 1) (v : Nat) (h8 : v ≤ 1) (hP0 : va_P D vwCl (all cA Ad (f, ((nI o), (nI z)), tx, rt)) H) (hD0 : va_D (fun _ => True) (all cA Ad (f, ((nI o), (nI z)), tx, rt))) : MU l yX4_set wsX4_set ({ frames := 4, cells := 0, slots := 0, locals := 93 } : Room) D cA [.ref (Ad 10 0), .int 1, .int (nI v)] H (all cA Ad (f, ((nI o), (nI z)), tx, rt)) (all cA Ad (upS (pushF f ((o + z) % 6)) 0 ((f 0).1, (f 0).2.1, (f 0).2.2.1, upd (f 0).2.2.2.1 1 (nI v), (f 0).2.2.2.2), (nI (if z < 6 then o else (o + 1) % 6), nI (if z < 6 then z + 1 else z)), tx, rt)) (some (.int ((f 0).2.2.2.1 1))) := by
  refine Met.ofW (cc := cX4_set) (maxL := 4) (ret := (some .int)) (by decide) rfl ?_
  intro p e s m args below meth c s₁ B hml hv
  obtain ⟨rfl, hH, hKN⟩ := hv
  have hK := hKN.1
  have hx := B.exec
  have hb := B.bytes
  have hr := B.returns
  have hts := atoms_spec (ws := wsX4_set) B.pre
  have hown : s.vm.findClass RX4 = some m.cls := findClass_of_methodNamed B.named
  have hlocks := B.notSynchronized
  subst hH
  have hWD := hD0.self (sz := s.heap.size)
  generalize hAe : va_A (all cA Ad (f, ((nI o), (nI z)), tx, rt)) s.heap.size = A at hWD ⊢
  have hA : ∀ q : Nat, s.heap.size ≤ q → A q := fun q h => by rw [← hAe]; exact Or.inr h
  have hS : va_S A s.heap s.heap [] := va_S.rf
  have hWP : va_P D vwCl (all cA Ad (f, ((nI o), (nI z)), tx, rt)) s.heap := hP0
  have hl := lv_entry ([.ref (Ad 10 0), .int 1, .int (nI v)] : List Value) (n := 4) (Nat.le_of_ble_eq_true rfl)
  rw [lg_entry_eq]
  generalize (lg_sl ([.ref (Ad 10 0), .int 1, .int (nI v)] : List Value) ++ List.replicate (4 - (lg_sl ([.ref (Ad 10 0), .int 1, .int (nI v)] : List Value)).length) Slot.unset).toArray = ls at hl ⊢
  have hl : lv_has ls 4 [(0, .ref (Ad 10 0)), (1, .int 1), (2, .int (nI v))] := hl
  refine lv_iload_n hx hb dX4_set_0 rfl (lv_at hl 1 rfl) ?_
  refine ro_S (As := [.int 1]) (rest := []) ⟨hx, hb, hml, hown, hts⟩ (c_X4_isSetting l D cA _ 1) (cwS2 1 hts gX4_set_X4_isSetting rfl rfl rfl (by decide +kernel) ⟨Nat.le_of_ble_eq_true rfl, Nat.le_of_ble_eq_true rfl⟩) hKN rfl hl.1 rfl (lv_room (Nat.le_of_ble_eq_true rfl)) dX4_set_1 ⟨Nat.zero_le _, Nat.zero_le _⟩ ?_
  refine lz_top (v := 1) (inF_ok (k := 1) (a := 0) (b := 1) (by omega) (by omega) (by decide)) ?_
  refine lv_if_ne (tgt := 17) hx hb dX4_set_4 (by decide) (fun _ => ?_) (fun h => absurd h (by decide))
  refine lv_iload_n hx hb dX4_set_17 rfl (lv_at hl 2 rfl) ?_
  refine lv_iload_n hx hb dX4_set_18 rfl (lv_at hl 1 rfl) ?_
  refine lv_if_ne (tgt := 26) hx hb dX4_set_19 (by decide) (fun _ => ?_) (fun h => absurd h (by decide))
  refine lv_iconst (v := 0) hx hb dX4_set_26 (by decide) ?_
  refine lv_iload_n hx hb dX4_set_27 rfl (lv_at hl 1 rfl) ?_
  refine lv_if_ne (tgt := 36) hx hb dX4_set_28 (by decide) (fun _ => ?_) (fun h => absurd h (by decide))
  refine lv_iconst (v := 1) hx hb dX4_set_36 (by decide) ?_
  refine ro_S (As := [.int (nI v), .int 0, .int 1]) (rest := []) ⟨hx, hb, hml, hown, hts⟩ (c_X4_isWithin l D cA _ (nI v) 0 1) (cwS2 3 hts gX4_set_X4_isWithin rfl rfl rfl (by decide +kernel) ⟨Nat.le_of_ble_eq_true rfl, Nat.le_of_ble_eq_true rfl⟩) hKN rfl hl.1 rfl (lv_room (Nat.le_of_ble_eq_true rfl)) dX4_set_37 ⟨Nat.zero_le _, Nat.zero_le _⟩ ?_
  refine lz_top (v := 1) (inF_ok (k := v) (a := 0) (b := 1) (by omega) (by omega) (by decide)) ?_
  refine lv_if_ne (tgt := 53) hx hb dX4_set_40 (by decide) (fun _ => ?_) (fun h => absurd h (by decide))
  refine lv_aload_n hx hb dX4_set_53 rfl (lv_at hl 0 rfl) ?_
  have hP : va_P D vwCl ((wLm cA Ad rt) ++ (rst cA Ad (f, ((nI o), (nI z)), tx, rt) 10)) s.heap := lw_fP 10 (by decide) hWP
  have hD : va_D A ((wLm cA Ad rt) ++ (rst cA Ad (f, ((nI o), (nI z)), tx, rt) 10)) := lw_fD 10 (by decide) hWD
  refine va_get (D := D) (ci := 4) (v := .ref (Ad 11 0)) (C := RX4) (T := TX4) (N := 7) hx hb hts iX4_set_X4 hown hK hP 0 rfl rfl 2 (by decide) (hts _ mX4_set_f22) (fun _ h9 => h9) rfl dX4_set_54 ?_
  refine lv_aload_n hx hb dX4_set_57 rfl (lv_at hl 0 rfl) ?_
  refine va_get (D := D) (ci := 4) (v := .ref (Ad 0 0)) (C := RX4) (T := TX4) (N := 7) hx hb hts iX4_set_X4 hown hK hP 0 rfl rfl 0 (by decide) (hts _ mX4_set_f10) (fun _ h9 => h9) rfl dX4_set_58 ?_
  refine mu_Vw (ci := 1) (q0 := 0) (As := [.ref (Ad 0 0)]) (rest := []) ⟨hx, hb, hml, hown, hts⟩ (c_X1_push l D cA _ Ad f o z tx rt ho hz6 hz hWP (hWD.weaken (fun _ _ _ _ => trivial))) (cwV 1 hts gX4_set_X1_push rfl rfl rfl (by decide +kernel) ⟨Nat.le_of_ble_eq_true rfl, Nat.le_of_ble_eq_true rfl⟩) hKN hWP hWD hS hA (lw_fP 11 (by decide) hWP : va_P D vwCl ((wPa cA Ad ((nI o), (nI z))) ++ (rst cA Ad (f, ((nI o), (nI z)), tx, rt) 11)) s.heap) rfl rfl (all_fst _ _ _ _) rfl hl.1 rfl (lv_room (Nat.le_of_ble_eq_true rfl)) dX4_set_61 ⟨Nat.zero_le _, Nat.zero_le _⟩ (fun H locs hWP hWD hS => ?_)
  have hWP : va_P D vwCl (all cA Ad ((pushF f ((o + z) % 6)), ((nI (if z < 6 then o else (o + 1) % 6)), (nI (if z < 6 then z + 1 else z))), tx, rt)) H := by rw [pushF_eq] at hWP; exact hWP
  have hWD : va_D A (all cA Ad ((pushF f ((o + z) % 6)), ((nI (if z < 6 then o else (o + 1) % 6)), (nI (if z < 6 then z + 1 else z))), tx, rt)) := by rw [pushF_eq] at hWD; exact hWD
  refine lv_aload_n hx hb dX4_set_64 rfl (lv_at hl 0 rfl) ?_
  have hP : va_P D vwCl ((wLm cA Ad rt) ++ (rst cA Ad ((pushF f ((o + z) % 6)), ((nI (if z < 6 then o else (o + 1) % 6)), (nI (if z < 6 then z + 1 else z))), tx, rt) 10)) H := lw_fP 10 (by decide) hWP
  have hD : va_D A ((wLm cA Ad rt) ++ (rst cA Ad ((pushF f ((o + z) % 6)), ((nI (if z < 6 then o else (o + 1) % 6)), (nI (if z < 6 then z + 1 else z))), tx, rt) 10)) := lw_fD 10 (by decide) hWD
  refine va_get (D := D) (ci := 4) (v := .ref (Ad 0 0)) (C := RX4) (T := TX4) (N := 7) hx hb hts iX4_set_X4 hown hK hP 0 rfl rfl 0 (by decide) (hts _ mX4_set_f10) (fun _ h9 => h9) rfl dX4_set_65 ?_
  have hP : va_P D vwCl ((wSt cA (Ad 0) (f 0)) ++ (rst cA Ad ((pushF f ((o + z) % 6)), ((nI (if z < 6 then o else (o + 1) % 6)), (nI (if z < 6 then z + 1 else z))), tx, rt) 0)) H := lw_fP 0 (by decide) hWP
  have hD : va_D A ((wSt cA (Ad 0) (f 0)) ++ (rst cA Ad ((pushF f ((o + z) % 6)), ((nI (if z < 6 then o else (o + 1) % 6)), (nI (if z < 6 then z + 1 else z))), tx, rt) 0)) := lw_fD 0 (by decide) hWD
  refine va_get (D := D) (ci := 2) (v := .ref ((Ad 0) 4)) (C := RX2) (T := TX2) (N := 8) hx hb hts iX4_set_X2 hown hK hP 0 rfl rfl 3 (by decide) (hts _ mX4_set_f104) (fun _ h9 => h9) rfl dX4_set_68 ?_
  refine lv_iload_n hx hb dX4_set_71 rfl (lv_at hl 1 rfl) ?_
  refine lz_iald (k := 1) (f := (f 0).2.2.2.1) hx hb hK hP 4 0 rfl rfl ⟨by decide, by decide⟩ dX4_set_72 ?_
  refine lv_istore_n (lv' := [(3, .int (((f 0).2.2.2.1) 1)), (0, .ref (Ad 10 0)), (1, .int 1), (2, .int (nI v))]) hx hb dX4_set_73 rfl hl (by decide) rfl (fun ls hl => ?_)
  refine lv_aload_n hx hb dX4_set_74 rfl (lv_at hl 1 rfl) ?_
  have hP : va_P D vwCl ((wLm cA Ad rt) ++ (rst cA Ad ((pushF f ((o + z) % 6)), ((nI (if z < 6 then o else (o + 1) % 6)), (nI (if z < 6 then z + 1 else z))), tx, rt) 10)) H := lw_fP 10 (by decide) hWP
  have hD : va_D A ((wLm cA Ad rt) ++ (rst cA Ad ((pushF f ((o + z) % 6)), ((nI (if z < 6 then o else (o + 1) % 6)), (nI (if z < 6 then z + 1 else z))), tx, rt) 10)) := lw_fD 10 (by decide) hWD
  refine va_get (D := D) (ci := 4) (v := .ref (Ad 0 0)) (C := RX4) (T := TX4) (N := 7) hx hb hts iX4_set_X4 hown hK hP 0 rfl rfl 0 (by decide) (hts _ mX4_set_f10) (fun _ h9 => h9) rfl dX4_set_75 ?_
  have hP : va_P D vwCl ((wSt cA (Ad 0) (f 0)) ++ (rst cA Ad ((pushF f ((o + z) % 6)), ((nI (if z < 6 then o else (o + 1) % 6)), (nI (if z < 6 then z + 1 else z))), tx, rt) 0)) H := lw_fP 0 (by decide) hWP
  have hD : va_D A ((wSt cA (Ad 0) (f 0)) ++ (rst cA Ad ((pushF f ((o + z) % 6)), ((nI (if z < 6 then o else (o + 1) % 6)), (nI (if z < 6 then z + 1 else z))), tx, rt) 0)) := lw_fD 0 (by decide) hWD
  refine va_get (D := D) (ci := 2) (v := .ref ((Ad 0) 4)) (C := RX2) (T := TX2) (N := 8) hx hb hts iX4_set_X2 hown hK hP 0 rfl rfl 3 (by decide) (hts _ mX4_set_f104) (fun _ h9 => h9) rfl dX4_set_78 ?_
  refine lv_iload_n hx hb dX4_set_81 rfl (lv_at hl 2 rfl) ?_
  refine lv_iload_n hx hb dX4_set_82 rfl (lv_at hl 3 rfl) ?_
  refine lz_iast (k := 1) (f := (f 0).2.2.2.1) hx hb hK hP hD hS 4 0 rfl rfl ⟨by decide, by decide⟩ dX4_set_83 (fun H locs hP hD hS => ?_)
  have hP : va_P D vwCl ((wSt cA (Ad 0) ((f 0).1, (f 0).2.1, (f 0).2.2.1, (upd ((f 0).2.2.2.1) 1 (nI v)), (f 0).2.2.2.2.1, (f 0).2.2.2.2.2.1, (f 0).2.2.2.2.2.2.1, (f 0).2.2.2.2.2.2.2.1, (f 0).2.2.2.2.2.2.2.2.1, (f 0).2.2.2.2.2.2.2.2.2.1, (f 0).2.2.2.2.2.2.2.2.2.2.1, (f 0).2.2.2.2.2.2.2.2.2.2.2.1, (f 0).2.2.2.2.2.2.2.2.2.2.2.2.1, (f 0).2.2.2.2.2.2.2.2.2.2.2.2.2)) ++ (rst cA Ad ((pushF f ((o + z) % 6)), ((nI (if z < 6 then o else (o + 1) % 6)), (nI (if z < 6 then z + 1 else z))), tx, rt) 0)) H := hP
  have hD : va_D A ((wSt cA (Ad 0) ((f 0).1, (f 0).2.1, (f 0).2.2.1, (upd ((f 0).2.2.2.1) 1 (nI v)), (f 0).2.2.2.2.1, (f 0).2.2.2.2.2.1, (f 0).2.2.2.2.2.2.1, (f 0).2.2.2.2.2.2.2.1, (f 0).2.2.2.2.2.2.2.2.1, (f 0).2.2.2.2.2.2.2.2.2.1, (f 0).2.2.2.2.2.2.2.2.2.2.1, (f 0).2.2.2.2.2.2.2.2.2.2.2.1, (f 0).2.2.2.2.2.2.2.2.2.2.2.2.1, (f 0).2.2.2.2.2.2.2.2.2.2.2.2.2)) ++ (rst cA Ad ((pushF f ((o + z) % 6)), ((nI (if z < 6 then o else (o + 1) % 6)), (nI (if z < 6 then z + 1 else z))), tx, rt) 0)) := hD
  refine lv_iload_n hx hb dX4_set_84 rfl (lv_at hl 0 rfl) ?_
  have hWP : va_P D vwCl (all cA Ad ((upS (pushF f ((o + z) % 6)) 0 ((f 0).1, (f 0).2.1, (f 0).2.2.1, (upd ((f 0).2.2.2.1) 1 (nI v)), (f 0).2.2.2.2.1, (f 0).2.2.2.2.2.1, (f 0).2.2.2.2.2.2.1, (f 0).2.2.2.2.2.2.2.1, (f 0).2.2.2.2.2.2.2.2.1, (f 0).2.2.2.2.2.2.2.2.2.1, (f 0).2.2.2.2.2.2.2.2.2.2.1, (f 0).2.2.2.2.2.2.2.2.2.2.2.1, (f 0).2.2.2.2.2.2.2.2.2.2.2.2.1, (f 0).2.2.2.2.2.2.2.2.2.2.2.2.2)), ((nI (if z < 6 then o else (o + 1) % 6)), (nI (if z < 6 then z + 1 else z))), tx, rt)) H := lw_uP 0 ((upS (pushF f ((o + z) % 6)) 0 ((f 0).1, (f 0).2.1, (f 0).2.2.1, (upd ((f 0).2.2.2.1) 1 (nI v)), (f 0).2.2.2.2.1, (f 0).2.2.2.2.2.1, (f 0).2.2.2.2.2.2.1, (f 0).2.2.2.2.2.2.2.1, (f 0).2.2.2.2.2.2.2.2.1, (f 0).2.2.2.2.2.2.2.2.2.1, (f 0).2.2.2.2.2.2.2.2.2.2.1, (f 0).2.2.2.2.2.2.2.2.2.2.2.1, (f 0).2.2.2.2.2.2.2.2.2.2.2.2.1, (f 0).2.2.2.2.2.2.2.2.2.2.2.2.2)), ((nI (if z < 6 then o else (o + 1) % 6)), (nI (if z < 6 then z + 1 else z))), tx, rt) (by decide) (bc_st 0 _ (by decide)) hP
  have hWD : va_D A (all cA Ad ((upS (pushF f ((o + z) % 6)) 0 ((f 0).1, (f 0).2.1, (f 0).2.2.1, (upd ((f 0).2.2.2.1) 1 (nI v)), (f 0).2.2.2.2.1, (f 0).2.2.2.2.2.1, (f 0).2.2.2.2.2.2.1, (f 0).2.2.2.2.2.2.2.1, (f 0).2.2.2.2.2.2.2.2.1, (f 0).2.2.2.2.2.2.2.2.2.1, (f 0).2.2.2.2.2.2.2.2.2.2.1, (f 0).2.2.2.2.2.2.2.2.2.2.2.1, (f 0).2.2.2.2.2.2.2.2.2.2.2.2.1, (f 0).2.2.2.2.2.2.2.2.2.2.2.2.2)), ((nI (if z < 6 then o else (o + 1) % 6)), (nI (if z < 6 then z + 1 else z))), tx, rt)) := lw_uD 0 ((upS (pushF f ((o + z) % 6)) 0 ((f 0).1, (f 0).2.1, (f 0).2.2.1, (upd ((f 0).2.2.2.1) 1 (nI v)), (f 0).2.2.2.2.1, (f 0).2.2.2.2.2.1, (f 0).2.2.2.2.2.2.1, (f 0).2.2.2.2.2.2.2.1, (f 0).2.2.2.2.2.2.2.2.1, (f 0).2.2.2.2.2.2.2.2.2.1, (f 0).2.2.2.2.2.2.2.2.2.2.1, (f 0).2.2.2.2.2.2.2.2.2.2.2.1, (f 0).2.2.2.2.2.2.2.2.2.2.2.2.1, (f 0).2.2.2.2.2.2.2.2.2.2.2.2.2)), ((nI (if z < 6 then o else (o + 1) % 6)), (nI (if z < 6 then z + 1 else z))), tx, rt) (by decide) (bc_st 0 _ (by decide)) hD
  exact mu_iret hx hb hr hlocks dX4_set_85 hAe hS hWP rfl
theorem mX4_read_f22 : Cond.fieldLink RX4 22 "WireLoom" "past" "LWireLoom$Past;" ∈ wsX4_read := by decide +kernel
theorem mX4_read_f10 : Cond.fieldLink RX4 10 "WireLoom" "now" "LWireLoom$State;" ∈ wsX4_read := by decide +kernel
set_option maxRecDepth 20000 in
theorem iX4_read_X4 : ∀ w ∈ wsX40, w ∈ wsX4_read := by decide +kernel
set_option maxHeartbeats 4000000 in
set_option maxRecDepth 100000 in
theorem c_X4_read (l : Launch) (D : va_G) (cA : Nat → ClassId) (H : Heap) (Ad : Nat → Nat → Nat) (f : Nat → SV) (o z : Nat) (tx : TV) (rt : (Nat → Int32) × (Nat → Int32)) (ho : o < 6) (hz6 : z ≤ 6) (hz : (f 0).2.2.2.2.2.2.2.2.2.2.2.1 = 0 ∨ (f 0).2.2.2.2.2.2.2.2.2.2.2.1 = 1) (t : Nat) (ht : t < 16) (hP0 : va_P D vwCl (all cA Ad (f, ((nI o), (nI z)), tx, rt)) H) (hD0 : va_D (fun _ => True) (all cA Ad (f, ((nI o), (nI z)), tx, rt))) : MU l yX4_read wsX4_read ({ frames := 5, cells := 0, slots := 0, locals := 116 } : Room) D cA [.ref (Ad 10 0), .int (nI t)] H (all cA Ad (f, ((nI o), (nI z)), tx, rt)) (all cA Ad (upS (pushF f ((o + z) % 6)) 0 (readS (f 0) t), (nI (if z < 6 then o else (o + 1) % 6), nI (if z < 6 then z + 1 else z)), tx, rt)) (some (.int (tellsS (f 0) t))) := by
  refine Met.ofW (cc := cX4_read) (maxL := 2) (ret := (some .int)) (by decide) rfl ?_
  intro p e s m args below meth c s₁ B hml hv
  obtain ⟨rfl, hH, hKN⟩ := hv
  have hK := hKN.1
  have hx := B.exec
  have hb := B.bytes
  have hr := B.returns
  have hts := atoms_spec (ws := wsX4_read) B.pre
  have hown : s.vm.findClass RX4 = some m.cls := findClass_of_methodNamed B.named
  have hlocks := B.notSynchronized
  subst hH
  have hWD := hD0.self (sz := s.heap.size)
  generalize hAe : va_A (all cA Ad (f, ((nI o), (nI z)), tx, rt)) s.heap.size = A at hWD ⊢
  have hA : ∀ q : Nat, s.heap.size ≤ q → A q := fun q h => by rw [← hAe]; exact Or.inr h
  have hS : va_S A s.heap s.heap [] := va_S.rf
  have hWP : va_P D vwCl (all cA Ad (f, ((nI o), (nI z)), tx, rt)) s.heap := hP0
  have hl := lv_entry ([.ref (Ad 10 0), .int (nI t)] : List Value) (n := 2) (Nat.le_of_ble_eq_true rfl)
  rw [lg_entry_eq]
  generalize (lg_sl ([.ref (Ad 10 0), .int (nI t)] : List Value) ++ List.replicate (2 - (lg_sl ([.ref (Ad 10 0), .int (nI t)] : List Value)).length) Slot.unset).toArray = ls at hl ⊢
  have hl : lv_has ls 2 [(0, .ref (Ad 10 0)), (1, .int (nI t))] := hl
  refine lv_iload_n hx hb dX4_read_0 rfl (lv_at hl 1 rfl) ?_
  refine ro_S (As := [.int (nI t)]) (rest := []) ⟨hx, hb, hml, hown, hts⟩ (c_X4_isThread l D cA _ (nI t)) (cwS2 1 hts gX4_read_X4_isThread rfl rfl rfl (by decide +kernel) ⟨Nat.le_of_ble_eq_true rfl, Nat.le_of_ble_eq_true rfl⟩) hKN rfl hl.1 rfl (lv_room (Nat.le_of_ble_eq_true rfl)) dX4_read_1 ⟨Nat.zero_le _, Nat.zero_le _⟩ ?_
  refine lz_top (v := 1) (inF_ok (k := t) (a := 0) (b := 15) (by omega) (by omega) (by decide)) ?_
  refine lv_if_ne (tgt := 17) hx hb dX4_read_4 (by decide) (fun _ => ?_) (fun h => absurd h (by decide))
  refine lv_aload_n hx hb dX4_read_17 rfl (lv_at hl 0 rfl) ?_
  have hP : va_P D vwCl ((wLm cA Ad rt) ++ (rst cA Ad (f, ((nI o), (nI z)), tx, rt) 10)) s.heap := lw_fP 10 (by decide) hWP
  have hD : va_D A ((wLm cA Ad rt) ++ (rst cA Ad (f, ((nI o), (nI z)), tx, rt) 10)) := lw_fD 10 (by decide) hWD
  refine va_get (D := D) (ci := 4) (v := .ref (Ad 11 0)) (C := RX4) (T := TX4) (N := 7) hx hb hts iX4_read_X4 hown hK hP 0 rfl rfl 2 (by decide) (hts _ mX4_read_f22) (fun _ h9 => h9) rfl dX4_read_18 ?_
  refine lv_aload_n hx hb dX4_read_21 rfl (lv_at hl 0 rfl) ?_
  refine va_get (D := D) (ci := 4) (v := .ref (Ad 0 0)) (C := RX4) (T := TX4) (N := 7) hx hb hts iX4_read_X4 hown hK hP 0 rfl rfl 0 (by decide) (hts _ mX4_read_f10) (fun _ h9 => h9) rfl dX4_read_22 ?_
  refine mu_Vw (ci := 1) (q0 := 0) (As := [.ref (Ad 0 0)]) (rest := []) ⟨hx, hb, hml, hown, hts⟩ (c_X1_push l D cA _ Ad f o z tx rt ho hz6 hz hWP (hWD.weaken (fun _ _ _ _ => trivial))) (cwV 1 hts gX4_read_X1_push rfl rfl rfl (by decide +kernel) ⟨Nat.le_of_ble_eq_true rfl, Nat.le_of_ble_eq_true rfl⟩) hKN hWP hWD hS hA (lw_fP 11 (by decide) hWP : va_P D vwCl ((wPa cA Ad ((nI o), (nI z))) ++ (rst cA Ad (f, ((nI o), (nI z)), tx, rt) 11)) s.heap) rfl rfl (all_fst _ _ _ _) rfl hl.1 rfl (lv_room (Nat.le_of_ble_eq_true rfl)) dX4_read_25 ⟨Nat.zero_le _, Nat.zero_le _⟩ (fun H locs hWP hWD hS => ?_)
  have hWP : va_P D vwCl (all cA Ad ((pushF f ((o + z) % 6)), ((nI (if z < 6 then o else (o + 1) % 6)), (nI (if z < 6 then z + 1 else z))), tx, rt)) H := by rw [pushF_eq] at hWP; exact hWP
  have hWD : va_D A (all cA Ad ((pushF f ((o + z) % 6)), ((nI (if z < 6 then o else (o + 1) % 6)), (nI (if z < 6 then z + 1 else z))), tx, rt)) := by rw [pushF_eq] at hWD; exact hWD
  refine lv_aload_n hx hb dX4_read_28 rfl (lv_at hl 0 rfl) ?_
  have hP : va_P D vwCl ((wLm cA Ad rt) ++ (rst cA Ad ((pushF f ((o + z) % 6)), ((nI (if z < 6 then o else (o + 1) % 6)), (nI (if z < 6 then z + 1 else z))), tx, rt) 10)) H := lw_fP 10 (by decide) hWP
  have hD : va_D A ((wLm cA Ad rt) ++ (rst cA Ad ((pushF f ((o + z) % 6)), ((nI (if z < 6 then o else (o + 1) % 6)), (nI (if z < 6 then z + 1 else z))), tx, rt) 10)) := lw_fD 10 (by decide) hWD
  refine va_get (D := D) (ci := 4) (v := .ref (Ad 0 0)) (C := RX4) (T := TX4) (N := 7) hx hb hts iX4_read_X4 hown hK hP 0 rfl rfl 0 (by decide) (hts _ mX4_read_f10) (fun _ h9 => h9) rfl dX4_read_29 ?_
  refine lv_iload_n hx hb dX4_read_32 rfl (lv_at hl 1 rfl) ?_
  have hP : va_P D vwCl ((wSt cA (Ad 0) (f 0)) ++ (rst cA Ad ((pushF f ((o + z) % 6)), ((nI (if z < 6 then o else (o + 1) % 6)), (nI (if z < 6 then z + 1 else z))), tx, rt) 0)) H := lw_fP 0 (by decide) hWP
  have hD : va_D A ((wSt cA (Ad 0) (f 0)) ++ (rst cA Ad ((pushF f ((o + z) % 6)), ((nI (if z < 6 then o else (o + 1) % 6)), (nI (if z < 6 then z + 1 else z))), tx, rt) 0)) := lw_fD 0 (by decide) hWD
  refine mu_Va (ci := 2) (q0 := 0) (As := [.int (nI t)]) (rest := []) ⟨hx, hb, hml, hown, hts⟩ (c_X2_takeReading l D cA _ (Ad 0) (f 0) t (by omega) (va_P_l hP) (va_D_l hD)) (cwV 1 hts gX4_read_X2_takeReading rfl rfl rfl (by decide +kernel) ⟨Nat.le_of_ble_eq_true rfl, Nat.le_of_ble_eq_true rfl⟩) hKN hP hD hS hA rfl rfl ((wSt_fst _ _ _).trans (wSt_fst _ _ _).symm) rfl hl.1 rfl (lv_room (Nat.le_of_ble_eq_true rfl)) dX4_read_33 ⟨Nat.zero_le _, Nat.zero_le _⟩ (fun H locs hP hD hS => ?_)
  have hP : va_P D vwCl ((wSt cA (Ad 0) ((readS (f 0) t).1, (readS (f 0) t).2.1, (readS (f 0) t).2.2.1, (readS (f 0) t).2.2.2.1, (readS (f 0) t).2.2.2.2.1, (readS (f 0) t).2.2.2.2.2.1, (readS (f 0) t).2.2.2.2.2.2.1, (readS (f 0) t).2.2.2.2.2.2.2.1, (readS (f 0) t).2.2.2.2.2.2.2.2.1, (readS (f 0) t).2.2.2.2.2.2.2.2.2.1, (readS (f 0) t).2.2.2.2.2.2.2.2.2.2.1, (readS (f 0) t).2.2.2.2.2.2.2.2.2.2.2.1, (readS (f 0) t).2.2.2.2.2.2.2.2.2.2.2.2.1, (readS (f 0) t).2.2.2.2.2.2.2.2.2.2.2.2.2)) ++ (rst cA Ad ((pushF f ((o + z) % 6)), ((nI (if z < 6 then o else (o + 1) % 6)), (nI (if z < 6 then z + 1 else z))), tx, rt) 0)) H := hP
  have hD : va_D A ((wSt cA (Ad 0) ((readS (f 0) t).1, (readS (f 0) t).2.1, (readS (f 0) t).2.2.1, (readS (f 0) t).2.2.2.1, (readS (f 0) t).2.2.2.2.1, (readS (f 0) t).2.2.2.2.2.1, (readS (f 0) t).2.2.2.2.2.2.1, (readS (f 0) t).2.2.2.2.2.2.2.1, (readS (f 0) t).2.2.2.2.2.2.2.2.1, (readS (f 0) t).2.2.2.2.2.2.2.2.2.1, (readS (f 0) t).2.2.2.2.2.2.2.2.2.2.1, (readS (f 0) t).2.2.2.2.2.2.2.2.2.2.2.1, (readS (f 0) t).2.2.2.2.2.2.2.2.2.2.2.2.1, (readS (f 0) t).2.2.2.2.2.2.2.2.2.2.2.2.2)) ++ (rst cA Ad ((pushF f ((o + z) % 6)), ((nI (if z < 6 then o else (o + 1) % 6)), (nI (if z < 6 then z + 1 else z))), tx, rt) 0)) := hD
  have hWP : va_P D vwCl (all cA Ad ((upS (pushF f ((o + z) % 6)) 0 ((readS (f 0) t).1, (readS (f 0) t).2.1, (readS (f 0) t).2.2.1, (readS (f 0) t).2.2.2.1, (readS (f 0) t).2.2.2.2.1, (readS (f 0) t).2.2.2.2.2.1, (readS (f 0) t).2.2.2.2.2.2.1, (readS (f 0) t).2.2.2.2.2.2.2.1, (readS (f 0) t).2.2.2.2.2.2.2.2.1, (readS (f 0) t).2.2.2.2.2.2.2.2.2.1, (readS (f 0) t).2.2.2.2.2.2.2.2.2.2.1, (readS (f 0) t).2.2.2.2.2.2.2.2.2.2.2.1, (readS (f 0) t).2.2.2.2.2.2.2.2.2.2.2.2.1, (readS (f 0) t).2.2.2.2.2.2.2.2.2.2.2.2.2)), ((nI (if z < 6 then o else (o + 1) % 6)), (nI (if z < 6 then z + 1 else z))), tx, rt)) H := lw_uP 0 ((upS (pushF f ((o + z) % 6)) 0 ((readS (f 0) t).1, (readS (f 0) t).2.1, (readS (f 0) t).2.2.1, (readS (f 0) t).2.2.2.1, (readS (f 0) t).2.2.2.2.1, (readS (f 0) t).2.2.2.2.2.1, (readS (f 0) t).2.2.2.2.2.2.1, (readS (f 0) t).2.2.2.2.2.2.2.1, (readS (f 0) t).2.2.2.2.2.2.2.2.1, (readS (f 0) t).2.2.2.2.2.2.2.2.2.1, (readS (f 0) t).2.2.2.2.2.2.2.2.2.2.1, (readS (f 0) t).2.2.2.2.2.2.2.2.2.2.2.1, (readS (f 0) t).2.2.2.2.2.2.2.2.2.2.2.2.1, (readS (f 0) t).2.2.2.2.2.2.2.2.2.2.2.2.2)), ((nI (if z < 6 then o else (o + 1) % 6)), (nI (if z < 6 then z + 1 else z))), tx, rt) (by decide) (bc_st 0 _ (by decide)) hP
  have hWD : va_D A (all cA Ad ((upS (pushF f ((o + z) % 6)) 0 ((readS (f 0) t).1, (readS (f 0) t).2.1, (readS (f 0) t).2.2.1, (readS (f 0) t).2.2.2.1, (readS (f 0) t).2.2.2.2.1, (readS (f 0) t).2.2.2.2.2.1, (readS (f 0) t).2.2.2.2.2.2.1, (readS (f 0) t).2.2.2.2.2.2.2.1, (readS (f 0) t).2.2.2.2.2.2.2.2.1, (readS (f 0) t).2.2.2.2.2.2.2.2.2.1, (readS (f 0) t).2.2.2.2.2.2.2.2.2.2.1, (readS (f 0) t).2.2.2.2.2.2.2.2.2.2.2.1, (readS (f 0) t).2.2.2.2.2.2.2.2.2.2.2.2.1, (readS (f 0) t).2.2.2.2.2.2.2.2.2.2.2.2.2)), ((nI (if z < 6 then o else (o + 1) % 6)), (nI (if z < 6 then z + 1 else z))), tx, rt)) := lw_uD 0 ((upS (pushF f ((o + z) % 6)) 0 ((readS (f 0) t).1, (readS (f 0) t).2.1, (readS (f 0) t).2.2.1, (readS (f 0) t).2.2.2.1, (readS (f 0) t).2.2.2.2.1, (readS (f 0) t).2.2.2.2.2.1, (readS (f 0) t).2.2.2.2.2.2.1, (readS (f 0) t).2.2.2.2.2.2.2.1, (readS (f 0) t).2.2.2.2.2.2.2.2.1, (readS (f 0) t).2.2.2.2.2.2.2.2.2.1, (readS (f 0) t).2.2.2.2.2.2.2.2.2.2.1, (readS (f 0) t).2.2.2.2.2.2.2.2.2.2.2.1, (readS (f 0) t).2.2.2.2.2.2.2.2.2.2.2.2.1, (readS (f 0) t).2.2.2.2.2.2.2.2.2.2.2.2.2)), ((nI (if z < 6 then o else (o + 1) % 6)), (nI (if z < 6 then z + 1 else z))), tx, rt) (by decide) (bc_st 0 _ (by decide)) hD
  exact mu_iret hx hb hr hlocks dX4_read_36 hAe hS hWP rfl
