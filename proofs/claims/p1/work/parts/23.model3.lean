-- the reference's face, at a fresh object
theorem upd_id {f : Nat → Int32} {i : Nat} {x : Int32} (h : f i = x) : upd f i x = f := by
  rw [← h, upd_self]
def zeT (g : Nat → Int32) (k : Nat) : Nat → Int32 := fun j => if 27 ≤ j ∧ j < k then 0 else g j
theorem zeT_27 (g : Nat → Int32) : zeT g 27 = g := by
  funext j
  unfold zeT
  rw [if_neg (by omega)]
theorem zeT_succ {g : Nat → Int32} {k : Nat} (h : 27 ≤ k) : zeT g (k + 1) = upd (zeT g k) k 0 := by
  funext j
  unfold upd zeT
  by_cases hj : j = k
  · rw [if_pos hj, if_pos (by omega)]
  · rw [if_neg hj]
    by_cases h2 : 27 ≤ j ∧ j < k
    · rw [if_pos h2, if_pos (by omega)]
    · rw [if_neg h2, if_neg (by omega)]
def wxT (tx : Nat → Int32) : Nat → Nat → Int32
  | 0 => tx
  | n + 1 => upd (upd (wxT tx n) (2 * n) 48) (2 * n + 1) 48
theorem wxT_succ {tx : Nat → Int32} {t k : Nat} (h : t ≤ k) : wxT tx (k + 1 - t) = upd (upd (wxT tx (k - t)) (2 * (k - t)) 48) (2 * (k - t) + 1) 48 := by
  rw [show k + 1 - t = (k - t) + 1 by omega]
  rfl
section MDR
variable {p : Program} {l : Launch} {e : Env} {R : Room} {s : State} {m : MethodId} {args : Array Value} {below : List Frame} {meth : Method} {c : Code} {H : Heap} {locs : List Loc} {cells slots : Nat} {Q : State → Prop}
variable {cc : ByteArray} {rest : List Value} {pc : Nat} {ls : Array Slot} {D : va_G} {cA : Nat → ClassId}
theorem mu_dret {A : Nat → Prop} {w0 w1 : va_W} {x z : UInt64} (hexec : p.tables.exec = Jvm.exec) (hb : c.code = cc) (hr : meth.sig.returnType = some .double) (hlocks : meth.locks = false) (hdg : decode cc pc = .ok (.dreturn, 1)) (hAe : va_A w0 s.heap.size = A) (hS : va_S A s.heap H locs) (hP : va_P D vwCl w1 H) (hv : x = z) :
    W p l e R s m args below meth c H locs 0 0 (MQ below (muQ D s.heap w0 w1 (some (.double z))) args s 0 0 A) (F0 m pc ls [.double x]) := by
  subst hv
  subst hAe
  exact W.dret hexec hb hr (fun t ht _ => ⟨rfl, by rw [ht]; exact hP, by rw [ht]; exact hS.1, fun q h1 h2 => by rw [ht]; exact hS.2.1 q h1 h2⟩) hS.2.2 hdg hlocks
theorem mu_fret {A : Nat → Prop} {w0 w1 : va_W} {x z : UInt32} (hexec : p.tables.exec = Jvm.exec) (hb : c.code = cc) (hr : meth.sig.returnType = some .float) (hlocks : meth.locks = false) (hdg : decode cc pc = .ok (.freturn, 1)) (hAe : va_A w0 s.heap.size = A) (hS : va_S A s.heap H locs) (hP : va_P D vwCl w1 H) (hv : x = z) :
    W p l e R s m args below meth c H locs 0 0 (MQ below (muQ D s.heap w0 w1 (some (.float z))) args s 0 0 A) (F0 m pc ls [.float x]) := by
  subst hv
  subst hAe
  exact W.fret hexec hb hr (fun t ht _ => ⟨rfl, by rw [ht]; exact hP, by rw [ht]; exact hS.1, fun q h1 h2 => by rw [ht]; exact hS.2.1 q h1 h2⟩) hS.2.2 hdg hlocks
end MDR
theorem mX5_cross_f7 : Cond.fieldLink RX5 7 "WireLoomModel" "s" "[I" ∈ wsX5_cross := by decide +kernel
set_option maxRecDepth 20000 in
theorem iX5_cross_X5 : ∀ w ∈ wsX50, w ∈ wsX5_cross := by decide +kernel
set_option maxHeartbeats 4000000 in
set_option maxRecDepth 100000 in
theorem c_X5_cross (l : Launch) (D : va_G) (cA : Nat → ClassId) (H : Heap) (a : Nat → Nat) (th : Int32) (f kp tx wo : Nat → Int32) (hs : Int64) (t r : Nat) (ht : t < 16) (hr0 : r < 8) (hF : FR f 0) (hP0 : va_P D vwCl (wMd cA a (th, f, 0, kp, tx, 0, wo, 0, 0, hs)) H) (hD0 : va_D (fun _ => True) (wMd cA a (th, f, 0, kp, tx, 0, wo, 0, 0, hs))) : MU l yX5_cross wsX5_cross ({ frames := 2, cells := 0, slots := 0, locals := 44 } : Room) D cA [.ref (a 0), .int (nI t), .int (nI r)] H (wMd cA a (th, f, 0, kp, tx, 0, wo, 0, 0, hs)) (wMd cA a (0, (wrF (upd (upd (cpT f (62 * 0) (62 * 1) 62) t (((cpT f (62 * 0) (62 * 1) 62) t) ^^^ (1 <<< ((nI r) &&& 31)))) 60 (((upd (cpT f (62 * 0) (62 * 1) 62) t (((cpT f (62 * 0) (62 * 1) 62) t) ^^^ (1 <<< ((nI r) &&& 31)))) 60) + 1)) 0 r 2), 1, kp, tx, 0, wo, 0, 0, hs)) (some (.int ((((wrF (upd (upd (cpT f (62 * 0) (62 * 1) 62) t (((cpT f (62 * 0) (62 * 1) 62) t) ^^^ (1 <<< ((nI r) &&& 31)))) 60 (((upd (cpT f (62 * 0) (62 * 1) 62) t (((cpT f (62 * 0) (62 * 1) 62) t) ^^^ (1 <<< ((nI r) &&& 31)))) 60) + 1)) 0 r 2) t) >>> ((nI r) &&& 31)) &&& 1))) := by
  refine Met.ofW (cc := cX5_cross) (maxL := 3) (ret := (some .int)) (by decide) rfl ?_
  intro p e s m args below meth c s₁ B hml hv
  obtain ⟨rfl, hH, hKN⟩ := hv
  have hK := hKN.1
  have hx := B.exec
  have hb := B.bytes
  have hr := B.returns
  have hts := atoms_spec (ws := wsX5_cross) B.pre
  have hown : s.vm.findClass RX5 = some m.cls := findClass_of_methodNamed B.named
  have hlocks := B.notSynchronized
  subst hH
  have hD := hD0.self (sz := s.heap.size)
  generalize hAe : va_A (wMd cA a (th, f, 0, kp, tx, 0, wo, 0, 0, hs)) s.heap.size = A at hD ⊢
  have hA : ∀ q : Nat, s.heap.size ≤ q → A q := fun q h => by rw [← hAe]; exact Or.inr h
  have hS : va_S A s.heap s.heap [] := va_S.rf
  have hP : va_P D vwCl (wMd cA a (th, f, 0, kp, tx, 0, wo, 0, 0, hs)) s.heap := hP0
  have hl := lv_entry ([.ref (a 0), .int (nI t), .int (nI r)] : List Value) (n := 3) (Nat.le_of_ble_eq_true rfl)
  rw [lg_entry_eq]
  generalize (lg_sl ([.ref (a 0), .int (nI t), .int (nI r)] : List Value) ++ List.replicate (3 - (lg_sl ([.ref (a 0), .int (nI t), .int (nI r)] : List Value)).length) Slot.unset).toArray = ls at hl ⊢
  have hl : lv_has ls 3 [(0, .ref (a 0)), (1, .int (nI t)), (2, .int (nI r))] := hl
  refine lv_aload_n hx hb dX5_cross_0 rfl (lv_at hl 0 rfl) ?_
  refine lv_iload_n hx hb dX5_cross_1 rfl (lv_at hl 1 rfl) ?_
  refine ro_S (As := [.int (nI t)]) (rest := [.ref (a 0)]) ⟨hx, hb, hml, hown, hts⟩ (c_X5_isThread l D cA _ (nI t)) (cwS2 1 hts gX5_cross_X5_isThread rfl rfl rfl (by decide +kernel) ⟨Nat.le_of_ble_eq_true rfl, Nat.le_of_ble_eq_true rfl⟩) hKN rfl hl.1 rfl (lv_room (Nat.le_of_ble_eq_true rfl)) dX5_cross_2 ⟨Nat.zero_le _, Nat.zero_le _⟩ ?_
  refine lz_top (v := 1) (inF_ok (k := t) (a := 0) (b := 15) (by omega) (by omega) (by decide)) ?_
  refine lv_if_eq (tgt := 19) hx hb dX5_cross_5 (by decide) (fun h => absurd h (by decide)) (fun _ => ?_)
  refine lv_iload_n hx hb dX5_cross_8 rfl (lv_at hl 2 rfl) ?_
  refine ro_S (As := [.int (nI r)]) (rest := [.ref (a 0)]) ⟨hx, hb, hml, hown, hts⟩ (c_X5_isRing l D cA _ (nI r)) (cwS2 1 hts gX5_cross_X5_isRing rfl rfl rfl (by decide +kernel) ⟨Nat.le_of_ble_eq_true rfl, Nat.le_of_ble_eq_true rfl⟩) hKN rfl hl.1 rfl (lv_room (Nat.le_of_ble_eq_true rfl)) dX5_cross_9 ⟨Nat.zero_le _, Nat.zero_le _⟩ ?_
  refine lz_top (v := 1) (inF_ok (k := r) (a := 0) (b := 7) (by omega) (by omega) (by decide)) ?_
  refine lv_if_eq (tgt := 19) hx hb dX5_cross_12 (by decide) (fun h => absurd h (by decide)) (fun _ => ?_)
  refine lv_iconst (v := 0) hx hb dX5_cross_15 (by decide) ?_
  refine lv_goto (tgt := 20) hx hb dX5_cross_16 (by decide) ?_
  refine mu_V (ci := 5) (q0 := 0) (As := [.int 0]) (rest := []) (ws' := (wMd cA a (0, f, 0, kp, tx, 0, wo, 0, 0, hs))) ⟨hx, hb, hml, hown, hts⟩ (c_X5_holds0 l D cA _ a (th, f, 0, kp, tx, 0, wo, 0, 0, hs) hP (hD.weaken (fun _ _ _ _ => trivial))) (cwV 1 hts gX5_cross_X5_holds rfl rfl rfl (by decide +kernel) ⟨Nat.le_of_ble_eq_true rfl, Nat.le_of_ble_eq_true rfl⟩) hKN hP hD hS hA rfl rfl [0, 1, 2, 3, 4] rfl ((wMd_fst _ _ _).trans (wMd_fst _ _ _).symm) rfl rfl hl.1 rfl (lv_room (Nat.le_of_ble_eq_true rfl)) dX5_cross_20 ⟨Nat.zero_le _, Nat.zero_le _⟩ (fun H locs hP hD hS => ?_)
  refine lv_if_ne (tgt := 28) hx hb dX5_cross_23 (by decide) (fun _ => ?_) (fun h => absurd h (by decide))
  refine lv_aload_n hx hb dX5_cross_28 rfl (lv_at hl 0 rfl) ?_
  refine mu_V (ci := 5) (q0 := 0) (As := []) (rest := []) (ws' := (wMd cA a (0, (cpT f (62 * 0) (62 * 1) 62), 1, kp, tx, 0, wo, 0, 0, hs))) ⟨hx, hb, hml, hown, hts⟩ (c_X5_save l D cA _ a 0 f kp tx wo hs hP (hD.weaken (fun _ _ _ _ => trivial))) (cwV 0 hts gX5_cross_X5_save rfl rfl rfl (by decide +kernel) ⟨Nat.le_of_ble_eq_true rfl, Nat.le_of_ble_eq_true rfl⟩) hKN hP hD hS hA rfl rfl [0, 1, 2, 3, 4] rfl ((wMd_fst _ _ _).trans (wMd_fst _ _ _).symm) rfl rfl hl.1 rfl (lv_room (Nat.le_of_ble_eq_true rfl)) dX5_cross_29 ⟨Nat.zero_le _, Nat.zero_le _⟩ (fun H locs hP hD hS => ?_)
  refine lv_aload_n hx hb dX5_cross_32 rfl (lv_at hl 0 rfl) ?_
  refine va_get (D := D) (ci := 5) (v := .ref (a 1)) (C := RX5) (T := TX5) (N := 10) hx hb hts iX5_cross_X5 hown hK hP 0 rfl rfl 1 (by decide) (hts _ mX5_cross_f7) (fun _ h9 => h9) rfl dX5_cross_33 ?_
  refine lv_iload_n hx hb dX5_cross_36 rfl (lv_at hl 1 rfl) ?_
  refine lv_dup2_11 hx hb dX5_cross_37 rfl rfl ?_
  refine lz_iald (k := t) (f := (cpT f (62 * 0) (62 * 1) 62)) hx hb hK hP 1 0 rfl rfl ⟨by omega, by decide⟩ dX5_cross_38 ?_
  refine lv_iconst (v := 1) hx hb dX5_cross_39 (by decide) ?_
  refine lv_iload_n hx hb dX5_cross_40 rfl (lv_at hl 2 rfl) ?_
  refine lv_ishl hx hb dX5_cross_41 ?_
  refine lv_ixor hx hb dX5_cross_42 ?_
  refine lz_iast (k := t) (f := (cpT f (62 * 0) (62 * 1) 62)) hx hb hK hP hD hS 1 0 rfl rfl ⟨by omega, by decide⟩ dX5_cross_43 (fun H locs hP hD hS => ?_)
  have hP : va_P D vwCl (wMd cA a (0, (upd (cpT f (62 * 0) (62 * 1) 62) t (((cpT f (62 * 0) (62 * 1) 62) t) ^^^ (1 <<< ((nI r) &&& 31)))), 1, kp, tx, 0, wo, 0, 0, hs)) H := hP
  have hD : va_D A (wMd cA a (0, (upd (cpT f (62 * 0) (62 * 1) 62) t (((cpT f (62 * 0) (62 * 1) 62) t) ^^^ (1 <<< ((nI r) &&& 31)))), 1, kp, tx, 0, wo, 0, 0, hs)) := hD
  refine lv_aload_n hx hb dX5_cross_44 rfl (lv_at hl 0 rfl) ?_
  refine va_get (D := D) (ci := 5) (v := .ref (a 1)) (C := RX5) (T := TX5) (N := 10) hx hb hts iX5_cross_X5 hown hK hP 0 rfl rfl 1 (by decide) (hts _ mX5_cross_f7) (fun _ h9 => h9) rfl dX5_cross_45 ?_
  refine lv_bipush (v := 60) hx hb dX5_cross_48 (by decide) ?_
  refine lv_dup2_11 hx hb dX5_cross_50 rfl rfl ?_
  refine lz_iald (k := 60) (f := (upd (cpT f (62 * 0) (62 * 1) 62) t (((cpT f (62 * 0) (62 * 1) 62) t) ^^^ (1 <<< ((nI r) &&& 31))))) hx hb hK hP 1 0 rfl rfl ⟨by decide, by decide⟩ dX5_cross_51 ?_
  refine lv_iconst (v := 1) hx hb dX5_cross_52 (by decide) ?_
  refine lv_iadd hx hb dX5_cross_53 ?_
  refine lz_iast (k := 60) (f := (upd (cpT f (62 * 0) (62 * 1) 62) t (((cpT f (62 * 0) (62 * 1) 62) t) ^^^ (1 <<< ((nI r) &&& 31))))) hx hb hK hP hD hS 1 0 rfl rfl ⟨by decide, by decide⟩ dX5_cross_54 (fun H locs hP hD hS => ?_)
  have hP : va_P D vwCl (wMd cA a (0, (upd (upd (cpT f (62 * 0) (62 * 1) 62) t (((cpT f (62 * 0) (62 * 1) 62) t) ^^^ (1 <<< ((nI r) &&& 31)))) 60 (((upd (cpT f (62 * 0) (62 * 1) 62) t (((cpT f (62 * 0) (62 * 1) 62) t) ^^^ (1 <<< ((nI r) &&& 31)))) 60) + 1)), 1, kp, tx, 0, wo, 0, 0, hs)) H := hP
  have hD : va_D A (wMd cA a (0, (upd (upd (cpT f (62 * 0) (62 * 1) 62) t (((cpT f (62 * 0) (62 * 1) 62) t) ^^^ (1 <<< ((nI r) &&& 31)))) 60 (((upd (cpT f (62 * 0) (62 * 1) 62) t (((cpT f (62 * 0) (62 * 1) 62) t) ^^^ (1 <<< ((nI r) &&& 31)))) 60) + 1)), 1, kp, tx, 0, wo, 0, 0, hs)) := hD
  refine lv_aload_n hx hb dX5_cross_55 rfl (lv_at hl 0 rfl) ?_
  refine lv_iconst (v := 0) hx hb dX5_cross_56 (by decide) ?_
  refine lv_iload_n hx hb dX5_cross_57 rfl (lv_at hl 2 rfl) ?_
  refine lv_iconst (v := 2) hx hb dX5_cross_58 (by decide) ?_
  refine mu_V (ci := 5) (q0 := 0) (As := [.int 0, .int (nI r), .int 2]) (rest := []) (ws' := (wMd cA a (0, (wrF (upd (upd (cpT f (62 * 0) (62 * 1) 62) t (((cpT f (62 * 0) (62 * 1) 62) t) ^^^ (1 <<< ((nI r) &&& 31)))) 60 (((upd (cpT f (62 * 0) (62 * 1) 62) t (((cpT f (62 * 0) (62 * 1) 62) t) ^^^ (1 <<< ((nI r) &&& 31)))) 60) + 1)) 0 r 2), 1, kp, tx, 0, wo, 0, 0, hs))) ⟨hx, hb, hml, hown, hts⟩ (c_X5_wears l D cA _ a (0, (upd (upd (cpT f (62 * 0) (62 * 1) 62) t (((cpT f (62 * 0) (62 * 1) 62) t) ^^^ (1 <<< ((nI r) &&& 31)))) 60 (((upd (cpT f (62 * 0) (62 * 1) 62) t (((cpT f (62 * 0) (62 * 1) 62) t) ^^^ (1 <<< ((nI r) &&& 31)))) 60) + 1)), 1, kp, tx, 0, wo, 0, 0, hs) 0 (by omega) r (by omega) 2 hP (hD.weaken (fun _ _ _ _ => trivial))) (cwV 3 hts gX5_cross_X5_wears rfl rfl rfl (by decide +kernel) ⟨Nat.le_of_ble_eq_true rfl, Nat.le_of_ble_eq_true rfl⟩) hKN hP hD hS hA rfl rfl [0, 1, 2, 3, 4] rfl ((wMd_fst _ _ _).trans (wMd_fst _ _ _).symm) rfl rfl hl.1 rfl (lv_room (Nat.le_of_ble_eq_true rfl)) dX5_cross_59 ⟨Nat.zero_le _, Nat.zero_le _⟩ (fun H locs hP hD hS => ?_)
  refine lv_aload_n hx hb dX5_cross_62 rfl (lv_at hl 0 rfl) ?_
  refine va_get (D := D) (ci := 5) (v := .ref (a 1)) (C := RX5) (T := TX5) (N := 10) hx hb hts iX5_cross_X5 hown hK hP 0 rfl rfl 1 (by decide) (hts _ mX5_cross_f7) (fun _ h9 => h9) rfl dX5_cross_63 ?_
  refine lv_iload_n hx hb dX5_cross_66 rfl (lv_at hl 1 rfl) ?_
  refine lz_iald (k := t) (f := (wrF (upd (upd (cpT f (62 * 0) (62 * 1) 62) t (((cpT f (62 * 0) (62 * 1) 62) t) ^^^ (1 <<< ((nI r) &&& 31)))) 60 (((upd (cpT f (62 * 0) (62 * 1) 62) t (((cpT f (62 * 0) (62 * 1) 62) t) ^^^ (1 <<< ((nI r) &&& 31)))) 60) + 1)) 0 r 2)) hx hb hK hP 1 0 rfl rfl ⟨by omega, by decide⟩ dX5_cross_67 ?_
  refine lv_iload_n hx hb dX5_cross_68 rfl (lv_at hl 2 rfl) ?_
  refine lv_ishr hx hb dX5_cross_69 ?_
  refine lv_iconst (v := 1) hx hb dX5_cross_70 (by decide) ?_
  refine lv_iand hx hb dX5_cross_71 ?_
  exact mu_iret hx hb hr hlocks dX5_cross_72 hAe hS hP rfl
theorem mX5_lays_f7 : Cond.fieldLink RX5 7 "WireLoomModel" "s" "[I" ∈ wsX5_lays := by decide +kernel
set_option maxRecDepth 20000 in
theorem iX5_lays_X5 : ∀ w ∈ wsX50, w ∈ wsX5_lays := by decide +kernel
set_option maxHeartbeats 4000000 in
set_option maxRecDepth 100000 in
theorem c_X5_lays (l : Launch) (D : va_G) (cA : Nat → ClassId) (H : Heap) (a : Nat → Nat) (u : MDV) (b : Nat) (hb5 : b ≤ 558) (t : Nat) (ht : t < 16) (x : Int32) (hZ : ZR u.2.1 b) (hP0 : va_P D vwCl (wMd cA a u) H) (hD0 : va_D (fun _ => True) (wMd cA a u)) : MU l yX5_lays wsX5_lays ({ frames := 1, cells := 0, slots := 0, locals := 24 } : Room) D cA [.ref (a 0), .int (nI b), .int (nI t), .int x] H (wMd cA a u) (wMd cA a (u.1, (upd (upd (layW u.2.1 b (x ^^^ 0) 8) (b + t) (((layW u.2.1 b (x ^^^ 0) 8) (b + t)) ^^^ (x ^^^ 0))) (b + 60) (((upd (layW u.2.1 b (x ^^^ 0) 8) (b + t) (((layW u.2.1 b (x ^^^ 0) 8) (b + t)) ^^^ (x ^^^ 0))) (b + 60)) + (onesT (x ^^^ 0) 16))), u.2.2.1, u.2.2.2.1, u.2.2.2.2.1, u.2.2.2.2.2.1, u.2.2.2.2.2.2.1, u.2.2.2.2.2.2.2.1, u.2.2.2.2.2.2.2.2.1, u.2.2.2.2.2.2.2.2.2)) (some (.int (onesT (x ^^^ 0) 16))) := by
  refine Met.ofW (cc := cX5_lays) (maxL := 6) (ret := (some .int)) (by decide) rfl ?_
  intro p e s m args below meth c s₁ B hml hv
  obtain ⟨rfl, hH, hKN⟩ := hv
  have hK := hKN.1
  have hx := B.exec
  have hb := B.bytes
  have hr := B.returns
  have hts := atoms_spec (ws := wsX5_lays) B.pre
  have hown : s.vm.findClass RX5 = some m.cls := findClass_of_methodNamed B.named
  have hlocks := B.notSynchronized
  subst hH
  have hD := hD0.self (sz := s.heap.size)
  generalize hAe : va_A (wMd cA a u) s.heap.size = A at hD ⊢
  have hA : ∀ q : Nat, s.heap.size ≤ q → A q := fun q h => by rw [← hAe]; exact Or.inr h
  have hS : va_S A s.heap s.heap [] := va_S.rf
  have hP : va_P D vwCl (wMd cA a u) s.heap := hP0
  have hl := lv_entry ([.ref (a 0), .int (nI b), .int (nI t), .int x] : List Value) (n := 6) (Nat.le_of_ble_eq_true rfl)
  rw [lg_entry_eq]
  generalize (lg_sl ([.ref (a 0), .int (nI b), .int (nI t), .int x] : List Value) ++ List.replicate (6 - (lg_sl ([.ref (a 0), .int (nI b), .int (nI t), .int x] : List Value)).length) Slot.unset).toArray = ls at hl ⊢
  have hl : lv_has ls 6 [(0, .ref (a 0)), (1, .int (nI b)), (2, .int (nI t)), (3, .int x)] := hl
  refine lv_aload_n hx hb dX5_lays_0 rfl (lv_at hl 0 rfl) ?_
  refine lv_iload_n hx hb dX5_lays_1 rfl (lv_at hl 1 rfl) ?_
  refine lv_iload_n hx hb dX5_lays_2 rfl (lv_at hl 3 rfl) ?_
  refine ro_V (ci := 5) (q0 := 0) (As := [.int (nI b), .int x]) (rest := []) ⟨hx, hb, hml, hown, hts⟩ (c_X5_turned l D cA _ a u b (by omega) x hZ hP) (cwV 2 hts gX5_lays_X5_turned rfl rfl rfl (by decide +kernel) ⟨Nat.le_of_ble_eq_true rfl, Nat.le_of_ble_eq_true rfl⟩) hKN hP rfl rfl rfl hl.1 rfl (lv_room (Nat.le_of_ble_eq_true rfl)) dX5_lays_3 ⟨Nat.zero_le _, Nat.zero_le _⟩ ?_
  refine lv_aload_n hx hb dX5_lays_6 rfl (lv_at hl 0 rfl) ?_
  refine va_get (D := D) (ci := 5) (v := .ref (a 1)) (C := RX5) (T := TX5) (N := 10) hx hb hts iX5_lays_X5 hown hK hP 0 rfl rfl 1 (by decide) (hts _ mX5_lays_f7) (fun _ h9 => h9) rfl dX5_lays_7 ?_
  refine lv_iload_n hx hb dX5_lays_10 rfl (lv_at hl 1 rfl) ?_
  refine lv_iload_n hx hb dX5_lays_11 rfl (lv_at hl 2 rfl) ?_
  refine lz_iadd (v := (nI (b + t))) hx hb dX5_lays_12 (nI_add _ _) ?_
  refine lz_iald (k := (b + t)) (f := u.2.1) hx hb hK hP 1 0 rfl rfl ⟨by omega, by decide⟩ dX5_lays_13 ?_
  refine lz_top (v := 0) (hZ.th t ht) ?_
  refine lv_ixor hx hb dX5_lays_14 ?_
  refine lv_istore (lv' := [(4, .int (x ^^^ 0)), (0, .ref (a 0)), (1, .int (nI b)), (2, .int (nI t)), (3, .int x)]) hx hb dX5_lays_15 hl (by decide) rfl (fun ls hl => ?_)
  refine lv_iconst (v := 0) hx hb dX5_lays_17 (by decide) ?_
  refine lv_istore (lv' := [(5, .int 0), (4, .int (x ^^^ 0)), (0, .ref (a 0)), (1, .int (nI b)), (2, .int (nI t)), (3, .int x)]) hx hb dX5_lays_18 hl (by decide) rfl (fun ls hl => ?_)
  have loop20 : ∀ (n20 k20 : Nat), k20 + n20 = 8 → ∀ (H : Heap) (locs : List Loc), va_P D vwCl (wMd cA a (u.1, (layW u.2.1 b (x ^^^ 0) k20), u.2.2.1, u.2.2.2.1, u.2.2.2.2.1, u.2.2.2.2.2.1, u.2.2.2.2.2.2.1, u.2.2.2.2.2.2.2.1, u.2.2.2.2.2.2.2.2.1, u.2.2.2.2.2.2.2.2.2)) H → va_D A (wMd cA a (u.1, (layW u.2.1 b (x ^^^ 0) k20), u.2.2.1, u.2.2.2.1, u.2.2.2.2.1, u.2.2.2.2.2.1, u.2.2.2.2.2.2.1, u.2.2.2.2.2.2.2.1, u.2.2.2.2.2.2.2.2.1, u.2.2.2.2.2.2.2.2.2)) → va_S A s.heap H locs → ∀ (ls : Array Slot), lv_has ls 6 [(5, .int (nI k20)), (4, .int (x ^^^ 0)), (0, .ref (a 0)), (1, .int (nI b)), (2, .int (nI t)), (3, .int x)] → W p l e ({ frames := 1, cells := 0, slots := 0, locals := 24 } : Room) s m ([.ref (a 0), .int (nI b), .int (nI t), .int x] : List Value).toArray below meth c H locs 0 0 (MQ below (muQ D s.heap (wMd cA a u) (wMd cA a (u.1, (upd (upd (layW u.2.1 b (x ^^^ 0) 8) (b + t) (((layW u.2.1 b (x ^^^ 0) 8) (b + t)) ^^^ (x ^^^ 0))) (b + 60) (((upd (layW u.2.1 b (x ^^^ 0) 8) (b + t) (((layW u.2.1 b (x ^^^ 0) 8) (b + t)) ^^^ (x ^^^ 0))) (b + 60)) + (onesT (x ^^^ 0) 16))), u.2.2.1, u.2.2.2.1, u.2.2.2.2.1, u.2.2.2.2.2.1, u.2.2.2.2.2.2.1, u.2.2.2.2.2.2.2.1, u.2.2.2.2.2.2.2.2.1, u.2.2.2.2.2.2.2.2.2)) (some (.int (onesT (x ^^^ 0) 16)))) ([.ref (a 0), .int (nI b), .int (nI t), .int x] : List Value).toArray s 0 0 A) (F0 m 20 ls []) := by
    intro n20
    induction n20 with
    | zero =>
      intro k20 hk20 H locs hP hD hS ls hl
      obtain rfl : 8 = k20 := by omega
      refine lv_iload hx hb dX5_lays_20 (lv_at hl 0 rfl) ?_
      refine lv_bipush (v := 8) hx hb dX5_lays_22 (by decide) ?_
      refine lv_icmp_ge (tgt := 55) hx hb dX5_lays_24 (by decide) (fun _ => ?_) (fun h => absurd (by decide) h)
      refine lv_aload_n hx hb dX5_lays_55 rfl (lv_at hl 2 rfl) ?_
      refine va_get (D := D) (ci := 5) (v := .ref (a 1)) (C := RX5) (T := TX5) (N := 10) hx hb hts iX5_lays_X5 hown hK hP 0 rfl rfl 1 (by decide) (hts _ mX5_lays_f7) (fun _ h9 => h9) rfl dX5_lays_56 ?_
      refine lv_iload_n hx hb dX5_lays_59 rfl (lv_at hl 3 rfl) ?_
      refine lv_iload_n hx hb dX5_lays_60 rfl (lv_at hl 4 rfl) ?_
      refine lz_iadd (v := (nI (b + t))) hx hb dX5_lays_61 (nI_add _ _) ?_
      refine lv_dup2_11 hx hb dX5_lays_62 rfl rfl ?_
      refine lz_iald (k := (b + t)) (f := (layW u.2.1 b (x ^^^ 0) 8)) hx hb hK hP 1 0 rfl rfl ⟨by omega, by decide⟩ dX5_lays_63 ?_
      refine lv_iload hx hb dX5_lays_64 (lv_at hl 1 rfl) ?_
      refine lv_ixor hx hb dX5_lays_66 ?_
      refine lz_iast (k := (b + t)) (f := (layW u.2.1 b (x ^^^ 0) 8)) hx hb hK hP hD hS 1 0 rfl rfl ⟨by omega, by decide⟩ dX5_lays_67 (fun H locs hP hD hS => ?_)
      have hP : va_P D vwCl (wMd cA a (u.1, (upd (layW u.2.1 b (x ^^^ 0) 8) (b + t) (((layW u.2.1 b (x ^^^ 0) 8) (b + t)) ^^^ (x ^^^ 0))), u.2.2.1, u.2.2.2.1, u.2.2.2.2.1, u.2.2.2.2.2.1, u.2.2.2.2.2.2.1, u.2.2.2.2.2.2.2.1, u.2.2.2.2.2.2.2.2.1, u.2.2.2.2.2.2.2.2.2)) H := hP
      have hD : va_D A (wMd cA a (u.1, (upd (layW u.2.1 b (x ^^^ 0) 8) (b + t) (((layW u.2.1 b (x ^^^ 0) 8) (b + t)) ^^^ (x ^^^ 0))), u.2.2.1, u.2.2.2.1, u.2.2.2.2.1, u.2.2.2.2.2.1, u.2.2.2.2.2.2.1, u.2.2.2.2.2.2.2.1, u.2.2.2.2.2.2.2.2.1, u.2.2.2.2.2.2.2.2.2)) := hD
      refine lv_aload_n hx hb dX5_lays_68 rfl (lv_at hl 2 rfl) ?_
      refine va_get (D := D) (ci := 5) (v := .ref (a 1)) (C := RX5) (T := TX5) (N := 10) hx hb hts iX5_lays_X5 hown hK hP 0 rfl rfl 1 (by decide) (hts _ mX5_lays_f7) (fun _ h9 => h9) rfl dX5_lays_69 ?_
      refine lv_iload_n hx hb dX5_lays_72 rfl (lv_at hl 3 rfl) ?_
      refine lv_bipush (v := 60) hx hb dX5_lays_73 (by decide) ?_
      refine lz_iadd (v := (nI (b + 60))) hx hb dX5_lays_75 (nI_add _ _) ?_
      refine lv_dup2_11 hx hb dX5_lays_76 rfl rfl ?_
      refine lz_iald (k := (b + 60)) (f := (upd (layW u.2.1 b (x ^^^ 0) 8) (b + t) (((layW u.2.1 b (x ^^^ 0) 8) (b + t)) ^^^ (x ^^^ 0)))) hx hb hK hP 1 0 rfl rfl ⟨by omega, by decide⟩ dX5_lays_77 ?_
      refine lv_iload hx hb dX5_lays_78 (lv_at hl 1 rfl) ?_
      refine ro_S (As := [.int (x ^^^ 0)]) (rest := [.int ((upd (layW u.2.1 b (x ^^^ 0) 8) (b + t) (((layW u.2.1 b (x ^^^ 0) 8) (b + t)) ^^^ (x ^^^ 0))) (b + 60)), .int (nI (b + 60)), .ref (a 1)]) ⟨hx, hb, hml, hown, hts⟩ (c_X5_ones l D cA _ (x ^^^ 0)) (cwS2 1 hts gX5_lays_X5_ones rfl rfl rfl (by decide +kernel) ⟨Nat.le_of_ble_eq_true rfl, Nat.le_of_ble_eq_true rfl⟩) hKN rfl hl.1 rfl (lv_room (Nat.le_of_ble_eq_true rfl)) dX5_lays_80 ⟨Nat.zero_le _, Nat.zero_le _⟩ ?_
      refine lv_iadd hx hb dX5_lays_83 ?_
      refine lz_iast (k := (b + 60)) (f := (upd (layW u.2.1 b (x ^^^ 0) 8) (b + t) (((layW u.2.1 b (x ^^^ 0) 8) (b + t)) ^^^ (x ^^^ 0)))) hx hb hK hP hD hS 1 0 rfl rfl ⟨by omega, by decide⟩ dX5_lays_84 (fun H locs hP hD hS => ?_)
      have hP : va_P D vwCl (wMd cA a (u.1, (upd (upd (layW u.2.1 b (x ^^^ 0) 8) (b + t) (((layW u.2.1 b (x ^^^ 0) 8) (b + t)) ^^^ (x ^^^ 0))) (b + 60) (((upd (layW u.2.1 b (x ^^^ 0) 8) (b + t) (((layW u.2.1 b (x ^^^ 0) 8) (b + t)) ^^^ (x ^^^ 0))) (b + 60)) + (onesT (x ^^^ 0) 16))), u.2.2.1, u.2.2.2.1, u.2.2.2.2.1, u.2.2.2.2.2.1, u.2.2.2.2.2.2.1, u.2.2.2.2.2.2.2.1, u.2.2.2.2.2.2.2.2.1, u.2.2.2.2.2.2.2.2.2)) H := hP
      have hD : va_D A (wMd cA a (u.1, (upd (upd (layW u.2.1 b (x ^^^ 0) 8) (b + t) (((layW u.2.1 b (x ^^^ 0) 8) (b + t)) ^^^ (x ^^^ 0))) (b + 60) (((upd (layW u.2.1 b (x ^^^ 0) 8) (b + t) (((layW u.2.1 b (x ^^^ 0) 8) (b + t)) ^^^ (x ^^^ 0))) (b + 60)) + (onesT (x ^^^ 0) 16))), u.2.2.1, u.2.2.2.1, u.2.2.2.2.1, u.2.2.2.2.2.1, u.2.2.2.2.2.2.1, u.2.2.2.2.2.2.2.1, u.2.2.2.2.2.2.2.2.1, u.2.2.2.2.2.2.2.2.2)) := hD
      refine lv_iload hx hb dX5_lays_85 (lv_at hl 1 rfl) ?_
      refine ro_S (As := [.int (x ^^^ 0)]) (rest := []) ⟨hx, hb, hml, hown, hts⟩ (c_X5_ones l D cA _ (x ^^^ 0)) (cwS2 1 hts gX5_lays_X5_ones rfl rfl rfl (by decide +kernel) ⟨Nat.le_of_ble_eq_true rfl, Nat.le_of_ble_eq_true rfl⟩) hKN rfl hl.1 rfl (lv_room (Nat.le_of_ble_eq_true rfl)) dX5_lays_87 ⟨Nat.zero_le _, Nat.zero_le _⟩ ?_
      exact mu_iret hx hb hr hlocks dX5_lays_90 hAe hS hP rfl
    | succ n20 ih20 =>
      intro k20 hk20 H locs hP hD hS ls hl
      have hlt20 : k20 < 8 := by omega
      refine lv_iload hx hb dX5_lays_20 (lv_at hl 0 rfl) ?_
      refine lv_bipush (v := 8) hx hb dX5_lays_22 (by decide) ?_
      refine lv_icmp_ge (tgt := 55) hx hb dX5_lays_24 (by decide) (fun h => absurd h (nI_ge hlt20 (by first | decide | omega))) (fun _ => ?_)
      refine lv_aload_n hx hb dX5_lays_27 rfl (lv_at hl 2 rfl) ?_
      refine lv_iload_n hx hb dX5_lays_28 rfl (lv_at hl 3 rfl) ?_
      refine lv_iload hx hb dX5_lays_29 (lv_at hl 0 rfl) ?_
      refine lv_iload hx hb dX5_lays_31 (lv_at hl 1 rfl) ?_
      refine lv_iload hx hb dX5_lays_33 (lv_at hl 0 rfl) ?_
      refine ro_S (As := [.int (x ^^^ 0), .int (nI k20)]) (rest := [.int (nI k20), .int (nI b), .ref (a 0)]) ⟨hx, hb, hml, hown, hts⟩ (c_X5_has l D cA _ (x ^^^ 0) (nI k20)) (cwS2 2 hts gX5_lays_X5_has rfl rfl rfl (by decide +kernel) ⟨Nat.le_of_ble_eq_true rfl, Nat.le_of_ble_eq_true rfl⟩) hKN rfl hl.1 rfl (lv_room (Nat.le_of_ble_eq_true rfl)) dX5_lays_35 ⟨Nat.zero_le _, Nat.zero_le _⟩ ?_
      refine lv_if_eq (tgt := 45) hx hb dX5_lays_38 (by decide) (fun c_38 => ?_) (fun c_38 => ?_)
      · refine lv_iconst (v := 0) hx hb dX5_lays_45 (by decide) ?_
        refine mu_V (ci := 5) (q0 := 0) (As := [.int (nI b), .int (nI k20), .int 0]) (rest := []) (ws' := (wMd cA a (u.1, (wrF (layW u.2.1 b (x ^^^ 0) k20) b k20 0), u.2.2.1, u.2.2.2.1, u.2.2.2.2.1, u.2.2.2.2.2.1, u.2.2.2.2.2.2.1, u.2.2.2.2.2.2.2.1, u.2.2.2.2.2.2.2.2.1, u.2.2.2.2.2.2.2.2.2))) ⟨hx, hb, hml, hown, hts⟩ (c_X5_wears l D cA _ a (u.1, (layW u.2.1 b (x ^^^ 0) k20), u.2.2.1, u.2.2.2.1, u.2.2.2.2.1, u.2.2.2.2.2.1, u.2.2.2.2.2.2.1, u.2.2.2.2.2.2.2.1, u.2.2.2.2.2.2.2.2.1, u.2.2.2.2.2.2.2.2.2) b (by omega) k20 (by omega) 0 hP (hD.weaken (fun _ _ _ _ => trivial))) (cwV 3 hts gX5_lays_X5_wears rfl rfl rfl (by decide +kernel) ⟨Nat.le_of_ble_eq_true rfl, Nat.le_of_ble_eq_true rfl⟩) hKN hP hD hS hA rfl rfl [0, 1, 2, 3, 4] rfl ((wMd_fst _ _ _).trans (wMd_fst _ _ _).symm) rfl rfl hl.1 rfl (lv_room (Nat.le_of_ble_eq_true rfl)) dX5_lays_46 ⟨Nat.zero_le _, Nat.zero_le _⟩ (fun H locs hP hD hS => ?_)
        refine lv_iinc (v := (nI (k20 + 1))) (lv' := [(5, .int (nI (k20 + 1))), (4, .int (x ^^^ 0)), (0, .ref (a 0)), (1, .int (nI b)), (2, .int (nI t)), (3, .int x)]) hx hb dX5_lays_49 hl (k := 0) rfl (nI_1 _) (by decide) rfl (fun ls hl => ?_)
        refine lv_goto (tgt := 20) hx hb dX5_lays_52 (by decide) ?_
        have e_1 : (layW u.2.1 b (x ^^^ 0) (k20 + 1)) = (wrF (layW u.2.1 b (x ^^^ 0) k20) b k20 0) := by rw [layW_succ] <;> simp only [c_38, if_true, if_false]
        exact ih20 (k20 + 1) (by omega) _ _ (by rw [e_1]; exact hP) (by rw [e_1]; exact hD) hS ls (lv_sub hl [0, 1, 2, 3, 4, 5] rfl)
      · refine lv_iconst (v := 2) hx hb dX5_lays_41 (by decide) ?_
        refine lv_goto (tgt := 46) hx hb dX5_lays_42 (by decide) ?_
        refine mu_V (ci := 5) (q0 := 0) (As := [.int (nI b), .int (nI k20), .int 2]) (rest := []) (ws' := (wMd cA a (u.1, (wrF (layW u.2.1 b (x ^^^ 0) k20) b k20 2), u.2.2.1, u.2.2.2.1, u.2.2.2.2.1, u.2.2.2.2.2.1, u.2.2.2.2.2.2.1, u.2.2.2.2.2.2.2.1, u.2.2.2.2.2.2.2.2.1, u.2.2.2.2.2.2.2.2.2))) ⟨hx, hb, hml, hown, hts⟩ (c_X5_wears l D cA _ a (u.1, (layW u.2.1 b (x ^^^ 0) k20), u.2.2.1, u.2.2.2.1, u.2.2.2.2.1, u.2.2.2.2.2.1, u.2.2.2.2.2.2.1, u.2.2.2.2.2.2.2.1, u.2.2.2.2.2.2.2.2.1, u.2.2.2.2.2.2.2.2.2) b (by omega) k20 (by omega) 2 hP (hD.weaken (fun _ _ _ _ => trivial))) (cwV 3 hts gX5_lays_X5_wears rfl rfl rfl (by decide +kernel) ⟨Nat.le_of_ble_eq_true rfl, Nat.le_of_ble_eq_true rfl⟩) hKN hP hD hS hA rfl rfl [0, 1, 2, 3, 4] rfl ((wMd_fst _ _ _).trans (wMd_fst _ _ _).symm) rfl rfl hl.1 rfl (lv_room (Nat.le_of_ble_eq_true rfl)) dX5_lays_46 ⟨Nat.zero_le _, Nat.zero_le _⟩ (fun H locs hP hD hS => ?_)
        refine lv_iinc (v := (nI (k20 + 1))) (lv' := [(5, .int (nI (k20 + 1))), (4, .int (x ^^^ 0)), (0, .ref (a 0)), (1, .int (nI b)), (2, .int (nI t)), (3, .int x)]) hx hb dX5_lays_49 hl (k := 0) rfl (nI_1 _) (by decide) rfl (fun ls hl => ?_)
        refine lv_goto (tgt := 20) hx hb dX5_lays_52 (by decide) ?_
        have e_2 : (layW u.2.1 b (x ^^^ 0) (k20 + 1)) = (wrF (layW u.2.1 b (x ^^^ 0) k20) b k20 2) := by rw [layW_succ] <;> simp only [c_38, if_true, if_false]
        exact ih20 (k20 + 1) (by omega) _ _ (by rw [e_2]; exact hP) (by rw [e_2]; exact hD) hS ls (lv_sub hl [0, 1, 2, 3, 4, 5] rfl)
  exact loop20 8 0 (by omega) _ _ hP hD hS ls (lv_sub hl [0, 1, 2, 3, 4, 5] rfl)
set_option maxHeartbeats 4000000 in
set_option maxRecDepth 100000 in
theorem c_X5_lay (l : Launch) (D : va_G) (cA : Nat → ClassId) (H : Heap) (a : Nat → Nat) (th : Int32) (f kp tx wo : Nat → Int32) (hs : Int64) (t w : Nat) (ht : t < 16) (hw : w < 256) (hF : FR f 0) (hP0 : va_P D vwCl (wMd cA a (th, f, 0, kp, tx, 0, wo, 0, 0, hs)) H) (hD0 : va_D (fun _ => True) (wMd cA a (th, f, 0, kp, tx, 0, wo, 0, 0, hs))) : MU l yX5_lay wsX5_lay ({ frames := 2, cells := 0, slots := 0, locals := 49 } : Room) D cA [.ref (a 0), .int (nI t), .int (nI w)] H (wMd cA a (th, f, 0, kp, tx, 0, wo, 0, 0, hs)) (wMd cA a (0, (upd (upd (layW (cpT f (62 * 0) (62 * 1) 62) 0 ((nI w) ^^^ 0) 8) (0 + t) (((layW (cpT f (62 * 0) (62 * 1) 62) 0 ((nI w) ^^^ 0) 8) (0 + t)) ^^^ ((nI w) ^^^ 0))) (0 + 60) ((upd (layW (cpT f (62 * 0) (62 * 1) 62) 0 ((nI w) ^^^ 0) 8) (0 + t) (((layW (cpT f (62 * 0) (62 * 1) 62) 0 ((nI w) ^^^ 0) 8) (0 + t)) ^^^ ((nI w) ^^^ 0))) (0 + 60) + (onesT ((nI w) ^^^ 0) 16))), 1, kp, tx, 0, wo, 0, 0, hs)) (some (.int (onesT ((nI w) ^^^ 0) 16))) := by
  refine Met.ofW (cc := cX5_lay) (maxL := 3) (ret := (some .int)) (by decide) rfl ?_
  intro p e s m args below meth c s₁ B hml hv
  obtain ⟨rfl, hH, hKN⟩ := hv
  have hK := hKN.1
  have hx := B.exec
  have hb := B.bytes
  have hr := B.returns
  have hts := atoms_spec (ws := wsX5_lay) B.pre
  have hown : s.vm.findClass RX5 = some m.cls := findClass_of_methodNamed B.named
  have hlocks := B.notSynchronized
  subst hH
  have hD := hD0.self (sz := s.heap.size)
  generalize hAe : va_A (wMd cA a (th, f, 0, kp, tx, 0, wo, 0, 0, hs)) s.heap.size = A at hD ⊢
  have hA : ∀ q : Nat, s.heap.size ≤ q → A q := fun q h => by rw [← hAe]; exact Or.inr h
  have hS : va_S A s.heap s.heap [] := va_S.rf
  have hP : va_P D vwCl (wMd cA a (th, f, 0, kp, tx, 0, wo, 0, 0, hs)) s.heap := hP0
  have hl := lv_entry ([.ref (a 0), .int (nI t), .int (nI w)] : List Value) (n := 3) (Nat.le_of_ble_eq_true rfl)
  rw [lg_entry_eq]
  generalize (lg_sl ([.ref (a 0), .int (nI t), .int (nI w)] : List Value) ++ List.replicate (3 - (lg_sl ([.ref (a 0), .int (nI t), .int (nI w)] : List Value)).length) Slot.unset).toArray = ls at hl ⊢
  have hl : lv_has ls 3 [(0, .ref (a 0)), (1, .int (nI t)), (2, .int (nI w))] := hl
  refine lv_aload_n hx hb dX5_lay_0 rfl (lv_at hl 0 rfl) ?_
  refine lv_iload_n hx hb dX5_lay_1 rfl (lv_at hl 1 rfl) ?_
  refine ro_S (As := [.int (nI t)]) (rest := [.ref (a 0)]) ⟨hx, hb, hml, hown, hts⟩ (c_X5_isThread l D cA _ (nI t)) (cwS2 1 hts gX5_lay_X5_isThread rfl rfl rfl (by decide +kernel) ⟨Nat.le_of_ble_eq_true rfl, Nat.le_of_ble_eq_true rfl⟩) hKN rfl hl.1 rfl (lv_room (Nat.le_of_ble_eq_true rfl)) dX5_lay_2 ⟨Nat.zero_le _, Nat.zero_le _⟩ ?_
  refine lz_top (v := 1) (inF_ok (k := t) (a := 0) (b := 15) (by omega) (by omega) (by decide)) ?_
  refine lv_if_ne (tgt := 12) hx hb dX5_lay_5 (by decide) (fun _ => ?_) (fun h => absurd h (by decide))
  refine lv_iload_n hx hb dX5_lay_12 rfl (lv_at hl 2 rfl) ?_
  refine lv_iconst (v := 0) hx hb dX5_lay_13 (by decide) ?_
  refine lv_sipush (v := 255) hx hb dX5_lay_14 (by decide) ?_
  refine ro_S (As := [.int (nI w), .int 0, .int 255]) (rest := [.ref (a 0)]) ⟨hx, hb, hml, hown, hts⟩ (c_X5_in l D cA _ (nI w) 0 255) (cwS2 3 hts gX5_lay_X5_in rfl rfl rfl (by decide +kernel) ⟨Nat.le_of_ble_eq_true rfl, Nat.le_of_ble_eq_true rfl⟩) hKN rfl hl.1 rfl (lv_room (Nat.le_of_ble_eq_true rfl)) dX5_lay_17 ⟨Nat.zero_le _, Nat.zero_le _⟩ ?_
  refine lz_top (v := 1) (inF_ok (k := w) (a := 0) (b := 255) (by omega) (by omega) (by decide)) ?_
  refine lv_if_ne (tgt := 27) hx hb dX5_lay_20 (by decide) (fun _ => ?_) (fun h => absurd h (by decide))
  refine lv_iconst (v := 0) hx hb dX5_lay_27 (by decide) ?_
  refine mu_V (ci := 5) (q0 := 0) (As := [.int 0]) (rest := []) (ws' := (wMd cA a (0, f, 0, kp, tx, 0, wo, 0, 0, hs))) ⟨hx, hb, hml, hown, hts⟩ (c_X5_holds0 l D cA _ a (th, f, 0, kp, tx, 0, wo, 0, 0, hs) hP (hD.weaken (fun _ _ _ _ => trivial))) (cwV 1 hts gX5_lay_X5_holds rfl rfl rfl (by decide +kernel) ⟨Nat.le_of_ble_eq_true rfl, Nat.le_of_ble_eq_true rfl⟩) hKN hP hD hS hA rfl rfl [0, 1, 2, 3, 4] rfl ((wMd_fst _ _ _).trans (wMd_fst _ _ _).symm) rfl rfl hl.1 rfl (lv_room (Nat.le_of_ble_eq_true rfl)) dX5_lay_28 ⟨Nat.zero_le _, Nat.zero_le _⟩ (fun H locs hP hD hS => ?_)
  refine lv_if_ne (tgt := 36) hx hb dX5_lay_31 (by decide) (fun _ => ?_) (fun h => absurd h (by decide))
  refine lv_aload_n hx hb dX5_lay_36 rfl (lv_at hl 0 rfl) ?_
  refine mu_V (ci := 5) (q0 := 0) (As := []) (rest := []) (ws' := (wMd cA a (0, (cpT f (62 * 0) (62 * 1) 62), 1, kp, tx, 0, wo, 0, 0, hs))) ⟨hx, hb, hml, hown, hts⟩ (c_X5_save l D cA _ a 0 f kp tx wo hs hP (hD.weaken (fun _ _ _ _ => trivial))) (cwV 0 hts gX5_lay_X5_save rfl rfl rfl (by decide +kernel) ⟨Nat.le_of_ble_eq_true rfl, Nat.le_of_ble_eq_true rfl⟩) hKN hP hD hS hA rfl rfl [0, 1, 2, 3, 4] rfl ((wMd_fst _ _ _).trans (wMd_fst _ _ _).symm) rfl rfl hl.1 rfl (lv_room (Nat.le_of_ble_eq_true rfl)) dX5_lay_37 ⟨Nat.zero_le _, Nat.zero_le _⟩ (fun H locs hP hD hS => ?_)
  refine lv_aload_n hx hb dX5_lay_40 rfl (lv_at hl 0 rfl) ?_
  refine lv_iconst (v := 0) hx hb dX5_lay_41 (by decide) ?_
  refine lv_iload_n hx hb dX5_lay_42 rfl (lv_at hl 1 rfl) ?_
  refine lv_iload_n hx hb dX5_lay_43 rfl (lv_at hl 2 rfl) ?_
  refine mu_V (ci := 5) (q0 := 0) (As := [.int 0, .int (nI t), .int (nI w)]) (rest := []) (ws' := (wMd cA a (0, (upd (upd (layW (cpT f (62 * 0) (62 * 1) 62) 0 ((nI w) ^^^ 0) 8) (0 + t) (((layW (cpT f (62 * 0) (62 * 1) 62) 0 ((nI w) ^^^ 0) 8) (0 + t)) ^^^ ((nI w) ^^^ 0))) (0 + 60) ((upd (layW (cpT f (62 * 0) (62 * 1) 62) 0 ((nI w) ^^^ 0) 8) (0 + t) (((layW (cpT f (62 * 0) (62 * 1) 62) 0 ((nI w) ^^^ 0) 8) (0 + t)) ^^^ ((nI w) ^^^ 0))) (0 + 60) + (onesT ((nI w) ^^^ 0) 16))), 1, kp, tx, 0, wo, 0, 0, hs))) ⟨hx, hb, hml, hown, hts⟩ (c_X5_lays l D cA _ a (0, (cpT f (62 * 0) (62 * 1) 62), 1, kp, tx, 0, wo, 0, 0, hs) 0 (by omega) t (by omega) (nI w) (FR.ZR (FR.off hF (by omega))) hP (hD.weaken (fun _ _ _ _ => trivial))) (cwV 3 hts gX5_lay_X5_lays rfl rfl rfl (by decide +kernel) ⟨Nat.le_of_ble_eq_true rfl, Nat.le_of_ble_eq_true rfl⟩) hKN hP hD hS hA rfl rfl [0, 1, 2, 3, 4] rfl ((wMd_fst _ _ _).trans (wMd_fst _ _ _).symm) rfl rfl hl.1 rfl (lv_room (Nat.le_of_ble_eq_true rfl)) dX5_lay_44 ⟨Nat.zero_le _, Nat.zero_le _⟩ (fun H locs hP hD hS => ?_)
  exact mu_iret hx hb hr hlocks dX5_lay_47 hAe hS hP rfl
theorem mX5_guard_f7 : Cond.fieldLink RX5 7 "WireLoomModel" "s" "[I" ∈ wsX5_guard := by decide +kernel
set_option maxRecDepth 20000 in
theorem iX5_guard_X5 : ∀ w ∈ wsX50, w ∈ wsX5_guard := by decide +kernel
set_option maxHeartbeats 4000000 in
set_option maxRecDepth 100000 in
theorem c_X5_guard (l : Launch) (D : va_G) (cA : Nat → ClassId) (H : Heap) (a : Nat → Nat) (th : Int32) (f kp tx wo : Nat → Int32) (hs : Int64) (t : Nat) (ht : t < 16) (hF : FR f 0) (hP0 : va_P D vwCl (wMd cA a (th, f, 0, kp, tx, 0, wo, 0, 0, hs)) H) (hD0 : va_D (fun _ => True) (wMd cA a (th, f, 0, kp, tx, 0, wo, 0, 0, hs))) : MU l yX5_guard wsX5_guard ({ frames := 2, cells := 0, slots := 0, locals := 44 } : Room) D cA [.ref (a 0), .int (nI t)] H (wMd cA a (th, f, 0, kp, tx, 0, wo, 0, 0, hs)) (wMd cA a (0, (upd (cpT f (62 * 0) (62 * 1) 62) 16 (((cpT f (62 * 0) (62 * 1) 62) 16) ^^^ (1 <<< ((nI t) &&& 31)))), 1, kp, tx, 0, wo, 0, 0, hs)) (some (.int ((((upd (cpT f (62 * 0) (62 * 1) 62) 16 (((cpT f (62 * 0) (62 * 1) 62) 16) ^^^ (1 <<< ((nI t) &&& 31)))) 16) >>> ((nI t) &&& 31)) &&& 1))) := by
  refine Met.ofW (cc := cX5_guard) (maxL := 2) (ret := (some .int)) (by decide) rfl ?_
  intro p e s m args below meth c s₁ B hml hv
  obtain ⟨rfl, hH, hKN⟩ := hv
  have hK := hKN.1
  have hx := B.exec
  have hb := B.bytes
  have hr := B.returns
  have hts := atoms_spec (ws := wsX5_guard) B.pre
  have hown : s.vm.findClass RX5 = some m.cls := findClass_of_methodNamed B.named
  have hlocks := B.notSynchronized
  subst hH
  have hD := hD0.self (sz := s.heap.size)
  generalize hAe : va_A (wMd cA a (th, f, 0, kp, tx, 0, wo, 0, 0, hs)) s.heap.size = A at hD ⊢
  have hA : ∀ q : Nat, s.heap.size ≤ q → A q := fun q h => by rw [← hAe]; exact Or.inr h
  have hS : va_S A s.heap s.heap [] := va_S.rf
  have hP : va_P D vwCl (wMd cA a (th, f, 0, kp, tx, 0, wo, 0, 0, hs)) s.heap := hP0
  have hl := lv_entry ([.ref (a 0), .int (nI t)] : List Value) (n := 2) (Nat.le_of_ble_eq_true rfl)
  rw [lg_entry_eq]
  generalize (lg_sl ([.ref (a 0), .int (nI t)] : List Value) ++ List.replicate (2 - (lg_sl ([.ref (a 0), .int (nI t)] : List Value)).length) Slot.unset).toArray = ls at hl ⊢
  have hl : lv_has ls 2 [(0, .ref (a 0)), (1, .int (nI t))] := hl
  refine lv_aload_n hx hb dX5_guard_0 rfl (lv_at hl 0 rfl) ?_
  refine lv_iload_n hx hb dX5_guard_1 rfl (lv_at hl 1 rfl) ?_
  refine ro_S (As := [.int (nI t)]) (rest := [.ref (a 0)]) ⟨hx, hb, hml, hown, hts⟩ (c_X5_isThread l D cA _ (nI t)) (cwS2 1 hts gX5_guard_X5_isThread rfl rfl rfl (by decide +kernel) ⟨Nat.le_of_ble_eq_true rfl, Nat.le_of_ble_eq_true rfl⟩) hKN rfl hl.1 rfl (lv_room (Nat.le_of_ble_eq_true rfl)) dX5_guard_2 ⟨Nat.zero_le _, Nat.zero_le _⟩ ?_
  refine lz_top (v := 1) (inF_ok (k := t) (a := 0) (b := 15) (by omega) (by omega) (by decide)) ?_
  refine lv_if_eq (tgt := 12) hx hb dX5_guard_5 (by decide) (fun h => absurd h (by decide)) (fun _ => ?_)
  refine lv_iconst (v := 0) hx hb dX5_guard_8 (by decide) ?_
  refine lv_goto (tgt := 13) hx hb dX5_guard_9 (by decide) ?_
  refine mu_V (ci := 5) (q0 := 0) (As := [.int 0]) (rest := []) (ws' := (wMd cA a (0, f, 0, kp, tx, 0, wo, 0, 0, hs))) ⟨hx, hb, hml, hown, hts⟩ (c_X5_holds0 l D cA _ a (th, f, 0, kp, tx, 0, wo, 0, 0, hs) hP (hD.weaken (fun _ _ _ _ => trivial))) (cwV 1 hts gX5_guard_X5_holds rfl rfl rfl (by decide +kernel) ⟨Nat.le_of_ble_eq_true rfl, Nat.le_of_ble_eq_true rfl⟩) hKN hP hD hS hA rfl rfl [0, 1, 2, 3, 4] rfl ((wMd_fst _ _ _).trans (wMd_fst _ _ _).symm) rfl rfl hl.1 rfl (lv_room (Nat.le_of_ble_eq_true rfl)) dX5_guard_13 ⟨Nat.zero_le _, Nat.zero_le _⟩ (fun H locs hP hD hS => ?_)
  refine lv_if_ne (tgt := 21) hx hb dX5_guard_16 (by decide) (fun _ => ?_) (fun h => absurd h (by decide))
  refine lv_aload_n hx hb dX5_guard_21 rfl (lv_at hl 0 rfl) ?_
  refine mu_V (ci := 5) (q0 := 0) (As := []) (rest := []) (ws' := (wMd cA a (0, (cpT f (62 * 0) (62 * 1) 62), 1, kp, tx, 0, wo, 0, 0, hs))) ⟨hx, hb, hml, hown, hts⟩ (c_X5_save l D cA _ a 0 f kp tx wo hs hP (hD.weaken (fun _ _ _ _ => trivial))) (cwV 0 hts gX5_guard_X5_save rfl rfl rfl (by decide +kernel) ⟨Nat.le_of_ble_eq_true rfl, Nat.le_of_ble_eq_true rfl⟩) hKN hP hD hS hA rfl rfl [0, 1, 2, 3, 4] rfl ((wMd_fst _ _ _).trans (wMd_fst _ _ _).symm) rfl rfl hl.1 rfl (lv_room (Nat.le_of_ble_eq_true rfl)) dX5_guard_22 ⟨Nat.zero_le _, Nat.zero_le _⟩ (fun H locs hP hD hS => ?_)
  refine lv_aload_n hx hb dX5_guard_25 rfl (lv_at hl 0 rfl) ?_
  refine va_get (D := D) (ci := 5) (v := .ref (a 1)) (C := RX5) (T := TX5) (N := 10) hx hb hts iX5_guard_X5 hown hK hP 0 rfl rfl 1 (by decide) (hts _ mX5_guard_f7) (fun _ h9 => h9) rfl dX5_guard_26 ?_
  refine lv_bipush (v := 16) hx hb dX5_guard_29 (by decide) ?_
  refine lv_dup2_11 hx hb dX5_guard_31 rfl rfl ?_
  refine lz_iald (k := 16) (f := (cpT f (62 * 0) (62 * 1) 62)) hx hb hK hP 1 0 rfl rfl ⟨by decide, by decide⟩ dX5_guard_32 ?_
  refine lv_iconst (v := 1) hx hb dX5_guard_33 (by decide) ?_
  refine lv_iload_n hx hb dX5_guard_34 rfl (lv_at hl 1 rfl) ?_
  refine lv_ishl hx hb dX5_guard_35 ?_
  refine lv_ixor hx hb dX5_guard_36 ?_
  refine lz_iast (k := 16) (f := (cpT f (62 * 0) (62 * 1) 62)) hx hb hK hP hD hS 1 0 rfl rfl ⟨by decide, by decide⟩ dX5_guard_37 (fun H locs hP hD hS => ?_)
  have hP : va_P D vwCl (wMd cA a (0, (upd (cpT f (62 * 0) (62 * 1) 62) 16 (((cpT f (62 * 0) (62 * 1) 62) 16) ^^^ (1 <<< ((nI t) &&& 31)))), 1, kp, tx, 0, wo, 0, 0, hs)) H := hP
  have hD : va_D A (wMd cA a (0, (upd (cpT f (62 * 0) (62 * 1) 62) 16 (((cpT f (62 * 0) (62 * 1) 62) 16) ^^^ (1 <<< ((nI t) &&& 31)))), 1, kp, tx, 0, wo, 0, 0, hs)) := hD
  refine lv_aload_n hx hb dX5_guard_38 rfl (lv_at hl 0 rfl) ?_
  refine va_get (D := D) (ci := 5) (v := .ref (a 1)) (C := RX5) (T := TX5) (N := 10) hx hb hts iX5_guard_X5 hown hK hP 0 rfl rfl 1 (by decide) (hts _ mX5_guard_f7) (fun _ h9 => h9) rfl dX5_guard_39 ?_
  refine lv_bipush (v := 16) hx hb dX5_guard_42 (by decide) ?_
  refine lz_iald (k := 16) (f := (upd (cpT f (62 * 0) (62 * 1) 62) 16 (((cpT f (62 * 0) (62 * 1) 62) 16) ^^^ (1 <<< ((nI t) &&& 31))))) hx hb hK hP 1 0 rfl rfl ⟨by decide, by decide⟩ dX5_guard_44 ?_
  refine lv_iload_n hx hb dX5_guard_45 rfl (lv_at hl 1 rfl) ?_
  refine lv_ishr hx hb dX5_guard_46 ?_
  refine lv_iconst (v := 1) hx hb dX5_guard_47 (by decide) ?_
  refine lv_iand hx hb dX5_guard_48 ?_
  exact mu_iret hx hb hr hlocks dX5_guard_49 hAe hS hP rfl
theorem mX5_change_f7 : Cond.fieldLink RX5 7 "WireLoomModel" "s" "[I" ∈ wsX5_change := by decide +kernel
set_option maxRecDepth 20000 in
theorem iX5_change_X5 : ∀ w ∈ wsX50, w ∈ wsX5_change := by decide +kernel
set_option maxHeartbeats 4000000 in
set_option maxRecDepth 100000 in
theorem c_X5_change (l : Launch) (D : va_G) (cA : Nat → ClassId) (H : Heap) (a : Nat → Nat) (th : Int32) (f kp tx wo : Nat → Int32) (hs : Int64) (r : Nat) (hr0 : r < 8) (hF : FR f 0) (hP0 : va_P D vwCl (wMd cA a (th, f, 0, kp, tx, 0, wo, 0, 0, hs)) H) (hD0 : va_D (fun _ => True) (wMd cA a (th, f, 0, kp, tx, 0, wo, 0, 0, hs))) : MU l yX5_change wsX5_change ({ frames := 2, cells := 0, slots := 0, locals := 44 } : Room) D cA [.ref (a 0), .int (nI r)] H (wMd cA a (th, f, 0, kp, tx, 0, wo, 0, 0, hs)) (wMd cA a (0, (upd (cpT f (62 * 0) (62 * 1) 62) (17 + r) 0), 1, kp, tx, 0, wo, 0, 0, hs)) (some (.int 0)) := by
  refine Met.ofW (cc := cX5_change) (maxL := 4) (ret := (some .int)) (by decide) rfl ?_
  intro p e s m args below meth c s₁ B hml hv
  obtain ⟨rfl, hH, hKN⟩ := hv
  have hK := hKN.1
  have hx := B.exec
  have hb := B.bytes
  have hr := B.returns
  have hts := atoms_spec (ws := wsX5_change) B.pre
  have hown : s.vm.findClass RX5 = some m.cls := findClass_of_methodNamed B.named
  have hlocks := B.notSynchronized
  subst hH
  have hD := hD0.self (sz := s.heap.size)
  generalize hAe : va_A (wMd cA a (th, f, 0, kp, tx, 0, wo, 0, 0, hs)) s.heap.size = A at hD ⊢
  have hA : ∀ q : Nat, s.heap.size ≤ q → A q := fun q h => by rw [← hAe]; exact Or.inr h
  have hS : va_S A s.heap s.heap [] := va_S.rf
  have hP : va_P D vwCl (wMd cA a (th, f, 0, kp, tx, 0, wo, 0, 0, hs)) s.heap := hP0
  have hl := lv_entry ([.ref (a 0), .int (nI r)] : List Value) (n := 4) (Nat.le_of_ble_eq_true rfl)
  rw [lg_entry_eq]
  generalize (lg_sl ([.ref (a 0), .int (nI r)] : List Value) ++ List.replicate (4 - (lg_sl ([.ref (a 0), .int (nI r)] : List Value)).length) Slot.unset).toArray = ls at hl ⊢
  have hl : lv_has ls 4 [(0, .ref (a 0)), (1, .int (nI r))] := hl
  refine lv_aload_n hx hb dX5_change_0 rfl (lv_at hl 0 rfl) ?_
  refine lv_iload_n hx hb dX5_change_1 rfl (lv_at hl 1 rfl) ?_
  refine ro_S (As := [.int (nI r)]) (rest := [.ref (a 0)]) ⟨hx, hb, hml, hown, hts⟩ (c_X5_isRing l D cA _ (nI r)) (cwS2 1 hts gX5_change_X5_isRing rfl rfl rfl (by decide +kernel) ⟨Nat.le_of_ble_eq_true rfl, Nat.le_of_ble_eq_true rfl⟩) hKN rfl hl.1 rfl (lv_room (Nat.le_of_ble_eq_true rfl)) dX5_change_2 ⟨Nat.zero_le _, Nat.zero_le _⟩ ?_
  refine lz_top (v := 1) (inF_ok (k := r) (a := 0) (b := 7) (by omega) (by omega) (by decide)) ?_
  refine lv_if_eq (tgt := 12) hx hb dX5_change_5 (by decide) (fun h => absurd h (by decide)) (fun _ => ?_)
  refine lv_iconst (v := 0) hx hb dX5_change_8 (by decide) ?_
  refine lv_goto (tgt := 13) hx hb dX5_change_9 (by decide) ?_
  refine mu_V (ci := 5) (q0 := 0) (As := [.int 0]) (rest := []) (ws' := (wMd cA a (0, f, 0, kp, tx, 0, wo, 0, 0, hs))) ⟨hx, hb, hml, hown, hts⟩ (c_X5_holds0 l D cA _ a (th, f, 0, kp, tx, 0, wo, 0, 0, hs) hP (hD.weaken (fun _ _ _ _ => trivial))) (cwV 1 hts gX5_change_X5_holds rfl rfl rfl (by decide +kernel) ⟨Nat.le_of_ble_eq_true rfl, Nat.le_of_ble_eq_true rfl⟩) hKN hP hD hS hA rfl rfl [0, 1, 2, 3, 4] rfl ((wMd_fst _ _ _).trans (wMd_fst _ _ _).symm) rfl rfl hl.1 rfl (lv_room (Nat.le_of_ble_eq_true rfl)) dX5_change_13 ⟨Nat.zero_le _, Nat.zero_le _⟩ (fun H locs hP hD hS => ?_)
  refine lv_if_ne (tgt := 21) hx hb dX5_change_16 (by decide) (fun _ => ?_) (fun h => absurd h (by decide))
  refine lv_aload_n hx hb dX5_change_21 rfl (lv_at hl 0 rfl) ?_
  refine mu_V (ci := 5) (q0 := 0) (As := []) (rest := []) (ws' := (wMd cA a (0, (cpT f (62 * 0) (62 * 1) 62), 1, kp, tx, 0, wo, 0, 0, hs))) ⟨hx, hb, hml, hown, hts⟩ (c_X5_save l D cA _ a 0 f kp tx wo hs hP (hD.weaken (fun _ _ _ _ => trivial))) (cwV 0 hts gX5_change_X5_save rfl rfl rfl (by decide +kernel) ⟨Nat.le_of_ble_eq_true rfl, Nat.le_of_ble_eq_true rfl⟩) hKN hP hD hS hA rfl rfl [0, 1, 2, 3, 4] rfl ((wMd_fst _ _ _).trans (wMd_fst _ _ _).symm) rfl rfl hl.1 rfl (lv_room (Nat.le_of_ble_eq_true rfl)) dX5_change_22 ⟨Nat.zero_le _, Nat.zero_le _⟩ (fun H locs hP hD hS => ?_)
  refine lv_aload_n hx hb dX5_change_25 rfl (lv_at hl 0 rfl) ?_
  refine lv_iload_n hx hb dX5_change_26 rfl (lv_at hl 1 rfl) ?_
  refine ro_V (ci := 5) (q0 := 0) (As := [.int (nI r)]) (rest := []) ⟨hx, hb, hml, hown, hts⟩ (c_X5_threadsOf l D cA _ a (0, (cpT f (62 * 0) (62 * 1) 62), 1, kp, tx, 0, wo, 0, 0, hs) (nI r) (FR.ZR (FR.off hF (by omega))) hP) (cwV 1 hts gX5_change_X5_threadsOf rfl rfl rfl (by decide +kernel) ⟨Nat.le_of_ble_eq_true rfl, Nat.le_of_ble_eq_true rfl⟩) hKN hP rfl rfl rfl hl.1 rfl (lv_room (Nat.le_of_ble_eq_true rfl)) dX5_change_27 ⟨Nat.zero_le _, Nat.zero_le _⟩ ?_
  refine lv_istore_n (lv' := [(2, .int 0), (0, .ref (a 0)), (1, .int (nI r))]) hx hb dX5_change_30 rfl hl (by decide) rfl (fun ls hl => ?_)
  refine lv_iconst (v := 0) hx hb dX5_change_31 (by decide) ?_
  refine lv_istore_n (lv' := [(3, .int 0), (2, .int 0), (0, .ref (a 0)), (1, .int (nI r))]) hx hb dX5_change_32 rfl hl (by decide) rfl (fun ls hl => ?_)
  have loop33 : ∀ (n33 k33 : Nat), k33 + n33 = 16 → ∀ (H : Heap) (locs : List Loc), va_P D vwCl (wMd cA a (0, (cpT f (62 * 0) (62 * 1) 62), 1, kp, tx, 0, wo, 0, 0, hs)) H → va_D A (wMd cA a (0, (cpT f (62 * 0) (62 * 1) 62), 1, kp, tx, 0, wo, 0, 0, hs)) → va_S A s.heap H locs → ∀ (ls : Array Slot), lv_has ls 4 [(3, .int (nI k33)), (2, .int 0), (0, .ref (a 0)), (1, .int (nI r))] → W p l e ({ frames := 2, cells := 0, slots := 0, locals := 44 } : Room) s m ([.ref (a 0), .int (nI r)] : List Value).toArray below meth c H locs 0 0 (MQ below (muQ D s.heap (wMd cA a (th, f, 0, kp, tx, 0, wo, 0, 0, hs)) (wMd cA a (0, (upd (cpT f (62 * 0) (62 * 1) 62) (17 + r) 0), 1, kp, tx, 0, wo, 0, 0, hs)) (some (.int 0))) ([.ref (a 0), .int (nI r)] : List Value).toArray s 0 0 A) (F0 m 33 ls []) := by
    intro n33
    induction n33 with
    | zero =>
      intro k33 hk33 H locs hP hD hS ls hl
      obtain rfl : 16 = k33 := by omega
      refine lv_iload_n hx hb dX5_change_33 rfl (lv_at hl 0 rfl) ?_
      refine lv_bipush (v := 16) hx hb dX5_change_34 (by decide) ?_
      refine lv_icmp_ge (tgt := 69) hx hb dX5_change_36 (by decide) (fun _ => ?_) (fun h => absurd (by decide) h)
      refine lv_aload_n hx hb dX5_change_69 rfl (lv_at hl 2 rfl) ?_
      refine va_get (D := D) (ci := 5) (v := .ref (a 1)) (C := RX5) (T := TX5) (N := 10) hx hb hts iX5_change_X5 hown hK hP 0 rfl rfl 1 (by decide) (hts _ mX5_change_f7) (fun _ h9 => h9) rfl dX5_change_70 ?_
      refine lv_bipush (v := 17) hx hb dX5_change_73 (by decide) ?_
      refine lv_iload_n hx hb dX5_change_75 rfl (lv_at hl 3 rfl) ?_
      refine lz_iadd (v := (nI (17 + r))) hx hb dX5_change_76 (nI_add _ _) ?_
      refine lv_iconst (v := 0) hx hb dX5_change_77 (by decide) ?_
      refine lz_iast (k := (17 + r)) (f := (cpT f (62 * 0) (62 * 1) 62)) hx hb hK hP hD hS 1 0 rfl rfl ⟨by omega, by decide⟩ dX5_change_78 (fun H locs hP hD hS => ?_)
      have hP : va_P D vwCl (wMd cA a (0, (upd (cpT f (62 * 0) (62 * 1) 62) (17 + r) 0), 1, kp, tx, 0, wo, 0, 0, hs)) H := hP
      have hD : va_D A (wMd cA a (0, (upd (cpT f (62 * 0) (62 * 1) 62) (17 + r) 0), 1, kp, tx, 0, wo, 0, 0, hs)) := hD
      refine lv_iload_n hx hb dX5_change_79 rfl (lv_at hl 1 rfl) ?_
      refine ro_S (As := [.int 0]) (rest := []) ⟨hx, hb, hml, hown, hts⟩ (c_X5_ones0 l D cA _) (cwS2 1 hts gX5_change_X5_ones rfl rfl rfl (by decide +kernel) ⟨Nat.le_of_ble_eq_true rfl, Nat.le_of_ble_eq_true rfl⟩) hKN rfl hl.1 rfl (lv_room (Nat.le_of_ble_eq_true rfl)) dX5_change_80 ⟨Nat.zero_le _, Nat.zero_le _⟩ ?_
      exact mu_iret hx hb hr hlocks dX5_change_83 hAe hS hP rfl
    | succ n33 ih33 =>
      intro k33 hk33 H locs hP hD hS ls hl
      have hlt33 : k33 < 16 := by omega
      refine lv_iload_n hx hb dX5_change_33 rfl (lv_at hl 0 rfl) ?_
      refine lv_bipush (v := 16) hx hb dX5_change_34 (by decide) ?_
      refine lv_icmp_ge (tgt := 69) hx hb dX5_change_36 (by decide) (fun h => absurd h (nI_ge hlt33 (by first | decide | omega))) (fun _ => ?_)
      refine lv_aload_n hx hb dX5_change_39 rfl (lv_at hl 2 rfl) ?_
      refine va_get (D := D) (ci := 5) (v := .ref (a 1)) (C := RX5) (T := TX5) (N := 10) hx hb hts iX5_change_X5 hown hK hP 0 rfl rfl 1 (by decide) (hts _ mX5_change_f7) (fun _ h9 => h9) rfl dX5_change_40 ?_
      refine lv_iload_n hx hb dX5_change_43 rfl (lv_at hl 0 rfl) ?_
      refine lv_dup2_11 hx hb dX5_change_44 rfl rfl ?_
      refine lz_iald (k := k33) (f := (cpT f (62 * 0) (62 * 1) 62)) hx hb hK hP 1 0 rfl rfl ⟨by omega, by decide⟩ dX5_change_45 ?_
      refine lz_top (v := 0) ((FR.off hF (by omega) : FR (cpT f (62 * 0) (62 * 1) 62) 0).z (by omega) (by omega) (by omega)) ?_
      refine lv_iload_n hx hb dX5_change_46 rfl (lv_at hl 1 rfl) ?_
      refine lv_iload_n hx hb dX5_change_47 rfl (lv_at hl 0 rfl) ?_
      refine ro_S (As := [.int 0, .int (nI k33)]) (rest := [.int 0, .int (nI k33), .ref (a 1)]) ⟨hx, hb, hml, hown, hts⟩ (c_X5_has0 l D cA _ (nI k33)) (cwS2 2 hts gX5_change_X5_has rfl rfl rfl (by decide +kernel) ⟨Nat.le_of_ble_eq_true rfl, Nat.le_of_ble_eq_true rfl⟩) hKN rfl hl.1 rfl (lv_room (Nat.le_of_ble_eq_true rfl)) dX5_change_48 ⟨Nat.zero_le _, Nat.zero_le _⟩ ?_
      refine lv_if_eq (tgt := 60) hx hb dX5_change_51 (by decide) (fun _ => ?_) (fun h => absurd (by decide) h)
      refine lv_iconst (v := 0) hx hb dX5_change_60 (by decide) ?_
      refine lz_isub (v := 0) hx hb dX5_change_61 (by decide) ?_
      refine lz_iast (k := k33) (f := (cpT f (62 * 0) (62 * 1) 62)) hx hb hK hP hD hS 1 0 rfl rfl ⟨by omega, by decide⟩ dX5_change_62 (fun H locs hP hD hS => ?_)
      have hP : va_P D vwCl (wMd cA a (0, (upd (cpT f (62 * 0) (62 * 1) 62) k33 0), 1, kp, tx, 0, wo, 0, 0, hs)) H := hP
      have hD : va_D A (wMd cA a (0, (upd (cpT f (62 * 0) (62 * 1) 62) k33 0), 1, kp, tx, 0, wo, 0, 0, hs)) := hD
      refine lv_iinc (v := (nI (k33 + 1))) (lv' := [(3, .int (nI (k33 + 1))), (2, .int 0), (0, .ref (a 0)), (1, .int (nI r))]) hx hb dX5_change_63 hl (k := 0) rfl (nI_1 _) (by decide) rfl (fun ls hl => ?_)
      refine lv_goto (tgt := 33) hx hb dX5_change_66 (by decide) ?_
      have e_1 : (cpT f (62 * 0) (62 * 1) 62) = (upd (cpT f (62 * 0) (62 * 1) 62) k33 0) := (upd_id ((FR.off hF (by omega) : FR (cpT f (62 * 0) (62 * 1) 62) 0).z (by omega) (by omega) (by omega))).symm
      exact ih33 (k33 + 1) (by omega) _ _ (by rw [e_1]; exact hP) (by rw [e_1]; exact hD) hS ls (lv_sub hl [0, 1, 2, 3] rfl)
  exact loop33 16 0 (by omega) _ _ hP hD hS ls (lv_sub hl [0, 1, 2, 3] rfl)
theorem mX5_set_f7 : Cond.fieldLink RX5 7 "WireLoomModel" "s" "[I" ∈ wsX5_set := by decide +kernel
set_option maxRecDepth 20000 in
theorem iX5_set_X5 : ∀ w ∈ wsX50, w ∈ wsX5_set := by decide +kernel
set_option maxHeartbeats 4000000 in
set_option maxRecDepth 100000 in
theorem c_X5_set0 (l : Launch) (D : va_G) (cA : Nat → ClassId) (H : Heap) (a : Nat → Nat) (th : Int32) (f kp tx wo : Nat → Int32) (hs : Int64) (v : Nat) (h1 : 1 ≤ v) (h8 : v ≤ 8) (hF : FR f 0) (hP0 : va_P D vwCl (wMd cA a (th, f, 0, kp, tx, 0, wo, 0, 0, hs)) H) (hD0 : va_D (fun _ => True) (wMd cA a (th, f, 0, kp, tx, 0, wo, 0, 0, hs))) : MU l yX5_set wsX5_set ({ frames := 2, cells := 0, slots := 0, locals := 44 } : Room) D cA [.ref (a 0), .int 0, .int (nI v)] H (wMd cA a (th, f, 0, kp, tx, 0, wo, 0, 0, hs)) (wMd cA a (0, (upd (cpT f (62 * 0) (62 * 1) 62) 25 (nI v)), 1, kp, tx, 0, wo, 0, 0, hs)) (some (.int ((cpT f (62 * 0) (62 * 1) 62) 25))) := by
  refine Met.ofW (cc := cX5_set) (maxL := 4) (ret := (some .int)) (by decide) rfl ?_
  intro p e s m args below meth c s₁ B hml hv
  obtain ⟨rfl, hH, hKN⟩ := hv
  have hK := hKN.1
  have hx := B.exec
  have hb := B.bytes
  have hr := B.returns
  have hts := atoms_spec (ws := wsX5_set) B.pre
  have hown : s.vm.findClass RX5 = some m.cls := findClass_of_methodNamed B.named
  have hlocks := B.notSynchronized
  subst hH
  have hD := hD0.self (sz := s.heap.size)
  generalize hAe : va_A (wMd cA a (th, f, 0, kp, tx, 0, wo, 0, 0, hs)) s.heap.size = A at hD ⊢
  have hA : ∀ q : Nat, s.heap.size ≤ q → A q := fun q h => by rw [← hAe]; exact Or.inr h
  have hS : va_S A s.heap s.heap [] := va_S.rf
  have hP : va_P D vwCl (wMd cA a (th, f, 0, kp, tx, 0, wo, 0, 0, hs)) s.heap := hP0
  have hl := lv_entry ([.ref (a 0), .int 0, .int (nI v)] : List Value) (n := 4) (Nat.le_of_ble_eq_true rfl)
  rw [lg_entry_eq]
  generalize (lg_sl ([.ref (a 0), .int 0, .int (nI v)] : List Value) ++ List.replicate (4 - (lg_sl ([.ref (a 0), .int 0, .int (nI v)] : List Value)).length) Slot.unset).toArray = ls at hl ⊢
  have hl : lv_has ls 4 [(0, .ref (a 0)), (1, .int 0), (2, .int (nI v))] := hl
  refine lv_aload_n hx hb dX5_set_0 rfl (lv_at hl 0 rfl) ?_
  refine lv_iload_n hx hb dX5_set_1 rfl (lv_at hl 1 rfl) ?_
  refine lv_iconst (v := 0) hx hb dX5_set_2 (by decide) ?_
  refine lv_iconst (v := 1) hx hb dX5_set_3 (by decide) ?_
  refine ro_S (As := [.int 0, .int 0, .int 1]) (rest := [.ref (a 0)]) ⟨hx, hb, hml, hown, hts⟩ (c_X5_in l D cA _ 0 0 1) (cwS2 3 hts gX5_set_X5_in rfl rfl rfl (by decide +kernel) ⟨Nat.le_of_ble_eq_true rfl, Nat.le_of_ble_eq_true rfl⟩) hKN rfl hl.1 rfl (lv_room (Nat.le_of_ble_eq_true rfl)) dX5_set_4 ⟨Nat.zero_le _, Nat.zero_le _⟩ ?_
  refine lz_top (v := 1) (inF_ok (k := 0) (a := 0) (b := 1) (by omega) (by omega) (by decide)) ?_
  refine lv_if_ne (tgt := 14) hx hb dX5_set_7 (by decide) (fun _ => ?_) (fun h => absurd h (by decide))
  refine lv_iload_n hx hb dX5_set_14 rfl (lv_at hl 2 rfl) ?_
  refine lv_iconst (v := 1) hx hb dX5_set_15 (by decide) ?_
  refine lv_iload_n hx hb dX5_set_16 rfl (lv_at hl 1 rfl) ?_
  refine lz_isub (v := 1) hx hb dX5_set_17 (by decide) ?_
  refine lv_iload_n hx hb dX5_set_18 rfl (lv_at hl 1 rfl) ?_
  refine lv_if_ne (tgt := 27) hx hb dX5_set_19 (by decide) (fun h => absurd (by decide) h) (fun _ => ?_)
  refine lv_bipush (v := 8) hx hb dX5_set_22 (by decide) ?_
  refine lv_goto (tgt := 28) hx hb dX5_set_24 (by decide) ?_
  refine ro_S (As := [.int (nI v), .int 1, .int 8]) (rest := [.ref (a 0)]) ⟨hx, hb, hml, hown, hts⟩ (c_X5_in l D cA _ (nI v) 1 8) (cwS2 3 hts gX5_set_X5_in rfl rfl rfl (by decide +kernel) ⟨Nat.le_of_ble_eq_true rfl, Nat.le_of_ble_eq_true rfl⟩) hKN rfl hl.1 rfl (lv_room (Nat.le_of_ble_eq_true rfl)) dX5_set_28 ⟨Nat.zero_le _, Nat.zero_le _⟩ ?_
  refine lz_top (v := 1) (inF_ok (k := v) (a := 1) (b := 8) (by omega) (by omega) (by decide)) ?_
  refine lv_if_ne (tgt := 38) hx hb dX5_set_31 (by decide) (fun _ => ?_) (fun h => absurd h (by decide))
  refine lv_iconst (v := 0) hx hb dX5_set_38 (by decide) ?_
  refine mu_V (ci := 5) (q0 := 0) (As := [.int 0]) (rest := []) (ws' := (wMd cA a (0, f, 0, kp, tx, 0, wo, 0, 0, hs))) ⟨hx, hb, hml, hown, hts⟩ (c_X5_holds0 l D cA _ a (th, f, 0, kp, tx, 0, wo, 0, 0, hs) hP (hD.weaken (fun _ _ _ _ => trivial))) (cwV 1 hts gX5_set_X5_holds rfl rfl rfl (by decide +kernel) ⟨Nat.le_of_ble_eq_true rfl, Nat.le_of_ble_eq_true rfl⟩) hKN hP hD hS hA rfl rfl [0, 1, 2, 3, 4] rfl ((wMd_fst _ _ _).trans (wMd_fst _ _ _).symm) rfl rfl hl.1 rfl (lv_room (Nat.le_of_ble_eq_true rfl)) dX5_set_39 ⟨Nat.zero_le _, Nat.zero_le _⟩ (fun H locs hP hD hS => ?_)
  refine lv_if_ne (tgt := 47) hx hb dX5_set_42 (by decide) (fun _ => ?_) (fun h => absurd h (by decide))
  refine lv_aload_n hx hb dX5_set_47 rfl (lv_at hl 0 rfl) ?_
  refine mu_V (ci := 5) (q0 := 0) (As := []) (rest := []) (ws' := (wMd cA a (0, (cpT f (62 * 0) (62 * 1) 62), 1, kp, tx, 0, wo, 0, 0, hs))) ⟨hx, hb, hml, hown, hts⟩ (c_X5_save l D cA _ a 0 f kp tx wo hs hP (hD.weaken (fun _ _ _ _ => trivial))) (cwV 0 hts gX5_set_X5_save rfl rfl rfl (by decide +kernel) ⟨Nat.le_of_ble_eq_true rfl, Nat.le_of_ble_eq_true rfl⟩) hKN hP hD hS hA rfl rfl [0, 1, 2, 3, 4] rfl ((wMd_fst _ _ _).trans (wMd_fst _ _ _).symm) rfl rfl hl.1 rfl (lv_room (Nat.le_of_ble_eq_true rfl)) dX5_set_48 ⟨Nat.zero_le _, Nat.zero_le _⟩ (fun H locs hP hD hS => ?_)
  refine lv_aload_n hx hb dX5_set_51 rfl (lv_at hl 0 rfl) ?_
  refine va_get (D := D) (ci := 5) (v := .ref (a 1)) (C := RX5) (T := TX5) (N := 10) hx hb hts iX5_set_X5 hown hK hP 0 rfl rfl 1 (by decide) (hts _ mX5_set_f7) (fun _ h9 => h9) rfl dX5_set_52 ?_
  refine lv_bipush (v := 25) hx hb dX5_set_55 (by decide) ?_
  refine lv_iload_n hx hb dX5_set_57 rfl (lv_at hl 1 rfl) ?_
  refine lz_iadd (v := 25) hx hb dX5_set_58 (by decide) ?_
  refine lz_iald (k := 25) (f := (cpT f (62 * 0) (62 * 1) 62)) hx hb hK hP 1 0 rfl rfl ⟨by decide, by decide⟩ dX5_set_59 ?_
  refine lv_istore_n (lv' := [(3, .int ((cpT f (62 * 0) (62 * 1) 62) 25)), (0, .ref (a 0)), (1, .int 0), (2, .int (nI v))]) hx hb dX5_set_60 rfl hl (by decide) rfl (fun ls hl => ?_)
  refine lv_aload_n hx hb dX5_set_61 rfl (lv_at hl 1 rfl) ?_
  refine va_get (D := D) (ci := 5) (v := .ref (a 1)) (C := RX5) (T := TX5) (N := 10) hx hb hts iX5_set_X5 hown hK hP 0 rfl rfl 1 (by decide) (hts _ mX5_set_f7) (fun _ h9 => h9) rfl dX5_set_62 ?_
  refine lv_bipush (v := 25) hx hb dX5_set_65 (by decide) ?_
  refine lv_iload_n hx hb dX5_set_67 rfl (lv_at hl 2 rfl) ?_
  refine lz_iadd (v := 25) hx hb dX5_set_68 (by decide) ?_
  refine lv_iload_n hx hb dX5_set_69 rfl (lv_at hl 3 rfl) ?_
  refine lz_iast (k := 25) (f := (cpT f (62 * 0) (62 * 1) 62)) hx hb hK hP hD hS 1 0 rfl rfl ⟨by decide, by decide⟩ dX5_set_70 (fun H locs hP hD hS => ?_)
  have hP : va_P D vwCl (wMd cA a (0, (upd (cpT f (62 * 0) (62 * 1) 62) 25 (nI v)), 1, kp, tx, 0, wo, 0, 0, hs)) H := hP
  have hD : va_D A (wMd cA a (0, (upd (cpT f (62 * 0) (62 * 1) 62) 25 (nI v)), 1, kp, tx, 0, wo, 0, 0, hs)) := hD
  refine lv_iload_n hx hb dX5_set_71 rfl (lv_at hl 0 rfl) ?_
  exact mu_iret hx hb hr hlocks dX5_set_72 hAe hS hP rfl
set_option maxHeartbeats 4000000 in
set_option maxRecDepth 100000 in
theorem c_X5_set1 (l : Launch) (D : va_G) (cA : Nat → ClassId) (H : Heap) (a : Nat → Nat) (th : Int32) (f kp tx wo : Nat → Int32) (hs : Int64) (v : Nat) (h8 : v ≤ 1) (hF : FR f 0) (hP0 : va_P D vwCl (wMd cA a (th, f, 0, kp, tx, 0, wo, 0, 0, hs)) H) (hD0 : va_D (fun _ => True) (wMd cA a (th, f, 0, kp, tx, 0, wo, 0, 0, hs))) : MU l yX5_set wsX5_set ({ frames := 2, cells := 0, slots := 0, locals := 44 } : Room) D cA [.ref (a 0), .int 1, .int (nI v)] H (wMd cA a (th, f, 0, kp, tx, 0, wo, 0, 0, hs)) (wMd cA a (0, (upd (cpT f (62 * 0) (62 * 1) 62) 26 (nI v)), 1, kp, tx, 0, wo, 0, 0, hs)) (some (.int ((cpT f (62 * 0) (62 * 1) 62) 26))) := by
  refine Met.ofW (cc := cX5_set) (maxL := 4) (ret := (some .int)) (by decide) rfl ?_
  intro p e s m args below meth c s₁ B hml hv
  obtain ⟨rfl, hH, hKN⟩ := hv
  have hK := hKN.1
  have hx := B.exec
  have hb := B.bytes
  have hr := B.returns
  have hts := atoms_spec (ws := wsX5_set) B.pre
  have hown : s.vm.findClass RX5 = some m.cls := findClass_of_methodNamed B.named
  have hlocks := B.notSynchronized
  subst hH
  have hD := hD0.self (sz := s.heap.size)
  generalize hAe : va_A (wMd cA a (th, f, 0, kp, tx, 0, wo, 0, 0, hs)) s.heap.size = A at hD ⊢
  have hA : ∀ q : Nat, s.heap.size ≤ q → A q := fun q h => by rw [← hAe]; exact Or.inr h
  have hS : va_S A s.heap s.heap [] := va_S.rf
  have hP : va_P D vwCl (wMd cA a (th, f, 0, kp, tx, 0, wo, 0, 0, hs)) s.heap := hP0
  have hl := lv_entry ([.ref (a 0), .int 1, .int (nI v)] : List Value) (n := 4) (Nat.le_of_ble_eq_true rfl)
  rw [lg_entry_eq]
  generalize (lg_sl ([.ref (a 0), .int 1, .int (nI v)] : List Value) ++ List.replicate (4 - (lg_sl ([.ref (a 0), .int 1, .int (nI v)] : List Value)).length) Slot.unset).toArray = ls at hl ⊢
  have hl : lv_has ls 4 [(0, .ref (a 0)), (1, .int 1), (2, .int (nI v))] := hl
  refine lv_aload_n hx hb dX5_set_0 rfl (lv_at hl 0 rfl) ?_
  refine lv_iload_n hx hb dX5_set_1 rfl (lv_at hl 1 rfl) ?_
  refine lv_iconst (v := 0) hx hb dX5_set_2 (by decide) ?_
  refine lv_iconst (v := 1) hx hb dX5_set_3 (by decide) ?_
  refine ro_S (As := [.int 1, .int 0, .int 1]) (rest := [.ref (a 0)]) ⟨hx, hb, hml, hown, hts⟩ (c_X5_in l D cA _ 1 0 1) (cwS2 3 hts gX5_set_X5_in rfl rfl rfl (by decide +kernel) ⟨Nat.le_of_ble_eq_true rfl, Nat.le_of_ble_eq_true rfl⟩) hKN rfl hl.1 rfl (lv_room (Nat.le_of_ble_eq_true rfl)) dX5_set_4 ⟨Nat.zero_le _, Nat.zero_le _⟩ ?_
  refine lz_top (v := 1) (inF_ok (k := 1) (a := 0) (b := 1) (by omega) (by omega) (by decide)) ?_
  refine lv_if_ne (tgt := 14) hx hb dX5_set_7 (by decide) (fun _ => ?_) (fun h => absurd h (by decide))
  refine lv_iload_n hx hb dX5_set_14 rfl (lv_at hl 2 rfl) ?_
  refine lv_iconst (v := 1) hx hb dX5_set_15 (by decide) ?_
  refine lv_iload_n hx hb dX5_set_16 rfl (lv_at hl 1 rfl) ?_
  refine lz_isub (v := 0) hx hb dX5_set_17 (by decide) ?_
  refine lv_iload_n hx hb dX5_set_18 rfl (lv_at hl 1 rfl) ?_
  refine lv_if_ne (tgt := 27) hx hb dX5_set_19 (by decide) (fun _ => ?_) (fun h => absurd h (by decide))
  refine lv_iconst (v := 1) hx hb dX5_set_27 (by decide) ?_
  refine ro_S (As := [.int (nI v), .int 0, .int 1]) (rest := [.ref (a 0)]) ⟨hx, hb, hml, hown, hts⟩ (c_X5_in l D cA _ (nI v) 0 1) (cwS2 3 hts gX5_set_X5_in rfl rfl rfl (by decide +kernel) ⟨Nat.le_of_ble_eq_true rfl, Nat.le_of_ble_eq_true rfl⟩) hKN rfl hl.1 rfl (lv_room (Nat.le_of_ble_eq_true rfl)) dX5_set_28 ⟨Nat.zero_le _, Nat.zero_le _⟩ ?_
  refine lz_top (v := 1) (inF_ok (k := v) (a := 0) (b := 1) (by omega) (by omega) (by decide)) ?_
  refine lv_if_ne (tgt := 38) hx hb dX5_set_31 (by decide) (fun _ => ?_) (fun h => absurd h (by decide))
  refine lv_iconst (v := 0) hx hb dX5_set_38 (by decide) ?_
  refine mu_V (ci := 5) (q0 := 0) (As := [.int 0]) (rest := []) (ws' := (wMd cA a (0, f, 0, kp, tx, 0, wo, 0, 0, hs))) ⟨hx, hb, hml, hown, hts⟩ (c_X5_holds0 l D cA _ a (th, f, 0, kp, tx, 0, wo, 0, 0, hs) hP (hD.weaken (fun _ _ _ _ => trivial))) (cwV 1 hts gX5_set_X5_holds rfl rfl rfl (by decide +kernel) ⟨Nat.le_of_ble_eq_true rfl, Nat.le_of_ble_eq_true rfl⟩) hKN hP hD hS hA rfl rfl [0, 1, 2, 3, 4] rfl ((wMd_fst _ _ _).trans (wMd_fst _ _ _).symm) rfl rfl hl.1 rfl (lv_room (Nat.le_of_ble_eq_true rfl)) dX5_set_39 ⟨Nat.zero_le _, Nat.zero_le _⟩ (fun H locs hP hD hS => ?_)
  refine lv_if_ne (tgt := 47) hx hb dX5_set_42 (by decide) (fun _ => ?_) (fun h => absurd h (by decide))
  refine lv_aload_n hx hb dX5_set_47 rfl (lv_at hl 0 rfl) ?_
  refine mu_V (ci := 5) (q0 := 0) (As := []) (rest := []) (ws' := (wMd cA a (0, (cpT f (62 * 0) (62 * 1) 62), 1, kp, tx, 0, wo, 0, 0, hs))) ⟨hx, hb, hml, hown, hts⟩ (c_X5_save l D cA _ a 0 f kp tx wo hs hP (hD.weaken (fun _ _ _ _ => trivial))) (cwV 0 hts gX5_set_X5_save rfl rfl rfl (by decide +kernel) ⟨Nat.le_of_ble_eq_true rfl, Nat.le_of_ble_eq_true rfl⟩) hKN hP hD hS hA rfl rfl [0, 1, 2, 3, 4] rfl ((wMd_fst _ _ _).trans (wMd_fst _ _ _).symm) rfl rfl hl.1 rfl (lv_room (Nat.le_of_ble_eq_true rfl)) dX5_set_48 ⟨Nat.zero_le _, Nat.zero_le _⟩ (fun H locs hP hD hS => ?_)
  refine lv_aload_n hx hb dX5_set_51 rfl (lv_at hl 0 rfl) ?_
  refine va_get (D := D) (ci := 5) (v := .ref (a 1)) (C := RX5) (T := TX5) (N := 10) hx hb hts iX5_set_X5 hown hK hP 0 rfl rfl 1 (by decide) (hts _ mX5_set_f7) (fun _ h9 => h9) rfl dX5_set_52 ?_
  refine lv_bipush (v := 25) hx hb dX5_set_55 (by decide) ?_
  refine lv_iload_n hx hb dX5_set_57 rfl (lv_at hl 1 rfl) ?_
  refine lz_iadd (v := 26) hx hb dX5_set_58 (by decide) ?_
  refine lz_iald (k := 26) (f := (cpT f (62 * 0) (62 * 1) 62)) hx hb hK hP 1 0 rfl rfl ⟨by decide, by decide⟩ dX5_set_59 ?_
  refine lv_istore_n (lv' := [(3, .int ((cpT f (62 * 0) (62 * 1) 62) 26)), (0, .ref (a 0)), (1, .int 1), (2, .int (nI v))]) hx hb dX5_set_60 rfl hl (by decide) rfl (fun ls hl => ?_)
  refine lv_aload_n hx hb dX5_set_61 rfl (lv_at hl 1 rfl) ?_
  refine va_get (D := D) (ci := 5) (v := .ref (a 1)) (C := RX5) (T := TX5) (N := 10) hx hb hts iX5_set_X5 hown hK hP 0 rfl rfl 1 (by decide) (hts _ mX5_set_f7) (fun _ h9 => h9) rfl dX5_set_62 ?_
  refine lv_bipush (v := 25) hx hb dX5_set_65 (by decide) ?_
  refine lv_iload_n hx hb dX5_set_67 rfl (lv_at hl 2 rfl) ?_
  refine lz_iadd (v := 26) hx hb dX5_set_68 (by decide) ?_
  refine lv_iload_n hx hb dX5_set_69 rfl (lv_at hl 3 rfl) ?_
  refine lz_iast (k := 26) (f := (cpT f (62 * 0) (62 * 1) 62)) hx hb hK hP hD hS 1 0 rfl rfl ⟨by decide, by decide⟩ dX5_set_70 (fun H locs hP hD hS => ?_)
  have hP : va_P D vwCl (wMd cA a (0, (upd (cpT f (62 * 0) (62 * 1) 62) 26 (nI v)), 1, kp, tx, 0, wo, 0, 0, hs)) H := hP
  have hD : va_D A (wMd cA a (0, (upd (cpT f (62 * 0) (62 * 1) 62) 26 (nI v)), 1, kp, tx, 0, wo, 0, 0, hs)) := hD
  refine lv_iload_n hx hb dX5_set_71 rfl (lv_at hl 0 rfl) ?_
  exact mu_iret hx hb hr hlocks dX5_set_72 hAe hS hP rfl
set_option maxHeartbeats 4000000 in
set_option maxRecDepth 100000 in
theorem c_X5_read (l : Launch) (D : va_G) (cA : Nat → ClassId) (H : Heap) (a : Nat → Nat) (th : Int32) (f kp tx wo : Nat → Int32) (hs : Int64) (t : Nat) (ht : t < 16) (hF : FR f 0) (hP0 : va_P D vwCl (wMd cA a (th, f, 0, kp, tx, 0, wo, 0, 0, hs)) H) (hD0 : va_D (fun _ => True) (wMd cA a (th, f, 0, kp, tx, 0, wo, 0, 0, hs))) : MU l yX5_read wsX5_read ({ frames := 7, cells := 0, slots := 0, locals := 169 } : Room) D cA [.ref (a 0), .int (nI t)] H (wMd cA a (th, f, 0, kp, tx, 0, wo, 0, 0, hs)) (wMd cA a (0, (rdF (cpT f (62 * 0) (62 * 1) 62) 0 t), 1, kp, tx, 0, wo, 0, 0, hs)) (some (.int 0)) := by
  refine Met.ofW (cc := cX5_read) (maxL := 2) (ret := (some .int)) (by decide) rfl ?_
  intro p e s m args below meth c s₁ B hml hv
  obtain ⟨rfl, hH, hKN⟩ := hv
  have hK := hKN.1
  have hx := B.exec
  have hb := B.bytes
  have hr := B.returns
  have hts := atoms_spec (ws := wsX5_read) B.pre
  have hown : s.vm.findClass RX5 = some m.cls := findClass_of_methodNamed B.named
  have hlocks := B.notSynchronized
  subst hH
  have hD := hD0.self (sz := s.heap.size)
  generalize hAe : va_A (wMd cA a (th, f, 0, kp, tx, 0, wo, 0, 0, hs)) s.heap.size = A at hD ⊢
  have hA : ∀ q : Nat, s.heap.size ≤ q → A q := fun q h => by rw [← hAe]; exact Or.inr h
  have hS : va_S A s.heap s.heap [] := va_S.rf
  have hP : va_P D vwCl (wMd cA a (th, f, 0, kp, tx, 0, wo, 0, 0, hs)) s.heap := hP0
  have hl := lv_entry ([.ref (a 0), .int (nI t)] : List Value) (n := 2) (Nat.le_of_ble_eq_true rfl)
  rw [lg_entry_eq]
  generalize (lg_sl ([.ref (a 0), .int (nI t)] : List Value) ++ List.replicate (2 - (lg_sl ([.ref (a 0), .int (nI t)] : List Value)).length) Slot.unset).toArray = ls at hl ⊢
  have hl : lv_has ls 2 [(0, .ref (a 0)), (1, .int (nI t))] := hl
  refine lv_aload_n hx hb dX5_read_0 rfl (lv_at hl 0 rfl) ?_
  refine lv_iload_n hx hb dX5_read_1 rfl (lv_at hl 1 rfl) ?_
  refine ro_S (As := [.int (nI t)]) (rest := [.ref (a 0)]) ⟨hx, hb, hml, hown, hts⟩ (c_X5_isThread l D cA _ (nI t)) (cwS2 1 hts gX5_read_X5_isThread rfl rfl rfl (by decide +kernel) ⟨Nat.le_of_ble_eq_true rfl, Nat.le_of_ble_eq_true rfl⟩) hKN rfl hl.1 rfl (lv_room (Nat.le_of_ble_eq_true rfl)) dX5_read_2 ⟨Nat.zero_le _, Nat.zero_le _⟩ ?_
  refine lz_top (v := 1) (inF_ok (k := t) (a := 0) (b := 15) (by omega) (by omega) (by decide)) ?_
  refine lv_if_eq (tgt := 12) hx hb dX5_read_5 (by decide) (fun h => absurd h (by decide)) (fun _ => ?_)
  refine lv_iconst (v := 0) hx hb dX5_read_8 (by decide) ?_
  refine lv_goto (tgt := 13) hx hb dX5_read_9 (by decide) ?_
  refine mu_V (ci := 5) (q0 := 0) (As := [.int 0]) (rest := []) (ws' := (wMd cA a (0, f, 0, kp, tx, 0, wo, 0, 0, hs))) ⟨hx, hb, hml, hown, hts⟩ (c_X5_holds0 l D cA _ a (th, f, 0, kp, tx, 0, wo, 0, 0, hs) hP (hD.weaken (fun _ _ _ _ => trivial))) (cwV 1 hts gX5_read_X5_holds rfl rfl rfl (by decide +kernel) ⟨Nat.le_of_ble_eq_true rfl, Nat.le_of_ble_eq_true rfl⟩) hKN hP hD hS hA rfl rfl [0, 1, 2, 3, 4] rfl ((wMd_fst _ _ _).trans (wMd_fst _ _ _).symm) rfl rfl hl.1 rfl (lv_room (Nat.le_of_ble_eq_true rfl)) dX5_read_13 ⟨Nat.zero_le _, Nat.zero_le _⟩ (fun H locs hP hD hS => ?_)
  refine lv_if_ne (tgt := 21) hx hb dX5_read_16 (by decide) (fun _ => ?_) (fun h => absurd h (by decide))
  refine lv_aload_n hx hb dX5_read_21 rfl (lv_at hl 0 rfl) ?_
  refine mu_V (ci := 5) (q0 := 0) (As := []) (rest := []) (ws' := (wMd cA a (0, (cpT f (62 * 0) (62 * 1) 62), 1, kp, tx, 0, wo, 0, 0, hs))) ⟨hx, hb, hml, hown, hts⟩ (c_X5_save l D cA _ a 0 f kp tx wo hs hP (hD.weaken (fun _ _ _ _ => trivial))) (cwV 0 hts gX5_read_X5_save rfl rfl rfl (by decide +kernel) ⟨Nat.le_of_ble_eq_true rfl, Nat.le_of_ble_eq_true rfl⟩) hKN hP hD hS hA rfl rfl [0, 1, 2, 3, 4] rfl ((wMd_fst _ _ _).trans (wMd_fst _ _ _).symm) rfl rfl hl.1 rfl (lv_room (Nat.le_of_ble_eq_true rfl)) dX5_read_22 ⟨Nat.zero_le _, Nat.zero_le _⟩ (fun H locs hP hD hS => ?_)
  refine lv_aload_n hx hb dX5_read_25 rfl (lv_at hl 0 rfl) ?_
  refine lv_iconst (v := 0) hx hb dX5_read_26 (by decide) ?_
  refine lv_iload_n hx hb dX5_read_27 rfl (lv_at hl 1 rfl) ?_
  refine mu_V (ci := 5) (q0 := 0) (As := [.int 0, .int (nI t)]) (rest := []) (ws' := (wMd cA a (0, (rdF (cpT f (62 * 0) (62 * 1) 62) 0 t), 1, kp, tx, 0, wo, 0, 0, hs))) ⟨hx, hb, hml, hown, hts⟩ (c_X5_reads l D cA _ a (0, (cpT f (62 * 0) (62 * 1) 62), 1, kp, tx, 0, wo, 0, 0, hs) 0 (by omega) t (by omega) (FR.ZR (FR.off hF (by omega))) hP (hD.weaken (fun _ _ _ _ => trivial))) (cwV 2 hts gX5_read_X5_reads rfl rfl rfl (by decide +kernel) ⟨Nat.le_of_ble_eq_true rfl, Nat.le_of_ble_eq_true rfl⟩) hKN hP hD hS hA rfl rfl [0, 1, 2, 3, 4] rfl ((wMd_fst _ _ _).trans (wMd_fst _ _ _).symm) rfl rfl hl.1 rfl (lv_room (Nat.le_of_ble_eq_true rfl)) dX5_read_28 ⟨Nat.zero_le _, Nat.zero_le _⟩ (fun H locs hP hD hS => ?_)
  exact mu_iret hx hb hr hlocks dX5_read_31 hAe hS hP rfl
theorem mX5_start_f23 : Cond.fieldLink RX5 23 "WireLoomModel" "thrown" "I" ∈ wsX5_start := by decide +kernel
theorem mX5_start_f7 : Cond.fieldLink RX5 7 "WireLoomModel" "s" "[I" ∈ wsX5_start := by decide +kernel
set_option maxRecDepth 20000 in
theorem iX5_start_X5 : ∀ w ∈ wsX50, w ∈ wsX5_start := by decide +kernel
set_option maxHeartbeats 4000000 in
set_option maxRecDepth 100000 in
theorem c_X5_start (l : Launch) (D : va_G) (cA : Nat → ClassId) (H : Heap) (a : Nat → Nat) (th : Int32) (f kp tx wo : Nat → Int32) (hs : Int64) (hF : FR f 0) (hP0 : va_P D vwCl (wMd cA a (th, f, 0, kp, tx, 0, wo, 0, 0, hs)) H) (hD0 : va_D (fun _ => True) (wMd cA a (th, f, 0, kp, tx, 0, wo, 0, 0, hs))) : MU l yX5_start wsX5_start ({ frames := 2, cells := 0, slots := 0, locals := 44 } : Room) D cA [.ref (a 0)] H (wMd cA a (th, f, 0, kp, tx, 0, wo, 0, 0, hs)) (wMd cA a (0, (upd (zeT (cpT f (62 * 0) (62 * 1) 62) 44) 33 1), 1, kp, tx, 0, wo, 0, 0, hs)) (some (.int ((cpT f (62 * 0) (62 * 1) 62) 34))) := by
  refine Met.ofW (cc := cX5_start) (maxL := 3) (ret := (some .int)) (by decide) rfl ?_
  intro p e s m args below meth c s₁ B hml hv
  obtain ⟨rfl, hH, hKN⟩ := hv
  have hK := hKN.1
  have hx := B.exec
  have hb := B.bytes
  have hr := B.returns
  have hts := atoms_spec (ws := wsX5_start) B.pre
  have hown : s.vm.findClass RX5 = some m.cls := findClass_of_methodNamed B.named
  have hlocks := B.notSynchronized
  subst hH
  have hD := hD0.self (sz := s.heap.size)
  generalize hAe : va_A (wMd cA a (th, f, 0, kp, tx, 0, wo, 0, 0, hs)) s.heap.size = A at hD ⊢
  have hA : ∀ q : Nat, s.heap.size ≤ q → A q := fun q h => by rw [← hAe]; exact Or.inr h
  have hS : va_S A s.heap s.heap [] := va_S.rf
  have hP : va_P D vwCl (wMd cA a (th, f, 0, kp, tx, 0, wo, 0, 0, hs)) s.heap := hP0
  have hl := lv_entry ([.ref (a 0)] : List Value) (n := 3) (Nat.le_of_ble_eq_true rfl)
  rw [lg_entry_eq]
  generalize (lg_sl ([.ref (a 0)] : List Value) ++ List.replicate (3 - (lg_sl ([.ref (a 0)] : List Value)).length) Slot.unset).toArray = ls at hl ⊢
  have hl : lv_has ls 3 [(0, .ref (a 0))] := hl
  refine lv_aload_n hx hb dX5_start_0 rfl (lv_at hl 0 rfl) ?_
  refine lv_iconst (v := 0) hx hb dX5_start_1 (by decide) ?_
  refine va_put (D := D) (ci := 5) (v := .int 0) (ty := .int) (C := RX5) (T := TX5) (N := 10) hx hb hts iX5_start_X5 tyX5 tyX5_ok nmX5 hown hK hP hD hS 0 rfl rfl 0 (by decide) (hts _ mX5_start_f23) (fun _ h9 => h9) rfl (by decide +kernel) rfl rfl (Nat.le_of_ble_eq_true rfl) dX5_start_2 (fun H locs hP hD hS => ?_)
  have hP : va_P D vwCl (wMd cA a (0, f, 0, kp, tx, 0, wo, 0, 0, hs)) H := hP
  have hD : va_D A (wMd cA a (0, f, 0, kp, tx, 0, wo, 0, 0, hs)) := hD
  refine lv_aload_n hx hb dX5_start_5 rfl (lv_at hl 0 rfl) ?_
  refine mu_V (ci := 5) (q0 := 0) (As := []) (rest := []) (ws' := (wMd cA a (0, (cpT f (62 * 0) (62 * 1) 62), 1, kp, tx, 0, wo, 0, 0, hs))) ⟨hx, hb, hml, hown, hts⟩ (c_X5_save l D cA _ a 0 f kp tx wo hs hP (hD.weaken (fun _ _ _ _ => trivial))) (cwV 0 hts gX5_start_X5_save rfl rfl rfl (by decide +kernel) ⟨Nat.le_of_ble_eq_true rfl, Nat.le_of_ble_eq_true rfl⟩) hKN hP hD hS hA rfl rfl [0, 1, 2, 3, 4] rfl ((wMd_fst _ _ _).trans (wMd_fst _ _ _).symm) rfl rfl hl.1 rfl (lv_room (Nat.le_of_ble_eq_true rfl)) dX5_start_6 ⟨Nat.zero_le _, Nat.zero_le _⟩ (fun H locs hP hD hS => ?_)
  refine lv_aload_n hx hb dX5_start_9 rfl (lv_at hl 0 rfl) ?_
  refine va_get (D := D) (ci := 5) (v := .ref (a 1)) (C := RX5) (T := TX5) (N := 10) hx hb hts iX5_start_X5 hown hK hP 0 rfl rfl 1 (by decide) (hts _ mX5_start_f7) (fun _ h9 => h9) rfl dX5_start_10 ?_
  refine lv_bipush (v := 34) hx hb dX5_start_13 (by decide) ?_
  refine lz_iald (k := 34) (f := (cpT f (62 * 0) (62 * 1) 62)) hx hb hK hP 1 0 rfl rfl ⟨by decide, by decide⟩ dX5_start_15 ?_
  refine lv_istore_n (lv' := [(1, .int ((cpT f (62 * 0) (62 * 1) 62) 34)), (0, .ref (a 0))]) hx hb dX5_start_16 rfl hl (by decide) rfl (fun ls hl => ?_)
  refine lv_bipush (v := 27) hx hb dX5_start_17 (by decide) ?_
  refine lv_istore_n (lv' := [(2, .int 27), (1, .int ((cpT f (62 * 0) (62 * 1) 62) 34)), (0, .ref (a 0))]) hx hb dX5_start_19 rfl hl (by decide) rfl (fun ls hl => ?_)
  have loop20 : ∀ (n20 k20 : Nat), k20 + n20 = 44 → ∀ (H : Heap) (locs : List Loc), va_P D vwCl (wMd cA a (0, (zeT (cpT f (62 * 0) (62 * 1) 62) k20), 1, kp, tx, 0, wo, 0, 0, hs)) H → va_D A (wMd cA a (0, (zeT (cpT f (62 * 0) (62 * 1) 62) k20), 1, kp, tx, 0, wo, 0, 0, hs)) → va_S A s.heap H locs → 27 ≤ k20 → ∀ (ls : Array Slot), lv_has ls 3 [(2, .int (nI k20)), (1, .int ((cpT f (62 * 0) (62 * 1) 62) 34)), (0, .ref (a 0))] → W p l e ({ frames := 2, cells := 0, slots := 0, locals := 44 } : Room) s m ([.ref (a 0)] : List Value).toArray below meth c H locs 0 0 (MQ below (muQ D s.heap (wMd cA a (th, f, 0, kp, tx, 0, wo, 0, 0, hs)) (wMd cA a (0, (upd (zeT (cpT f (62 * 0) (62 * 1) 62) 44) 33 1), 1, kp, tx, 0, wo, 0, 0, hs)) (some (.int ((cpT f (62 * 0) (62 * 1) 62) 34)))) ([.ref (a 0)] : List Value).toArray s 0 0 A) (F0 m 20 ls []) := by
    intro n20
    induction n20 with
    | zero =>
      intro k20 hk20 H locs hP hD hS hq20 ls hl
      obtain rfl : 44 = k20 := by omega
      refine lv_iload_n hx hb dX5_start_20 rfl (lv_at hl 0 rfl) ?_
      refine lv_bipush (v := 44) hx hb dX5_start_21 (by decide) ?_
      refine lv_icmp_ge (tgt := 39) hx hb dX5_start_23 (by decide) (fun _ => ?_) (fun h => absurd (by decide) h)
      refine lv_aload_n hx hb dX5_start_39 rfl (lv_at hl 2 rfl) ?_
      refine va_get (D := D) (ci := 5) (v := .ref (a 1)) (C := RX5) (T := TX5) (N := 10) hx hb hts iX5_start_X5 hown hK hP 0 rfl rfl 1 (by decide) (hts _ mX5_start_f7) (fun _ h9 => h9) rfl dX5_start_40 ?_
      refine lv_bipush (v := 33) hx hb dX5_start_43 (by decide) ?_
      refine lv_iconst (v := 1) hx hb dX5_start_45 (by decide) ?_
      refine lz_iast (k := 33) (f := (zeT (cpT f (62 * 0) (62 * 1) 62) 44)) hx hb hK hP hD hS 1 0 rfl rfl ⟨by decide, by decide⟩ dX5_start_46 (fun H locs hP hD hS => ?_)
      have hP : va_P D vwCl (wMd cA a (0, (upd (zeT (cpT f (62 * 0) (62 * 1) 62) 44) 33 1), 1, kp, tx, 0, wo, 0, 0, hs)) H := hP
      have hD : va_D A (wMd cA a (0, (upd (zeT (cpT f (62 * 0) (62 * 1) 62) 44) 33 1), 1, kp, tx, 0, wo, 0, 0, hs)) := hD
      refine lv_iload_n hx hb dX5_start_47 rfl (lv_at hl 1 rfl) ?_
      exact mu_iret hx hb hr hlocks dX5_start_48 hAe hS hP rfl
    | succ n20 ih20 =>
      intro k20 hk20 H locs hP hD hS hq20 ls hl
      have hlt20 : k20 < 44 := by omega
      refine lv_iload_n hx hb dX5_start_20 rfl (lv_at hl 0 rfl) ?_
      refine lv_bipush (v := 44) hx hb dX5_start_21 (by decide) ?_
      refine lv_icmp_ge (tgt := 39) hx hb dX5_start_23 (by decide) (fun h => absurd h (nI_ge hlt20 (by first | decide | omega))) (fun _ => ?_)
      refine lv_aload_n hx hb dX5_start_26 rfl (lv_at hl 2 rfl) ?_
      refine va_get (D := D) (ci := 5) (v := .ref (a 1)) (C := RX5) (T := TX5) (N := 10) hx hb hts iX5_start_X5 hown hK hP 0 rfl rfl 1 (by decide) (hts _ mX5_start_f7) (fun _ h9 => h9) rfl dX5_start_27 ?_
      refine lv_iload_n hx hb dX5_start_30 rfl (lv_at hl 0 rfl) ?_
      refine lv_iconst (v := 0) hx hb dX5_start_31 (by decide) ?_
      refine lz_iast (k := k20) (f := (zeT (cpT f (62 * 0) (62 * 1) 62) k20)) hx hb hK hP hD hS 1 0 rfl rfl ⟨by omega, by decide⟩ dX5_start_32 (fun H locs hP hD hS => ?_)
      have hP : va_P D vwCl (wMd cA a (0, (upd (zeT (cpT f (62 * 0) (62 * 1) 62) k20) k20 0), 1, kp, tx, 0, wo, 0, 0, hs)) H := hP
      have hD : va_D A (wMd cA a (0, (upd (zeT (cpT f (62 * 0) (62 * 1) 62) k20) k20 0), 1, kp, tx, 0, wo, 0, 0, hs)) := hD
      refine lv_iinc (v := (nI (k20 + 1))) (lv' := [(2, .int (nI (k20 + 1))), (1, .int ((cpT f (62 * 0) (62 * 1) 62) 34)), (0, .ref (a 0))]) hx hb dX5_start_33 hl (k := 0) rfl (nI_1 _) (by decide) rfl (fun ls hl => ?_)
      refine lv_goto (tgt := 20) hx hb dX5_start_36 (by decide) ?_
      have e_1 : (zeT (cpT f (62 * 0) (62 * 1) 62) (k20 + 1)) = (upd (zeT (cpT f (62 * 0) (62 * 1) 62) k20) k20 0) := (zeT_succ hq20)
      exact ih20 (k20 + 1) (by omega) _ _ (by rw [e_1]; exact hP) (by rw [e_1]; exact hD) hS (by omega) ls (lv_sub hl [0, 1, 2] rfl)
  exact loop20 (44 - 27) 27 (by omega) _ _ (by rw [zeT_27]; exact hP) (by rw [zeT_27]; exact hD) hS (by omega) ls (lv_sub hl [0, 1, 2] rfl)
set_option maxHeartbeats 4000000 in
set_option maxRecDepth 100000 in
theorem c_X5_go (l : Launch) (D : va_G) (cA : Nat → ClassId) (H : Heap) (a : Nat → Nat) (th : Int32) (f kp tx wo : Nat → Int32) (hs : Int64) (st : Nat) (hst : 1 ≤ st) (hst2 : st ≤ 99) (hF : FR f 0) (hP0 : va_P D vwCl (wMd cA a (th, f, 0, kp, tx, 0, wo, 0, 0, hs)) H) (hD0 : va_D (fun _ => True) (wMd cA a (th, f, 0, kp, tx, 0, wo, 0, 0, hs))) : MU l yX5_go wsX5_go ({ frames := 9, cells := 0, slots := 0, locals := 216 } : Room) D cA [.ref (a 0), .int (nI st)] H (wMd cA a (th, f, 0, kp, tx, 0, wo, 0, 0, hs)) (wMd cA a (0, (stF (cpT f (62 * 0) (62 * 1) 62) 0), 1, kp, tx, 0, wo, 0, 0, hs)) (some (.int 1)) := by
  refine Met.ofW (cc := cX5_go) (maxL := 2) (ret := (some .int)) (by decide) rfl ?_
  intro p e s m args below meth c s₁ B hml hv
  obtain ⟨rfl, hH, hKN⟩ := hv
  have hK := hKN.1
  have hx := B.exec
  have hb := B.bytes
  have hr := B.returns
  have hts := atoms_spec (ws := wsX5_go) B.pre
  have hown : s.vm.findClass RX5 = some m.cls := findClass_of_methodNamed B.named
  have hlocks := B.notSynchronized
  subst hH
  have hD := hD0.self (sz := s.heap.size)
  generalize hAe : va_A (wMd cA a (th, f, 0, kp, tx, 0, wo, 0, 0, hs)) s.heap.size = A at hD ⊢
  have hA : ∀ q : Nat, s.heap.size ≤ q → A q := fun q h => by rw [← hAe]; exact Or.inr h
  have hS : va_S A s.heap s.heap [] := va_S.rf
  have hP : va_P D vwCl (wMd cA a (th, f, 0, kp, tx, 0, wo, 0, 0, hs)) s.heap := hP0
  have hl := lv_entry ([.ref (a 0), .int (nI st)] : List Value) (n := 2) (Nat.le_of_ble_eq_true rfl)
  rw [lg_entry_eq]
  generalize (lg_sl ([.ref (a 0), .int (nI st)] : List Value) ++ List.replicate (2 - (lg_sl ([.ref (a 0), .int (nI st)] : List Value)).length) Slot.unset).toArray = ls at hl ⊢
  have hl : lv_has ls 2 [(0, .ref (a 0)), (1, .int (nI st))] := hl
  refine lv_aload_n hx hb dX5_go_0 rfl (lv_at hl 0 rfl) ?_
  refine lv_iload_n hx hb dX5_go_1 rfl (lv_at hl 1 rfl) ?_
  refine lv_iconst (v := 1) hx hb dX5_go_2 (by decide) ?_
  refine lv_bipush (v := 99) hx hb dX5_go_3 (by decide) ?_
  refine ro_S (As := [.int (nI st), .int 1, .int 99]) (rest := [.ref (a 0)]) ⟨hx, hb, hml, hown, hts⟩ (c_X5_in l D cA _ (nI st) 1 99) (cwS2 3 hts gX5_go_X5_in rfl rfl rfl (by decide +kernel) ⟨Nat.le_of_ble_eq_true rfl, Nat.le_of_ble_eq_true rfl⟩) hKN rfl hl.1 rfl (lv_room (Nat.le_of_ble_eq_true rfl)) dX5_go_5 ⟨Nat.zero_le _, Nat.zero_le _⟩ ?_
  refine lz_top (v := 1) (inF_ok (k := st) (a := 1) (b := 99) (by omega) (by omega) (by decide)) ?_
  refine lv_if_eq (tgt := 15) hx hb dX5_go_8 (by decide) (fun h => absurd h (by decide)) (fun _ => ?_)
  refine lv_iconst (v := 0) hx hb dX5_go_11 (by decide) ?_
  refine lv_goto (tgt := 16) hx hb dX5_go_12 (by decide) ?_
  refine mu_V (ci := 5) (q0 := 0) (As := [.int 0]) (rest := []) (ws' := (wMd cA a (0, f, 0, kp, tx, 0, wo, 0, 0, hs))) ⟨hx, hb, hml, hown, hts⟩ (c_X5_holds0 l D cA _ a (th, f, 0, kp, tx, 0, wo, 0, 0, hs) hP (hD.weaken (fun _ _ _ _ => trivial))) (cwV 1 hts gX5_go_X5_holds rfl rfl rfl (by decide +kernel) ⟨Nat.le_of_ble_eq_true rfl, Nat.le_of_ble_eq_true rfl⟩) hKN hP hD hS hA rfl rfl [0, 1, 2, 3, 4] rfl ((wMd_fst _ _ _).trans (wMd_fst _ _ _).symm) rfl rfl hl.1 rfl (lv_room (Nat.le_of_ble_eq_true rfl)) dX5_go_16 ⟨Nat.zero_le _, Nat.zero_le _⟩ (fun H locs hP hD hS => ?_)
  refine lv_if_ne (tgt := 24) hx hb dX5_go_19 (by decide) (fun _ => ?_) (fun h => absurd h (by decide))
  refine lv_aload_n hx hb dX5_go_24 rfl (lv_at hl 0 rfl) ?_
  refine mu_V (ci := 5) (q0 := 0) (As := []) (rest := []) (ws' := (wMd cA a (0, (cpT f (62 * 0) (62 * 1) 62), 1, kp, tx, 0, wo, 0, 0, hs))) ⟨hx, hb, hml, hown, hts⟩ (c_X5_save l D cA _ a 0 f kp tx wo hs hP (hD.weaken (fun _ _ _ _ => trivial))) (cwV 0 hts gX5_go_X5_save rfl rfl rfl (by decide +kernel) ⟨Nat.le_of_ble_eq_true rfl, Nat.le_of_ble_eq_true rfl⟩) hKN hP hD hS hA rfl rfl [0, 1, 2, 3, 4] rfl ((wMd_fst _ _ _).trans (wMd_fst _ _ _).symm) rfl rfl hl.1 rfl (lv_room (Nat.le_of_ble_eq_true rfl)) dX5_go_25 ⟨Nat.zero_le _, Nat.zero_le _⟩ (fun H locs hP hD hS => ?_)
  refine lv_aload_n hx hb dX5_go_28 rfl (lv_at hl 0 rfl) ?_
  refine lv_iconst (v := 0) hx hb dX5_go_29 (by decide) ?_
  refine lv_iload_n hx hb dX5_go_30 rfl (lv_at hl 1 rfl) ?_
  refine mu_V (ci := 5) (q0 := 0) (As := [.int 0, .int (nI st)]) (rest := []) (ws' := (wMd cA a (0, (stF (cpT f (62 * 0) (62 * 1) 62) 0), 1, kp, tx, 0, wo, 0, 0, hs))) ⟨hx, hb, hml, hown, hts⟩ (c_X5_goes l D cA _ a (0, (cpT f (62 * 0) (62 * 1) 62), 1, kp, tx, 0, wo, 0, 0, hs) 0 (by omega) (FR.ZR (FR.off hF (by omega))) ((FR.off hF (by omega) : FR (cpT f (62 * 0) (62 * 1) 62) 0).z (j := 27) (by omega) (by omega) (by omega)) ((FR.off hF (by omega) : FR (cpT f (62 * 0) (62 * 1) 62) 0).ru) st (by omega) (by omega) hP (hD.weaken (fun _ _ _ _ => trivial))) (cwV 2 hts gX5_go_X5_goes rfl rfl rfl (by decide +kernel) ⟨Nat.le_of_ble_eq_true rfl, Nat.le_of_ble_eq_true rfl⟩) hKN hP hD hS hA rfl rfl [0, 1, 2, 3, 4] rfl ((wMd_fst _ _ _).trans (wMd_fst _ _ _).symm) rfl rfl hl.1 rfl (lv_room (Nat.le_of_ble_eq_true rfl)) dX5_go_31 ⟨Nat.zero_le _, Nat.zero_le _⟩ (fun H locs hP hD hS => ?_)
  exact mu_iret hx hb hr hlocks dX5_go_34 hAe hS hP rfl
theorem mX5_append_f105 : Cond.fieldLink RX5 105 "WireLoomModel" "length" "I" ∈ wsX5_append := by decide +kernel
theorem mX5_append_f17 : Cond.fieldLink RX5 17 "WireLoomModel" "text" "[I" ∈ wsX5_append := by decide +kernel
set_option maxRecDepth 20000 in
theorem iX5_append_X5 : ∀ w ∈ wsX50, w ∈ wsX5_append := by decide +kernel
set_option maxHeartbeats 4000000 in
set_option maxRecDepth 100000 in
theorem c_X5_append (l : Launch) (D : va_G) (cA : Nat → ClassId) (H : Heap) (a : Nat → Nat) (th : Int32) (f kp tx wo : Nat → Int32) (hs : Int64) (x : Nat) (h33 : 33 ≤ x) (h126 : x ≤ 126) (hF : FR f 0) (hP0 : va_P D vwCl (wMd cA a (th, f, 0, kp, tx, 0, wo, 0, 0, hs)) H) (hD0 : va_D (fun _ => True) (wMd cA a (th, f, 0, kp, tx, 0, wo, 0, 0, hs))) : MU l yX5_append wsX5_append ({ frames := 1, cells := 0, slots := 0, locals := 22 } : Room) D cA [.ref (a 0), .int (nI x)] H (wMd cA a (th, f, 0, kp, tx, 0, wo, 0, 0, hs)) (wMd cA a (0, f, 0, kp, (upd tx 0 (nI x)), 1, wo, 0, 0, hs)) (some (.int 1)) := by
  refine Met.ofW (cc := cX5_append) (maxL := 2) (ret := (some .int)) (by decide) rfl ?_
  intro p e s m args below meth c s₁ B hml hv
  obtain ⟨rfl, hH, hKN⟩ := hv
  have hK := hKN.1
  have hx := B.exec
  have hb := B.bytes
  have hr := B.returns
  have hts := atoms_spec (ws := wsX5_append) B.pre
  have hown : s.vm.findClass RX5 = some m.cls := findClass_of_methodNamed B.named
  have hlocks := B.notSynchronized
  subst hH
  have hD := hD0.self (sz := s.heap.size)
  generalize hAe : va_A (wMd cA a (th, f, 0, kp, tx, 0, wo, 0, 0, hs)) s.heap.size = A at hD ⊢
  have hA : ∀ q : Nat, s.heap.size ≤ q → A q := fun q h => by rw [← hAe]; exact Or.inr h
  have hS : va_S A s.heap s.heap [] := va_S.rf
  have hP : va_P D vwCl (wMd cA a (th, f, 0, kp, tx, 0, wo, 0, 0, hs)) s.heap := hP0
  have hl := lv_entry ([.ref (a 0), .int (nI x)] : List Value) (n := 2) (Nat.le_of_ble_eq_true rfl)
  rw [lg_entry_eq]
  generalize (lg_sl ([.ref (a 0), .int (nI x)] : List Value) ++ List.replicate (2 - (lg_sl ([.ref (a 0), .int (nI x)] : List Value)).length) Slot.unset).toArray = ls at hl ⊢
  have hl : lv_has ls 2 [(0, .ref (a 0)), (1, .int (nI x))] := hl
  refine lv_aload_n hx hb dX5_append_0 rfl (lv_at hl 0 rfl) ?_
  refine lv_iload_n hx hb dX5_append_1 rfl (lv_at hl 1 rfl) ?_
  refine lv_bipush (v := 33) hx hb dX5_append_2 (by decide) ?_
  refine lv_bipush (v := 126) hx hb dX5_append_4 (by decide) ?_
  refine ro_S (As := [.int (nI x), .int 33, .int 126]) (rest := [.ref (a 0)]) ⟨hx, hb, hml, hown, hts⟩ (c_X5_in l D cA _ (nI x) 33 126) (cwS2 3 hts gX5_append_X5_in rfl rfl rfl (by decide +kernel) ⟨Nat.le_of_ble_eq_true rfl, Nat.le_of_ble_eq_true rfl⟩) hKN rfl hl.1 rfl (lv_room (Nat.le_of_ble_eq_true rfl)) dX5_append_6 ⟨Nat.zero_le _, Nat.zero_le _⟩ ?_
  refine lz_top (v := 1) (inF_ok (k := x) (a := 33) (b := 126) (by omega) (by omega) (by decide)) ?_
  refine lv_if_ne (tgt := 16) hx hb dX5_append_9 (by decide) (fun _ => ?_) (fun h => absurd h (by decide))
  refine lv_aload_n hx hb dX5_append_16 rfl (lv_at hl 0 rfl) ?_
  refine va_get (D := D) (ci := 5) (v := .int 0) (C := RX5) (T := TX5) (N := 10) hx hb hts iX5_append_X5 hown hK hP 0 rfl rfl 5 (by decide) (hts _ mX5_append_f105) (fun _ h9 => h9) rfl dX5_append_17 ?_
  refine lv_bipush (v := 60) hx hb dX5_append_20 (by decide) ?_
  refine lv_icmp_ne (tgt := 29) hx hb dX5_append_22 (by decide) (fun _ => ?_) (fun h => absurd h (by decide))
  refine lv_iconst (v := 0) hx hb dX5_append_29 (by decide) ?_
  refine mu_V (ci := 5) (q0 := 0) (As := [.int 0]) (rest := []) (ws' := (wMd cA a (0, f, 0, kp, tx, 0, wo, 0, 0, hs))) ⟨hx, hb, hml, hown, hts⟩ (c_X5_holds0 l D cA _ a (th, f, 0, kp, tx, 0, wo, 0, 0, hs) hP (hD.weaken (fun _ _ _ _ => trivial))) (cwV 1 hts gX5_append_X5_holds rfl rfl rfl (by decide +kernel) ⟨Nat.le_of_ble_eq_true rfl, Nat.le_of_ble_eq_true rfl⟩) hKN hP hD hS hA rfl rfl [0, 1, 2, 3, 4] rfl ((wMd_fst _ _ _).trans (wMd_fst _ _ _).symm) rfl rfl hl.1 rfl (lv_room (Nat.le_of_ble_eq_true rfl)) dX5_append_30 ⟨Nat.zero_le _, Nat.zero_le _⟩ (fun H locs hP hD hS => ?_)
  refine lv_if_ne (tgt := 38) hx hb dX5_append_33 (by decide) (fun _ => ?_) (fun h => absurd h (by decide))
  refine lv_aload_n hx hb dX5_append_38 rfl (lv_at hl 0 rfl) ?_
  refine va_get (D := D) (ci := 5) (v := .ref (a 3)) (C := RX5) (T := TX5) (N := 10) hx hb hts iX5_append_X5 hown hK hP 0 rfl rfl 4 (by decide) (hts _ mX5_append_f17) (fun _ h9 => h9) rfl dX5_append_39 ?_
  refine lv_aload_n hx hb dX5_append_42 rfl (lv_at hl 0 rfl) ?_
  refine va_get (D := D) (ci := 5) (v := .int 0) (C := RX5) (T := TX5) (N := 10) hx hb hts iX5_append_X5 hown hK hP 0 rfl rfl 5 (by decide) (hts _ mX5_append_f105) (fun _ h9 => h9) rfl dX5_append_43 ?_
  refine lv_iload_n hx hb dX5_append_46 rfl (lv_at hl 1 rfl) ?_
  refine lz_iast (k := 0) (f := tx) hx hb hK hP hD hS 3 0 rfl rfl ⟨by decide, by decide⟩ dX5_append_47 (fun H locs hP hD hS => ?_)
  have hP : va_P D vwCl (wMd cA a (0, f, 0, kp, (upd tx 0 (nI x)), 0, wo, 0, 0, hs)) H := hP
  have hD : va_D A (wMd cA a (0, f, 0, kp, (upd tx 0 (nI x)), 0, wo, 0, 0, hs)) := hD
  refine lv_aload_n hx hb dX5_append_48 rfl (lv_at hl 0 rfl) ?_
  refine lv_dup hx hb dX5_append_49 rfl ?_
  refine va_get (D := D) (ci := 5) (v := .int 0) (C := RX5) (T := TX5) (N := 10) hx hb hts iX5_append_X5 hown hK hP 0 rfl rfl 5 (by decide) (hts _ mX5_append_f105) (fun _ h9 => h9) rfl dX5_append_50 ?_
  refine lv_iconst (v := 1) hx hb dX5_append_53 (by decide) ?_
  refine lz_iadd (v := 1) hx hb dX5_append_54 (by decide) ?_
  refine va_put (D := D) (ci := 5) (v := .int 1) (ty := .int) (C := RX5) (T := TX5) (N := 10) hx hb hts iX5_append_X5 tyX5 tyX5_ok nmX5 hown hK hP hD hS 0 rfl rfl 5 (by decide) (hts _ mX5_append_f105) (fun _ h9 => h9) rfl (by decide +kernel) rfl rfl (Nat.le_of_ble_eq_true rfl) dX5_append_55 (fun H locs hP hD hS => ?_)
  have hP : va_P D vwCl (wMd cA a (0, f, 0, kp, (upd tx 0 (nI x)), 1, wo, 0, 0, hs)) H := hP
  have hD : va_D A (wMd cA a (0, f, 0, kp, (upd tx 0 (nI x)), 1, wo, 0, 0, hs)) := hD
  refine lv_aload_n hx hb dX5_append_58 rfl (lv_at hl 0 rfl) ?_
  refine va_get (D := D) (ci := 5) (v := .int 1) (C := RX5) (T := TX5) (N := 10) hx hb hts iX5_append_X5 hown hK hP 0 rfl rfl 5 (by decide) (hts _ mX5_append_f105) (fun _ h9 => h9) rfl dX5_append_59 ?_
  exact mu_iret hx hb hr hlocks dX5_append_62 hAe hS hP rfl
theorem mX5_clearBuffer_f23 : Cond.fieldLink RX5 23 "WireLoomModel" "thrown" "I" ∈ wsX5_clearBuffer := by decide +kernel
theorem mX5_clearBuffer_f105 : Cond.fieldLink RX5 105 "WireLoomModel" "length" "I" ∈ wsX5_clearBuffer := by decide +kernel
set_option maxRecDepth 20000 in
theorem iX5_clearBuffer_X5 : ∀ w ∈ wsX50, w ∈ wsX5_clearBuffer := by decide +kernel
set_option maxHeartbeats 4000000 in
set_option maxRecDepth 100000 in
theorem c_X5_clearBuffer (l : Launch) (D : va_G) (cA : Nat → ClassId) (H : Heap) (a : Nat → Nat) (th : Int32) (f kp tx wo : Nat → Int32) (hs : Int64) (hF : FR f 0) (hP0 : va_P D vwCl (wMd cA a (th, f, 0, kp, tx, 0, wo, 0, 0, hs)) H) (hD0 : va_D (fun _ => True) (wMd cA a (th, f, 0, kp, tx, 0, wo, 0, 0, hs))) : MU l yX5_clearBuffer wsX5_clearBuffer ({ frames := 0, cells := 0, slots := 0, locals := 0 } : Room) D cA [.ref (a 0)] H (wMd cA a (th, f, 0, kp, tx, 0, wo, 0, 0, hs)) (wMd cA a (0, f, 0, kp, tx, 0, wo, 0, 0, hs)) (some (.int 0)) := by
  refine Met.ofW (cc := cX5_clearBuffer) (maxL := 2) (ret := (some .int)) (by decide) rfl ?_
  intro p e s m args below meth c s₁ B hml hv
  obtain ⟨rfl, hH, hKN⟩ := hv
  have hK := hKN.1
  have hx := B.exec
  have hb := B.bytes
  have hr := B.returns
  have hts := atoms_spec (ws := wsX5_clearBuffer) B.pre
  have hown : s.vm.findClass RX5 = some m.cls := findClass_of_methodNamed B.named
  have hlocks := B.notSynchronized
  subst hH
  have hD := hD0.self (sz := s.heap.size)
  generalize hAe : va_A (wMd cA a (th, f, 0, kp, tx, 0, wo, 0, 0, hs)) s.heap.size = A at hD ⊢
  have hA : ∀ q : Nat, s.heap.size ≤ q → A q := fun q h => by rw [← hAe]; exact Or.inr h
  have hS : va_S A s.heap s.heap [] := va_S.rf
  have hP : va_P D vwCl (wMd cA a (th, f, 0, kp, tx, 0, wo, 0, 0, hs)) s.heap := hP0
  have hl := lv_entry ([.ref (a 0)] : List Value) (n := 2) (Nat.le_of_ble_eq_true rfl)
  rw [lg_entry_eq]
  generalize (lg_sl ([.ref (a 0)] : List Value) ++ List.replicate (2 - (lg_sl ([.ref (a 0)] : List Value)).length) Slot.unset).toArray = ls at hl ⊢
  have hl : lv_has ls 2 [(0, .ref (a 0))] := hl
  refine lv_aload_n hx hb dX5_clearBuffer_0 rfl (lv_at hl 0 rfl) ?_
  refine lv_iconst (v := 0) hx hb dX5_clearBuffer_1 (by decide) ?_
  refine va_put (D := D) (ci := 5) (v := .int 0) (ty := .int) (C := RX5) (T := TX5) (N := 10) hx hb hts iX5_clearBuffer_X5 tyX5 tyX5_ok nmX5 hown hK hP hD hS 0 rfl rfl 0 (by decide) (hts _ mX5_clearBuffer_f23) (fun _ h9 => h9) rfl (by decide +kernel) rfl rfl (Nat.le_of_ble_eq_true rfl) dX5_clearBuffer_2 (fun H locs hP hD hS => ?_)
  have hP : va_P D vwCl (wMd cA a (0, f, 0, kp, tx, 0, wo, 0, 0, hs)) H := hP
  have hD : va_D A (wMd cA a (0, f, 0, kp, tx, 0, wo, 0, 0, hs)) := hD
  refine lv_aload_n hx hb dX5_clearBuffer_5 rfl (lv_at hl 0 rfl) ?_
  refine va_get (D := D) (ci := 5) (v := .int 0) (C := RX5) (T := TX5) (N := 10) hx hb hts iX5_clearBuffer_X5 hown hK hP 0 rfl rfl 5 (by decide) (hts _ mX5_clearBuffer_f105) (fun _ h9 => h9) rfl dX5_clearBuffer_6 ?_
  refine lv_istore_n (lv' := [(1, .int 0), (0, .ref (a 0))]) hx hb dX5_clearBuffer_9 rfl hl (by decide) rfl (fun ls hl => ?_)
  refine lv_aload_n hx hb dX5_clearBuffer_10 rfl (lv_at hl 1 rfl) ?_
  refine lv_iconst (v := 0) hx hb dX5_clearBuffer_11 (by decide) ?_
  refine va_put (D := D) (ci := 5) (v := .int 0) (ty := .int) (C := RX5) (T := TX5) (N := 10) hx hb hts iX5_clearBuffer_X5 tyX5 tyX5_ok nmX5 hown hK hP hD hS 0 rfl rfl 5 (by decide) (hts _ mX5_clearBuffer_f105) (fun _ h9 => h9) rfl (by decide +kernel) rfl rfl (Nat.le_of_ble_eq_true rfl) dX5_clearBuffer_12 (fun H locs hP hD hS => ?_)
  have hP : va_P D vwCl (wMd cA a (0, f, 0, kp, tx, 0, wo, 0, 0, hs)) H := hP
  have hD : va_D A (wMd cA a (0, f, 0, kp, tx, 0, wo, 0, 0, hs)) := hD
  refine lv_iload_n hx hb dX5_clearBuffer_15 rfl (lv_at hl 0 rfl) ?_
  exact mu_iret hx hb hr hlocks dX5_clearBuffer_16 hAe hS hP rfl
theorem mX5_firstError_f23 : Cond.fieldLink RX5 23 "WireLoomModel" "thrown" "I" ∈ wsX5_firstError := by decide +kernel
theorem mX5_firstError_f108 : Cond.fieldLink RX5 108 "WireLoomModel" "at" "I" ∈ wsX5_firstError := by decide +kernel
set_option maxRecDepth 20000 in
theorem iX5_firstError_X5 : ∀ w ∈ wsX50, w ∈ wsX5_firstError := by decide +kernel
set_option maxHeartbeats 4000000 in
set_option maxRecDepth 100000 in
theorem c_X5_firstError (l : Launch) (D : va_G) (cA : Nat → ClassId) (H : Heap) (a : Nat → Nat) (th : Int32) (f kp tx wo : Nat → Int32) (hs : Int64) (hF : FR f 0) (hP0 : va_P D vwCl (wMd cA a (th, f, 0, kp, tx, 0, wo, 0, 0, hs)) H) (hD0 : va_D (fun _ => True) (wMd cA a (th, f, 0, kp, tx, 0, wo, 0, 0, hs))) : MU l yX5_firstError wsX5_firstError ({ frames := 4, cells := 0, slots := 0, locals := 86 } : Room) D cA [.ref (a 0)] H (wMd cA a (th, f, 0, kp, tx, 0, wo, 0, 0, hs)) (wMd cA a (0, f, 0, kp, tx, 0, wo, 0, 0, hs)) (some (.int 0)) := by
  refine Met.ofW (cc := cX5_firstError) (maxL := 1) (ret := (some .int)) (by decide) rfl ?_
  intro p e s m args below meth c s₁ B hml hv
  obtain ⟨rfl, hH, hKN⟩ := hv
  have hK := hKN.1
  have hx := B.exec
  have hb := B.bytes
  have hr := B.returns
  have hts := atoms_spec (ws := wsX5_firstError) B.pre
  have hown : s.vm.findClass RX5 = some m.cls := findClass_of_methodNamed B.named
  have hlocks := B.notSynchronized
  subst hH
  have hD := hD0.self (sz := s.heap.size)
  generalize hAe : va_A (wMd cA a (th, f, 0, kp, tx, 0, wo, 0, 0, hs)) s.heap.size = A at hD ⊢
  have hA : ∀ q : Nat, s.heap.size ≤ q → A q := fun q h => by rw [← hAe]; exact Or.inr h
  have hS : va_S A s.heap s.heap [] := va_S.rf
  have hP : va_P D vwCl (wMd cA a (th, f, 0, kp, tx, 0, wo, 0, 0, hs)) s.heap := hP0
  have hl := lv_entry ([.ref (a 0)] : List Value) (n := 1) (Nat.le_of_ble_eq_true rfl)
  rw [lg_entry_eq]
  generalize (lg_sl ([.ref (a 0)] : List Value) ++ List.replicate (1 - (lg_sl ([.ref (a 0)] : List Value)).length) Slot.unset).toArray = ls at hl ⊢
  have hl : lv_has ls 1 [(0, .ref (a 0))] := hl
  refine lv_aload_n hx hb dX5_firstError_0 rfl (lv_at hl 0 rfl) ?_
  refine lv_iconst (v := 0) hx hb dX5_firstError_1 (by decide) ?_
  refine va_put (D := D) (ci := 5) (v := .int 0) (ty := .int) (C := RX5) (T := TX5) (N := 10) hx hb hts iX5_firstError_X5 tyX5 tyX5_ok nmX5 hown hK hP hD hS 0 rfl rfl 0 (by decide) (hts _ mX5_firstError_f23) (fun _ h9 => h9) rfl (by decide +kernel) rfl rfl (Nat.le_of_ble_eq_true rfl) dX5_firstError_2 (fun H locs hP hD hS => ?_)
  have hP : va_P D vwCl (wMd cA a (0, f, 0, kp, tx, 0, wo, 0, 0, hs)) H := hP
  have hD : va_D A (wMd cA a (0, f, 0, kp, tx, 0, wo, 0, 0, hs)) := hD
  refine lv_aload_n hx hb dX5_firstError_5 rfl (lv_at hl 0 rfl) ?_
  refine mu_V (ci := 5) (q0 := 0) (As := []) (rest := []) (ws' := (wMd cA a (0, f, 0, kp, tx, 0, wo, 0, 0, hs))) ⟨hx, hb, hml, hown, hts⟩ (c_X5_isProgram l D cA _ a 0 f kp tx wo hs hP (hD.weaken (fun _ _ _ _ => trivial))) (cwV 0 hts gX5_firstError_X5_isProgram rfl rfl rfl (by decide +kernel) ⟨Nat.le_of_ble_eq_true rfl, Nat.le_of_ble_eq_true rfl⟩) hKN hP hD hS hA rfl rfl [0, 1, 2, 3, 4] rfl ((wMd_fst _ _ _).trans (wMd_fst _ _ _).symm) rfl rfl hl.1 rfl (lv_room (Nat.le_of_ble_eq_true rfl)) dX5_firstError_6 ⟨Nat.zero_le _, Nat.zero_le _⟩ (fun H locs hP hD hS => ?_)
  refine lv_pop hx hb dX5_firstError_9 rfl ?_
  refine lv_aload_n hx hb dX5_firstError_10 rfl (lv_at hl 0 rfl) ?_
  refine va_get (D := D) (ci := 5) (v := .int 0) (C := RX5) (T := TX5) (N := 10) hx hb hts iX5_firstError_X5 hown hK hP 0 rfl rfl 8 (by decide) (hts _ mX5_firstError_f108) (fun _ h9 => h9) rfl dX5_firstError_11 ?_
  exact mu_iret hx hb hr hlocks dX5_firstError_14 hAe hS hP rfl
set_option maxHeartbeats 4000000 in
set_option maxRecDepth 100000 in
theorem c_X5_load (l : Launch) (D : va_G) (cA : Nat → ClassId) (H : Heap) (a : Nat → Nat) (th : Int32) (f kp tx wo : Nat → Int32) (hs : Int64) (t : Nat) (ht : t < 16) (hF : FR f 0) (hP0 : va_P D vwCl (wMd cA a (th, f, 0, kp, tx, 0, wo, 0, 0, hs)) H) (hD0 : va_D (fun _ => True) (wMd cA a (th, f, 0, kp, tx, 0, wo, 0, 0, hs))) : MU l yX5_load wsX5_load ({ frames := 4, cells := 0, slots := 0, locals := 86 } : Room) D cA [.ref (a 0), .int (nI t)] H (wMd cA a (th, f, 0, kp, tx, 0, wo, 0, 0, hs)) (wMd cA a (2, f, 0, kp, tx, 0, wo, 0, 0, hs)) (some (.int 0)) := by
  refine Met.ofW (cc := cX5_load) (maxL := 2) (ret := (some .int)) (by decide) rfl ?_
  intro p e s m args below meth c s₁ B hml hv
  obtain ⟨rfl, hH, hKN⟩ := hv
  have hK := hKN.1
  have hx := B.exec
  have hb := B.bytes
  have hr := B.returns
  have hts := atoms_spec (ws := wsX5_load) B.pre
  have hown : s.vm.findClass RX5 = some m.cls := findClass_of_methodNamed B.named
  have hlocks := B.notSynchronized
  subst hH
  have hD := hD0.self (sz := s.heap.size)
  generalize hAe : va_A (wMd cA a (th, f, 0, kp, tx, 0, wo, 0, 0, hs)) s.heap.size = A at hD ⊢
  have hA : ∀ q : Nat, s.heap.size ≤ q → A q := fun q h => by rw [← hAe]; exact Or.inr h
  have hS : va_S A s.heap s.heap [] := va_S.rf
  have hP : va_P D vwCl (wMd cA a (th, f, 0, kp, tx, 0, wo, 0, 0, hs)) s.heap := hP0
  have hl := lv_entry ([.ref (a 0), .int (nI t)] : List Value) (n := 2) (Nat.le_of_ble_eq_true rfl)
  rw [lg_entry_eq]
  generalize (lg_sl ([.ref (a 0), .int (nI t)] : List Value) ++ List.replicate (2 - (lg_sl ([.ref (a 0), .int (nI t)] : List Value)).length) Slot.unset).toArray = ls at hl ⊢
  have hl : lv_has ls 2 [(0, .ref (a 0)), (1, .int (nI t))] := hl
  refine lv_aload_n hx hb dX5_load_0 rfl (lv_at hl 0 rfl) ?_
  refine lv_iload_n hx hb dX5_load_1 rfl (lv_at hl 1 rfl) ?_
  refine ro_S (As := [.int (nI t)]) (rest := [.ref (a 0)]) ⟨hx, hb, hml, hown, hts⟩ (c_X5_isThread l D cA _ (nI t)) (cwS2 1 hts gX5_load_X5_isThread rfl rfl rfl (by decide +kernel) ⟨Nat.le_of_ble_eq_true rfl, Nat.le_of_ble_eq_true rfl⟩) hKN rfl hl.1 rfl (lv_room (Nat.le_of_ble_eq_true rfl)) dX5_load_2 ⟨Nat.zero_le _, Nat.zero_le _⟩ ?_
  refine lz_top (v := 1) (inF_ok (k := t) (a := 0) (b := 15) (by omega) (by omega) (by decide)) ?_
  refine lv_if_ne (tgt := 12) hx hb dX5_load_5 (by decide) (fun _ => ?_) (fun h => absurd h (by decide))
  refine lv_aload_n hx hb dX5_load_12 rfl (lv_at hl 0 rfl) ?_
  refine mu_V (ci := 5) (q0 := 0) (As := []) (rest := [.ref (a 0)]) (ws' := (wMd cA a (th, f, 0, kp, tx, 0, wo, 0, 0, hs))) ⟨hx, hb, hml, hown, hts⟩ (c_X5_isProgram l D cA _ a th f kp tx wo hs hP (hD.weaken (fun _ _ _ _ => trivial))) (cwV 0 hts gX5_load_X5_isProgram rfl rfl rfl (by decide +kernel) ⟨Nat.le_of_ble_eq_true rfl, Nat.le_of_ble_eq_true rfl⟩) hKN hP hD hS hA rfl rfl [0, 1, 2, 3, 4] rfl ((wMd_fst _ _ _).trans (wMd_fst _ _ _).symm) rfl rfl hl.1 rfl (lv_room (Nat.le_of_ble_eq_true rfl)) dX5_load_13 ⟨Nat.zero_le _, Nat.zero_le _⟩ (fun H locs hP hD hS => ?_)
  refine lv_if_ne (tgt := 23) hx hb dX5_load_16 (by decide) (fun h => absurd (by decide) h) (fun _ => ?_)
  refine lv_iconst (v := 2) hx hb dX5_load_19 (by decide) ?_
  refine lv_goto (tgt := 24) hx hb dX5_load_20 (by decide) ?_
  refine mu_V (ci := 5) (q0 := 0) (As := [.int 2]) (rest := []) (ws' := (wMd cA a (2, f, 0, kp, tx, 0, wo, 0, 0, hs))) ⟨hx, hb, hml, hown, hts⟩ (c_X5_holds2 l D cA _ a (th, f, 0, kp, tx, 0, wo, 0, 0, hs) hP (hD.weaken (fun _ _ _ _ => trivial))) (cwV 1 hts gX5_load_X5_holds rfl rfl rfl (by decide +kernel) ⟨Nat.le_of_ble_eq_true rfl, Nat.le_of_ble_eq_true rfl⟩) hKN hP hD hS hA rfl rfl [0, 1, 2, 3, 4] rfl ((wMd_fst _ _ _).trans (wMd_fst _ _ _).symm) rfl rfl hl.1 rfl (lv_room (Nat.le_of_ble_eq_true rfl)) dX5_load_24 ⟨Nat.zero_le _, Nat.zero_le _⟩ (fun H locs hP hD hS => ?_)
  refine lv_if_ne (tgt := 32) hx hb dX5_load_27 (by decide) (fun h => absurd (by decide) h) (fun _ => ?_)
  refine lv_iconst (v := 0) hx hb dX5_load_30 (by decide) ?_
  exact mu_iret hx hb hr hlocks dX5_load_31 hAe hS hP rfl
set_option maxHeartbeats 4000000 in
set_option maxRecDepth 100000 in
theorem c_X5_sign0 (l : Launch) (D : va_G) (cA : Nat → ClassId) (H : Heap) : RO l yX5_sign wsX5_sign ({ frames := 0, cells := 0, slots := 0, locals := 0 } : Room) D cA [.int 0] H (some (.int 48)) := by
  refine Met.ofW (cc := cX5_sign) (maxL := 1) (ret := (some .int)) (by decide) rfl ?_
  intro p e s m args below meth c s₁ B hml hv
  obtain ⟨rfl, hH, hKN⟩ := hv
  have hK := hKN.1
  have hx := B.exec
  have hb := B.bytes
  have hr := B.returns
  have hts := atoms_spec (ws := wsX5_sign) B.pre
  have hown : s.vm.findClass RX5 = some m.cls := findClass_of_methodNamed B.named
  have hlocks := B.notSynchronized
  subst hH
  have hH : s.heap = s.heap := rfl
  have hl := lv_entry ([.int 0] : List Value) (n := 1) (Nat.le_of_ble_eq_true rfl)
  rw [lg_entry_eq]
  generalize (lg_sl ([.int 0] : List Value) ++ List.replicate (1 - (lg_sl ([.int 0] : List Value)).length) Slot.unset).toArray = ls at hl ⊢
  have hl : lv_has ls 1 [(0, .int 0)] := hl
  refine lv_iload_n hx hb dX5_sign_0 rfl (lv_at hl 0 rfl) ?_
  refine lv_bipush (v := 10) hx hb dX5_sign_1 (by decide) ?_
  refine lv_icmp_ge (tgt := 13) hx hb dX5_sign_3 (by decide) (fun h => absurd h (by decide)) (fun _ => ?_)
  refine lv_bipush (v := 48) hx hb dX5_sign_6 (by decide) ?_
  refine lv_iload_n hx hb dX5_sign_8 rfl (lv_at hl 0 rfl) ?_
  refine lz_iadd (v := 48) hx hb dX5_sign_9 (by decide) ?_
  refine lv_goto (tgt := 20) hx hb dX5_sign_10 (by decide) ?_
  exact ro_iret hx hb hr hlocks hH dX5_sign_20 rfl
theorem mX5_write_f105 : Cond.fieldLink RX5 105 "WireLoomModel" "length" "I" ∈ wsX5_write := by decide +kernel
theorem mX5_write_f17 : Cond.fieldLink RX5 17 "WireLoomModel" "text" "[I" ∈ wsX5_write := by decide +kernel
set_option maxRecDepth 20000 in
theorem iX5_write_X5 : ∀ w ∈ wsX50, w ∈ wsX5_write := by decide +kernel
set_option maxHeartbeats 4000000 in
set_option maxRecDepth 100000 in
theorem c_X5_write (l : Launch) (D : va_G) (cA : Nat → ClassId) (H : Heap) (a : Nat → Nat) (th : Int32) (f kp tx wo : Nat → Int32) (hs : Int64) (t v : Nat) (ht : t < 16) (hv0 : v < 16) (htv : t ≤ v) (hF : FR f 0) (hP0 : va_P D vwCl (wMd cA a (th, f, 0, kp, tx, 0, wo, 0, 0, hs)) H) (hD0 : va_D (fun _ => True) (wMd cA a (th, f, 0, kp, tx, 0, wo, 0, 0, hs))) : MU l yX5_write wsX5_write ({ frames := 6, cells := 0, slots := 0, locals := 145 } : Room) D cA [.ref (a 0), .int (nI t), .int (nI v)] H (wMd cA a (th, f, 0, kp, tx, 0, wo, 0, 0, hs)) (wMd cA a (0, f, 0, kp, (wxT tx ((v + 1) - t)), (nI (2 * ((v + 1) - t))), wo, 0, 0, hs)) (some (.int (nI (2 * ((v + 1) - t))))) := by
  refine Met.ofW (cc := cX5_write) (maxL := 5) (ret := (some .int)) (by decide) rfl ?_
  intro p e s m args below meth c s₁ B hml hv
  obtain ⟨rfl, hH, hKN⟩ := hv
  have hK := hKN.1
  have hx := B.exec
  have hb := B.bytes
  have hr := B.returns
  have hts := atoms_spec (ws := wsX5_write) B.pre
  have hown : s.vm.findClass RX5 = some m.cls := findClass_of_methodNamed B.named
  have hlocks := B.notSynchronized
  subst hH
  have hD := hD0.self (sz := s.heap.size)
  generalize hAe : va_A (wMd cA a (th, f, 0, kp, tx, 0, wo, 0, 0, hs)) s.heap.size = A at hD ⊢
  have hA : ∀ q : Nat, s.heap.size ≤ q → A q := fun q h => by rw [← hAe]; exact Or.inr h
  have hS : va_S A s.heap s.heap [] := va_S.rf
  have hP : va_P D vwCl (wMd cA a (th, f, 0, kp, tx, 0, wo, 0, 0, hs)) s.heap := hP0
  have hl := lv_entry ([.ref (a 0), .int (nI t), .int (nI v)] : List Value) (n := 5) (Nat.le_of_ble_eq_true rfl)
  rw [lg_entry_eq]
  generalize (lg_sl ([.ref (a 0), .int (nI t), .int (nI v)] : List Value) ++ List.replicate (5 - (lg_sl ([.ref (a 0), .int (nI t), .int (nI v)] : List Value)).length) Slot.unset).toArray = ls at hl ⊢
  have hl : lv_has ls 5 [(0, .ref (a 0)), (1, .int (nI t)), (2, .int (nI v))] := hl
  refine lv_aload_n hx hb dX5_write_0 rfl (lv_at hl 0 rfl) ?_
  refine lv_iload_n hx hb dX5_write_1 rfl (lv_at hl 1 rfl) ?_
  refine ro_S (As := [.int (nI t)]) (rest := [.ref (a 0)]) ⟨hx, hb, hml, hown, hts⟩ (c_X5_isThread l D cA _ (nI t)) (cwS2 1 hts gX5_write_X5_isThread rfl rfl rfl (by decide +kernel) ⟨Nat.le_of_ble_eq_true rfl, Nat.le_of_ble_eq_true rfl⟩) hKN rfl hl.1 rfl (lv_room (Nat.le_of_ble_eq_true rfl)) dX5_write_2 ⟨Nat.zero_le _, Nat.zero_le _⟩ ?_
  refine lz_top (v := 1) (inF_ok (k := t) (a := 0) (b := 15) (by omega) (by omega) (by decide)) ?_
  refine lv_if_eq (tgt := 24) hx hb dX5_write_5 (by decide) (fun h => absurd h (by decide)) (fun _ => ?_)
  refine lv_iload_n hx hb dX5_write_8 rfl (lv_at hl 2 rfl) ?_
  refine ro_S (As := [.int (nI v)]) (rest := [.ref (a 0)]) ⟨hx, hb, hml, hown, hts⟩ (c_X5_isThread l D cA _ (nI v)) (cwS2 1 hts gX5_write_X5_isThread rfl rfl rfl (by decide +kernel) ⟨Nat.le_of_ble_eq_true rfl, Nat.le_of_ble_eq_true rfl⟩) hKN rfl hl.1 rfl (lv_room (Nat.le_of_ble_eq_true rfl)) dX5_write_9 ⟨Nat.zero_le _, Nat.zero_le _⟩ ?_
  refine lz_top (v := 1) (inF_ok (k := v) (a := 0) (b := 15) (by omega) (by omega) (by decide)) ?_
  refine lv_if_eq (tgt := 24) hx hb dX5_write_12 (by decide) (fun h => absurd h (by decide)) (fun _ => ?_)
  refine lv_iload_n hx hb dX5_write_15 rfl (lv_at hl 1 rfl) ?_
  refine lv_iload_n hx hb dX5_write_16 rfl (lv_at hl 2 rfl) ?_
  refine lv_icmp_gt (tgt := 24) hx hb dX5_write_17 (by decide) (fun h => absurd h (nI_nlt (a := v) (b := t) htv (by omega))) (fun _ => ?_)
  refine lv_iconst (v := 0) hx hb dX5_write_20 (by decide) ?_
  refine lv_goto (tgt := 25) hx hb dX5_write_21 (by decide) ?_
  refine mu_V (ci := 5) (q0 := 0) (As := [.int 0]) (rest := []) (ws' := (wMd cA a (0, f, 0, kp, tx, 0, wo, 0, 0, hs))) ⟨hx, hb, hml, hown, hts⟩ (c_X5_holds0 l D cA _ a (th, f, 0, kp, tx, 0, wo, 0, 0, hs) hP (hD.weaken (fun _ _ _ _ => trivial))) (cwV 1 hts gX5_write_X5_holds rfl rfl rfl (by decide +kernel) ⟨Nat.le_of_ble_eq_true rfl, Nat.le_of_ble_eq_true rfl⟩) hKN hP hD hS hA rfl rfl [0, 1, 2, 3, 4] rfl ((wMd_fst _ _ _).trans (wMd_fst _ _ _).symm) rfl rfl hl.1 rfl (lv_room (Nat.le_of_ble_eq_true rfl)) dX5_write_25 ⟨Nat.zero_le _, Nat.zero_le _⟩ (fun H locs hP hD hS => ?_)
  refine lv_if_ne (tgt := 33) hx hb dX5_write_28 (by decide) (fun _ => ?_) (fun h => absurd h (by decide))
  refine lv_aload_n hx hb dX5_write_33 rfl (lv_at hl 0 rfl) ?_
  refine lv_iconst (v := 0) hx hb dX5_write_34 (by decide) ?_
  refine va_put (D := D) (ci := 5) (v := .int 0) (ty := .int) (C := RX5) (T := TX5) (N := 10) hx hb hts iX5_write_X5 tyX5 tyX5_ok nmX5 hown hK hP hD hS 0 rfl rfl 5 (by decide) (hts _ mX5_write_f105) (fun _ h9 => h9) rfl (by decide +kernel) rfl rfl (Nat.le_of_ble_eq_true rfl) dX5_write_35 (fun H locs hP hD hS => ?_)
  have hP : va_P D vwCl (wMd cA a (0, f, 0, kp, tx, 0, wo, 0, 0, hs)) H := hP
  have hD : va_D A (wMd cA a (0, f, 0, kp, tx, 0, wo, 0, 0, hs)) := hD
  refine lv_iload_n hx hb dX5_write_38 rfl (lv_at hl 1 rfl) ?_
  refine lv_istore_n (lv' := [(3, .int (nI t)), (0, .ref (a 0)), (1, .int (nI t)), (2, .int (nI v))]) hx hb dX5_write_39 rfl hl (by decide) rfl (fun ls hl => ?_)
  have loop40 : ∀ (n40 k40 : Nat), k40 + n40 = (v + 1) → ∀ (H : Heap) (locs : List Loc), va_P D vwCl (wMd cA a (0, f, 0, kp, (wxT tx (k40 - t)), (nI (2 * (k40 - t))), wo, 0, 0, hs)) H → va_D A (wMd cA a (0, f, 0, kp, (wxT tx (k40 - t)), (nI (2 * (k40 - t))), wo, 0, 0, hs)) → va_S A s.heap H locs → t ≤ k40 → ∀ (ls : Array Slot), lv_has ls 5 [(3, .int (nI k40)), (0, .ref (a 0)), (1, .int (nI t)), (2, .int (nI v))] → W p l e ({ frames := 6, cells := 0, slots := 0, locals := 145 } : Room) s m ([.ref (a 0), .int (nI t), .int (nI v)] : List Value).toArray below meth c H locs 0 0 (MQ below (muQ D s.heap (wMd cA a (th, f, 0, kp, tx, 0, wo, 0, 0, hs)) (wMd cA a (0, f, 0, kp, (wxT tx ((v + 1) - t)), (nI (2 * ((v + 1) - t))), wo, 0, 0, hs)) (some (.int (nI (2 * ((v + 1) - t)))))) ([.ref (a 0), .int (nI t), .int (nI v)] : List Value).toArray s 0 0 A) (F0 m 40 ls []) := by
    intro n40
    induction n40 with
    | zero =>
      intro k40 hk40 H locs hP hD hS hq40 ls hl
      obtain rfl : (v + 1) = k40 := by omega
      refine lv_iload_n hx hb dX5_write_40 rfl (lv_at hl 0 rfl) ?_
      refine lv_iload_n hx hb dX5_write_41 rfl (lv_at hl 3 rfl) ?_
      refine lv_icmp_gt (tgt := 105) hx hb dX5_write_42 (by decide) (fun _ => ?_) (fun h => absurd (nI_lt (a := v) (by omega) (by omega)) h)
      refine lv_aload_n hx hb dX5_write_105 rfl (lv_at hl 1 rfl) ?_
      refine va_get (D := D) (ci := 5) (v := .int (nI (2 * ((v + 1) - t)))) (C := RX5) (T := TX5) (N := 10) hx hb hts iX5_write_X5 hown hK hP 0 rfl rfl 5 (by decide) (hts _ mX5_write_f105) (fun _ h9 => h9) rfl dX5_write_106 ?_
      exact mu_iret hx hb hr hlocks dX5_write_109 hAe hS hP rfl
    | succ n40 ih40 =>
      intro k40 hk40 H locs hP hD hS hq40 ls hl
      have hlt40 : k40 < (v + 1) := by omega
      refine lv_iload_n hx hb dX5_write_40 rfl (lv_at hl 0 rfl) ?_
      refine lv_iload_n hx hb dX5_write_41 rfl (lv_at hl 3 rfl) ?_
      refine lv_icmp_gt (tgt := 105) hx hb dX5_write_42 (by decide) (fun h => absurd h (nI_nlt (a := v) (by omega) (by omega))) (fun _ => ?_)
      refine lv_aload_n hx hb dX5_write_45 rfl (lv_at hl 1 rfl) ?_
      refine lv_iconst (v := 0) hx hb dX5_write_46 (by decide) ?_
      refine lv_iload_n hx hb dX5_write_47 rfl (lv_at hl 0 rfl) ?_
      refine ro_V (ci := 5) (q0 := 0) (As := [.int 0, .int (nI k40)]) (rest := []) ⟨hx, hb, hml, hown, hts⟩ (c_X5_wordOf l D cA _ a (0, f, 0, kp, (wxT tx (k40 - t)), (nI (2 * (k40 - t))), wo, 0, 0, hs) 0 (by omega) k40 (by omega) hF.ZR hP) (cwV 2 hts gX5_write_X5_wordOf rfl rfl rfl (by decide +kernel) ⟨Nat.le_of_ble_eq_true rfl, Nat.le_of_ble_eq_true rfl⟩) hKN hP rfl rfl rfl hl.1 rfl (lv_room (Nat.le_of_ble_eq_true rfl)) dX5_write_48 ⟨Nat.zero_le _, Nat.zero_le _⟩ ?_
      refine lv_istore (lv' := [(4, .int 0), (3, .int (nI k40)), (0, .ref (a 0)), (1, .int (nI t)), (2, .int (nI v))]) hx hb dX5_write_51 hl (by decide) rfl (fun ls hl => ?_)
      refine lv_aload_n hx hb dX5_write_53 rfl (lv_at hl 2 rfl) ?_
      refine va_get (D := D) (ci := 5) (v := .ref (a 3)) (C := RX5) (T := TX5) (N := 10) hx hb hts iX5_write_X5 hown hK hP 0 rfl rfl 4 (by decide) (hts _ mX5_write_f17) (fun _ h9 => h9) rfl dX5_write_54 ?_
      refine lv_aload_n hx hb dX5_write_57 rfl (lv_at hl 2 rfl) ?_
      refine va_get (D := D) (ci := 5) (v := .int (nI (2 * (k40 - t)))) (C := RX5) (T := TX5) (N := 10) hx hb hts iX5_write_X5 hown hK hP 0 rfl rfl 5 (by decide) (hts _ mX5_write_f105) (fun _ h9 => h9) rfl dX5_write_58 ?_
      refine lv_iload hx hb dX5_write_61 (lv_at hl 0 rfl) ?_
      refine lv_bipush (v := 16) hx hb dX5_write_63 (by decide) ?_
      refine lz_idiv (v := 0) hx hb dX5_write_65 (by decide) (by decide) ?_
      refine ro_S (As := [.int 0]) (rest := [.int (nI (2 * (k40 - t))), .ref (a 3)]) ⟨hx, hb, hml, hown, hts⟩ (c_X5_sign0 l D cA _) (cwS2 1 hts gX5_write_X5_sign rfl rfl rfl (by decide +kernel) ⟨Nat.le_of_ble_eq_true rfl, Nat.le_of_ble_eq_true rfl⟩) hKN rfl hl.1 rfl (lv_room (Nat.le_of_ble_eq_true rfl)) dX5_write_66 ⟨Nat.zero_le _, Nat.zero_le _⟩ ?_
      refine lz_iast (k := (2 * (k40 - t))) (f := (wxT tx (k40 - t))) hx hb hK hP hD hS 3 0 rfl rfl ⟨by omega, by decide⟩ dX5_write_69 (fun H locs hP hD hS => ?_)
      have hP : va_P D vwCl (wMd cA a (0, f, 0, kp, (upd (wxT tx (k40 - t)) (2 * (k40 - t)) 48), (nI (2 * (k40 - t))), wo, 0, 0, hs)) H := hP
      have hD : va_D A (wMd cA a (0, f, 0, kp, (upd (wxT tx (k40 - t)) (2 * (k40 - t)) 48), (nI (2 * (k40 - t))), wo, 0, 0, hs)) := hD
      refine lv_aload_n hx hb dX5_write_70 rfl (lv_at hl 2 rfl) ?_
      refine va_get (D := D) (ci := 5) (v := .ref (a 3)) (C := RX5) (T := TX5) (N := 10) hx hb hts iX5_write_X5 hown hK hP 0 rfl rfl 4 (by decide) (hts _ mX5_write_f17) (fun _ h9 => h9) rfl dX5_write_71 ?_
      refine lv_aload_n hx hb dX5_write_74 rfl (lv_at hl 2 rfl) ?_
      refine va_get (D := D) (ci := 5) (v := .int (nI (2 * (k40 - t)))) (C := RX5) (T := TX5) (N := 10) hx hb hts iX5_write_X5 hown hK hP 0 rfl rfl 5 (by decide) (hts _ mX5_write_f105) (fun _ h9 => h9) rfl dX5_write_75 ?_
      refine lv_iconst (v := 1) hx hb dX5_write_78 (by decide) ?_
      refine lz_iadd (v := (nI ((2 * (k40 - t)) + 1))) hx hb dX5_write_79 (nI_add _ _) ?_
      refine lv_iload hx hb dX5_write_80 (lv_at hl 0 rfl) ?_
      refine lv_bipush (v := 16) hx hb dX5_write_82 (by decide) ?_
      refine lz_irem (v := 0) hx hb dX5_write_84 (by decide) (by decide) ?_
      refine ro_S (As := [.int 0]) (rest := [.int (nI ((2 * (k40 - t)) + 1)), .ref (a 3)]) ⟨hx, hb, hml, hown, hts⟩ (c_X5_sign0 l D cA _) (cwS2 1 hts gX5_write_X5_sign rfl rfl rfl (by decide +kernel) ⟨Nat.le_of_ble_eq_true rfl, Nat.le_of_ble_eq_true rfl⟩) hKN rfl hl.1 rfl (lv_room (Nat.le_of_ble_eq_true rfl)) dX5_write_85 ⟨Nat.zero_le _, Nat.zero_le _⟩ ?_
      refine lz_iast (k := ((2 * (k40 - t)) + 1)) (f := (upd (wxT tx (k40 - t)) (2 * (k40 - t)) 48)) hx hb hK hP hD hS 3 0 rfl rfl ⟨by omega, by decide⟩ dX5_write_88 (fun H locs hP hD hS => ?_)
      have hP : va_P D vwCl (wMd cA a (0, f, 0, kp, (upd (upd (wxT tx (k40 - t)) (2 * (k40 - t)) 48) ((2 * (k40 - t)) + 1) 48), (nI (2 * (k40 - t))), wo, 0, 0, hs)) H := hP
      have hD : va_D A (wMd cA a (0, f, 0, kp, (upd (upd (wxT tx (k40 - t)) (2 * (k40 - t)) 48) ((2 * (k40 - t)) + 1) 48), (nI (2 * (k40 - t))), wo, 0, 0, hs)) := hD
      refine lv_aload_n hx hb dX5_write_89 rfl (lv_at hl 2 rfl) ?_
      refine lv_dup hx hb dX5_write_90 rfl ?_
      refine va_get (D := D) (ci := 5) (v := .int (nI (2 * (k40 - t)))) (C := RX5) (T := TX5) (N := 10) hx hb hts iX5_write_X5 hown hK hP 0 rfl rfl 5 (by decide) (hts _ mX5_write_f105) (fun _ h9 => h9) rfl dX5_write_91 ?_
      refine lv_iconst (v := 2) hx hb dX5_write_94 (by decide) ?_
      refine lz_iadd (v := (nI ((2 * (k40 - t)) + 2))) hx hb dX5_write_95 (nI_add _ _) ?_
      refine va_put (D := D) (ci := 5) (v := .int (nI ((2 * (k40 - t)) + 2))) (ty := .int) (C := RX5) (T := TX5) (N := 10) hx hb hts iX5_write_X5 tyX5 tyX5_ok nmX5 hown hK hP hD hS 0 rfl rfl 5 (by decide) (hts _ mX5_write_f105) (fun _ h9 => h9) rfl (by decide +kernel) rfl rfl (Nat.le_of_ble_eq_true rfl) dX5_write_96 (fun H locs hP hD hS => ?_)
      have hP : va_P D vwCl (wMd cA a (0, f, 0, kp, (upd (upd (wxT tx (k40 - t)) (2 * (k40 - t)) 48) ((2 * (k40 - t)) + 1) 48), (nI ((2 * (k40 - t)) + 2)), wo, 0, 0, hs)) H := hP
      have hD : va_D A (wMd cA a (0, f, 0, kp, (upd (upd (wxT tx (k40 - t)) (2 * (k40 - t)) 48) ((2 * (k40 - t)) + 1) 48), (nI ((2 * (k40 - t)) + 2)), wo, 0, 0, hs)) := hD
      refine lv_iinc (v := (nI (k40 + 1))) (lv' := [(3, .int (nI (k40 + 1))), (4, .int 0), (0, .ref (a 0)), (1, .int (nI t)), (2, .int (nI v))]) hx hb dX5_write_99 hl (k := 1) rfl (nI_1 _) (by decide) rfl (fun ls hl => ?_)
      refine lv_goto (tgt := 40) hx hb dX5_write_102 (by decide) ?_
      have e_1 : (wxT tx ((k40 + 1) - t)) = (upd (upd (wxT tx (k40 - t)) (2 * (k40 - t)) 48) ((2 * (k40 - t)) + 1) 48) := (wxT_succ hq40)
      have e_2 : (nI (2 * ((k40 + 1) - t))) = (nI ((2 * (k40 - t)) + 2)) := by rw [show k40 + 1 - t = (k40 - t) + 1 by omega]; rfl
      exact ih40 (k40 + 1) (by omega) _ _ (by rw [e_1, e_2]; exact hP) (by rw [e_1, e_2]; exact hD) hS (by omega) ls (lv_sub hl [0, 2, 3, 4] rfl)
  exact loop40 ((v + 1) - t) t (by omega) _ _ (by rw [Nat.sub_self]; exact hP) (by rw [Nat.sub_self]; exact hD) hS (Nat.le_refl _) ls (lv_sub hl [0, 1, 2, 3] rfl)
theorem mX5_keep_f13 : Cond.fieldLink RX5 13 "WireLoomModel" "isKept" "[Z" ∈ wsX5_keep := by decide +kernel
set_option maxRecDepth 20000 in
theorem iX5_keep_X5 : ∀ w ∈ wsX50, w ∈ wsX5_keep := by decide +kernel
set_option maxHeartbeats 4000000 in
set_option maxRecDepth 100000 in
theorem c_X5_keep0 (l : Launch) (D : va_G) (cA : Nat → ClassId) (H : Heap) (a : Nat → Nat) (th : Int32) (f kp tx wo : Nat → Int32) (hs : Int64) (hF : FR f 0) (hP0 : va_P D vwCl (wMd cA a (th, f, 0, kp, tx, 0, wo, 0, 0, hs)) H) (hD0 : va_D (fun _ => True) (wMd cA a (th, f, 0, kp, tx, 0, wo, 0, 0, hs))) : MU l yX5_keep wsX5_keep ({ frames := 2, cells := 0, slots := 0, locals := 45 } : Room) D cA [.ref (a 0), .int 0] H (wMd cA a (th, f, 0, kp, tx, 0, wo, 0, 0, hs)) (wMd cA a (0, (cpT f (62 * 0) (62 * 7) 62), 0, (upd kp 0 1), tx, 0, wo, 0, 0, hs)) (some (.int 0)) := by
  refine Met.ofW (cc := cX5_keep) (maxL := 2) (ret := (some .int)) (by decide) rfl ?_
  intro p e s m args below meth c s₁ B hml hv
  obtain ⟨rfl, hH, hKN⟩ := hv
  have hK := hKN.1
  have hx := B.exec
  have hb := B.bytes
  have hr := B.returns
  have hts := atoms_spec (ws := wsX5_keep) B.pre
  have hown : s.vm.findClass RX5 = some m.cls := findClass_of_methodNamed B.named
  have hlocks := B.notSynchronized
  subst hH
  have hD := hD0.self (sz := s.heap.size)
  generalize hAe : va_A (wMd cA a (th, f, 0, kp, tx, 0, wo, 0, 0, hs)) s.heap.size = A at hD ⊢
  have hA : ∀ q : Nat, s.heap.size ≤ q → A q := fun q h => by rw [← hAe]; exact Or.inr h
  have hS : va_S A s.heap s.heap [] := va_S.rf
  have hP : va_P D vwCl (wMd cA a (th, f, 0, kp, tx, 0, wo, 0, 0, hs)) s.heap := hP0
  have hl := lv_entry ([.ref (a 0), .int 0] : List Value) (n := 2) (Nat.le_of_ble_eq_true rfl)
  rw [lg_entry_eq]
  generalize (lg_sl ([.ref (a 0), .int 0] : List Value) ++ List.replicate (2 - (lg_sl ([.ref (a 0), .int 0] : List Value)).length) Slot.unset).toArray = ls at hl ⊢
  have hl : lv_has ls 2 [(0, .ref (a 0)), (1, .int 0)] := hl
  refine lv_aload_n hx hb dX5_keep_0 rfl (lv_at hl 0 rfl) ?_
  refine lv_iload_n hx hb dX5_keep_1 rfl (lv_at hl 1 rfl) ?_
  refine lv_iconst (v := 0) hx hb dX5_keep_2 (by decide) ?_
  refine lv_iconst (v := 1) hx hb dX5_keep_3 (by decide) ?_
  refine ro_S (As := [.int 0, .int 0, .int 1]) (rest := [.ref (a 0)]) ⟨hx, hb, hml, hown, hts⟩ (c_X5_in l D cA _ 0 0 1) (cwS2 3 hts gX5_keep_X5_in rfl rfl rfl (by decide +kernel) ⟨Nat.le_of_ble_eq_true rfl, Nat.le_of_ble_eq_true rfl⟩) hKN rfl hl.1 rfl (lv_room (Nat.le_of_ble_eq_true rfl)) dX5_keep_4 ⟨Nat.zero_le _, Nat.zero_le _⟩ ?_
  refine lz_top (v := 1) (inF_ok (k := 0) (a := 0) (b := 1) (by omega) (by omega) (by decide)) ?_
  refine lv_if_eq (tgt := 14) hx hb dX5_keep_7 (by decide) (fun h => absurd h (by decide)) (fun _ => ?_)
  refine lv_iconst (v := 0) hx hb dX5_keep_10 (by decide) ?_
  refine lv_goto (tgt := 15) hx hb dX5_keep_11 (by decide) ?_
  refine mu_V (ci := 5) (q0 := 0) (As := [.int 0]) (rest := []) (ws' := (wMd cA a (0, f, 0, kp, tx, 0, wo, 0, 0, hs))) ⟨hx, hb, hml, hown, hts⟩ (c_X5_holds0 l D cA _ a (th, f, 0, kp, tx, 0, wo, 0, 0, hs) hP (hD.weaken (fun _ _ _ _ => trivial))) (cwV 1 hts gX5_keep_X5_holds rfl rfl rfl (by decide +kernel) ⟨Nat.le_of_ble_eq_true rfl, Nat.le_of_ble_eq_true rfl⟩) hKN hP hD hS hA rfl rfl [0, 1, 2, 3, 4] rfl ((wMd_fst _ _ _).trans (wMd_fst _ _ _).symm) rfl rfl hl.1 rfl (lv_room (Nat.le_of_ble_eq_true rfl)) dX5_keep_15 ⟨Nat.zero_le _, Nat.zero_le _⟩ (fun H locs hP hD hS => ?_)
  refine lv_if_ne (tgt := 23) hx hb dX5_keep_18 (by decide) (fun _ => ?_) (fun h => absurd h (by decide))
  refine lv_aload_n hx hb dX5_keep_23 rfl (lv_at hl 0 rfl) ?_
  refine lv_iconst (v := 0) hx hb dX5_keep_24 (by decide) ?_
  refine lv_bipush (v := 7) hx hb dX5_keep_25 (by decide) ?_
  refine lv_iload_n hx hb dX5_keep_27 rfl (lv_at hl 1 rfl) ?_
  refine lz_iadd (v := 7) hx hb dX5_keep_28 (by decide) ?_
  refine mu_V (ci := 5) (q0 := 0) (As := [.int 0, .int 7]) (rest := []) (ws' := (wMd cA a (0, (cpT f (62 * 0) (62 * 7) 62), 0, kp, tx, 0, wo, 0, 0, hs))) ⟨hx, hb, hml, hown, hts⟩ (c_X5_copies l D cA _ a (0, f, 0, kp, tx, 0, wo, 0, 0, hs) 0 7 (by omega) (by omega) (by omega) hP (hD.weaken (fun _ _ _ _ => trivial))) (cwV 2 hts gX5_keep_X5_copies rfl rfl rfl (by decide +kernel) ⟨Nat.le_of_ble_eq_true rfl, Nat.le_of_ble_eq_true rfl⟩) hKN hP hD hS hA rfl rfl [0, 1, 2, 3, 4] rfl ((wMd_fst _ _ _).trans (wMd_fst _ _ _).symm) rfl rfl hl.1 rfl (lv_room (Nat.le_of_ble_eq_true rfl)) dX5_keep_29 ⟨Nat.zero_le _, Nat.zero_le _⟩ (fun H locs hP hD hS => ?_)
  refine lv_aload_n hx hb dX5_keep_32 rfl (lv_at hl 0 rfl) ?_
  refine va_get (D := D) (ci := 5) (v := .ref (a 2)) (C := RX5) (T := TX5) (N := 10) hx hb hts iX5_keep_X5 hown hK hP 0 rfl rfl 3 (by decide) (hts _ mX5_keep_f13) (fun _ h9 => h9) rfl dX5_keep_33 ?_
  refine lv_iload_n hx hb dX5_keep_36 rfl (lv_at hl 1 rfl) ?_
  refine lv_iconst (v := 1) hx hb dX5_keep_37 (by decide) ?_
  refine lz_zast (k := 0) (f := kp) hx hb hK hP hD hS 2 1 rfl rfl ⟨by decide, by decide⟩ dX5_keep_38 (fun H locs hP hD hS => ?_)
  have hP : va_P D vwCl (wMd cA a (0, (cpT f (62 * 0) (62 * 7) 62), 0, (upd kp 0 1), tx, 0, wo, 0, 0, hs)) H := hP
  have hD : va_D A (wMd cA a (0, (cpT f (62 * 0) (62 * 7) 62), 0, (upd kp 0 1), tx, 0, wo, 0, 0, hs)) := hD
  refine lv_aload_n hx hb dX5_keep_39 rfl (lv_at hl 0 rfl) ?_
  refine lv_iconst (v := 0) hx hb dX5_keep_40 (by decide) ?_
  refine ro_V (ci := 5) (q0 := 0) (As := [.int 0]) (rest := []) ⟨hx, hb, hml, hown, hts⟩ (c_X5_crossings l D cA _ a (0, (cpT f (62 * 0) (62 * 7) 62), 0, (upd kp 0 1), tx, 0, wo, 0, 0, hs) 0 (by omega) (FR.ZR (FR.off hF (by omega))) hP) (cwV 1 hts gX5_keep_X5_crossings rfl rfl rfl (by decide +kernel) ⟨Nat.le_of_ble_eq_true rfl, Nat.le_of_ble_eq_true rfl⟩) hKN hP rfl rfl rfl hl.1 rfl (lv_room (Nat.le_of_ble_eq_true rfl)) dX5_keep_41 ⟨Nat.zero_le _, Nat.zero_le _⟩ ?_
  exact mu_iret hx hb hr hlocks dX5_keep_44 hAe hS hP rfl
theorem mX5_goBack_f13 : Cond.fieldLink RX5 13 "WireLoomModel" "isKept" "[Z" ∈ wsX5_goBack := by decide +kernel
set_option maxRecDepth 20000 in
theorem iX5_goBack_X5 : ∀ w ∈ wsX50, w ∈ wsX5_goBack := by decide +kernel
set_option maxHeartbeats 4000000 in
set_option maxRecDepth 100000 in
theorem c_X5_goBack0 (l : Launch) (D : va_G) (cA : Nat → ClassId) (H : Heap) (a : Nat → Nat) (th : Int32) (f kp tx wo : Nat → Int32) (hs : Int64) (hF : FR f 0) (hk : kp 0 = 0) (hP0 : va_P D vwCl (wMd cA a (th, f, 0, kp, tx, 0, wo, 0, 0, hs)) H) (hD0 : va_D (fun _ => True) (wMd cA a (th, f, 0, kp, tx, 0, wo, 0, 0, hs))) : MU l yX5_goBack wsX5_goBack ({ frames := 1, cells := 0, slots := 0, locals := 22 } : Room) D cA [.ref (a 0), .int 0] H (wMd cA a (th, f, 0, kp, tx, 0, wo, 0, 0, hs)) (wMd cA a (2, f, 0, kp, tx, 0, wo, 0, 0, hs)) (some (.int 0)) := by
  refine Met.ofW (cc := cX5_goBack) (maxL := 2) (ret := (some .int)) (by decide) rfl ?_
  intro p e s m args below meth c s₁ B hml hv
  obtain ⟨rfl, hH, hKN⟩ := hv
  have hK := hKN.1
  have hx := B.exec
  have hb := B.bytes
  have hr := B.returns
  have hts := atoms_spec (ws := wsX5_goBack) B.pre
  have hown : s.vm.findClass RX5 = some m.cls := findClass_of_methodNamed B.named
  have hlocks := B.notSynchronized
  subst hH
  have hD := hD0.self (sz := s.heap.size)
  generalize hAe : va_A (wMd cA a (th, f, 0, kp, tx, 0, wo, 0, 0, hs)) s.heap.size = A at hD ⊢
  have hA : ∀ q : Nat, s.heap.size ≤ q → A q := fun q h => by rw [← hAe]; exact Or.inr h
  have hS : va_S A s.heap s.heap [] := va_S.rf
  have hP : va_P D vwCl (wMd cA a (th, f, 0, kp, tx, 0, wo, 0, 0, hs)) s.heap := hP0
  have hl := lv_entry ([.ref (a 0), .int 0] : List Value) (n := 2) (Nat.le_of_ble_eq_true rfl)
  rw [lg_entry_eq]
  generalize (lg_sl ([.ref (a 0), .int 0] : List Value) ++ List.replicate (2 - (lg_sl ([.ref (a 0), .int 0] : List Value)).length) Slot.unset).toArray = ls at hl ⊢
  have hl : lv_has ls 2 [(0, .ref (a 0)), (1, .int 0)] := hl
  refine lv_aload_n hx hb dX5_goBack_0 rfl (lv_at hl 0 rfl) ?_
  refine lv_iload_n hx hb dX5_goBack_1 rfl (lv_at hl 1 rfl) ?_
  refine lv_iconst (v := 0) hx hb dX5_goBack_2 (by decide) ?_
  refine lv_iconst (v := 1) hx hb dX5_goBack_3 (by decide) ?_
  refine ro_S (As := [.int 0, .int 0, .int 1]) (rest := [.ref (a 0)]) ⟨hx, hb, hml, hown, hts⟩ (c_X5_in l D cA _ 0 0 1) (cwS2 3 hts gX5_goBack_X5_in rfl rfl rfl (by decide +kernel) ⟨Nat.le_of_ble_eq_true rfl, Nat.le_of_ble_eq_true rfl⟩) hKN rfl hl.1 rfl (lv_room (Nat.le_of_ble_eq_true rfl)) dX5_goBack_4 ⟨Nat.zero_le _, Nat.zero_le _⟩ ?_
  refine lz_top (v := 1) (inF_ok (k := 0) (a := 0) (b := 1) (by omega) (by omega) (by decide)) ?_
  refine lv_if_ne (tgt := 14) hx hb dX5_goBack_7 (by decide) (fun _ => ?_) (fun h => absurd h (by decide))
  refine lv_aload_n hx hb dX5_goBack_14 rfl (lv_at hl 0 rfl) ?_
  refine va_get (D := D) (ci := 5) (v := .ref (a 2)) (C := RX5) (T := TX5) (N := 10) hx hb hts iX5_goBack_X5 hown hK hP 0 rfl rfl 3 (by decide) (hts _ mX5_goBack_f13) (fun _ h9 => h9) rfl dX5_goBack_15 ?_
  refine lv_iload_n hx hb dX5_goBack_18 rfl (lv_at hl 1 rfl) ?_
  refine lz_zald (k := 0) (f := kp) hx hb hK hP 2 1 rfl rfl ⟨by decide, by decide⟩ dX5_goBack_19 ?_
  refine lz_top (v := 0) hk ?_
  refine lv_if_ne (tgt := 27) hx hb dX5_goBack_20 (by decide) (fun h => absurd (by decide) h) (fun _ => ?_)
  refine lv_iconst (v := 2) hx hb dX5_goBack_23 (by decide) ?_
  refine lv_goto (tgt := 28) hx hb dX5_goBack_24 (by decide) ?_
  refine mu_V (ci := 5) (q0 := 0) (As := [.int 2]) (rest := []) (ws' := (wMd cA a (2, f, 0, kp, tx, 0, wo, 0, 0, hs))) ⟨hx, hb, hml, hown, hts⟩ (c_X5_holds2 l D cA _ a (th, f, 0, kp, tx, 0, wo, 0, 0, hs) hP (hD.weaken (fun _ _ _ _ => trivial))) (cwV 1 hts gX5_goBack_X5_holds rfl rfl rfl (by decide +kernel) ⟨Nat.le_of_ble_eq_true rfl, Nat.le_of_ble_eq_true rfl⟩) hKN hP hD hS hA rfl rfl [0, 1, 2, 3, 4] rfl ((wMd_fst _ _ _).trans (wMd_fst _ _ _).symm) rfl rfl hl.1 rfl (lv_room (Nat.le_of_ble_eq_true rfl)) dX5_goBack_28 ⟨Nat.zero_le _, Nat.zero_le _⟩ (fun H locs hP hD hS => ?_)
  refine lv_if_ne (tgt := 36) hx hb dX5_goBack_31 (by decide) (fun h => absurd (by decide) h) (fun _ => ?_)
  refine lv_iconst (v := 0) hx hb dX5_goBack_34 (by decide) ?_
  exact mu_iret hx hb hr hlocks dX5_goBack_35 hAe hS hP rfl
set_option maxHeartbeats 4000000 in
set_option maxRecDepth 100000 in
theorem c_X5_keep1 (l : Launch) (D : va_G) (cA : Nat → ClassId) (H : Heap) (a : Nat → Nat) (th : Int32) (f kp tx wo : Nat → Int32) (hs : Int64) (hF : FR f 0) (hP0 : va_P D vwCl (wMd cA a (th, f, 0, kp, tx, 0, wo, 0, 0, hs)) H) (hD0 : va_D (fun _ => True) (wMd cA a (th, f, 0, kp, tx, 0, wo, 0, 0, hs))) : MU l yX5_keep wsX5_keep ({ frames := 2, cells := 0, slots := 0, locals := 45 } : Room) D cA [.ref (a 0), .int 1] H (wMd cA a (th, f, 0, kp, tx, 0, wo, 0, 0, hs)) (wMd cA a (0, (cpT f (62 * 0) (62 * 8) 62), 0, (upd kp 1 1), tx, 0, wo, 0, 0, hs)) (some (.int 0)) := by
  refine Met.ofW (cc := cX5_keep) (maxL := 2) (ret := (some .int)) (by decide) rfl ?_
  intro p e s m args below meth c s₁ B hml hv
  obtain ⟨rfl, hH, hKN⟩ := hv
  have hK := hKN.1
  have hx := B.exec
  have hb := B.bytes
  have hr := B.returns
  have hts := atoms_spec (ws := wsX5_keep) B.pre
  have hown : s.vm.findClass RX5 = some m.cls := findClass_of_methodNamed B.named
  have hlocks := B.notSynchronized
  subst hH
  have hD := hD0.self (sz := s.heap.size)
  generalize hAe : va_A (wMd cA a (th, f, 0, kp, tx, 0, wo, 0, 0, hs)) s.heap.size = A at hD ⊢
  have hA : ∀ q : Nat, s.heap.size ≤ q → A q := fun q h => by rw [← hAe]; exact Or.inr h
  have hS : va_S A s.heap s.heap [] := va_S.rf
  have hP : va_P D vwCl (wMd cA a (th, f, 0, kp, tx, 0, wo, 0, 0, hs)) s.heap := hP0
  have hl := lv_entry ([.ref (a 0), .int 1] : List Value) (n := 2) (Nat.le_of_ble_eq_true rfl)
  rw [lg_entry_eq]
  generalize (lg_sl ([.ref (a 0), .int 1] : List Value) ++ List.replicate (2 - (lg_sl ([.ref (a 0), .int 1] : List Value)).length) Slot.unset).toArray = ls at hl ⊢
  have hl : lv_has ls 2 [(0, .ref (a 0)), (1, .int 1)] := hl
  refine lv_aload_n hx hb dX5_keep_0 rfl (lv_at hl 0 rfl) ?_
  refine lv_iload_n hx hb dX5_keep_1 rfl (lv_at hl 1 rfl) ?_
  refine lv_iconst (v := 0) hx hb dX5_keep_2 (by decide) ?_
  refine lv_iconst (v := 1) hx hb dX5_keep_3 (by decide) ?_
  refine ro_S (As := [.int 1, .int 0, .int 1]) (rest := [.ref (a 0)]) ⟨hx, hb, hml, hown, hts⟩ (c_X5_in l D cA _ 1 0 1) (cwS2 3 hts gX5_keep_X5_in rfl rfl rfl (by decide +kernel) ⟨Nat.le_of_ble_eq_true rfl, Nat.le_of_ble_eq_true rfl⟩) hKN rfl hl.1 rfl (lv_room (Nat.le_of_ble_eq_true rfl)) dX5_keep_4 ⟨Nat.zero_le _, Nat.zero_le _⟩ ?_
  refine lz_top (v := 1) (inF_ok (k := 1) (a := 0) (b := 1) (by omega) (by omega) (by decide)) ?_
  refine lv_if_eq (tgt := 14) hx hb dX5_keep_7 (by decide) (fun h => absurd h (by decide)) (fun _ => ?_)
  refine lv_iconst (v := 0) hx hb dX5_keep_10 (by decide) ?_
  refine lv_goto (tgt := 15) hx hb dX5_keep_11 (by decide) ?_
  refine mu_V (ci := 5) (q0 := 0) (As := [.int 0]) (rest := []) (ws' := (wMd cA a (0, f, 0, kp, tx, 0, wo, 0, 0, hs))) ⟨hx, hb, hml, hown, hts⟩ (c_X5_holds0 l D cA _ a (th, f, 0, kp, tx, 0, wo, 0, 0, hs) hP (hD.weaken (fun _ _ _ _ => trivial))) (cwV 1 hts gX5_keep_X5_holds rfl rfl rfl (by decide +kernel) ⟨Nat.le_of_ble_eq_true rfl, Nat.le_of_ble_eq_true rfl⟩) hKN hP hD hS hA rfl rfl [0, 1, 2, 3, 4] rfl ((wMd_fst _ _ _).trans (wMd_fst _ _ _).symm) rfl rfl hl.1 rfl (lv_room (Nat.le_of_ble_eq_true rfl)) dX5_keep_15 ⟨Nat.zero_le _, Nat.zero_le _⟩ (fun H locs hP hD hS => ?_)
  refine lv_if_ne (tgt := 23) hx hb dX5_keep_18 (by decide) (fun _ => ?_) (fun h => absurd h (by decide))
  refine lv_aload_n hx hb dX5_keep_23 rfl (lv_at hl 0 rfl) ?_
  refine lv_iconst (v := 0) hx hb dX5_keep_24 (by decide) ?_
  refine lv_bipush (v := 7) hx hb dX5_keep_25 (by decide) ?_
  refine lv_iload_n hx hb dX5_keep_27 rfl (lv_at hl 1 rfl) ?_
  refine lz_iadd (v := 8) hx hb dX5_keep_28 (by decide) ?_
  refine mu_V (ci := 5) (q0 := 0) (As := [.int 0, .int 8]) (rest := []) (ws' := (wMd cA a (0, (cpT f (62 * 0) (62 * 8) 62), 0, kp, tx, 0, wo, 0, 0, hs))) ⟨hx, hb, hml, hown, hts⟩ (c_X5_copies l D cA _ a (0, f, 0, kp, tx, 0, wo, 0, 0, hs) 0 8 (by omega) (by omega) (by omega) hP (hD.weaken (fun _ _ _ _ => trivial))) (cwV 2 hts gX5_keep_X5_copies rfl rfl rfl (by decide +kernel) ⟨Nat.le_of_ble_eq_true rfl, Nat.le_of_ble_eq_true rfl⟩) hKN hP hD hS hA rfl rfl [0, 1, 2, 3, 4] rfl ((wMd_fst _ _ _).trans (wMd_fst _ _ _).symm) rfl rfl hl.1 rfl (lv_room (Nat.le_of_ble_eq_true rfl)) dX5_keep_29 ⟨Nat.zero_le _, Nat.zero_le _⟩ (fun H locs hP hD hS => ?_)
  refine lv_aload_n hx hb dX5_keep_32 rfl (lv_at hl 0 rfl) ?_
  refine va_get (D := D) (ci := 5) (v := .ref (a 2)) (C := RX5) (T := TX5) (N := 10) hx hb hts iX5_keep_X5 hown hK hP 0 rfl rfl 3 (by decide) (hts _ mX5_keep_f13) (fun _ h9 => h9) rfl dX5_keep_33 ?_
  refine lv_iload_n hx hb dX5_keep_36 rfl (lv_at hl 1 rfl) ?_
  refine lv_iconst (v := 1) hx hb dX5_keep_37 (by decide) ?_
  refine lz_zast (k := 1) (f := kp) hx hb hK hP hD hS 2 1 rfl rfl ⟨by decide, by decide⟩ dX5_keep_38 (fun H locs hP hD hS => ?_)
  have hP : va_P D vwCl (wMd cA a (0, (cpT f (62 * 0) (62 * 8) 62), 0, (upd kp 1 1), tx, 0, wo, 0, 0, hs)) H := hP
  have hD : va_D A (wMd cA a (0, (cpT f (62 * 0) (62 * 8) 62), 0, (upd kp 1 1), tx, 0, wo, 0, 0, hs)) := hD
  refine lv_aload_n hx hb dX5_keep_39 rfl (lv_at hl 0 rfl) ?_
  refine lv_iconst (v := 0) hx hb dX5_keep_40 (by decide) ?_
  refine ro_V (ci := 5) (q0 := 0) (As := [.int 0]) (rest := []) ⟨hx, hb, hml, hown, hts⟩ (c_X5_crossings l D cA _ a (0, (cpT f (62 * 0) (62 * 8) 62), 0, (upd kp 1 1), tx, 0, wo, 0, 0, hs) 0 (by omega) (FR.ZR (FR.off hF (by omega))) hP) (cwV 1 hts gX5_keep_X5_crossings rfl rfl rfl (by decide +kernel) ⟨Nat.le_of_ble_eq_true rfl, Nat.le_of_ble_eq_true rfl⟩) hKN hP rfl rfl rfl hl.1 rfl (lv_room (Nat.le_of_ble_eq_true rfl)) dX5_keep_41 ⟨Nat.zero_le _, Nat.zero_le _⟩ ?_
  exact mu_iret hx hb hr hlocks dX5_keep_44 hAe hS hP rfl
set_option maxHeartbeats 4000000 in
set_option maxRecDepth 100000 in
theorem c_X5_goBack1 (l : Launch) (D : va_G) (cA : Nat → ClassId) (H : Heap) (a : Nat → Nat) (th : Int32) (f kp tx wo : Nat → Int32) (hs : Int64) (hF : FR f 0) (hk : kp 1 = 0) (hP0 : va_P D vwCl (wMd cA a (th, f, 0, kp, tx, 0, wo, 0, 0, hs)) H) (hD0 : va_D (fun _ => True) (wMd cA a (th, f, 0, kp, tx, 0, wo, 0, 0, hs))) : MU l yX5_goBack wsX5_goBack ({ frames := 1, cells := 0, slots := 0, locals := 22 } : Room) D cA [.ref (a 0), .int 1] H (wMd cA a (th, f, 0, kp, tx, 0, wo, 0, 0, hs)) (wMd cA a (2, f, 0, kp, tx, 0, wo, 0, 0, hs)) (some (.int 0)) := by
  refine Met.ofW (cc := cX5_goBack) (maxL := 2) (ret := (some .int)) (by decide) rfl ?_
  intro p e s m args below meth c s₁ B hml hv
  obtain ⟨rfl, hH, hKN⟩ := hv
  have hK := hKN.1
  have hx := B.exec
  have hb := B.bytes
  have hr := B.returns
  have hts := atoms_spec (ws := wsX5_goBack) B.pre
  have hown : s.vm.findClass RX5 = some m.cls := findClass_of_methodNamed B.named
  have hlocks := B.notSynchronized
  subst hH
  have hD := hD0.self (sz := s.heap.size)
  generalize hAe : va_A (wMd cA a (th, f, 0, kp, tx, 0, wo, 0, 0, hs)) s.heap.size = A at hD ⊢
  have hA : ∀ q : Nat, s.heap.size ≤ q → A q := fun q h => by rw [← hAe]; exact Or.inr h
  have hS : va_S A s.heap s.heap [] := va_S.rf
  have hP : va_P D vwCl (wMd cA a (th, f, 0, kp, tx, 0, wo, 0, 0, hs)) s.heap := hP0
  have hl := lv_entry ([.ref (a 0), .int 1] : List Value) (n := 2) (Nat.le_of_ble_eq_true rfl)
  rw [lg_entry_eq]
  generalize (lg_sl ([.ref (a 0), .int 1] : List Value) ++ List.replicate (2 - (lg_sl ([.ref (a 0), .int 1] : List Value)).length) Slot.unset).toArray = ls at hl ⊢
  have hl : lv_has ls 2 [(0, .ref (a 0)), (1, .int 1)] := hl
  refine lv_aload_n hx hb dX5_goBack_0 rfl (lv_at hl 0 rfl) ?_
  refine lv_iload_n hx hb dX5_goBack_1 rfl (lv_at hl 1 rfl) ?_
  refine lv_iconst (v := 0) hx hb dX5_goBack_2 (by decide) ?_
  refine lv_iconst (v := 1) hx hb dX5_goBack_3 (by decide) ?_
  refine ro_S (As := [.int 1, .int 0, .int 1]) (rest := [.ref (a 0)]) ⟨hx, hb, hml, hown, hts⟩ (c_X5_in l D cA _ 1 0 1) (cwS2 3 hts gX5_goBack_X5_in rfl rfl rfl (by decide +kernel) ⟨Nat.le_of_ble_eq_true rfl, Nat.le_of_ble_eq_true rfl⟩) hKN rfl hl.1 rfl (lv_room (Nat.le_of_ble_eq_true rfl)) dX5_goBack_4 ⟨Nat.zero_le _, Nat.zero_le _⟩ ?_
  refine lz_top (v := 1) (inF_ok (k := 1) (a := 0) (b := 1) (by omega) (by omega) (by decide)) ?_
  refine lv_if_ne (tgt := 14) hx hb dX5_goBack_7 (by decide) (fun _ => ?_) (fun h => absurd h (by decide))
  refine lv_aload_n hx hb dX5_goBack_14 rfl (lv_at hl 0 rfl) ?_
  refine va_get (D := D) (ci := 5) (v := .ref (a 2)) (C := RX5) (T := TX5) (N := 10) hx hb hts iX5_goBack_X5 hown hK hP 0 rfl rfl 3 (by decide) (hts _ mX5_goBack_f13) (fun _ h9 => h9) rfl dX5_goBack_15 ?_
  refine lv_iload_n hx hb dX5_goBack_18 rfl (lv_at hl 1 rfl) ?_
  refine lz_zald (k := 1) (f := kp) hx hb hK hP 2 1 rfl rfl ⟨by decide, by decide⟩ dX5_goBack_19 ?_
  refine lz_top (v := 0) hk ?_
  refine lv_if_ne (tgt := 27) hx hb dX5_goBack_20 (by decide) (fun h => absurd (by decide) h) (fun _ => ?_)
  refine lv_iconst (v := 2) hx hb dX5_goBack_23 (by decide) ?_
  refine lv_goto (tgt := 28) hx hb dX5_goBack_24 (by decide) ?_
  refine mu_V (ci := 5) (q0 := 0) (As := [.int 2]) (rest := []) (ws' := (wMd cA a (2, f, 0, kp, tx, 0, wo, 0, 0, hs))) ⟨hx, hb, hml, hown, hts⟩ (c_X5_holds2 l D cA _ a (th, f, 0, kp, tx, 0, wo, 0, 0, hs) hP (hD.weaken (fun _ _ _ _ => trivial))) (cwV 1 hts gX5_goBack_X5_holds rfl rfl rfl (by decide +kernel) ⟨Nat.le_of_ble_eq_true rfl, Nat.le_of_ble_eq_true rfl⟩) hKN hP hD hS hA rfl rfl [0, 1, 2, 3, 4] rfl ((wMd_fst _ _ _).trans (wMd_fst _ _ _).symm) rfl rfl hl.1 rfl (lv_room (Nat.le_of_ble_eq_true rfl)) dX5_goBack_28 ⟨Nat.zero_le _, Nat.zero_le _⟩ (fun H locs hP hD hS => ?_)
  refine lv_if_ne (tgt := 36) hx hb dX5_goBack_31 (by decide) (fun h => absurd (by decide) h) (fun _ => ?_)
  refine lv_iconst (v := 0) hx hb dX5_goBack_34 (by decide) ?_
  exact mu_iret hx hb hr hlocks dX5_goBack_35 hAe hS hP rfl
theorem mX5_undo_f76 : Cond.fieldLink RX5 76 "WireLoomModel" "saved" "I" ∈ wsX5_undo := by decide +kernel
set_option maxRecDepth 20000 in
theorem iX5_undo_X5 : ∀ w ∈ wsX50, w ∈ wsX5_undo := by decide +kernel
set_option maxHeartbeats 4000000 in
set_option maxRecDepth 100000 in
theorem c_X5_undo (l : Launch) (D : va_G) (cA : Nat → ClassId) (H : Heap) (a : Nat → Nat) (th : Int32) (f kp tx wo : Nat → Int32) (hs : Int64) (hF : FR f 0) (hP0 : va_P D vwCl (wMd cA a (th, f, 0, kp, tx, 0, wo, 0, 0, hs)) H) (hD0 : va_D (fun _ => True) (wMd cA a (th, f, 0, kp, tx, 0, wo, 0, 0, hs))) : MU l yX5_undo wsX5_undo ({ frames := 1, cells := 0, slots := 0, locals := 21 } : Room) D cA [.ref (a 0)] H (wMd cA a (th, f, 0, kp, tx, 0, wo, 0, 0, hs)) (wMd cA a (1, f, 0, kp, tx, 0, wo, 0, 0, hs)) (some (.int 0)) := by
  refine Met.ofW (cc := cX5_undo) (maxL := 1) (ret := (some .int)) (by decide) rfl ?_
  intro p e s m args below meth c s₁ B hml hv
  obtain ⟨rfl, hH, hKN⟩ := hv
  have hK := hKN.1
  have hx := B.exec
  have hb := B.bytes
  have hr := B.returns
  have hts := atoms_spec (ws := wsX5_undo) B.pre
  have hown : s.vm.findClass RX5 = some m.cls := findClass_of_methodNamed B.named
  have hlocks := B.notSynchronized
  subst hH
  have hD := hD0.self (sz := s.heap.size)
  generalize hAe : va_A (wMd cA a (th, f, 0, kp, tx, 0, wo, 0, 0, hs)) s.heap.size = A at hD ⊢
  have hA : ∀ q : Nat, s.heap.size ≤ q → A q := fun q h => by rw [← hAe]; exact Or.inr h
  have hS : va_S A s.heap s.heap [] := va_S.rf
  have hP : va_P D vwCl (wMd cA a (th, f, 0, kp, tx, 0, wo, 0, 0, hs)) s.heap := hP0
  have hl := lv_entry ([.ref (a 0)] : List Value) (n := 1) (Nat.le_of_ble_eq_true rfl)
  rw [lg_entry_eq]
  generalize (lg_sl ([.ref (a 0)] : List Value) ++ List.replicate (1 - (lg_sl ([.ref (a 0)] : List Value)).length) Slot.unset).toArray = ls at hl ⊢
  have hl : lv_has ls 1 [(0, .ref (a 0))] := hl
  refine lv_aload_n hx hb dX5_undo_0 rfl (lv_at hl 0 rfl) ?_
  refine lv_aload_n hx hb dX5_undo_1 rfl (lv_at hl 0 rfl) ?_
  refine va_get (D := D) (ci := 5) (v := .int 0) (C := RX5) (T := TX5) (N := 10) hx hb hts iX5_undo_X5 hown hK hP 0 rfl rfl 2 (by decide) (hts _ mX5_undo_f76) (fun _ h9 => h9) rfl dX5_undo_2 ?_
  refine lv_if_le (tgt := 12) hx hb dX5_undo_5 (by decide) (fun _ => ?_) (fun h => absurd (by decide) h)
  refine lv_iconst (v := 1) hx hb dX5_undo_12 (by decide) ?_
  refine mu_V (ci := 5) (q0 := 0) (As := [.int 1]) (rest := []) (ws' := (wMd cA a (1, f, 0, kp, tx, 0, wo, 0, 0, hs))) ⟨hx, hb, hml, hown, hts⟩ (c_X5_holds1 l D cA _ a (th, f, 0, kp, tx, 0, wo, 0, 0, hs) hP (hD.weaken (fun _ _ _ _ => trivial))) (cwV 1 hts gX5_undo_X5_holds rfl rfl rfl (by decide +kernel) ⟨Nat.le_of_ble_eq_true rfl, Nat.le_of_ble_eq_true rfl⟩) hKN hP hD hS hA rfl rfl [0, 1, 2, 3, 4] rfl ((wMd_fst _ _ _).trans (wMd_fst _ _ _).symm) rfl rfl hl.1 rfl (lv_room (Nat.le_of_ble_eq_true rfl)) dX5_undo_13 ⟨Nat.zero_le _, Nat.zero_le _⟩ (fun H locs hP hD hS => ?_)
  refine lv_if_ne (tgt := 21) hx hb dX5_undo_16 (by decide) (fun h => absurd (by decide) h) (fun _ => ?_)
  refine lv_iconst (v := 0) hx hb dX5_undo_19 (by decide) ?_
  exact mu_iret hx hb hr hlocks dX5_undo_20 hAe hS hP rfl
set_option maxHeartbeats 4000000 in
set_option maxRecDepth 100000 in
theorem c_X5_threadOf (l : Launch) (D : va_G) (cA : Nat → ClassId) (H : Heap) (a : Nat → Nat) (th : Int32) (f kp tx wo : Nat → Int32) (hs : Int64) (t : Nat) (ht : t < 16) (w : Nat) (hw : w < 8) (hF : FR f 0) (hP0 : va_P D vwCl (wMd cA a (th, f, 0, kp, tx, 0, wo, 0, 0, hs)) H) (hD0 : va_D (fun _ => True) (wMd cA a (th, f, 0, kp, tx, 0, wo, 0, 0, hs))) : MU l yX5_threadOf wsX5_threadOf ({ frames := 7, cells := 0, slots := 0, locals := 167 } : Room) D cA [.ref (a 0), .int (nI t), .int (nI w)] H (wMd cA a (th, f, 0, kp, tx, 0, wo, 0, 0, hs)) (wMd cA a (0, f, 0, kp, tx, 0, wo, 0, 0, hs)) (some (.int 0)) := by
  refine Met.ofW (cc := cX5_threadOf) (maxL := 3) (ret := (some .int)) (by decide) rfl ?_
  intro p e s m args below meth c s₁ B hml hv
  obtain ⟨rfl, hH, hKN⟩ := hv
  have hK := hKN.1
  have hx := B.exec
  have hb := B.bytes
  have hr := B.returns
  have hts := atoms_spec (ws := wsX5_threadOf) B.pre
  have hown : s.vm.findClass RX5 = some m.cls := findClass_of_methodNamed B.named
  have hlocks := B.notSynchronized
  subst hH
  have hD := hD0.self (sz := s.heap.size)
  generalize hAe : va_A (wMd cA a (th, f, 0, kp, tx, 0, wo, 0, 0, hs)) s.heap.size = A at hD ⊢
  have hA : ∀ q : Nat, s.heap.size ≤ q → A q := fun q h => by rw [← hAe]; exact Or.inr h
  have hS : va_S A s.heap s.heap [] := va_S.rf
  have hP : va_P D vwCl (wMd cA a (th, f, 0, kp, tx, 0, wo, 0, 0, hs)) s.heap := hP0
  have hl := lv_entry ([.ref (a 0), .int (nI t), .int (nI w)] : List Value) (n := 3) (Nat.le_of_ble_eq_true rfl)
  rw [lg_entry_eq]
  generalize (lg_sl ([.ref (a 0), .int (nI t), .int (nI w)] : List Value) ++ List.replicate (3 - (lg_sl ([.ref (a 0), .int (nI t), .int (nI w)] : List Value)).length) Slot.unset).toArray = ls at hl ⊢
  have hl : lv_has ls 3 [(0, .ref (a 0)), (1, .int (nI t)), (2, .int (nI w))] := hl
  refine lv_aload_n hx hb dX5_threadOf_0 rfl (lv_at hl 0 rfl) ?_
  refine lv_iload_n hx hb dX5_threadOf_1 rfl (lv_at hl 1 rfl) ?_
  refine ro_S (As := [.int (nI t)]) (rest := [.ref (a 0)]) ⟨hx, hb, hml, hown, hts⟩ (c_X5_isThread l D cA _ (nI t)) (cwS2 1 hts gX5_threadOf_X5_isThread rfl rfl rfl (by decide +kernel) ⟨Nat.le_of_ble_eq_true rfl, Nat.le_of_ble_eq_true rfl⟩) hKN rfl hl.1 rfl (lv_room (Nat.le_of_ble_eq_true rfl)) dX5_threadOf_2 ⟨Nat.zero_le _, Nat.zero_le _⟩ ?_
  refine lz_top (v := 1) (inF_ok (k := t) (a := 0) (b := 15) (by omega) (by omega) (by decide)) ?_
  refine lv_if_ne (tgt := 12) hx hb dX5_threadOf_5 (by decide) (fun _ => ?_) (fun h => absurd h (by decide))
  refine lv_iload_n hx hb dX5_threadOf_12 rfl (lv_at hl 2 rfl) ?_
  refine lv_iconst (v := 0) hx hb dX5_threadOf_13 (by decide) ?_
  refine lv_bipush (v := 7) hx hb dX5_threadOf_14 (by decide) ?_
  refine ro_S (As := [.int (nI w), .int 0, .int 7]) (rest := [.ref (a 0)]) ⟨hx, hb, hml, hown, hts⟩ (c_X5_in l D cA _ (nI w) 0 7) (cwS2 3 hts gX5_threadOf_X5_in rfl rfl rfl (by decide +kernel) ⟨Nat.le_of_ble_eq_true rfl, Nat.le_of_ble_eq_true rfl⟩) hKN rfl hl.1 rfl (lv_room (Nat.le_of_ble_eq_true rfl)) dX5_threadOf_16 ⟨Nat.zero_le _, Nat.zero_le _⟩ ?_
  refine lz_top (v := 1) (inF_ok (k := w) (a := 0) (b := 7) (by omega) (by omega) (by decide)) ?_
  refine lv_if_ne (tgt := 26) hx hb dX5_threadOf_19 (by decide) (fun _ => ?_) (fun h => absurd h (by decide))
  refine lv_iconst (v := 0) hx hb dX5_threadOf_26 (by decide) ?_
  refine mu_V (ci := 5) (q0 := 0) (As := [.int 0]) (rest := []) (ws' := (wMd cA a (0, f, 0, kp, tx, 0, wo, 0, 0, hs))) ⟨hx, hb, hml, hown, hts⟩ (c_X5_holds0 l D cA _ a (th, f, 0, kp, tx, 0, wo, 0, 0, hs) hP (hD.weaken (fun _ _ _ _ => trivial))) (cwV 1 hts gX5_threadOf_X5_holds rfl rfl rfl (by decide +kernel) ⟨Nat.le_of_ble_eq_true rfl, Nat.le_of_ble_eq_true rfl⟩) hKN hP hD hS hA rfl rfl [0, 1, 2, 3, 4] rfl ((wMd_fst _ _ _).trans (wMd_fst _ _ _).symm) rfl rfl hl.1 rfl (lv_room (Nat.le_of_ble_eq_true rfl)) dX5_threadOf_27 ⟨Nat.zero_le _, Nat.zero_le _⟩ (fun H locs hP hD hS => ?_)
  refine lv_if_eq (tgt := 42) hx hb dX5_threadOf_30 (by decide) (fun h => absurd h (by decide)) (fun _ => ?_)
  refine lv_aload_n hx hb dX5_threadOf_33 rfl (lv_at hl 0 rfl) ?_
  refine lv_iload_n hx hb dX5_threadOf_34 rfl (lv_at hl 1 rfl) ?_
  refine lv_iload_n hx hb dX5_threadOf_35 rfl (lv_at hl 2 rfl) ?_
  refine ro_V (ci := 5) (q0 := 0) (As := [.int (nI t), .int (nI w)]) (rest := []) ⟨hx, hb, hml, hown, hts⟩ (c_X5_ofThread l D cA _ a (0, f, 0, kp, tx, 0, wo, 0, 0, hs) t (by omega) w (by omega) hF hP) (cwV 2 hts gX5_threadOf_X5_ofThread rfl rfl rfl (by decide +kernel) ⟨Nat.le_of_ble_eq_true rfl, Nat.le_of_ble_eq_true rfl⟩) hKN hP rfl rfl rfl hl.1 rfl (lv_room (Nat.le_of_ble_eq_true rfl)) dX5_threadOf_36 ⟨Nat.zero_le _, Nat.zero_le _⟩ ?_
  refine lv_goto (tgt := 43) hx hb dX5_threadOf_39 (by decide) ?_
  exact mu_iret hx hb hr hlocks dX5_threadOf_43 hAe hS hP rfl
set_option maxHeartbeats 4000000 in
set_option maxRecDepth 100000 in
theorem c_X5_ringOf (l : Launch) (D : va_G) (cA : Nat → ClassId) (H : Heap) (a : Nat → Nat) (th : Int32) (f kp tx wo : Nat → Int32) (hs : Int64) (r : Nat) (hr0 : r < 8) (w : Nat) (hw : w < 5) (hF : FR f 0) (hP0 : va_P D vwCl (wMd cA a (th, f, 0, kp, tx, 0, wo, 0, 0, hs)) H) (hD0 : va_D (fun _ => True) (wMd cA a (th, f, 0, kp, tx, 0, wo, 0, 0, hs))) : MU l yX5_ringOf wsX5_ringOf ({ frames := 7, cells := 0, slots := 0, locals := 169 } : Room) D cA [.ref (a 0), .int (nI r), .int (nI w)] H (wMd cA a (th, f, 0, kp, tx, 0, wo, 0, 0, hs)) (wMd cA a (0, f, 0, kp, tx, 0, wo, 0, 0, hs)) (some (.int 0)) := by
  refine Met.ofW (cc := cX5_ringOf) (maxL := 3) (ret := (some .int)) (by decide) rfl ?_
  intro p e s m args below meth c s₁ B hml hv
  obtain ⟨rfl, hH, hKN⟩ := hv
  have hK := hKN.1
  have hx := B.exec
  have hb := B.bytes
  have hr := B.returns
  have hts := atoms_spec (ws := wsX5_ringOf) B.pre
  have hown : s.vm.findClass RX5 = some m.cls := findClass_of_methodNamed B.named
  have hlocks := B.notSynchronized
  subst hH
  have hD := hD0.self (sz := s.heap.size)
  generalize hAe : va_A (wMd cA a (th, f, 0, kp, tx, 0, wo, 0, 0, hs)) s.heap.size = A at hD ⊢
  have hA : ∀ q : Nat, s.heap.size ≤ q → A q := fun q h => by rw [← hAe]; exact Or.inr h
  have hS : va_S A s.heap s.heap [] := va_S.rf
  have hP : va_P D vwCl (wMd cA a (th, f, 0, kp, tx, 0, wo, 0, 0, hs)) s.heap := hP0
  have hl := lv_entry ([.ref (a 0), .int (nI r), .int (nI w)] : List Value) (n := 3) (Nat.le_of_ble_eq_true rfl)
  rw [lg_entry_eq]
  generalize (lg_sl ([.ref (a 0), .int (nI r), .int (nI w)] : List Value) ++ List.replicate (3 - (lg_sl ([.ref (a 0), .int (nI r), .int (nI w)] : List Value)).length) Slot.unset).toArray = ls at hl ⊢
  have hl : lv_has ls 3 [(0, .ref (a 0)), (1, .int (nI r)), (2, .int (nI w))] := hl
  refine lv_aload_n hx hb dX5_ringOf_0 rfl (lv_at hl 0 rfl) ?_
  refine lv_iload_n hx hb dX5_ringOf_1 rfl (lv_at hl 1 rfl) ?_
  refine ro_S (As := [.int (nI r)]) (rest := [.ref (a 0)]) ⟨hx, hb, hml, hown, hts⟩ (c_X5_isRing l D cA _ (nI r)) (cwS2 1 hts gX5_ringOf_X5_isRing rfl rfl rfl (by decide +kernel) ⟨Nat.le_of_ble_eq_true rfl, Nat.le_of_ble_eq_true rfl⟩) hKN rfl hl.1 rfl (lv_room (Nat.le_of_ble_eq_true rfl)) dX5_ringOf_2 ⟨Nat.zero_le _, Nat.zero_le _⟩ ?_
  refine lz_top (v := 1) (inF_ok (k := r) (a := 0) (b := 7) (by omega) (by omega) (by decide)) ?_
  refine lv_if_ne (tgt := 12) hx hb dX5_ringOf_5 (by decide) (fun _ => ?_) (fun h => absurd h (by decide))
  refine lv_iload_n hx hb dX5_ringOf_12 rfl (lv_at hl 2 rfl) ?_
  refine lv_iconst (v := 0) hx hb dX5_ringOf_13 (by decide) ?_
  refine lv_iconst (v := 4) hx hb dX5_ringOf_14 (by decide) ?_
  refine ro_S (As := [.int (nI w), .int 0, .int 4]) (rest := [.ref (a 0)]) ⟨hx, hb, hml, hown, hts⟩ (c_X5_in l D cA _ (nI w) 0 4) (cwS2 3 hts gX5_ringOf_X5_in rfl rfl rfl (by decide +kernel) ⟨Nat.le_of_ble_eq_true rfl, Nat.le_of_ble_eq_true rfl⟩) hKN rfl hl.1 rfl (lv_room (Nat.le_of_ble_eq_true rfl)) dX5_ringOf_15 ⟨Nat.zero_le _, Nat.zero_le _⟩ ?_
  refine lz_top (v := 1) (inF_ok (k := w) (a := 0) (b := 4) (by omega) (by omega) (by decide)) ?_
  refine lv_if_ne (tgt := 25) hx hb dX5_ringOf_18 (by decide) (fun _ => ?_) (fun h => absurd h (by decide))
  refine lv_iconst (v := 0) hx hb dX5_ringOf_25 (by decide) ?_
  refine mu_V (ci := 5) (q0 := 0) (As := [.int 0]) (rest := []) (ws' := (wMd cA a (0, f, 0, kp, tx, 0, wo, 0, 0, hs))) ⟨hx, hb, hml, hown, hts⟩ (c_X5_holds0 l D cA _ a (th, f, 0, kp, tx, 0, wo, 0, 0, hs) hP (hD.weaken (fun _ _ _ _ => trivial))) (cwV 1 hts gX5_ringOf_X5_holds rfl rfl rfl (by decide +kernel) ⟨Nat.le_of_ble_eq_true rfl, Nat.le_of_ble_eq_true rfl⟩) hKN hP hD hS hA rfl rfl [0, 1, 2, 3, 4] rfl ((wMd_fst _ _ _).trans (wMd_fst _ _ _).symm) rfl rfl hl.1 rfl (lv_room (Nat.le_of_ble_eq_true rfl)) dX5_ringOf_26 ⟨Nat.zero_le _, Nat.zero_le _⟩ (fun H locs hP hD hS => ?_)
  refine lv_if_eq (tgt := 41) hx hb dX5_ringOf_29 (by decide) (fun h => absurd h (by decide)) (fun _ => ?_)
  refine lv_aload_n hx hb dX5_ringOf_32 rfl (lv_at hl 0 rfl) ?_
  refine lv_iload_n hx hb dX5_ringOf_33 rfl (lv_at hl 1 rfl) ?_
  refine lv_iload_n hx hb dX5_ringOf_34 rfl (lv_at hl 2 rfl) ?_
  refine ro_V (ci := 5) (q0 := 0) (As := [.int (nI r), .int (nI w)]) (rest := []) ⟨hx, hb, hml, hown, hts⟩ (c_X5_ofRing l D cA _ a (0, f, 0, kp, tx, 0, wo, 0, 0, hs) r (by omega) w (by omega) hF hP) (cwV 2 hts gX5_ringOf_X5_ofRing rfl rfl rfl (by decide +kernel) ⟨Nat.le_of_ble_eq_true rfl, Nat.le_of_ble_eq_true rfl⟩) hKN hP rfl rfl rfl hl.1 rfl (lv_room (Nat.le_of_ble_eq_true rfl)) dX5_ringOf_35 ⟨Nat.zero_le _, Nat.zero_le _⟩ ?_
  refine lv_goto (tgt := 42) hx hb dX5_ringOf_38 (by decide) ?_
  exact mu_iret hx hb hr hlocks dX5_ringOf_42 hAe hS hP rfl
set_option maxHeartbeats 4000000 in
set_option maxRecDepth 100000 in
theorem c_X5_strength0 (l : Launch) (D : va_G) (cA : Nat → ClassId) (H : Heap) (a : Nat → Nat) (th : Int32) (f kp tx wo : Nat → Int32) (hs : Int64) (t : Nat) (ht : t < 16) (r : Nat) (hr0 : r < 8) (hF : FR f 0) (hP0 : va_P D vwCl (wMd cA a (th, f, 0, kp, tx, 0, wo, 0, 0, hs)) H) (hD0 : va_D (fun _ => True) (wMd cA a (th, f, 0, kp, tx, 0, wo, 0, 0, hs))) : MU l yX5_strength wsX5_strength ({ frames := 4, cells := 0, slots := 0, locals := 99 } : Room) D cA [.ref (a 0), .int (nI t), .int (nI r), .int 0] H (wMd cA a (th, f, 0, kp, tx, 0, wo, 0, 0, hs)) (wMd cA a (0, f, 0, kp, tx, 0, wo, 0, 0, hs)) (some (.int 0)) := by
  refine Met.ofW (cc := cX5_strength) (maxL := 4) (ret := (some .int)) (by decide) rfl ?_
  intro p e s m args below meth c s₁ B hml hv
  obtain ⟨rfl, hH, hKN⟩ := hv
  have hK := hKN.1
  have hx := B.exec
  have hb := B.bytes
  have hr := B.returns
  have hts := atoms_spec (ws := wsX5_strength) B.pre
  have hown : s.vm.findClass RX5 = some m.cls := findClass_of_methodNamed B.named
  have hlocks := B.notSynchronized
  subst hH
  have hD := hD0.self (sz := s.heap.size)
  generalize hAe : va_A (wMd cA a (th, f, 0, kp, tx, 0, wo, 0, 0, hs)) s.heap.size = A at hD ⊢
  have hA : ∀ q : Nat, s.heap.size ≤ q → A q := fun q h => by rw [← hAe]; exact Or.inr h
  have hS : va_S A s.heap s.heap [] := va_S.rf
  have hP : va_P D vwCl (wMd cA a (th, f, 0, kp, tx, 0, wo, 0, 0, hs)) s.heap := hP0
  have hl := lv_entry ([.ref (a 0), .int (nI t), .int (nI r), .int 0] : List Value) (n := 4) (Nat.le_of_ble_eq_true rfl)
  rw [lg_entry_eq]
  generalize (lg_sl ([.ref (a 0), .int (nI t), .int (nI r), .int 0] : List Value) ++ List.replicate (4 - (lg_sl ([.ref (a 0), .int (nI t), .int (nI r), .int 0] : List Value)).length) Slot.unset).toArray = ls at hl ⊢
  have hl : lv_has ls 4 [(0, .ref (a 0)), (1, .int (nI t)), (2, .int (nI r)), (3, .int 0)] := hl
  refine lv_aload_n hx hb dX5_strength_0 rfl (lv_at hl 0 rfl) ?_
  refine lv_iload_n hx hb dX5_strength_1 rfl (lv_at hl 1 rfl) ?_
  refine ro_S (As := [.int (nI t)]) (rest := [.ref (a 0)]) ⟨hx, hb, hml, hown, hts⟩ (c_X5_isThread l D cA _ (nI t)) (cwS2 1 hts gX5_strength_X5_isThread rfl rfl rfl (by decide +kernel) ⟨Nat.le_of_ble_eq_true rfl, Nat.le_of_ble_eq_true rfl⟩) hKN rfl hl.1 rfl (lv_room (Nat.le_of_ble_eq_true rfl)) dX5_strength_2 ⟨Nat.zero_le _, Nat.zero_le _⟩ ?_
  refine lz_top (v := 1) (inF_ok (k := t) (a := 0) (b := 15) (by omega) (by omega) (by decide)) ?_
  refine lv_if_eq (tgt := 15) hx hb dX5_strength_5 (by decide) (fun h => absurd h (by decide)) (fun _ => ?_)
  refine lv_iload_n hx hb dX5_strength_8 rfl (lv_at hl 2 rfl) ?_
  refine ro_S (As := [.int (nI r)]) (rest := [.ref (a 0)]) ⟨hx, hb, hml, hown, hts⟩ (c_X5_isRing l D cA _ (nI r)) (cwS2 1 hts gX5_strength_X5_isRing rfl rfl rfl (by decide +kernel) ⟨Nat.le_of_ble_eq_true rfl, Nat.le_of_ble_eq_true rfl⟩) hKN rfl hl.1 rfl (lv_room (Nat.le_of_ble_eq_true rfl)) dX5_strength_9 ⟨Nat.zero_le _, Nat.zero_le _⟩ ?_
  refine lz_top (v := 1) (inF_ok (k := r) (a := 0) (b := 7) (by omega) (by omega) (by decide)) ?_
  refine lv_if_ne (tgt := 19) hx hb dX5_strength_12 (by decide) (fun _ => ?_) (fun h => absurd h (by decide))
  refine lv_iload_n hx hb dX5_strength_19 rfl (lv_at hl 3 rfl) ?_
  refine lv_iconst (v := 0) hx hb dX5_strength_20 (by decide) ?_
  refine lv_iconst (v := 1) hx hb dX5_strength_21 (by decide) ?_
  refine ro_S (As := [.int 0, .int 0, .int 1]) (rest := [.ref (a 0)]) ⟨hx, hb, hml, hown, hts⟩ (c_X5_in l D cA _ 0 0 1) (cwS2 3 hts gX5_strength_X5_in rfl rfl rfl (by decide +kernel) ⟨Nat.le_of_ble_eq_true rfl, Nat.le_of_ble_eq_true rfl⟩) hKN rfl hl.1 rfl (lv_room (Nat.le_of_ble_eq_true rfl)) dX5_strength_22 ⟨Nat.zero_le _, Nat.zero_le _⟩ ?_
  refine lz_top (v := 1) (inF_ok (k := 0) (a := 0) (b := 1) (by omega) (by omega) (by decide)) ?_
  refine lv_if_ne (tgt := 32) hx hb dX5_strength_25 (by decide) (fun _ => ?_) (fun h => absurd h (by decide))
  refine lv_iconst (v := 0) hx hb dX5_strength_32 (by decide) ?_
  refine mu_V (ci := 5) (q0 := 0) (As := [.int 0]) (rest := []) (ws' := (wMd cA a (0, f, 0, kp, tx, 0, wo, 0, 0, hs))) ⟨hx, hb, hml, hown, hts⟩ (c_X5_holds0 l D cA _ a (th, f, 0, kp, tx, 0, wo, 0, 0, hs) hP (hD.weaken (fun _ _ _ _ => trivial))) (cwV 1 hts gX5_strength_X5_holds rfl rfl rfl (by decide +kernel) ⟨Nat.le_of_ble_eq_true rfl, Nat.le_of_ble_eq_true rfl⟩) hKN hP hD hS hA rfl rfl [0, 1, 2, 3, 4] rfl ((wMd_fst _ _ _).trans (wMd_fst _ _ _).symm) rfl rfl hl.1 rfl (lv_room (Nat.le_of_ble_eq_true rfl)) dX5_strength_33 ⟨Nat.zero_le _, Nat.zero_le _⟩ (fun H locs hP hD hS => ?_)
  refine lv_if_ne (tgt := 41) hx hb dX5_strength_36 (by decide) (fun _ => ?_) (fun h => absurd h (by decide))
  refine lv_iload_n hx hb dX5_strength_41 rfl (lv_at hl 3 rfl) ?_
  refine lv_if_ne (tgt := 55) hx hb dX5_strength_42 (by decide) (fun h => absurd (by decide) h) (fun _ => ?_)
  refine lv_aload_n hx hb dX5_strength_45 rfl (lv_at hl 0 rfl) ?_
  refine lv_iconst (v := 0) hx hb dX5_strength_46 (by decide) ?_
  refine lv_iload_n hx hb dX5_strength_47 rfl (lv_at hl 1 rfl) ?_
  refine lv_iload_n hx hb dX5_strength_48 rfl (lv_at hl 2 rfl) ?_
  refine ro_V (ci := 5) (q0 := 0) (As := [.int 0, .int (nI t), .int (nI r)]) (rest := []) ⟨hx, hb, hml, hown, hts⟩ (c_X5_strengthIn l D cA _ a (0, f, 0, kp, tx, 0, wo, 0, 0, hs) 0 (by omega) t (by omega) r (by omega) hF.ZR hP) (cwV 3 hts gX5_strength_X5_strengthIn rfl rfl rfl (by decide +kernel) ⟨Nat.le_of_ble_eq_true rfl, Nat.le_of_ble_eq_true rfl⟩) hKN hP rfl rfl rfl hl.1 rfl (lv_room (Nat.le_of_ble_eq_true rfl)) dX5_strength_49 ⟨Nat.zero_le _, Nat.zero_le _⟩ ?_
  refine lv_goto (tgt := 62) hx hb dX5_strength_52 (by decide) ?_
  exact mu_iret hx hb hr hlocks dX5_strength_62 hAe hS hP rfl
set_option maxHeartbeats 4000000 in
set_option maxRecDepth 100000 in
theorem c_X5_strength1 (l : Launch) (D : va_G) (cA : Nat → ClassId) (H : Heap) (a : Nat → Nat) (th : Int32) (f kp tx wo : Nat → Int32) (hs : Int64) (t : Nat) (ht : t < 16) (r : Nat) (hr0 : r < 8) (hF : FR f 0) (hP0 : va_P D vwCl (wMd cA a (th, f, 0, kp, tx, 0, wo, 0, 0, hs)) H) (hD0 : va_D (fun _ => True) (wMd cA a (th, f, 0, kp, tx, 0, wo, 0, 0, hs))) : MU l yX5_strength wsX5_strength ({ frames := 3, cells := 0, slots := 0, locals := 73 } : Room) D cA [.ref (a 0), .int (nI t), .int (nI r), .int 1] H (wMd cA a (th, f, 0, kp, tx, 0, wo, 0, 0, hs)) (wMd cA a (0, f, 0, kp, tx, 0, wo, 0, 0, hs)) (some (.int (-1))) := by
  refine Met.ofW (cc := cX5_strength) (maxL := 4) (ret := (some .int)) (by decide) rfl ?_
  intro p e s m args below meth c s₁ B hml hv
  obtain ⟨rfl, hH, hKN⟩ := hv
  have hK := hKN.1
  have hx := B.exec
  have hb := B.bytes
  have hr := B.returns
  have hts := atoms_spec (ws := wsX5_strength) B.pre
  have hown : s.vm.findClass RX5 = some m.cls := findClass_of_methodNamed B.named
  have hlocks := B.notSynchronized
  subst hH
  have hD := hD0.self (sz := s.heap.size)
  generalize hAe : va_A (wMd cA a (th, f, 0, kp, tx, 0, wo, 0, 0, hs)) s.heap.size = A at hD ⊢
  have hA : ∀ q : Nat, s.heap.size ≤ q → A q := fun q h => by rw [← hAe]; exact Or.inr h
  have hS : va_S A s.heap s.heap [] := va_S.rf
  have hP : va_P D vwCl (wMd cA a (th, f, 0, kp, tx, 0, wo, 0, 0, hs)) s.heap := hP0
  have hl := lv_entry ([.ref (a 0), .int (nI t), .int (nI r), .int 1] : List Value) (n := 4) (Nat.le_of_ble_eq_true rfl)
  rw [lg_entry_eq]
  generalize (lg_sl ([.ref (a 0), .int (nI t), .int (nI r), .int 1] : List Value) ++ List.replicate (4 - (lg_sl ([.ref (a 0), .int (nI t), .int (nI r), .int 1] : List Value)).length) Slot.unset).toArray = ls at hl ⊢
  have hl : lv_has ls 4 [(0, .ref (a 0)), (1, .int (nI t)), (2, .int (nI r)), (3, .int 1)] := hl
  refine lv_aload_n hx hb dX5_strength_0 rfl (lv_at hl 0 rfl) ?_
  refine lv_iload_n hx hb dX5_strength_1 rfl (lv_at hl 1 rfl) ?_
  refine ro_S (As := [.int (nI t)]) (rest := [.ref (a 0)]) ⟨hx, hb, hml, hown, hts⟩ (c_X5_isThread l D cA _ (nI t)) (cwS2 1 hts gX5_strength_X5_isThread rfl rfl rfl (by decide +kernel) ⟨Nat.le_of_ble_eq_true rfl, Nat.le_of_ble_eq_true rfl⟩) hKN rfl hl.1 rfl (lv_room (Nat.le_of_ble_eq_true rfl)) dX5_strength_2 ⟨Nat.zero_le _, Nat.zero_le _⟩ ?_
  refine lz_top (v := 1) (inF_ok (k := t) (a := 0) (b := 15) (by omega) (by omega) (by decide)) ?_
  refine lv_if_eq (tgt := 15) hx hb dX5_strength_5 (by decide) (fun h => absurd h (by decide)) (fun _ => ?_)
  refine lv_iload_n hx hb dX5_strength_8 rfl (lv_at hl 2 rfl) ?_
  refine ro_S (As := [.int (nI r)]) (rest := [.ref (a 0)]) ⟨hx, hb, hml, hown, hts⟩ (c_X5_isRing l D cA _ (nI r)) (cwS2 1 hts gX5_strength_X5_isRing rfl rfl rfl (by decide +kernel) ⟨Nat.le_of_ble_eq_true rfl, Nat.le_of_ble_eq_true rfl⟩) hKN rfl hl.1 rfl (lv_room (Nat.le_of_ble_eq_true rfl)) dX5_strength_9 ⟨Nat.zero_le _, Nat.zero_le _⟩ ?_
  refine lz_top (v := 1) (inF_ok (k := r) (a := 0) (b := 7) (by omega) (by omega) (by decide)) ?_
  refine lv_if_ne (tgt := 19) hx hb dX5_strength_12 (by decide) (fun _ => ?_) (fun h => absurd h (by decide))
  refine lv_iload_n hx hb dX5_strength_19 rfl (lv_at hl 3 rfl) ?_
  refine lv_iconst (v := 0) hx hb dX5_strength_20 (by decide) ?_
  refine lv_iconst (v := 1) hx hb dX5_strength_21 (by decide) ?_
  refine ro_S (As := [.int 1, .int 0, .int 1]) (rest := [.ref (a 0)]) ⟨hx, hb, hml, hown, hts⟩ (c_X5_in l D cA _ 1 0 1) (cwS2 3 hts gX5_strength_X5_in rfl rfl rfl (by decide +kernel) ⟨Nat.le_of_ble_eq_true rfl, Nat.le_of_ble_eq_true rfl⟩) hKN rfl hl.1 rfl (lv_room (Nat.le_of_ble_eq_true rfl)) dX5_strength_22 ⟨Nat.zero_le _, Nat.zero_le _⟩ ?_
  refine lz_top (v := 1) (inF_ok (k := 1) (a := 0) (b := 1) (by omega) (by omega) (by decide)) ?_
  refine lv_if_ne (tgt := 32) hx hb dX5_strength_25 (by decide) (fun _ => ?_) (fun h => absurd h (by decide))
  refine lv_iconst (v := 0) hx hb dX5_strength_32 (by decide) ?_
  refine mu_V (ci := 5) (q0 := 0) (As := [.int 0]) (rest := []) (ws' := (wMd cA a (0, f, 0, kp, tx, 0, wo, 0, 0, hs))) ⟨hx, hb, hml, hown, hts⟩ (c_X5_holds0 l D cA _ a (th, f, 0, kp, tx, 0, wo, 0, 0, hs) hP (hD.weaken (fun _ _ _ _ => trivial))) (cwV 1 hts gX5_strength_X5_holds rfl rfl rfl (by decide +kernel) ⟨Nat.le_of_ble_eq_true rfl, Nat.le_of_ble_eq_true rfl⟩) hKN hP hD hS hA rfl rfl [0, 1, 2, 3, 4] rfl ((wMd_fst _ _ _).trans (wMd_fst _ _ _).symm) rfl rfl hl.1 rfl (lv_room (Nat.le_of_ble_eq_true rfl)) dX5_strength_33 ⟨Nat.zero_le _, Nat.zero_le _⟩ (fun H locs hP hD hS => ?_)
  refine lv_if_ne (tgt := 41) hx hb dX5_strength_36 (by decide) (fun _ => ?_) (fun h => absurd h (by decide))
  refine lv_iload_n hx hb dX5_strength_41 rfl (lv_at hl 3 rfl) ?_
  refine lv_if_ne (tgt := 55) hx hb dX5_strength_42 (by decide) (fun _ => ?_) (fun h => absurd h (by decide))
  refine lv_aload_n hx hb dX5_strength_55 rfl (lv_at hl 0 rfl) ?_
  refine lv_iconst (v := 0) hx hb dX5_strength_56 (by decide) ?_
  refine lv_iload_n hx hb dX5_strength_57 rfl (lv_at hl 1 rfl) ?_
  refine lv_iload_n hx hb dX5_strength_58 rfl (lv_at hl 2 rfl) ?_
  refine ro_V (ci := 5) (q0 := 0) (As := [.int 0, .int (nI t), .int (nI r)]) (rest := []) ⟨hx, hb, hml, hown, hts⟩ (c_X5_hopsTo l D cA _ a (0, f, 0, kp, tx, 0, wo, 0, 0, hs) 0 (by omega) t (by omega) (nI r) hF.ZR hP) (cwV 3 hts gX5_strength_X5_hopsTo rfl rfl rfl (by decide +kernel) ⟨Nat.le_of_ble_eq_true rfl, Nat.le_of_ble_eq_true rfl⟩) hKN hP rfl rfl rfl hl.1 rfl (lv_room (Nat.le_of_ble_eq_true rfl)) dX5_strength_59 ⟨Nat.zero_le _, Nat.zero_le _⟩ ?_
  exact mu_iret hx hb hr hlocks dX5_strength_62 hAe hS hP rfl
set_option maxHeartbeats 4000000 in
set_option maxRecDepth 100000 in
theorem c_X5_machine (l : Launch) (D : va_G) (cA : Nat → ClassId) (H : Heap) (a : Nat → Nat) (th : Int32) (f kp tx wo : Nat → Int32) (hs : Int64) (w : Nat) (hw : w < 9) (hF : FR f 0) (hP0 : va_P D vwCl (wMd cA a (th, f, 0, kp, tx, 0, wo, 0, 0, hs)) H) (hD0 : va_D (fun _ => True) (wMd cA a (th, f, 0, kp, tx, 0, wo, 0, 0, hs))) : MU l yX5_machine wsX5_machine ({ frames := 1, cells := 0, slots := 0, locals := 22 } : Room) D cA [.ref (a 0), .int (nI w)] H (wMd cA a (th, f, 0, kp, tx, 0, wo, 0, 0, hs)) (wMd cA a (0, f, 0, kp, tx, 0, wo, 0, 0, hs)) (some (.int (f0J (27 + w)))) := by
  refine Met.ofW (cc := cX5_machine) (maxL := 2) (ret := (some .int)) (by decide) rfl ?_
  intro p e s m args below meth c s₁ B hml hv
  obtain ⟨rfl, hH, hKN⟩ := hv
  have hK := hKN.1
  have hx := B.exec
  have hb := B.bytes
  have hr := B.returns
  have hts := atoms_spec (ws := wsX5_machine) B.pre
  have hown : s.vm.findClass RX5 = some m.cls := findClass_of_methodNamed B.named
  have hlocks := B.notSynchronized
  subst hH
  have hD := hD0.self (sz := s.heap.size)
  generalize hAe : va_A (wMd cA a (th, f, 0, kp, tx, 0, wo, 0, 0, hs)) s.heap.size = A at hD ⊢
  have hA : ∀ q : Nat, s.heap.size ≤ q → A q := fun q h => by rw [← hAe]; exact Or.inr h
  have hS : va_S A s.heap s.heap [] := va_S.rf
  have hP : va_P D vwCl (wMd cA a (th, f, 0, kp, tx, 0, wo, 0, 0, hs)) s.heap := hP0
  have hl := lv_entry ([.ref (a 0), .int (nI w)] : List Value) (n := 2) (Nat.le_of_ble_eq_true rfl)
  rw [lg_entry_eq]
  generalize (lg_sl ([.ref (a 0), .int (nI w)] : List Value) ++ List.replicate (2 - (lg_sl ([.ref (a 0), .int (nI w)] : List Value)).length) Slot.unset).toArray = ls at hl ⊢
  have hl : lv_has ls 2 [(0, .ref (a 0)), (1, .int (nI w))] := hl
  refine lv_aload_n hx hb dX5_machine_0 rfl (lv_at hl 0 rfl) ?_
  refine lv_iload_n hx hb dX5_machine_1 rfl (lv_at hl 1 rfl) ?_
  refine lv_iconst (v := 0) hx hb dX5_machine_2 (by decide) ?_
  refine lv_bipush (v := 8) hx hb dX5_machine_3 (by decide) ?_
  refine ro_S (As := [.int (nI w), .int 0, .int 8]) (rest := [.ref (a 0)]) ⟨hx, hb, hml, hown, hts⟩ (c_X5_in l D cA _ (nI w) 0 8) (cwS2 3 hts gX5_machine_X5_in rfl rfl rfl (by decide +kernel) ⟨Nat.le_of_ble_eq_true rfl, Nat.le_of_ble_eq_true rfl⟩) hKN rfl hl.1 rfl (lv_room (Nat.le_of_ble_eq_true rfl)) dX5_machine_5 ⟨Nat.zero_le _, Nat.zero_le _⟩ ?_
  refine lz_top (v := 1) (inF_ok (k := w) (a := 0) (b := 8) (by omega) (by omega) (by decide)) ?_
  refine lv_if_eq (tgt := 15) hx hb dX5_machine_8 (by decide) (fun h => absurd h (by decide)) (fun _ => ?_)
  refine lv_iconst (v := 0) hx hb dX5_machine_11 (by decide) ?_
  refine lv_goto (tgt := 16) hx hb dX5_machine_12 (by decide) ?_
  refine mu_V (ci := 5) (q0 := 0) (As := [.int 0]) (rest := []) (ws' := (wMd cA a (0, f, 0, kp, tx, 0, wo, 0, 0, hs))) ⟨hx, hb, hml, hown, hts⟩ (c_X5_holds0 l D cA _ a (th, f, 0, kp, tx, 0, wo, 0, 0, hs) hP (hD.weaken (fun _ _ _ _ => trivial))) (cwV 1 hts gX5_machine_X5_holds rfl rfl rfl (by decide +kernel) ⟨Nat.le_of_ble_eq_true rfl, Nat.le_of_ble_eq_true rfl⟩) hKN hP hD hS hA rfl rfl [0, 1, 2, 3, 4] rfl ((wMd_fst _ _ _).trans (wMd_fst _ _ _).symm) rfl rfl hl.1 rfl (lv_room (Nat.le_of_ble_eq_true rfl)) dX5_machine_16 ⟨Nat.zero_le _, Nat.zero_le _⟩ (fun H locs hP hD hS => ?_)
  refine lv_if_eq (tgt := 30) hx hb dX5_machine_19 (by decide) (fun h => absurd h (by decide)) (fun _ => ?_)
  refine lv_aload_n hx hb dX5_machine_22 rfl (lv_at hl 0 rfl) ?_
  refine lv_iload_n hx hb dX5_machine_23 rfl (lv_at hl 1 rfl) ?_
  refine ro_V (ci := 5) (q0 := 0) (As := [.int (nI w)]) (rest := []) ⟨hx, hb, hml, hown, hts⟩ (c_X5_ofMachine l D cA _ a (0, f, 0, kp, tx, 0, wo, 0, 0, hs) w (by omega) hF hP) (cwV 1 hts gX5_machine_X5_ofMachine rfl rfl rfl (by decide +kernel) ⟨Nat.le_of_ble_eq_true rfl, Nat.le_of_ble_eq_true rfl⟩) hKN hP rfl rfl rfl hl.1 rfl (lv_room (Nat.le_of_ble_eq_true rfl)) dX5_machine_24 ⟨Nat.zero_le _, Nat.zero_le _⟩ ?_
  refine lv_goto (tgt := 31) hx hb dX5_machine_27 (by decide) ?_
  exact mu_iret hx hb hr hlocks dX5_machine_31 hAe hS hP rfl
set_option maxHeartbeats 4000000 in
set_option maxRecDepth 100000 in
theorem c_X5_told (l : Launch) (D : va_G) (cA : Nat → ClassId) (H : Heap) (a : Nat → Nat) (th : Int32) (f kp tx wo : Nat → Int32) (hs : Int64) (w : Nat) (hw : w < 8) (hF : FR f 0) (hP0 : va_P D vwCl (wMd cA a (th, f, 0, kp, tx, 0, wo, 0, 0, hs)) H) (hD0 : va_D (fun _ => True) (wMd cA a (th, f, 0, kp, tx, 0, wo, 0, 0, hs))) : MU l yX5_told wsX5_told ({ frames := 1, cells := 0, slots := 0, locals := 22 } : Room) D cA [.ref (a 0), .int (nI w)] H (wMd cA a (th, f, 0, kp, tx, 0, wo, 0, 0, hs)) (wMd cA a (0, f, 0, kp, tx, 0, wo, 0, 0, hs)) (some (.int (-1))) := by
  refine Met.ofW (cc := cX5_told) (maxL := 2) (ret := (some .int)) (by decide) rfl ?_
  intro p e s m args below meth c s₁ B hml hv
  obtain ⟨rfl, hH, hKN⟩ := hv
  have hK := hKN.1
  have hx := B.exec
  have hb := B.bytes
  have hr := B.returns
  have hts := atoms_spec (ws := wsX5_told) B.pre
  have hown : s.vm.findClass RX5 = some m.cls := findClass_of_methodNamed B.named
  have hlocks := B.notSynchronized
  subst hH
  have hD := hD0.self (sz := s.heap.size)
  generalize hAe : va_A (wMd cA a (th, f, 0, kp, tx, 0, wo, 0, 0, hs)) s.heap.size = A at hD ⊢
  have hA : ∀ q : Nat, s.heap.size ≤ q → A q := fun q h => by rw [← hAe]; exact Or.inr h
  have hS : va_S A s.heap s.heap [] := va_S.rf
  have hP : va_P D vwCl (wMd cA a (th, f, 0, kp, tx, 0, wo, 0, 0, hs)) s.heap := hP0
  have hl := lv_entry ([.ref (a 0), .int (nI w)] : List Value) (n := 2) (Nat.le_of_ble_eq_true rfl)
  rw [lg_entry_eq]
  generalize (lg_sl ([.ref (a 0), .int (nI w)] : List Value) ++ List.replicate (2 - (lg_sl ([.ref (a 0), .int (nI w)] : List Value)).length) Slot.unset).toArray = ls at hl ⊢
  have hl : lv_has ls 2 [(0, .ref (a 0)), (1, .int (nI w))] := hl
  refine lv_aload_n hx hb dX5_told_0 rfl (lv_at hl 0 rfl) ?_
  refine lv_iload_n hx hb dX5_told_1 rfl (lv_at hl 1 rfl) ?_
  refine lv_iconst (v := 0) hx hb dX5_told_2 (by decide) ?_
  refine lv_bipush (v := 7) hx hb dX5_told_3 (by decide) ?_
  refine ro_S (As := [.int (nI w), .int 0, .int 7]) (rest := [.ref (a 0)]) ⟨hx, hb, hml, hown, hts⟩ (c_X5_in l D cA _ (nI w) 0 7) (cwS2 3 hts gX5_told_X5_in rfl rfl rfl (by decide +kernel) ⟨Nat.le_of_ble_eq_true rfl, Nat.le_of_ble_eq_true rfl⟩) hKN rfl hl.1 rfl (lv_room (Nat.le_of_ble_eq_true rfl)) dX5_told_5 ⟨Nat.zero_le _, Nat.zero_le _⟩ ?_
  refine lz_top (v := 1) (inF_ok (k := w) (a := 0) (b := 7) (by omega) (by omega) (by decide)) ?_
  refine lv_if_eq (tgt := 15) hx hb dX5_told_8 (by decide) (fun h => absurd h (by decide)) (fun _ => ?_)
  refine lv_iconst (v := 0) hx hb dX5_told_11 (by decide) ?_
  refine lv_goto (tgt := 16) hx hb dX5_told_12 (by decide) ?_
  refine mu_V (ci := 5) (q0 := 0) (As := [.int 0]) (rest := []) (ws' := (wMd cA a (0, f, 0, kp, tx, 0, wo, 0, 0, hs))) ⟨hx, hb, hml, hown, hts⟩ (c_X5_holds0 l D cA _ a (th, f, 0, kp, tx, 0, wo, 0, 0, hs) hP (hD.weaken (fun _ _ _ _ => trivial))) (cwV 1 hts gX5_told_X5_holds rfl rfl rfl (by decide +kernel) ⟨Nat.le_of_ble_eq_true rfl, Nat.le_of_ble_eq_true rfl⟩) hKN hP hD hS hA rfl rfl [0, 1, 2, 3, 4] rfl ((wMd_fst _ _ _).trans (wMd_fst _ _ _).symm) rfl rfl hl.1 rfl (lv_room (Nat.le_of_ble_eq_true rfl)) dX5_told_16 ⟨Nat.zero_le _, Nat.zero_le _⟩ (fun H locs hP hD hS => ?_)
  refine lv_if_eq (tgt := 30) hx hb dX5_told_19 (by decide) (fun h => absurd h (by decide)) (fun _ => ?_)
  refine lv_aload_n hx hb dX5_told_22 rfl (lv_at hl 0 rfl) ?_
  refine lv_iload_n hx hb dX5_told_23 rfl (lv_at hl 1 rfl) ?_
  refine ro_V (ci := 5) (q0 := 0) (As := [.int (nI w)]) (rest := []) ⟨hx, hb, hml, hown, hts⟩ (c_X5_toldAgo l D cA _ a (0, f, 0, kp, tx, 0, wo, 0, 0, hs) w (by omega) hF hP) (cwV 1 hts gX5_told_X5_toldAgo rfl rfl rfl (by decide +kernel) ⟨Nat.le_of_ble_eq_true rfl, Nat.le_of_ble_eq_true rfl⟩) hKN hP rfl rfl rfl hl.1 rfl (lv_room (Nat.le_of_ble_eq_true rfl)) dX5_told_24 ⟨Nat.zero_le _, Nat.zero_le _⟩ ?_
  refine lv_goto (tgt := 31) hx hb dX5_told_27 (by decide) ?_
  exact mu_iret hx hb hr hlocks dX5_told_31 hAe hS hP rfl
set_option maxHeartbeats 4000000 in
set_option maxRecDepth 100000 in
theorem c_X5_count (l : Launch) (D : va_G) (cA : Nat → ClassId) (H : Heap) (a : Nat → Nat) (th : Int32) (f kp tx wo : Nat → Int32) (hs : Int64) (w : Nat) (hw : w < 10) (hF : FR f 0) (hP0 : va_P D vwCl (wMd cA a (th, f, 0, kp, tx, 0, wo, 0, 0, hs)) H) (hD0 : va_D (fun _ => True) (wMd cA a (th, f, 0, kp, tx, 0, wo, 0, 0, hs))) : MU l yX5_count wsX5_count ({ frames := 8, cells := 0, slots := 0, locals := 192 } : Room) D cA [.ref (a 0), .int (nI w)] H (wMd cA a (th, f, 0, kp, tx, 0, wo, 0, 0, hs)) (wMd cA a (0, f, 0, kp, tx, 0, wo, 0, 0, hs)) (some (.int (countM 0 w))) := by
  refine Met.ofW (cc := cX5_count) (maxL := 2) (ret := (some .int)) (by decide) rfl ?_
  intro p e s m args below meth c s₁ B hml hv
  obtain ⟨rfl, hH, hKN⟩ := hv
  have hK := hKN.1
  have hx := B.exec
  have hb := B.bytes
  have hr := B.returns
  have hts := atoms_spec (ws := wsX5_count) B.pre
  have hown : s.vm.findClass RX5 = some m.cls := findClass_of_methodNamed B.named
  have hlocks := B.notSynchronized
  subst hH
  have hD := hD0.self (sz := s.heap.size)
  generalize hAe : va_A (wMd cA a (th, f, 0, kp, tx, 0, wo, 0, 0, hs)) s.heap.size = A at hD ⊢
  have hA : ∀ q : Nat, s.heap.size ≤ q → A q := fun q h => by rw [← hAe]; exact Or.inr h
  have hS : va_S A s.heap s.heap [] := va_S.rf
  have hP : va_P D vwCl (wMd cA a (th, f, 0, kp, tx, 0, wo, 0, 0, hs)) s.heap := hP0
  have hl := lv_entry ([.ref (a 0), .int (nI w)] : List Value) (n := 2) (Nat.le_of_ble_eq_true rfl)
  rw [lg_entry_eq]
  generalize (lg_sl ([.ref (a 0), .int (nI w)] : List Value) ++ List.replicate (2 - (lg_sl ([.ref (a 0), .int (nI w)] : List Value)).length) Slot.unset).toArray = ls at hl ⊢
  have hl : lv_has ls 2 [(0, .ref (a 0)), (1, .int (nI w))] := hl
  refine lv_aload_n hx hb dX5_count_0 rfl (lv_at hl 0 rfl) ?_
  refine lv_iload_n hx hb dX5_count_1 rfl (lv_at hl 1 rfl) ?_
  refine lv_iconst (v := 0) hx hb dX5_count_2 (by decide) ?_
  refine lv_bipush (v := 9) hx hb dX5_count_3 (by decide) ?_
  refine ro_S (As := [.int (nI w), .int 0, .int 9]) (rest := [.ref (a 0)]) ⟨hx, hb, hml, hown, hts⟩ (c_X5_in l D cA _ (nI w) 0 9) (cwS2 3 hts gX5_count_X5_in rfl rfl rfl (by decide +kernel) ⟨Nat.le_of_ble_eq_true rfl, Nat.le_of_ble_eq_true rfl⟩) hKN rfl hl.1 rfl (lv_room (Nat.le_of_ble_eq_true rfl)) dX5_count_5 ⟨Nat.zero_le _, Nat.zero_le _⟩ ?_
  refine lz_top (v := 1) (inF_ok (k := w) (a := 0) (b := 9) (by omega) (by omega) (by decide)) ?_
  refine lv_if_eq (tgt := 15) hx hb dX5_count_8 (by decide) (fun h => absurd h (by decide)) (fun _ => ?_)
  refine lv_iconst (v := 0) hx hb dX5_count_11 (by decide) ?_
  refine lv_goto (tgt := 16) hx hb dX5_count_12 (by decide) ?_
  refine mu_V (ci := 5) (q0 := 0) (As := [.int 0]) (rest := []) (ws' := (wMd cA a (0, f, 0, kp, tx, 0, wo, 0, 0, hs))) ⟨hx, hb, hml, hown, hts⟩ (c_X5_holds0 l D cA _ a (th, f, 0, kp, tx, 0, wo, 0, 0, hs) hP (hD.weaken (fun _ _ _ _ => trivial))) (cwV 1 hts gX5_count_X5_holds rfl rfl rfl (by decide +kernel) ⟨Nat.le_of_ble_eq_true rfl, Nat.le_of_ble_eq_true rfl⟩) hKN hP hD hS hA rfl rfl [0, 1, 2, 3, 4] rfl ((wMd_fst _ _ _).trans (wMd_fst _ _ _).symm) rfl rfl hl.1 rfl (lv_room (Nat.le_of_ble_eq_true rfl)) dX5_count_16 ⟨Nat.zero_le _, Nat.zero_le _⟩ (fun H locs hP hD hS => ?_)
  refine lv_if_eq (tgt := 30) hx hb dX5_count_19 (by decide) (fun h => absurd h (by decide)) (fun _ => ?_)
  refine lv_aload_n hx hb dX5_count_22 rfl (lv_at hl 0 rfl) ?_
  refine lv_iload_n hx hb dX5_count_23 rfl (lv_at hl 1 rfl) ?_
  refine ro_V (ci := 5) (q0 := 0) (As := [.int (nI w)]) (rest := []) ⟨hx, hb, hml, hown, hts⟩ (c_X5_counted l D cA _ a (0, f, 0, kp, tx, 0, wo, 0, 0, hs) w (by omega) hF hP) (cwV 1 hts gX5_count_X5_counted rfl rfl rfl (by decide +kernel) ⟨Nat.le_of_ble_eq_true rfl, Nat.le_of_ble_eq_true rfl⟩) hKN hP rfl rfl rfl hl.1 rfl (lv_room (Nat.le_of_ble_eq_true rfl)) dX5_count_24 ⟨Nat.zero_le _, Nat.zero_le _⟩ ?_
  refine lv_goto (tgt := 31) hx hb dX5_count_27 (by decide) ?_
  exact mu_iret hx hb hr hlocks dX5_count_31 hAe hS hP rfl
theorem mX5_setting_f7 : Cond.fieldLink RX5 7 "WireLoomModel" "s" "[I" ∈ wsX5_setting := by decide +kernel
set_option maxRecDepth 20000 in
theorem iX5_setting_X5 : ∀ w ∈ wsX50, w ∈ wsX5_setting := by decide +kernel
set_option maxHeartbeats 4000000 in
set_option maxRecDepth 100000 in
theorem c_X5_setting0 (l : Launch) (D : va_G) (cA : Nat → ClassId) (H : Heap) (a : Nat → Nat) (th : Int32) (f kp tx wo : Nat → Int32) (hs : Int64) (hF : FR f 0) (hP0 : va_P D vwCl (wMd cA a (th, f, 0, kp, tx, 0, wo, 0, 0, hs)) H) (hD0 : va_D (fun _ => True) (wMd cA a (th, f, 0, kp, tx, 0, wo, 0, 0, hs))) : MU l yX5_setting wsX5_setting ({ frames := 1, cells := 0, slots := 0, locals := 22 } : Room) D cA [.ref (a 0), .int 0] H (wMd cA a (th, f, 0, kp, tx, 0, wo, 0, 0, hs)) (wMd cA a (0, f, 0, kp, tx, 0, wo, 0, 0, hs)) (some (.int (f 25))) := by
  refine Met.ofW (cc := cX5_setting) (maxL := 2) (ret := (some .int)) (by decide) rfl ?_
  intro p e s m args below meth c s₁ B hml hv
  obtain ⟨rfl, hH, hKN⟩ := hv
  have hK := hKN.1
  have hx := B.exec
  have hb := B.bytes
  have hr := B.returns
  have hts := atoms_spec (ws := wsX5_setting) B.pre
  have hown : s.vm.findClass RX5 = some m.cls := findClass_of_methodNamed B.named
  have hlocks := B.notSynchronized
  subst hH
  have hD := hD0.self (sz := s.heap.size)
  generalize hAe : va_A (wMd cA a (th, f, 0, kp, tx, 0, wo, 0, 0, hs)) s.heap.size = A at hD ⊢
  have hA : ∀ q : Nat, s.heap.size ≤ q → A q := fun q h => by rw [← hAe]; exact Or.inr h
  have hS : va_S A s.heap s.heap [] := va_S.rf
  have hP : va_P D vwCl (wMd cA a (th, f, 0, kp, tx, 0, wo, 0, 0, hs)) s.heap := hP0
  have hl := lv_entry ([.ref (a 0), .int 0] : List Value) (n := 2) (Nat.le_of_ble_eq_true rfl)
  rw [lg_entry_eq]
  generalize (lg_sl ([.ref (a 0), .int 0] : List Value) ++ List.replicate (2 - (lg_sl ([.ref (a 0), .int 0] : List Value)).length) Slot.unset).toArray = ls at hl ⊢
  have hl : lv_has ls 2 [(0, .ref (a 0)), (1, .int 0)] := hl
  refine lv_aload_n hx hb dX5_setting_0 rfl (lv_at hl 0 rfl) ?_
  refine lv_iload_n hx hb dX5_setting_1 rfl (lv_at hl 1 rfl) ?_
  refine lv_iconst (v := 0) hx hb dX5_setting_2 (by decide) ?_
  refine lv_iconst (v := 1) hx hb dX5_setting_3 (by decide) ?_
  refine ro_S (As := [.int 0, .int 0, .int 1]) (rest := [.ref (a 0)]) ⟨hx, hb, hml, hown, hts⟩ (c_X5_in l D cA _ 0 0 1) (cwS2 3 hts gX5_setting_X5_in rfl rfl rfl (by decide +kernel) ⟨Nat.le_of_ble_eq_true rfl, Nat.le_of_ble_eq_true rfl⟩) hKN rfl hl.1 rfl (lv_room (Nat.le_of_ble_eq_true rfl)) dX5_setting_4 ⟨Nat.zero_le _, Nat.zero_le _⟩ ?_
  refine lz_top (v := 1) (inF_ok (k := 0) (a := 0) (b := 1) (by omega) (by omega) (by decide)) ?_
  refine lv_if_eq (tgt := 14) hx hb dX5_setting_7 (by decide) (fun h => absurd h (by decide)) (fun _ => ?_)
  refine lv_iconst (v := 0) hx hb dX5_setting_10 (by decide) ?_
  refine lv_goto (tgt := 15) hx hb dX5_setting_11 (by decide) ?_
  refine mu_V (ci := 5) (q0 := 0) (As := [.int 0]) (rest := []) (ws' := (wMd cA a (0, f, 0, kp, tx, 0, wo, 0, 0, hs))) ⟨hx, hb, hml, hown, hts⟩ (c_X5_holds0 l D cA _ a (th, f, 0, kp, tx, 0, wo, 0, 0, hs) hP (hD.weaken (fun _ _ _ _ => trivial))) (cwV 1 hts gX5_setting_X5_holds rfl rfl rfl (by decide +kernel) ⟨Nat.le_of_ble_eq_true rfl, Nat.le_of_ble_eq_true rfl⟩) hKN hP hD hS hA rfl rfl [0, 1, 2, 3, 4] rfl ((wMd_fst _ _ _).trans (wMd_fst _ _ _).symm) rfl rfl hl.1 rfl (lv_room (Nat.le_of_ble_eq_true rfl)) dX5_setting_15 ⟨Nat.zero_le _, Nat.zero_le _⟩ (fun H locs hP hD hS => ?_)
  refine lv_if_eq (tgt := 33) hx hb dX5_setting_18 (by decide) (fun h => absurd h (by decide)) (fun _ => ?_)
  refine lv_aload_n hx hb dX5_setting_21 rfl (lv_at hl 0 rfl) ?_
  refine va_get (D := D) (ci := 5) (v := .ref (a 1)) (C := RX5) (T := TX5) (N := 10) hx hb hts iX5_setting_X5 hown hK hP 0 rfl rfl 1 (by decide) (hts _ mX5_setting_f7) (fun _ h9 => h9) rfl dX5_setting_22 ?_
  refine lv_bipush (v := 25) hx hb dX5_setting_25 (by decide) ?_
  refine lv_iload_n hx hb dX5_setting_27 rfl (lv_at hl 1 rfl) ?_
  refine lz_iadd (v := 25) hx hb dX5_setting_28 (by decide) ?_
  refine lz_iald (k := 25) (f := f) hx hb hK hP 1 0 rfl rfl ⟨by decide, by decide⟩ dX5_setting_29 ?_
  refine lv_goto (tgt := 34) hx hb dX5_setting_30 (by decide) ?_
  exact mu_iret hx hb hr hlocks dX5_setting_34 hAe hS hP rfl
set_option maxHeartbeats 4000000 in
set_option maxRecDepth 100000 in
theorem c_X5_setting1 (l : Launch) (D : va_G) (cA : Nat → ClassId) (H : Heap) (a : Nat → Nat) (th : Int32) (f kp tx wo : Nat → Int32) (hs : Int64) (hF : FR f 0) (hP0 : va_P D vwCl (wMd cA a (th, f, 0, kp, tx, 0, wo, 0, 0, hs)) H) (hD0 : va_D (fun _ => True) (wMd cA a (th, f, 0, kp, tx, 0, wo, 0, 0, hs))) : MU l yX5_setting wsX5_setting ({ frames := 1, cells := 0, slots := 0, locals := 22 } : Room) D cA [.ref (a 0), .int 1] H (wMd cA a (th, f, 0, kp, tx, 0, wo, 0, 0, hs)) (wMd cA a (0, f, 0, kp, tx, 0, wo, 0, 0, hs)) (some (.int (f 26))) := by
  refine Met.ofW (cc := cX5_setting) (maxL := 2) (ret := (some .int)) (by decide) rfl ?_
  intro p e s m args below meth c s₁ B hml hv
  obtain ⟨rfl, hH, hKN⟩ := hv
  have hK := hKN.1
  have hx := B.exec
  have hb := B.bytes
  have hr := B.returns
  have hts := atoms_spec (ws := wsX5_setting) B.pre
  have hown : s.vm.findClass RX5 = some m.cls := findClass_of_methodNamed B.named
  have hlocks := B.notSynchronized
  subst hH
  have hD := hD0.self (sz := s.heap.size)
  generalize hAe : va_A (wMd cA a (th, f, 0, kp, tx, 0, wo, 0, 0, hs)) s.heap.size = A at hD ⊢
  have hA : ∀ q : Nat, s.heap.size ≤ q → A q := fun q h => by rw [← hAe]; exact Or.inr h
  have hS : va_S A s.heap s.heap [] := va_S.rf
  have hP : va_P D vwCl (wMd cA a (th, f, 0, kp, tx, 0, wo, 0, 0, hs)) s.heap := hP0
  have hl := lv_entry ([.ref (a 0), .int 1] : List Value) (n := 2) (Nat.le_of_ble_eq_true rfl)
  rw [lg_entry_eq]
  generalize (lg_sl ([.ref (a 0), .int 1] : List Value) ++ List.replicate (2 - (lg_sl ([.ref (a 0), .int 1] : List Value)).length) Slot.unset).toArray = ls at hl ⊢
  have hl : lv_has ls 2 [(0, .ref (a 0)), (1, .int 1)] := hl
  refine lv_aload_n hx hb dX5_setting_0 rfl (lv_at hl 0 rfl) ?_
  refine lv_iload_n hx hb dX5_setting_1 rfl (lv_at hl 1 rfl) ?_
  refine lv_iconst (v := 0) hx hb dX5_setting_2 (by decide) ?_
  refine lv_iconst (v := 1) hx hb dX5_setting_3 (by decide) ?_
  refine ro_S (As := [.int 1, .int 0, .int 1]) (rest := [.ref (a 0)]) ⟨hx, hb, hml, hown, hts⟩ (c_X5_in l D cA _ 1 0 1) (cwS2 3 hts gX5_setting_X5_in rfl rfl rfl (by decide +kernel) ⟨Nat.le_of_ble_eq_true rfl, Nat.le_of_ble_eq_true rfl⟩) hKN rfl hl.1 rfl (lv_room (Nat.le_of_ble_eq_true rfl)) dX5_setting_4 ⟨Nat.zero_le _, Nat.zero_le _⟩ ?_
  refine lz_top (v := 1) (inF_ok (k := 1) (a := 0) (b := 1) (by omega) (by omega) (by decide)) ?_
  refine lv_if_eq (tgt := 14) hx hb dX5_setting_7 (by decide) (fun h => absurd h (by decide)) (fun _ => ?_)
  refine lv_iconst (v := 0) hx hb dX5_setting_10 (by decide) ?_
  refine lv_goto (tgt := 15) hx hb dX5_setting_11 (by decide) ?_
  refine mu_V (ci := 5) (q0 := 0) (As := [.int 0]) (rest := []) (ws' := (wMd cA a (0, f, 0, kp, tx, 0, wo, 0, 0, hs))) ⟨hx, hb, hml, hown, hts⟩ (c_X5_holds0 l D cA _ a (th, f, 0, kp, tx, 0, wo, 0, 0, hs) hP (hD.weaken (fun _ _ _ _ => trivial))) (cwV 1 hts gX5_setting_X5_holds rfl rfl rfl (by decide +kernel) ⟨Nat.le_of_ble_eq_true rfl, Nat.le_of_ble_eq_true rfl⟩) hKN hP hD hS hA rfl rfl [0, 1, 2, 3, 4] rfl ((wMd_fst _ _ _).trans (wMd_fst _ _ _).symm) rfl rfl hl.1 rfl (lv_room (Nat.le_of_ble_eq_true rfl)) dX5_setting_15 ⟨Nat.zero_le _, Nat.zero_le _⟩ (fun H locs hP hD hS => ?_)
  refine lv_if_eq (tgt := 33) hx hb dX5_setting_18 (by decide) (fun h => absurd h (by decide)) (fun _ => ?_)
  refine lv_aload_n hx hb dX5_setting_21 rfl (lv_at hl 0 rfl) ?_
  refine va_get (D := D) (ci := 5) (v := .ref (a 1)) (C := RX5) (T := TX5) (N := 10) hx hb hts iX5_setting_X5 hown hK hP 0 rfl rfl 1 (by decide) (hts _ mX5_setting_f7) (fun _ h9 => h9) rfl dX5_setting_22 ?_
  refine lv_bipush (v := 25) hx hb dX5_setting_25 (by decide) ?_
  refine lv_iload_n hx hb dX5_setting_27 rfl (lv_at hl 1 rfl) ?_
  refine lz_iadd (v := 26) hx hb dX5_setting_28 (by decide) ?_
  refine lz_iald (k := 26) (f := f) hx hb hK hP 1 0 rfl rfl ⟨by decide, by decide⟩ dX5_setting_29 ?_
  refine lv_goto (tgt := 34) hx hb dX5_setting_30 (by decide) ?_
  exact mu_iret hx hb hr hlocks dX5_setting_34 hAe hS hP rfl
set_option maxHeartbeats 4000000 in
set_option maxRecDepth 100000 in
theorem c_X5_ifLoaded (l : Launch) (D : va_G) (cA : Nat → ClassId) (H : Heap) (a : Nat → Nat) (th : Int32) (f kp tx wo : Nat → Int32) (hs : Int64) (t : Nat) (ht : t < 16) (hF : FR f 0) (hP0 : va_P D vwCl (wMd cA a (th, f, 0, kp, tx, 0, wo, 0, 0, hs)) H) (hD0 : va_D (fun _ => True) (wMd cA a (th, f, 0, kp, tx, 0, wo, 0, 0, hs))) : MU l yX5_ifLoaded wsX5_ifLoaded ({ frames := 4, cells := 0, slots := 0, locals := 86 } : Room) D cA [.ref (a 0), .int (nI t)] H (wMd cA a (th, f, 0, kp, tx, 0, wo, 0, 0, hs)) (wMd cA a (0, f, 0, kp, tx, 0, wo, 0, 0, hs)) (some (.int (-1))) := by
  refine Met.ofW (cc := cX5_ifLoaded) (maxL := 2) (ret := (some .int)) (by decide) rfl ?_
  intro p e s m args below meth c s₁ B hml hv
  obtain ⟨rfl, hH, hKN⟩ := hv
  have hK := hKN.1
  have hx := B.exec
  have hb := B.bytes
  have hr := B.returns
  have hts := atoms_spec (ws := wsX5_ifLoaded) B.pre
  have hown : s.vm.findClass RX5 = some m.cls := findClass_of_methodNamed B.named
  have hlocks := B.notSynchronized
  subst hH
  have hD := hD0.self (sz := s.heap.size)
  generalize hAe : va_A (wMd cA a (th, f, 0, kp, tx, 0, wo, 0, 0, hs)) s.heap.size = A at hD ⊢
  have hA : ∀ q : Nat, s.heap.size ≤ q → A q := fun q h => by rw [← hAe]; exact Or.inr h
  have hS : va_S A s.heap s.heap [] := va_S.rf
  have hP : va_P D vwCl (wMd cA a (th, f, 0, kp, tx, 0, wo, 0, 0, hs)) s.heap := hP0
  have hl := lv_entry ([.ref (a 0), .int (nI t)] : List Value) (n := 2) (Nat.le_of_ble_eq_true rfl)
  rw [lg_entry_eq]
  generalize (lg_sl ([.ref (a 0), .int (nI t)] : List Value) ++ List.replicate (2 - (lg_sl ([.ref (a 0), .int (nI t)] : List Value)).length) Slot.unset).toArray = ls at hl ⊢
  have hl : lv_has ls 2 [(0, .ref (a 0)), (1, .int (nI t))] := hl
  refine lv_aload_n hx hb dX5_ifLoaded_0 rfl (lv_at hl 0 rfl) ?_
  refine lv_iload_n hx hb dX5_ifLoaded_1 rfl (lv_at hl 1 rfl) ?_
  refine ro_S (As := [.int (nI t)]) (rest := [.ref (a 0)]) ⟨hx, hb, hml, hown, hts⟩ (c_X5_isThread l D cA _ (nI t)) (cwS2 1 hts gX5_ifLoaded_X5_isThread rfl rfl rfl (by decide +kernel) ⟨Nat.le_of_ble_eq_true rfl, Nat.le_of_ble_eq_true rfl⟩) hKN rfl hl.1 rfl (lv_room (Nat.le_of_ble_eq_true rfl)) dX5_ifLoaded_2 ⟨Nat.zero_le _, Nat.zero_le _⟩ ?_
  refine lz_top (v := 1) (inF_ok (k := t) (a := 0) (b := 15) (by omega) (by omega) (by decide)) ?_
  refine lv_if_eq (tgt := 12) hx hb dX5_ifLoaded_5 (by decide) (fun h => absurd h (by decide)) (fun _ => ?_)
  refine lv_iconst (v := 0) hx hb dX5_ifLoaded_8 (by decide) ?_
  refine lv_goto (tgt := 13) hx hb dX5_ifLoaded_9 (by decide) ?_
  refine mu_V (ci := 5) (q0 := 0) (As := [.int 0]) (rest := []) (ws' := (wMd cA a (0, f, 0, kp, tx, 0, wo, 0, 0, hs))) ⟨hx, hb, hml, hown, hts⟩ (c_X5_holds0 l D cA _ a (th, f, 0, kp, tx, 0, wo, 0, 0, hs) hP (hD.weaken (fun _ _ _ _ => trivial))) (cwV 1 hts gX5_ifLoaded_X5_holds rfl rfl rfl (by decide +kernel) ⟨Nat.le_of_ble_eq_true rfl, Nat.le_of_ble_eq_true rfl⟩) hKN hP hD hS hA rfl rfl [0, 1, 2, 3, 4] rfl ((wMd_fst _ _ _).trans (wMd_fst _ _ _).symm) rfl rfl hl.1 rfl (lv_room (Nat.le_of_ble_eq_true rfl)) dX5_ifLoaded_13 ⟨Nat.zero_le _, Nat.zero_le _⟩ (fun H locs hP hD hS => ?_)
  refine lv_if_ne (tgt := 21) hx hb dX5_ifLoaded_16 (by decide) (fun _ => ?_) (fun h => absurd h (by decide))
  refine lv_aload_n hx hb dX5_ifLoaded_21 rfl (lv_at hl 0 rfl) ?_
  refine mu_V (ci := 5) (q0 := 0) (As := []) (rest := []) (ws' := (wMd cA a (0, f, 0, kp, tx, 0, wo, 0, 0, hs))) ⟨hx, hb, hml, hown, hts⟩ (c_X5_isProgram l D cA _ a 0 f kp tx wo hs hP (hD.weaken (fun _ _ _ _ => trivial))) (cwV 0 hts gX5_ifLoaded_X5_isProgram rfl rfl rfl (by decide +kernel) ⟨Nat.le_of_ble_eq_true rfl, Nat.le_of_ble_eq_true rfl⟩) hKN hP hD hS hA rfl rfl [0, 1, 2, 3, 4] rfl ((wMd_fst _ _ _).trans (wMd_fst _ _ _).symm) rfl rfl hl.1 rfl (lv_room (Nat.le_of_ble_eq_true rfl)) dX5_ifLoaded_22 ⟨Nat.zero_le _, Nat.zero_le _⟩ (fun H locs hP hD hS => ?_)
  refine lv_if_eq (tgt := 36) hx hb dX5_ifLoaded_25 (by decide) (fun _ => ?_) (fun h => absurd (by decide) h)
  refine lv_iconst (v := (-1)) hx hb dX5_ifLoaded_36 (by decide) ?_
  exact mu_iret hx hb hr hlocks dX5_ifLoaded_37 hAe hS hP rfl
set_option maxHeartbeats 4000000 in
set_option maxRecDepth 100000 in
theorem c_X5_placeFound (l : Launch) (D : va_G) (cA : Nat → ClassId) (H : Heap) (a : Nat → Nat) (th : Int32) (f kp tx wo : Nat → Int32) (hs : Int64) (hP0 : va_P D vwCl (wMd cA a (th, f, 0, kp, tx, 0, wo, 0, 0, hs)) H) (hD0 : va_D (fun _ => True) (wMd cA a (th, f, 0, kp, tx, 0, wo, 0, 0, hs))) : MU l yX5_placeFound wsX5_placeFound ({ frames := 4, cells := 0, slots := 0, locals := 86 } : Room) D cA [.ref (a 0)] H (wMd cA a (th, f, 0, kp, tx, 0, wo, 0, 0, hs)) (wMd cA a (th, f, 0, kp, tx, 0, wo, 0, 0, hs)) (some (.int (-1))) := by
  refine Met.ofW (cc := cX5_placeFound) (maxL := 3) (ret := (some .int)) (by decide) rfl ?_
  intro p e s m args below meth c s₁ B hml hv
  obtain ⟨rfl, hH, hKN⟩ := hv
  have hK := hKN.1
  have hx := B.exec
  have hb := B.bytes
  have hr := B.returns
  have hts := atoms_spec (ws := wsX5_placeFound) B.pre
  have hown : s.vm.findClass RX5 = some m.cls := findClass_of_methodNamed B.named
  have hlocks := B.notSynchronized
  subst hH
  have hD := hD0.self (sz := s.heap.size)
  generalize hAe : va_A (wMd cA a (th, f, 0, kp, tx, 0, wo, 0, 0, hs)) s.heap.size = A at hD ⊢
  have hA : ∀ q : Nat, s.heap.size ≤ q → A q := fun q h => by rw [← hAe]; exact Or.inr h
  have hS : va_S A s.heap s.heap [] := va_S.rf
  have hP : va_P D vwCl (wMd cA a (th, f, 0, kp, tx, 0, wo, 0, 0, hs)) s.heap := hP0
  have hl := lv_entry ([.ref (a 0)] : List Value) (n := 3) (Nat.le_of_ble_eq_true rfl)
  rw [lg_entry_eq]
  generalize (lg_sl ([.ref (a 0)] : List Value) ++ List.replicate (3 - (lg_sl ([.ref (a 0)] : List Value)).length) Slot.unset).toArray = ls at hl ⊢
  have hl : lv_has ls 3 [(0, .ref (a 0))] := hl
  refine lv_aload_n hx hb dX5_placeFound_0 rfl (lv_at hl 0 rfl) ?_
  refine mu_V (ci := 5) (q0 := 0) (As := []) (rest := []) (ws' := (wMd cA a (th, f, 0, kp, tx, 0, wo, 0, 0, hs))) ⟨hx, hb, hml, hown, hts⟩ (c_X5_isProgram l D cA _ a th f kp tx wo hs hP (hD.weaken (fun _ _ _ _ => trivial))) (cwV 0 hts gX5_placeFound_X5_isProgram rfl rfl rfl (by decide +kernel) ⟨Nat.le_of_ble_eq_true rfl, Nat.le_of_ble_eq_true rfl⟩) hKN hP hD hS hA rfl rfl [0, 1, 2, 3, 4] rfl ((wMd_fst _ _ _).trans (wMd_fst _ _ _).symm) rfl rfl hl.1 rfl (lv_room (Nat.le_of_ble_eq_true rfl)) dX5_placeFound_1 ⟨Nat.zero_le _, Nat.zero_le _⟩ (fun H locs hP hD hS => ?_)
  refine lv_if_ne (tgt := 9) hx hb dX5_placeFound_4 (by decide) (fun h => absurd (by decide) h) (fun _ => ?_)
  refine lv_iconst (v := (-1)) hx hb dX5_placeFound_7 (by decide) ?_
  exact mu_iret hx hb hr hlocks dX5_placeFound_8 hAe hS hP rfl
theorem mX5_bestPlace_f23 : Cond.fieldLink RX5 23 "WireLoomModel" "thrown" "I" ∈ wsX5_bestPlace := by decide +kernel
set_option maxRecDepth 20000 in
theorem iX5_bestPlace_X5 : ∀ w ∈ wsX50, w ∈ wsX5_bestPlace := by decide +kernel
set_option maxHeartbeats 4000000 in
set_option maxRecDepth 100000 in
theorem c_X5_bestPlace (l : Launch) (D : va_G) (cA : Nat → ClassId) (H : Heap) (a : Nat → Nat) (th : Int32) (f kp tx wo : Nat → Int32) (hs : Int64) (hF : FR f 0) (hP0 : va_P D vwCl (wMd cA a (th, f, 0, kp, tx, 0, wo, 0, 0, hs)) H) (hD0 : va_D (fun _ => True) (wMd cA a (th, f, 0, kp, tx, 0, wo, 0, 0, hs))) : MU l yX5_bestPlace wsX5_bestPlace ({ frames := 5, cells := 0, slots := 0, locals := 108 } : Room) D cA [.ref (a 0)] H (wMd cA a (th, f, 0, kp, tx, 0, wo, 0, 0, hs)) (wMd cA a (0, f, 0, kp, tx, 0, wo, 0, 0, hs)) (some (.int (-1))) := by
  refine Met.ofW (cc := cX5_bestPlace) (maxL := 1) (ret := (some .int)) (by decide) rfl ?_
  intro p e s m args below meth c s₁ B hml hv
  obtain ⟨rfl, hH, hKN⟩ := hv
  have hK := hKN.1
  have hx := B.exec
  have hb := B.bytes
  have hr := B.returns
  have hts := atoms_spec (ws := wsX5_bestPlace) B.pre
  have hown : s.vm.findClass RX5 = some m.cls := findClass_of_methodNamed B.named
  have hlocks := B.notSynchronized
  subst hH
  have hD := hD0.self (sz := s.heap.size)
  generalize hAe : va_A (wMd cA a (th, f, 0, kp, tx, 0, wo, 0, 0, hs)) s.heap.size = A at hD ⊢
  have hA : ∀ q : Nat, s.heap.size ≤ q → A q := fun q h => by rw [← hAe]; exact Or.inr h
  have hS : va_S A s.heap s.heap [] := va_S.rf
  have hP : va_P D vwCl (wMd cA a (th, f, 0, kp, tx, 0, wo, 0, 0, hs)) s.heap := hP0
  have hl := lv_entry ([.ref (a 0)] : List Value) (n := 1) (Nat.le_of_ble_eq_true rfl)
  rw [lg_entry_eq]
  generalize (lg_sl ([.ref (a 0)] : List Value) ++ List.replicate (1 - (lg_sl ([.ref (a 0)] : List Value)).length) Slot.unset).toArray = ls at hl ⊢
  have hl : lv_has ls 1 [(0, .ref (a 0))] := hl
  refine lv_aload_n hx hb dX5_bestPlace_0 rfl (lv_at hl 0 rfl) ?_
  refine lv_iconst (v := 0) hx hb dX5_bestPlace_1 (by decide) ?_
  refine va_put (D := D) (ci := 5) (v := .int 0) (ty := .int) (C := RX5) (T := TX5) (N := 10) hx hb hts iX5_bestPlace_X5 tyX5 tyX5_ok nmX5 hown hK hP hD hS 0 rfl rfl 0 (by decide) (hts _ mX5_bestPlace_f23) (fun _ h9 => h9) rfl (by decide +kernel) rfl rfl (Nat.le_of_ble_eq_true rfl) dX5_bestPlace_2 (fun H locs hP hD hS => ?_)
  have hP : va_P D vwCl (wMd cA a (0, f, 0, kp, tx, 0, wo, 0, 0, hs)) H := hP
  have hD : va_D A (wMd cA a (0, f, 0, kp, tx, 0, wo, 0, 0, hs)) := hD
  refine lv_aload_n hx hb dX5_bestPlace_5 rfl (lv_at hl 0 rfl) ?_
  refine mu_V (ci := 5) (q0 := 0) (As := []) (rest := []) (ws' := (wMd cA a (0, f, 0, kp, tx, 0, wo, 0, 0, hs))) ⟨hx, hb, hml, hown, hts⟩ (c_X5_placeFound l D cA _ a 0 f kp tx wo hs hP (hD.weaken (fun _ _ _ _ => trivial))) (cwV 0 hts gX5_bestPlace_X5_placeFound rfl rfl rfl (by decide +kernel) ⟨Nat.le_of_ble_eq_true rfl, Nat.le_of_ble_eq_true rfl⟩) hKN hP hD hS hA rfl rfl [0, 1, 2, 3, 4] rfl ((wMd_fst _ _ _).trans (wMd_fst _ _ _).symm) rfl rfl hl.1 rfl (lv_room (Nat.le_of_ble_eq_true rfl)) dX5_bestPlace_6 ⟨Nat.zero_le _, Nat.zero_le _⟩ (fun H locs hP hD hS => ?_)
  exact mu_iret hx hb hr hlocks dX5_bestPlace_9 hAe hS hP rfl
theorem mX5_rightShare_f23 : Cond.fieldLink RX5 23 "WireLoomModel" "thrown" "I" ∈ wsX5_rightShare := by decide +kernel
set_option maxRecDepth 20000 in
theorem iX5_rightShare_X5 : ∀ w ∈ wsX50, w ∈ wsX5_rightShare := by decide +kernel
set_option maxHeartbeats 4000000 in
set_option maxRecDepth 100000 in
theorem c_X5_rightShare (l : Launch) (D : va_G) (cA : Nat → ClassId) (H : Heap) (a : Nat → Nat) (th : Int32) (f kp tx wo : Nat → Int32) (hs : Int64) (hF : FR f 0) (hP0 : va_P D vwCl (wMd cA a (th, f, 0, kp, tx, 0, wo, 0, 0, hs)) H) (hD0 : va_D (fun _ => True) (wMd cA a (th, f, 0, kp, tx, 0, wo, 0, 0, hs))) : MU l yX5_rightShare wsX5_rightShare ({ frames := 8, cells := 0, slots := 0, locals := 188 } : Room) D cA [.ref (a 0)] H (wMd cA a (th, f, 0, kp, tx, 0, wo, 0, 0, hs)) (wMd cA a (0, f, 0, kp, tx, 0, wo, 0, 0, hs)) (some (.double (shareF 16))) := by
  refine Met.ofW (cc := cX5_rightShare) (maxL := 1) (ret := (some .double)) (by decide) rfl ?_
  intro p e s m args below meth c s₁ B hml hv
  obtain ⟨rfl, hH, hKN⟩ := hv
  have hK := hKN.1
  have hx := B.exec
  have hb := B.bytes
  have hr := B.returns
  have hts := atoms_spec (ws := wsX5_rightShare) B.pre
  have hown : s.vm.findClass RX5 = some m.cls := findClass_of_methodNamed B.named
  have hlocks := B.notSynchronized
  subst hH
  have hD := hD0.self (sz := s.heap.size)
  generalize hAe : va_A (wMd cA a (th, f, 0, kp, tx, 0, wo, 0, 0, hs)) s.heap.size = A at hD ⊢
  have hA : ∀ q : Nat, s.heap.size ≤ q → A q := fun q h => by rw [← hAe]; exact Or.inr h
  have hS : va_S A s.heap s.heap [] := va_S.rf
  have hP : va_P D vwCl (wMd cA a (th, f, 0, kp, tx, 0, wo, 0, 0, hs)) s.heap := hP0
  have hl := lv_entry ([.ref (a 0)] : List Value) (n := 1) (Nat.le_of_ble_eq_true rfl)
  rw [lg_entry_eq]
  generalize (lg_sl ([.ref (a 0)] : List Value) ++ List.replicate (1 - (lg_sl ([.ref (a 0)] : List Value)).length) Slot.unset).toArray = ls at hl ⊢
  have hl : lv_has ls 1 [(0, .ref (a 0))] := hl
  refine lv_aload_n hx hb dX5_rightShare_0 rfl (lv_at hl 0 rfl) ?_
  refine lv_iconst (v := 0) hx hb dX5_rightShare_1 (by decide) ?_
  refine va_put (D := D) (ci := 5) (v := .int 0) (ty := .int) (C := RX5) (T := TX5) (N := 10) hx hb hts iX5_rightShare_X5 tyX5 tyX5_ok nmX5 hown hK hP hD hS 0 rfl rfl 0 (by decide) (hts _ mX5_rightShare_f23) (fun _ h9 => h9) rfl (by decide +kernel) rfl rfl (Nat.le_of_ble_eq_true rfl) dX5_rightShare_2 (fun H locs hP hD hS => ?_)
  have hP : va_P D vwCl (wMd cA a (0, f, 0, kp, tx, 0, wo, 0, 0, hs)) H := hP
  have hD : va_D A (wMd cA a (0, f, 0, kp, tx, 0, wo, 0, 0, hs)) := hD
  refine lv_aload_n hx hb dX5_rightShare_5 rfl (lv_at hl 0 rfl) ?_
  refine ro_V (ci := 5) (q0 := 0) (As := []) (rest := []) ⟨hx, hb, hml, hown, hts⟩ (c_X5_share l D cA _ a (0, f, 0, kp, tx, 0, wo, 0, 0, hs) hF.ZR hP) (cwV 0 hts gX5_rightShare_X5_share rfl rfl rfl (by decide +kernel) ⟨Nat.le_of_ble_eq_true rfl, Nat.le_of_ble_eq_true rfl⟩) hKN hP rfl rfl rfl hl.1 rfl (lv_room (Nat.le_of_ble_eq_true rfl)) dX5_rightShare_6 ⟨Nat.zero_le _, Nat.zero_le _⟩ ?_
  exact mu_dret hx hb hr hlocks dX5_rightShare_9 hAe hS hP rfl
theorem mX5_meanWear_f23 : Cond.fieldLink RX5 23 "WireLoomModel" "thrown" "I" ∈ wsX5_meanWear := by decide +kernel
set_option maxRecDepth 20000 in
theorem iX5_meanWear_X5 : ∀ w ∈ wsX50, w ∈ wsX5_meanWear := by decide +kernel
set_option maxHeartbeats 4000000 in
set_option maxRecDepth 100000 in
theorem c_X5_meanWear (l : Launch) (D : va_G) (cA : Nat → ClassId) (H : Heap) (a : Nat → Nat) (th : Int32) (f kp tx wo : Nat → Int32) (hs : Int64) (hF : FR f 0) (hP0 : va_P D vwCl (wMd cA a (th, f, 0, kp, tx, 0, wo, 0, 0, hs)) H) (hD0 : va_D (fun _ => True) (wMd cA a (th, f, 0, kp, tx, 0, wo, 0, 0, hs))) : MU l yX5_meanWear wsX5_meanWear ({ frames := 1, cells := 0, slots := 0, locals := 22 } : Room) D cA [.ref (a 0)] H (wMd cA a (th, f, 0, kp, tx, 0, wo, 0, 0, hs)) (wMd cA a (0, f, 0, kp, tx, 0, wo, 0, 0, hs)) (some (.float (meanF 0))) := by
  refine Met.ofW (cc := cX5_meanWear) (maxL := 1) (ret := (some .float)) (by decide) rfl ?_
  intro p e s m args below meth c s₁ B hml hv
  obtain ⟨rfl, hH, hKN⟩ := hv
  have hK := hKN.1
  have hx := B.exec
  have hb := B.bytes
  have hr := B.returns
  have hts := atoms_spec (ws := wsX5_meanWear) B.pre
  have hown : s.vm.findClass RX5 = some m.cls := findClass_of_methodNamed B.named
  have hlocks := B.notSynchronized
  subst hH
  have hD := hD0.self (sz := s.heap.size)
  generalize hAe : va_A (wMd cA a (th, f, 0, kp, tx, 0, wo, 0, 0, hs)) s.heap.size = A at hD ⊢
  have hA : ∀ q : Nat, s.heap.size ≤ q → A q := fun q h => by rw [← hAe]; exact Or.inr h
  have hS : va_S A s.heap s.heap [] := va_S.rf
  have hP : va_P D vwCl (wMd cA a (th, f, 0, kp, tx, 0, wo, 0, 0, hs)) s.heap := hP0
  have hl := lv_entry ([.ref (a 0)] : List Value) (n := 1) (Nat.le_of_ble_eq_true rfl)
  rw [lg_entry_eq]
  generalize (lg_sl ([.ref (a 0)] : List Value) ++ List.replicate (1 - (lg_sl ([.ref (a 0)] : List Value)).length) Slot.unset).toArray = ls at hl ⊢
  have hl : lv_has ls 1 [(0, .ref (a 0))] := hl
  refine lv_aload_n hx hb dX5_meanWear_0 rfl (lv_at hl 0 rfl) ?_
  refine lv_iconst (v := 0) hx hb dX5_meanWear_1 (by decide) ?_
  refine va_put (D := D) (ci := 5) (v := .int 0) (ty := .int) (C := RX5) (T := TX5) (N := 10) hx hb hts iX5_meanWear_X5 tyX5 tyX5_ok nmX5 hown hK hP hD hS 0 rfl rfl 0 (by decide) (hts _ mX5_meanWear_f23) (fun _ h9 => h9) rfl (by decide +kernel) rfl rfl (Nat.le_of_ble_eq_true rfl) dX5_meanWear_2 (fun H locs hP hD hS => ?_)
  have hP : va_P D vwCl (wMd cA a (0, f, 0, kp, tx, 0, wo, 0, 0, hs)) H := hP
  have hD : va_D A (wMd cA a (0, f, 0, kp, tx, 0, wo, 0, 0, hs)) := hD
  refine lv_aload_n hx hb dX5_meanWear_5 rfl (lv_at hl 0 rfl) ?_
  refine ro_V (ci := 5) (q0 := 0) (As := []) (rest := []) ⟨hx, hb, hml, hown, hts⟩ (c_X5_mean l D cA _ a (0, f, 0, kp, tx, 0, wo, 0, 0, hs) hF.ZR hP) (cwV 0 hts gX5_meanWear_X5_mean rfl rfl rfl (by decide +kernel) ⟨Nat.le_of_ble_eq_true rfl, Nat.le_of_ble_eq_true rfl⟩) hKN hP rfl rfl rfl hl.1 rfl (lv_room (Nat.le_of_ble_eq_true rfl)) dX5_meanWear_6 ⟨Nat.zero_le _, Nat.zero_le _⟩ ?_
  exact mu_fret hx hb hr hlocks dX5_meanWear_9 hAe hS hP rfl
set_option maxHeartbeats 4000000 in
set_option maxRecDepth 100000 in
theorem n_guard (l : Launch) (D : va_G) (cA : Nat → ClassId) (H : Heap) (a : Nat → Nat) (th : Int32) (f kp tx wo : Nat → Int32) (hs : Int64) (x : Int32) (hx0 : inF x 0 15 = 0) (hP0 : va_P D vwCl (wMd cA a (th, f, 0, kp, tx, 0, wo, 0, 0, hs)) H) (hD0 : va_D (fun _ => True) (wMd cA a (th, f, 0, kp, tx, 0, wo, 0, 0, hs))) : MU l yX5_guard wsX5_guard ({ frames := 2, cells := 0, slots := 0, locals := 42 } : Room) D cA [.ref (a 0), .int x] H (wMd cA a (th, f, 0, kp, tx, 0, wo, 0, 0, hs)) (wMd cA a (1, f, 0, kp, tx, 0, wo, 0, 0, hs)) (some (.int 0)) := by
  refine Met.ofW (cc := cX5_guard) (maxL := 2) (ret := (some .int)) (by decide) rfl ?_
  intro p e s m args below meth c s₁ B hml hv
  obtain ⟨rfl, hH, hKN⟩ := hv
  have hK := hKN.1
  have hx := B.exec
  have hb := B.bytes
  have hr := B.returns
  have hts := atoms_spec (ws := wsX5_guard) B.pre
  have hown : s.vm.findClass RX5 = some m.cls := findClass_of_methodNamed B.named
  have hlocks := B.notSynchronized
  subst hH
  have hD := hD0.self (sz := s.heap.size)
  generalize hAe : va_A (wMd cA a (th, f, 0, kp, tx, 0, wo, 0, 0, hs)) s.heap.size = A at hD ⊢
  have hA : ∀ q : Nat, s.heap.size ≤ q → A q := fun q h => by rw [← hAe]; exact Or.inr h
  have hS : va_S A s.heap s.heap [] := va_S.rf
  have hP : va_P D vwCl (wMd cA a (th, f, 0, kp, tx, 0, wo, 0, 0, hs)) s.heap := hP0
  have hl := lv_entry ([.ref (a 0), .int x] : List Value) (n := 2) (Nat.le_of_ble_eq_true rfl)
  rw [lg_entry_eq]
  generalize (lg_sl ([.ref (a 0), .int x] : List Value) ++ List.replicate (2 - (lg_sl ([.ref (a 0), .int x] : List Value)).length) Slot.unset).toArray = ls at hl ⊢
  have hl : lv_has ls 2 [(0, .ref (a 0)), (1, .int x)] := hl
  refine lv_aload_n hx hb dX5_guard_0 rfl (lv_at hl 0 rfl) ?_
  refine lv_iload_n hx hb dX5_guard_1 rfl (lv_at hl 1 rfl) ?_
  refine ro_S (As := [.int x]) (rest := [.ref (a 0)]) ⟨hx, hb, hml, hown, hts⟩ (c_X5_isThread l D cA _ x) (cwS2 1 hts gX5_guard_X5_isThread rfl rfl rfl (by decide +kernel) ⟨Nat.le_of_ble_eq_true rfl, Nat.le_of_ble_eq_true rfl⟩) hKN rfl hl.1 rfl (lv_room (Nat.le_of_ble_eq_true rfl)) dX5_guard_2 ⟨Nat.zero_le _, Nat.zero_le _⟩ ?_
  refine lz_top (v := 0) hx0 ?_
  refine lv_if_eq (tgt := 12) hx hb dX5_guard_5 (by decide) (fun _ => ?_) (fun h => absurd (by decide) h)
  refine lv_iconst (v := 1) hx hb dX5_guard_12 (by decide) ?_
  refine mu_V (ci := 5) (q0 := 0) (As := [.int 1]) (rest := []) (ws' := (wMd cA a (1, f, 0, kp, tx, 0, wo, 0, 0, hs))) ⟨hx, hb, hml, hown, hts⟩ (c_X5_holds1 l D cA _ a (th, f, 0, kp, tx, 0, wo, 0, 0, hs) hP (hD.weaken (fun _ _ _ _ => trivial))) (cwV 1 hts gX5_guard_X5_holds rfl rfl rfl (by decide +kernel) ⟨Nat.le_of_ble_eq_true rfl, Nat.le_of_ble_eq_true rfl⟩) hKN hP hD hS hA rfl rfl [0, 1, 2, 3, 4] rfl ((wMd_fst _ _ _).trans (wMd_fst _ _ _).symm) rfl rfl hl.1 rfl (lv_room (Nat.le_of_ble_eq_true rfl)) dX5_guard_13 ⟨Nat.zero_le _, Nat.zero_le _⟩ (fun H locs hP hD hS => ?_)
  refine lv_if_ne (tgt := 21) hx hb dX5_guard_16 (by decide) (fun h => absurd (by decide) h) (fun _ => ?_)
  refine lv_iconst (v := 0) hx hb dX5_guard_19 (by decide) ?_
  exact mu_iret hx hb hr hlocks dX5_guard_20 hAe hS hP rfl
set_option maxHeartbeats 4000000 in
set_option maxRecDepth 100000 in
theorem n_change (l : Launch) (D : va_G) (cA : Nat → ClassId) (H : Heap) (a : Nat → Nat) (th : Int32) (f kp tx wo : Nat → Int32) (hs : Int64) (x : Int32) (hx0 : inF x 0 7 = 0) (hP0 : va_P D vwCl (wMd cA a (th, f, 0, kp, tx, 0, wo, 0, 0, hs)) H) (hD0 : va_D (fun _ => True) (wMd cA a (th, f, 0, kp, tx, 0, wo, 0, 0, hs))) : MU l yX5_change wsX5_change ({ frames := 2, cells := 0, slots := 0, locals := 42 } : Room) D cA [.ref (a 0), .int x] H (wMd cA a (th, f, 0, kp, tx, 0, wo, 0, 0, hs)) (wMd cA a (1, f, 0, kp, tx, 0, wo, 0, 0, hs)) (some (.int 0)) := by
  refine Met.ofW (cc := cX5_change) (maxL := 4) (ret := (some .int)) (by decide) rfl ?_
  intro p e s m args below meth c s₁ B hml hv
  obtain ⟨rfl, hH, hKN⟩ := hv
  have hK := hKN.1
  have hx := B.exec
  have hb := B.bytes
  have hr := B.returns
  have hts := atoms_spec (ws := wsX5_change) B.pre
  have hown : s.vm.findClass RX5 = some m.cls := findClass_of_methodNamed B.named
  have hlocks := B.notSynchronized
  subst hH
  have hD := hD0.self (sz := s.heap.size)
  generalize hAe : va_A (wMd cA a (th, f, 0, kp, tx, 0, wo, 0, 0, hs)) s.heap.size = A at hD ⊢
  have hA : ∀ q : Nat, s.heap.size ≤ q → A q := fun q h => by rw [← hAe]; exact Or.inr h
  have hS : va_S A s.heap s.heap [] := va_S.rf
  have hP : va_P D vwCl (wMd cA a (th, f, 0, kp, tx, 0, wo, 0, 0, hs)) s.heap := hP0
  have hl := lv_entry ([.ref (a 0), .int x] : List Value) (n := 4) (Nat.le_of_ble_eq_true rfl)
  rw [lg_entry_eq]
  generalize (lg_sl ([.ref (a 0), .int x] : List Value) ++ List.replicate (4 - (lg_sl ([.ref (a 0), .int x] : List Value)).length) Slot.unset).toArray = ls at hl ⊢
  have hl : lv_has ls 4 [(0, .ref (a 0)), (1, .int x)] := hl
  refine lv_aload_n hx hb dX5_change_0 rfl (lv_at hl 0 rfl) ?_
  refine lv_iload_n hx hb dX5_change_1 rfl (lv_at hl 1 rfl) ?_
  refine ro_S (As := [.int x]) (rest := [.ref (a 0)]) ⟨hx, hb, hml, hown, hts⟩ (c_X5_isRing l D cA _ x) (cwS2 1 hts gX5_change_X5_isRing rfl rfl rfl (by decide +kernel) ⟨Nat.le_of_ble_eq_true rfl, Nat.le_of_ble_eq_true rfl⟩) hKN rfl hl.1 rfl (lv_room (Nat.le_of_ble_eq_true rfl)) dX5_change_2 ⟨Nat.zero_le _, Nat.zero_le _⟩ ?_
  refine lz_top (v := 0) hx0 ?_
  refine lv_if_eq (tgt := 12) hx hb dX5_change_5 (by decide) (fun _ => ?_) (fun h => absurd (by decide) h)
  refine lv_iconst (v := 1) hx hb dX5_change_12 (by decide) ?_
  refine mu_V (ci := 5) (q0 := 0) (As := [.int 1]) (rest := []) (ws' := (wMd cA a (1, f, 0, kp, tx, 0, wo, 0, 0, hs))) ⟨hx, hb, hml, hown, hts⟩ (c_X5_holds1 l D cA _ a (th, f, 0, kp, tx, 0, wo, 0, 0, hs) hP (hD.weaken (fun _ _ _ _ => trivial))) (cwV 1 hts gX5_change_X5_holds rfl rfl rfl (by decide +kernel) ⟨Nat.le_of_ble_eq_true rfl, Nat.le_of_ble_eq_true rfl⟩) hKN hP hD hS hA rfl rfl [0, 1, 2, 3, 4] rfl ((wMd_fst _ _ _).trans (wMd_fst _ _ _).symm) rfl rfl hl.1 rfl (lv_room (Nat.le_of_ble_eq_true rfl)) dX5_change_13 ⟨Nat.zero_le _, Nat.zero_le _⟩ (fun H locs hP hD hS => ?_)
  refine lv_if_ne (tgt := 21) hx hb dX5_change_16 (by decide) (fun h => absurd (by decide) h) (fun _ => ?_)
  refine lv_iconst (v := 0) hx hb dX5_change_19 (by decide) ?_
  exact mu_iret hx hb hr hlocks dX5_change_20 hAe hS hP rfl
set_option maxHeartbeats 4000000 in
set_option maxRecDepth 100000 in
theorem n_read (l : Launch) (D : va_G) (cA : Nat → ClassId) (H : Heap) (a : Nat → Nat) (th : Int32) (f kp tx wo : Nat → Int32) (hs : Int64) (x : Int32) (hx0 : inF x 0 15 = 0) (hP0 : va_P D vwCl (wMd cA a (th, f, 0, kp, tx, 0, wo, 0, 0, hs)) H) (hD0 : va_D (fun _ => True) (wMd cA a (th, f, 0, kp, tx, 0, wo, 0, 0, hs))) : MU l yX5_read wsX5_read ({ frames := 2, cells := 0, slots := 0, locals := 42 } : Room) D cA [.ref (a 0), .int x] H (wMd cA a (th, f, 0, kp, tx, 0, wo, 0, 0, hs)) (wMd cA a (1, f, 0, kp, tx, 0, wo, 0, 0, hs)) (some (.int 0)) := by
  refine Met.ofW (cc := cX5_read) (maxL := 2) (ret := (some .int)) (by decide) rfl ?_
  intro p e s m args below meth c s₁ B hml hv
  obtain ⟨rfl, hH, hKN⟩ := hv
  have hK := hKN.1
  have hx := B.exec
  have hb := B.bytes
  have hr := B.returns
  have hts := atoms_spec (ws := wsX5_read) B.pre
  have hown : s.vm.findClass RX5 = some m.cls := findClass_of_methodNamed B.named
  have hlocks := B.notSynchronized
  subst hH
  have hD := hD0.self (sz := s.heap.size)
  generalize hAe : va_A (wMd cA a (th, f, 0, kp, tx, 0, wo, 0, 0, hs)) s.heap.size = A at hD ⊢
  have hA : ∀ q : Nat, s.heap.size ≤ q → A q := fun q h => by rw [← hAe]; exact Or.inr h
  have hS : va_S A s.heap s.heap [] := va_S.rf
  have hP : va_P D vwCl (wMd cA a (th, f, 0, kp, tx, 0, wo, 0, 0, hs)) s.heap := hP0
  have hl := lv_entry ([.ref (a 0), .int x] : List Value) (n := 2) (Nat.le_of_ble_eq_true rfl)
  rw [lg_entry_eq]
  generalize (lg_sl ([.ref (a 0), .int x] : List Value) ++ List.replicate (2 - (lg_sl ([.ref (a 0), .int x] : List Value)).length) Slot.unset).toArray = ls at hl ⊢
  have hl : lv_has ls 2 [(0, .ref (a 0)), (1, .int x)] := hl
  refine lv_aload_n hx hb dX5_read_0 rfl (lv_at hl 0 rfl) ?_
  refine lv_iload_n hx hb dX5_read_1 rfl (lv_at hl 1 rfl) ?_
  refine ro_S (As := [.int x]) (rest := [.ref (a 0)]) ⟨hx, hb, hml, hown, hts⟩ (c_X5_isThread l D cA _ x) (cwS2 1 hts gX5_read_X5_isThread rfl rfl rfl (by decide +kernel) ⟨Nat.le_of_ble_eq_true rfl, Nat.le_of_ble_eq_true rfl⟩) hKN rfl hl.1 rfl (lv_room (Nat.le_of_ble_eq_true rfl)) dX5_read_2 ⟨Nat.zero_le _, Nat.zero_le _⟩ ?_
  refine lz_top (v := 0) hx0 ?_
  refine lv_if_eq (tgt := 12) hx hb dX5_read_5 (by decide) (fun _ => ?_) (fun h => absurd (by decide) h)
  refine lv_iconst (v := 1) hx hb dX5_read_12 (by decide) ?_
  refine mu_V (ci := 5) (q0 := 0) (As := [.int 1]) (rest := []) (ws' := (wMd cA a (1, f, 0, kp, tx, 0, wo, 0, 0, hs))) ⟨hx, hb, hml, hown, hts⟩ (c_X5_holds1 l D cA _ a (th, f, 0, kp, tx, 0, wo, 0, 0, hs) hP (hD.weaken (fun _ _ _ _ => trivial))) (cwV 1 hts gX5_read_X5_holds rfl rfl rfl (by decide +kernel) ⟨Nat.le_of_ble_eq_true rfl, Nat.le_of_ble_eq_true rfl⟩) hKN hP hD hS hA rfl rfl [0, 1, 2, 3, 4] rfl ((wMd_fst _ _ _).trans (wMd_fst _ _ _).symm) rfl rfl hl.1 rfl (lv_room (Nat.le_of_ble_eq_true rfl)) dX5_read_13 ⟨Nat.zero_le _, Nat.zero_le _⟩ (fun H locs hP hD hS => ?_)
  refine lv_if_ne (tgt := 21) hx hb dX5_read_16 (by decide) (fun h => absurd (by decide) h) (fun _ => ?_)
  refine lv_iconst (v := 0) hx hb dX5_read_19 (by decide) ?_
  exact mu_iret hx hb hr hlocks dX5_read_20 hAe hS hP rfl
set_option maxHeartbeats 4000000 in
set_option maxRecDepth 100000 in
theorem n_go (l : Launch) (D : va_G) (cA : Nat → ClassId) (H : Heap) (a : Nat → Nat) (th : Int32) (f kp tx wo : Nat → Int32) (hs : Int64) (x : Int32) (hx0 : inF x 1 99 = 0) (hP0 : va_P D vwCl (wMd cA a (th, f, 0, kp, tx, 0, wo, 0, 0, hs)) H) (hD0 : va_D (fun _ => True) (wMd cA a (th, f, 0, kp, tx, 0, wo, 0, 0, hs))) : MU l yX5_go wsX5_go ({ frames := 1, cells := 0, slots := 0, locals := 22 } : Room) D cA [.ref (a 0), .int x] H (wMd cA a (th, f, 0, kp, tx, 0, wo, 0, 0, hs)) (wMd cA a (1, f, 0, kp, tx, 0, wo, 0, 0, hs)) (some (.int 0)) := by
  refine Met.ofW (cc := cX5_go) (maxL := 2) (ret := (some .int)) (by decide) rfl ?_
  intro p e s m args below meth c s₁ B hml hv
  obtain ⟨rfl, hH, hKN⟩ := hv
  have hK := hKN.1
  have hx := B.exec
  have hb := B.bytes
  have hr := B.returns
  have hts := atoms_spec (ws := wsX5_go) B.pre
  have hown : s.vm.findClass RX5 = some m.cls := findClass_of_methodNamed B.named
  have hlocks := B.notSynchronized
  subst hH
  have hD := hD0.self (sz := s.heap.size)
  generalize hAe : va_A (wMd cA a (th, f, 0, kp, tx, 0, wo, 0, 0, hs)) s.heap.size = A at hD ⊢
  have hA : ∀ q : Nat, s.heap.size ≤ q → A q := fun q h => by rw [← hAe]; exact Or.inr h
  have hS : va_S A s.heap s.heap [] := va_S.rf
  have hP : va_P D vwCl (wMd cA a (th, f, 0, kp, tx, 0, wo, 0, 0, hs)) s.heap := hP0
  have hl := lv_entry ([.ref (a 0), .int x] : List Value) (n := 2) (Nat.le_of_ble_eq_true rfl)
  rw [lg_entry_eq]
  generalize (lg_sl ([.ref (a 0), .int x] : List Value) ++ List.replicate (2 - (lg_sl ([.ref (a 0), .int x] : List Value)).length) Slot.unset).toArray = ls at hl ⊢
  have hl : lv_has ls 2 [(0, .ref (a 0)), (1, .int x)] := hl
  refine lv_aload_n hx hb dX5_go_0 rfl (lv_at hl 0 rfl) ?_
  refine lv_iload_n hx hb dX5_go_1 rfl (lv_at hl 1 rfl) ?_
  refine lv_iconst (v := 1) hx hb dX5_go_2 (by decide) ?_
  refine lv_bipush (v := 99) hx hb dX5_go_3 (by decide) ?_
  refine ro_S (As := [.int x, .int 1, .int 99]) (rest := [.ref (a 0)]) ⟨hx, hb, hml, hown, hts⟩ (c_X5_in l D cA _ x 1 99) (cwS2 3 hts gX5_go_X5_in rfl rfl rfl (by decide +kernel) ⟨Nat.le_of_ble_eq_true rfl, Nat.le_of_ble_eq_true rfl⟩) hKN rfl hl.1 rfl (lv_room (Nat.le_of_ble_eq_true rfl)) dX5_go_5 ⟨Nat.zero_le _, Nat.zero_le _⟩ ?_
  refine lz_top (v := 0) hx0 ?_
  refine lv_if_eq (tgt := 15) hx hb dX5_go_8 (by decide) (fun _ => ?_) (fun h => absurd (by decide) h)
  refine lv_iconst (v := 1) hx hb dX5_go_15 (by decide) ?_
  refine mu_V (ci := 5) (q0 := 0) (As := [.int 1]) (rest := []) (ws' := (wMd cA a (1, f, 0, kp, tx, 0, wo, 0, 0, hs))) ⟨hx, hb, hml, hown, hts⟩ (c_X5_holds1 l D cA _ a (th, f, 0, kp, tx, 0, wo, 0, 0, hs) hP (hD.weaken (fun _ _ _ _ => trivial))) (cwV 1 hts gX5_go_X5_holds rfl rfl rfl (by decide +kernel) ⟨Nat.le_of_ble_eq_true rfl, Nat.le_of_ble_eq_true rfl⟩) hKN hP hD hS hA rfl rfl [0, 1, 2, 3, 4] rfl ((wMd_fst _ _ _).trans (wMd_fst _ _ _).symm) rfl rfl hl.1 rfl (lv_room (Nat.le_of_ble_eq_true rfl)) dX5_go_16 ⟨Nat.zero_le _, Nat.zero_le _⟩ (fun H locs hP hD hS => ?_)
  refine lv_if_ne (tgt := 24) hx hb dX5_go_19 (by decide) (fun h => absurd (by decide) h) (fun _ => ?_)
  refine lv_iconst (v := 0) hx hb dX5_go_22 (by decide) ?_
  exact mu_iret hx hb hr hlocks dX5_go_23 hAe hS hP rfl
set_option maxHeartbeats 4000000 in
set_option maxRecDepth 100000 in
theorem n_append (l : Launch) (D : va_G) (cA : Nat → ClassId) (H : Heap) (a : Nat → Nat) (th : Int32) (f kp tx wo : Nat → Int32) (hs : Int64) (x : Int32) (hx0 : inF x 33 126 = 0) (hP0 : va_P D vwCl (wMd cA a (th, f, 0, kp, tx, 0, wo, 0, 0, hs)) H) (hD0 : va_D (fun _ => True) (wMd cA a (th, f, 0, kp, tx, 0, wo, 0, 0, hs))) : MU l yX5_append wsX5_append ({ frames := 1, cells := 0, slots := 0, locals := 22 } : Room) D cA [.ref (a 0), .int x] H (wMd cA a (th, f, 0, kp, tx, 0, wo, 0, 0, hs)) (wMd cA a (1, f, 0, kp, tx, 0, wo, 0, 0, hs)) (some (.int 0)) := by
  refine Met.ofW (cc := cX5_append) (maxL := 2) (ret := (some .int)) (by decide) rfl ?_
  intro p e s m args below meth c s₁ B hml hv
  obtain ⟨rfl, hH, hKN⟩ := hv
  have hK := hKN.1
  have hx := B.exec
  have hb := B.bytes
  have hr := B.returns
  have hts := atoms_spec (ws := wsX5_append) B.pre
  have hown : s.vm.findClass RX5 = some m.cls := findClass_of_methodNamed B.named
  have hlocks := B.notSynchronized
  subst hH
  have hD := hD0.self (sz := s.heap.size)
  generalize hAe : va_A (wMd cA a (th, f, 0, kp, tx, 0, wo, 0, 0, hs)) s.heap.size = A at hD ⊢
  have hA : ∀ q : Nat, s.heap.size ≤ q → A q := fun q h => by rw [← hAe]; exact Or.inr h
  have hS : va_S A s.heap s.heap [] := va_S.rf
  have hP : va_P D vwCl (wMd cA a (th, f, 0, kp, tx, 0, wo, 0, 0, hs)) s.heap := hP0
  have hl := lv_entry ([.ref (a 0), .int x] : List Value) (n := 2) (Nat.le_of_ble_eq_true rfl)
  rw [lg_entry_eq]
  generalize (lg_sl ([.ref (a 0), .int x] : List Value) ++ List.replicate (2 - (lg_sl ([.ref (a 0), .int x] : List Value)).length) Slot.unset).toArray = ls at hl ⊢
  have hl : lv_has ls 2 [(0, .ref (a 0)), (1, .int x)] := hl
  refine lv_aload_n hx hb dX5_append_0 rfl (lv_at hl 0 rfl) ?_
  refine lv_iload_n hx hb dX5_append_1 rfl (lv_at hl 1 rfl) ?_
  refine lv_bipush (v := 33) hx hb dX5_append_2 (by decide) ?_
  refine lv_bipush (v := 126) hx hb dX5_append_4 (by decide) ?_
  refine ro_S (As := [.int x, .int 33, .int 126]) (rest := [.ref (a 0)]) ⟨hx, hb, hml, hown, hts⟩ (c_X5_in l D cA _ x 33 126) (cwS2 3 hts gX5_append_X5_in rfl rfl rfl (by decide +kernel) ⟨Nat.le_of_ble_eq_true rfl, Nat.le_of_ble_eq_true rfl⟩) hKN rfl hl.1 rfl (lv_room (Nat.le_of_ble_eq_true rfl)) dX5_append_6 ⟨Nat.zero_le _, Nat.zero_le _⟩ ?_
  refine lz_top (v := 0) hx0 ?_
  refine lv_if_ne (tgt := 16) hx hb dX5_append_9 (by decide) (fun h => absurd (by decide) h) (fun _ => ?_)
  refine lv_iconst (v := 1) hx hb dX5_append_12 (by decide) ?_
  refine lv_goto (tgt := 30) hx hb dX5_append_13 (by decide) ?_
  refine mu_V (ci := 5) (q0 := 0) (As := [.int 1]) (rest := []) (ws' := (wMd cA a (1, f, 0, kp, tx, 0, wo, 0, 0, hs))) ⟨hx, hb, hml, hown, hts⟩ (c_X5_holds1 l D cA _ a (th, f, 0, kp, tx, 0, wo, 0, 0, hs) hP (hD.weaken (fun _ _ _ _ => trivial))) (cwV 1 hts gX5_append_X5_holds rfl rfl rfl (by decide +kernel) ⟨Nat.le_of_ble_eq_true rfl, Nat.le_of_ble_eq_true rfl⟩) hKN hP hD hS hA rfl rfl [0, 1, 2, 3, 4] rfl ((wMd_fst _ _ _).trans (wMd_fst _ _ _).symm) rfl rfl hl.1 rfl (lv_room (Nat.le_of_ble_eq_true rfl)) dX5_append_30 ⟨Nat.zero_le _, Nat.zero_le _⟩ (fun H locs hP hD hS => ?_)
  refine lv_if_ne (tgt := 38) hx hb dX5_append_33 (by decide) (fun h => absurd (by decide) h) (fun _ => ?_)
  refine lv_iconst (v := 0) hx hb dX5_append_36 (by decide) ?_
  exact mu_iret hx hb hr hlocks dX5_append_37 hAe hS hP rfl
set_option maxHeartbeats 4000000 in
set_option maxRecDepth 100000 in
theorem n_load (l : Launch) (D : va_G) (cA : Nat → ClassId) (H : Heap) (a : Nat → Nat) (th : Int32) (f kp tx wo : Nat → Int32) (hs : Int64) (x : Int32) (hx0 : inF x 0 15 = 0) (hP0 : va_P D vwCl (wMd cA a (th, f, 0, kp, tx, 0, wo, 0, 0, hs)) H) (hD0 : va_D (fun _ => True) (wMd cA a (th, f, 0, kp, tx, 0, wo, 0, 0, hs))) : MU l yX5_load wsX5_load ({ frames := 2, cells := 0, slots := 0, locals := 42 } : Room) D cA [.ref (a 0), .int x] H (wMd cA a (th, f, 0, kp, tx, 0, wo, 0, 0, hs)) (wMd cA a (1, f, 0, kp, tx, 0, wo, 0, 0, hs)) (some (.int 0)) := by
  refine Met.ofW (cc := cX5_load) (maxL := 2) (ret := (some .int)) (by decide) rfl ?_
  intro p e s m args below meth c s₁ B hml hv
  obtain ⟨rfl, hH, hKN⟩ := hv
  have hK := hKN.1
  have hx := B.exec
  have hb := B.bytes
  have hr := B.returns
  have hts := atoms_spec (ws := wsX5_load) B.pre
  have hown : s.vm.findClass RX5 = some m.cls := findClass_of_methodNamed B.named
  have hlocks := B.notSynchronized
  subst hH
  have hD := hD0.self (sz := s.heap.size)
  generalize hAe : va_A (wMd cA a (th, f, 0, kp, tx, 0, wo, 0, 0, hs)) s.heap.size = A at hD ⊢
  have hA : ∀ q : Nat, s.heap.size ≤ q → A q := fun q h => by rw [← hAe]; exact Or.inr h
  have hS : va_S A s.heap s.heap [] := va_S.rf
  have hP : va_P D vwCl (wMd cA a (th, f, 0, kp, tx, 0, wo, 0, 0, hs)) s.heap := hP0
  have hl := lv_entry ([.ref (a 0), .int x] : List Value) (n := 2) (Nat.le_of_ble_eq_true rfl)
  rw [lg_entry_eq]
  generalize (lg_sl ([.ref (a 0), .int x] : List Value) ++ List.replicate (2 - (lg_sl ([.ref (a 0), .int x] : List Value)).length) Slot.unset).toArray = ls at hl ⊢
  have hl : lv_has ls 2 [(0, .ref (a 0)), (1, .int x)] := hl
  refine lv_aload_n hx hb dX5_load_0 rfl (lv_at hl 0 rfl) ?_
  refine lv_iload_n hx hb dX5_load_1 rfl (lv_at hl 1 rfl) ?_
  refine ro_S (As := [.int x]) (rest := [.ref (a 0)]) ⟨hx, hb, hml, hown, hts⟩ (c_X5_isThread l D cA _ x) (cwS2 1 hts gX5_load_X5_isThread rfl rfl rfl (by decide +kernel) ⟨Nat.le_of_ble_eq_true rfl, Nat.le_of_ble_eq_true rfl⟩) hKN rfl hl.1 rfl (lv_room (Nat.le_of_ble_eq_true rfl)) dX5_load_2 ⟨Nat.zero_le _, Nat.zero_le _⟩ ?_
  refine lz_top (v := 0) hx0 ?_
  refine lv_if_ne (tgt := 12) hx hb dX5_load_5 (by decide) (fun h => absurd (by decide) h) (fun _ => ?_)
  refine lv_iconst (v := 1) hx hb dX5_load_8 (by decide) ?_
  refine lv_goto (tgt := 24) hx hb dX5_load_9 (by decide) ?_
  refine mu_V (ci := 5) (q0 := 0) (As := [.int 1]) (rest := []) (ws' := (wMd cA a (1, f, 0, kp, tx, 0, wo, 0, 0, hs))) ⟨hx, hb, hml, hown, hts⟩ (c_X5_holds1 l D cA _ a (th, f, 0, kp, tx, 0, wo, 0, 0, hs) hP (hD.weaken (fun _ _ _ _ => trivial))) (cwV 1 hts gX5_load_X5_holds rfl rfl rfl (by decide +kernel) ⟨Nat.le_of_ble_eq_true rfl, Nat.le_of_ble_eq_true rfl⟩) hKN hP hD hS hA rfl rfl [0, 1, 2, 3, 4] rfl ((wMd_fst _ _ _).trans (wMd_fst _ _ _).symm) rfl rfl hl.1 rfl (lv_room (Nat.le_of_ble_eq_true rfl)) dX5_load_24 ⟨Nat.zero_le _, Nat.zero_le _⟩ (fun H locs hP hD hS => ?_)
  refine lv_if_ne (tgt := 32) hx hb dX5_load_27 (by decide) (fun h => absurd (by decide) h) (fun _ => ?_)
  refine lv_iconst (v := 0) hx hb dX5_load_30 (by decide) ?_
  exact mu_iret hx hb hr hlocks dX5_load_31 hAe hS hP rfl
set_option maxHeartbeats 4000000 in
set_option maxRecDepth 100000 in
theorem n_keep (l : Launch) (D : va_G) (cA : Nat → ClassId) (H : Heap) (a : Nat → Nat) (th : Int32) (f kp tx wo : Nat → Int32) (hs : Int64) (x : Int32) (hx0 : inF x 0 1 = 0) (hP0 : va_P D vwCl (wMd cA a (th, f, 0, kp, tx, 0, wo, 0, 0, hs)) H) (hD0 : va_D (fun _ => True) (wMd cA a (th, f, 0, kp, tx, 0, wo, 0, 0, hs))) : MU l yX5_keep wsX5_keep ({ frames := 1, cells := 0, slots := 0, locals := 22 } : Room) D cA [.ref (a 0), .int x] H (wMd cA a (th, f, 0, kp, tx, 0, wo, 0, 0, hs)) (wMd cA a (1, f, 0, kp, tx, 0, wo, 0, 0, hs)) (some (.int 0)) := by
  refine Met.ofW (cc := cX5_keep) (maxL := 2) (ret := (some .int)) (by decide) rfl ?_
  intro p e s m args below meth c s₁ B hml hv
  obtain ⟨rfl, hH, hKN⟩ := hv
  have hK := hKN.1
  have hx := B.exec
  have hb := B.bytes
  have hr := B.returns
  have hts := atoms_spec (ws := wsX5_keep) B.pre
  have hown : s.vm.findClass RX5 = some m.cls := findClass_of_methodNamed B.named
  have hlocks := B.notSynchronized
  subst hH
  have hD := hD0.self (sz := s.heap.size)
  generalize hAe : va_A (wMd cA a (th, f, 0, kp, tx, 0, wo, 0, 0, hs)) s.heap.size = A at hD ⊢
  have hA : ∀ q : Nat, s.heap.size ≤ q → A q := fun q h => by rw [← hAe]; exact Or.inr h
  have hS : va_S A s.heap s.heap [] := va_S.rf
  have hP : va_P D vwCl (wMd cA a (th, f, 0, kp, tx, 0, wo, 0, 0, hs)) s.heap := hP0
  have hl := lv_entry ([.ref (a 0), .int x] : List Value) (n := 2) (Nat.le_of_ble_eq_true rfl)
  rw [lg_entry_eq]
  generalize (lg_sl ([.ref (a 0), .int x] : List Value) ++ List.replicate (2 - (lg_sl ([.ref (a 0), .int x] : List Value)).length) Slot.unset).toArray = ls at hl ⊢
  have hl : lv_has ls 2 [(0, .ref (a 0)), (1, .int x)] := hl
  refine lv_aload_n hx hb dX5_keep_0 rfl (lv_at hl 0 rfl) ?_
  refine lv_iload_n hx hb dX5_keep_1 rfl (lv_at hl 1 rfl) ?_
  refine lv_iconst (v := 0) hx hb dX5_keep_2 (by decide) ?_
  refine lv_iconst (v := 1) hx hb dX5_keep_3 (by decide) ?_
  refine ro_S (As := [.int x, .int 0, .int 1]) (rest := [.ref (a 0)]) ⟨hx, hb, hml, hown, hts⟩ (c_X5_in l D cA _ x 0 1) (cwS2 3 hts gX5_keep_X5_in rfl rfl rfl (by decide +kernel) ⟨Nat.le_of_ble_eq_true rfl, Nat.le_of_ble_eq_true rfl⟩) hKN rfl hl.1 rfl (lv_room (Nat.le_of_ble_eq_true rfl)) dX5_keep_4 ⟨Nat.zero_le _, Nat.zero_le _⟩ ?_
  refine lz_top (v := 0) hx0 ?_
  refine lv_if_eq (tgt := 14) hx hb dX5_keep_7 (by decide) (fun _ => ?_) (fun h => absurd (by decide) h)
  refine lv_iconst (v := 1) hx hb dX5_keep_14 (by decide) ?_
  refine mu_V (ci := 5) (q0 := 0) (As := [.int 1]) (rest := []) (ws' := (wMd cA a (1, f, 0, kp, tx, 0, wo, 0, 0, hs))) ⟨hx, hb, hml, hown, hts⟩ (c_X5_holds1 l D cA _ a (th, f, 0, kp, tx, 0, wo, 0, 0, hs) hP (hD.weaken (fun _ _ _ _ => trivial))) (cwV 1 hts gX5_keep_X5_holds rfl rfl rfl (by decide +kernel) ⟨Nat.le_of_ble_eq_true rfl, Nat.le_of_ble_eq_true rfl⟩) hKN hP hD hS hA rfl rfl [0, 1, 2, 3, 4] rfl ((wMd_fst _ _ _).trans (wMd_fst _ _ _).symm) rfl rfl hl.1 rfl (lv_room (Nat.le_of_ble_eq_true rfl)) dX5_keep_15 ⟨Nat.zero_le _, Nat.zero_le _⟩ (fun H locs hP hD hS => ?_)
  refine lv_if_ne (tgt := 23) hx hb dX5_keep_18 (by decide) (fun h => absurd (by decide) h) (fun _ => ?_)
  refine lv_iconst (v := 0) hx hb dX5_keep_21 (by decide) ?_
  exact mu_iret hx hb hr hlocks dX5_keep_22 hAe hS hP rfl
set_option maxHeartbeats 4000000 in
set_option maxRecDepth 100000 in
theorem n_goBack (l : Launch) (D : va_G) (cA : Nat → ClassId) (H : Heap) (a : Nat → Nat) (th : Int32) (f kp tx wo : Nat → Int32) (hs : Int64) (x : Int32) (hx0 : inF x 0 1 = 0) (hP0 : va_P D vwCl (wMd cA a (th, f, 0, kp, tx, 0, wo, 0, 0, hs)) H) (hD0 : va_D (fun _ => True) (wMd cA a (th, f, 0, kp, tx, 0, wo, 0, 0, hs))) : MU l yX5_goBack wsX5_goBack ({ frames := 1, cells := 0, slots := 0, locals := 22 } : Room) D cA [.ref (a 0), .int x] H (wMd cA a (th, f, 0, kp, tx, 0, wo, 0, 0, hs)) (wMd cA a (1, f, 0, kp, tx, 0, wo, 0, 0, hs)) (some (.int 0)) := by
  refine Met.ofW (cc := cX5_goBack) (maxL := 2) (ret := (some .int)) (by decide) rfl ?_
  intro p e s m args below meth c s₁ B hml hv
  obtain ⟨rfl, hH, hKN⟩ := hv
  have hK := hKN.1
  have hx := B.exec
  have hb := B.bytes
  have hr := B.returns
  have hts := atoms_spec (ws := wsX5_goBack) B.pre
  have hown : s.vm.findClass RX5 = some m.cls := findClass_of_methodNamed B.named
  have hlocks := B.notSynchronized
  subst hH
  have hD := hD0.self (sz := s.heap.size)
  generalize hAe : va_A (wMd cA a (th, f, 0, kp, tx, 0, wo, 0, 0, hs)) s.heap.size = A at hD ⊢
  have hA : ∀ q : Nat, s.heap.size ≤ q → A q := fun q h => by rw [← hAe]; exact Or.inr h
  have hS : va_S A s.heap s.heap [] := va_S.rf
  have hP : va_P D vwCl (wMd cA a (th, f, 0, kp, tx, 0, wo, 0, 0, hs)) s.heap := hP0
  have hl := lv_entry ([.ref (a 0), .int x] : List Value) (n := 2) (Nat.le_of_ble_eq_true rfl)
  rw [lg_entry_eq]
  generalize (lg_sl ([.ref (a 0), .int x] : List Value) ++ List.replicate (2 - (lg_sl ([.ref (a 0), .int x] : List Value)).length) Slot.unset).toArray = ls at hl ⊢
  have hl : lv_has ls 2 [(0, .ref (a 0)), (1, .int x)] := hl
  refine lv_aload_n hx hb dX5_goBack_0 rfl (lv_at hl 0 rfl) ?_
  refine lv_iload_n hx hb dX5_goBack_1 rfl (lv_at hl 1 rfl) ?_
  refine lv_iconst (v := 0) hx hb dX5_goBack_2 (by decide) ?_
  refine lv_iconst (v := 1) hx hb dX5_goBack_3 (by decide) ?_
  refine ro_S (As := [.int x, .int 0, .int 1]) (rest := [.ref (a 0)]) ⟨hx, hb, hml, hown, hts⟩ (c_X5_in l D cA _ x 0 1) (cwS2 3 hts gX5_goBack_X5_in rfl rfl rfl (by decide +kernel) ⟨Nat.le_of_ble_eq_true rfl, Nat.le_of_ble_eq_true rfl⟩) hKN rfl hl.1 rfl (lv_room (Nat.le_of_ble_eq_true rfl)) dX5_goBack_4 ⟨Nat.zero_le _, Nat.zero_le _⟩ ?_
  refine lz_top (v := 0) hx0 ?_
  refine lv_if_ne (tgt := 14) hx hb dX5_goBack_7 (by decide) (fun h => absurd (by decide) h) (fun _ => ?_)
  refine lv_iconst (v := 1) hx hb dX5_goBack_10 (by decide) ?_
  refine lv_goto (tgt := 28) hx hb dX5_goBack_11 (by decide) ?_
  refine mu_V (ci := 5) (q0 := 0) (As := [.int 1]) (rest := []) (ws' := (wMd cA a (1, f, 0, kp, tx, 0, wo, 0, 0, hs))) ⟨hx, hb, hml, hown, hts⟩ (c_X5_holds1 l D cA _ a (th, f, 0, kp, tx, 0, wo, 0, 0, hs) hP (hD.weaken (fun _ _ _ _ => trivial))) (cwV 1 hts gX5_goBack_X5_holds rfl rfl rfl (by decide +kernel) ⟨Nat.le_of_ble_eq_true rfl, Nat.le_of_ble_eq_true rfl⟩) hKN hP hD hS hA rfl rfl [0, 1, 2, 3, 4] rfl ((wMd_fst _ _ _).trans (wMd_fst _ _ _).symm) rfl rfl hl.1 rfl (lv_room (Nat.le_of_ble_eq_true rfl)) dX5_goBack_28 ⟨Nat.zero_le _, Nat.zero_le _⟩ (fun H locs hP hD hS => ?_)
  refine lv_if_ne (tgt := 36) hx hb dX5_goBack_31 (by decide) (fun h => absurd (by decide) h) (fun _ => ?_)
  refine lv_iconst (v := 0) hx hb dX5_goBack_34 (by decide) ?_
  exact mu_iret hx hb hr hlocks dX5_goBack_35 hAe hS hP rfl
set_option maxHeartbeats 4000000 in
set_option maxRecDepth 100000 in
theorem n_machine (l : Launch) (D : va_G) (cA : Nat → ClassId) (H : Heap) (a : Nat → Nat) (th : Int32) (f kp tx wo : Nat → Int32) (hs : Int64) (x : Int32) (hx0 : inF x 0 8 = 0) (hP0 : va_P D vwCl (wMd cA a (th, f, 0, kp, tx, 0, wo, 0, 0, hs)) H) (hD0 : va_D (fun _ => True) (wMd cA a (th, f, 0, kp, tx, 0, wo, 0, 0, hs))) : MU l yX5_machine wsX5_machine ({ frames := 1, cells := 0, slots := 0, locals := 22 } : Room) D cA [.ref (a 0), .int x] H (wMd cA a (th, f, 0, kp, tx, 0, wo, 0, 0, hs)) (wMd cA a (1, f, 0, kp, tx, 0, wo, 0, 0, hs)) (some (.int 0)) := by
  refine Met.ofW (cc := cX5_machine) (maxL := 2) (ret := (some .int)) (by decide) rfl ?_
  intro p e s m args below meth c s₁ B hml hv
  obtain ⟨rfl, hH, hKN⟩ := hv
  have hK := hKN.1
  have hx := B.exec
  have hb := B.bytes
  have hr := B.returns
  have hts := atoms_spec (ws := wsX5_machine) B.pre
  have hown : s.vm.findClass RX5 = some m.cls := findClass_of_methodNamed B.named
  have hlocks := B.notSynchronized
  subst hH
  have hD := hD0.self (sz := s.heap.size)
  generalize hAe : va_A (wMd cA a (th, f, 0, kp, tx, 0, wo, 0, 0, hs)) s.heap.size = A at hD ⊢
  have hA : ∀ q : Nat, s.heap.size ≤ q → A q := fun q h => by rw [← hAe]; exact Or.inr h
  have hS : va_S A s.heap s.heap [] := va_S.rf
  have hP : va_P D vwCl (wMd cA a (th, f, 0, kp, tx, 0, wo, 0, 0, hs)) s.heap := hP0
  have hl := lv_entry ([.ref (a 0), .int x] : List Value) (n := 2) (Nat.le_of_ble_eq_true rfl)
  rw [lg_entry_eq]
  generalize (lg_sl ([.ref (a 0), .int x] : List Value) ++ List.replicate (2 - (lg_sl ([.ref (a 0), .int x] : List Value)).length) Slot.unset).toArray = ls at hl ⊢
  have hl : lv_has ls 2 [(0, .ref (a 0)), (1, .int x)] := hl
  refine lv_aload_n hx hb dX5_machine_0 rfl (lv_at hl 0 rfl) ?_
  refine lv_iload_n hx hb dX5_machine_1 rfl (lv_at hl 1 rfl) ?_
  refine lv_iconst (v := 0) hx hb dX5_machine_2 (by decide) ?_
  refine lv_bipush (v := 8) hx hb dX5_machine_3 (by decide) ?_
  refine ro_S (As := [.int x, .int 0, .int 8]) (rest := [.ref (a 0)]) ⟨hx, hb, hml, hown, hts⟩ (c_X5_in l D cA _ x 0 8) (cwS2 3 hts gX5_machine_X5_in rfl rfl rfl (by decide +kernel) ⟨Nat.le_of_ble_eq_true rfl, Nat.le_of_ble_eq_true rfl⟩) hKN rfl hl.1 rfl (lv_room (Nat.le_of_ble_eq_true rfl)) dX5_machine_5 ⟨Nat.zero_le _, Nat.zero_le _⟩ ?_
  refine lz_top (v := 0) hx0 ?_
  refine lv_if_eq (tgt := 15) hx hb dX5_machine_8 (by decide) (fun _ => ?_) (fun h => absurd (by decide) h)
  refine lv_iconst (v := 1) hx hb dX5_machine_15 (by decide) ?_
  refine mu_V (ci := 5) (q0 := 0) (As := [.int 1]) (rest := []) (ws' := (wMd cA a (1, f, 0, kp, tx, 0, wo, 0, 0, hs))) ⟨hx, hb, hml, hown, hts⟩ (c_X5_holds1 l D cA _ a (th, f, 0, kp, tx, 0, wo, 0, 0, hs) hP (hD.weaken (fun _ _ _ _ => trivial))) (cwV 1 hts gX5_machine_X5_holds rfl rfl rfl (by decide +kernel) ⟨Nat.le_of_ble_eq_true rfl, Nat.le_of_ble_eq_true rfl⟩) hKN hP hD hS hA rfl rfl [0, 1, 2, 3, 4] rfl ((wMd_fst _ _ _).trans (wMd_fst _ _ _).symm) rfl rfl hl.1 rfl (lv_room (Nat.le_of_ble_eq_true rfl)) dX5_machine_16 ⟨Nat.zero_le _, Nat.zero_le _⟩ (fun H locs hP hD hS => ?_)
  refine lv_if_eq (tgt := 30) hx hb dX5_machine_19 (by decide) (fun _ => ?_) (fun h => absurd (by decide) h)
  refine lv_iconst (v := 0) hx hb dX5_machine_30 (by decide) ?_
  exact mu_iret hx hb hr hlocks dX5_machine_31 hAe hS hP rfl
set_option maxHeartbeats 4000000 in
set_option maxRecDepth 100000 in
theorem n_told (l : Launch) (D : va_G) (cA : Nat → ClassId) (H : Heap) (a : Nat → Nat) (th : Int32) (f kp tx wo : Nat → Int32) (hs : Int64) (x : Int32) (hx0 : inF x 0 7 = 0) (hP0 : va_P D vwCl (wMd cA a (th, f, 0, kp, tx, 0, wo, 0, 0, hs)) H) (hD0 : va_D (fun _ => True) (wMd cA a (th, f, 0, kp, tx, 0, wo, 0, 0, hs))) : MU l yX5_told wsX5_told ({ frames := 1, cells := 0, slots := 0, locals := 22 } : Room) D cA [.ref (a 0), .int x] H (wMd cA a (th, f, 0, kp, tx, 0, wo, 0, 0, hs)) (wMd cA a (1, f, 0, kp, tx, 0, wo, 0, 0, hs)) (some (.int 0)) := by
  refine Met.ofW (cc := cX5_told) (maxL := 2) (ret := (some .int)) (by decide) rfl ?_
  intro p e s m args below meth c s₁ B hml hv
  obtain ⟨rfl, hH, hKN⟩ := hv
  have hK := hKN.1
  have hx := B.exec
  have hb := B.bytes
  have hr := B.returns
  have hts := atoms_spec (ws := wsX5_told) B.pre
  have hown : s.vm.findClass RX5 = some m.cls := findClass_of_methodNamed B.named
  have hlocks := B.notSynchronized
  subst hH
  have hD := hD0.self (sz := s.heap.size)
  generalize hAe : va_A (wMd cA a (th, f, 0, kp, tx, 0, wo, 0, 0, hs)) s.heap.size = A at hD ⊢
  have hA : ∀ q : Nat, s.heap.size ≤ q → A q := fun q h => by rw [← hAe]; exact Or.inr h
  have hS : va_S A s.heap s.heap [] := va_S.rf
  have hP : va_P D vwCl (wMd cA a (th, f, 0, kp, tx, 0, wo, 0, 0, hs)) s.heap := hP0
  have hl := lv_entry ([.ref (a 0), .int x] : List Value) (n := 2) (Nat.le_of_ble_eq_true rfl)
  rw [lg_entry_eq]
  generalize (lg_sl ([.ref (a 0), .int x] : List Value) ++ List.replicate (2 - (lg_sl ([.ref (a 0), .int x] : List Value)).length) Slot.unset).toArray = ls at hl ⊢
  have hl : lv_has ls 2 [(0, .ref (a 0)), (1, .int x)] := hl
  refine lv_aload_n hx hb dX5_told_0 rfl (lv_at hl 0 rfl) ?_
  refine lv_iload_n hx hb dX5_told_1 rfl (lv_at hl 1 rfl) ?_
  refine lv_iconst (v := 0) hx hb dX5_told_2 (by decide) ?_
  refine lv_bipush (v := 7) hx hb dX5_told_3 (by decide) ?_
  refine ro_S (As := [.int x, .int 0, .int 7]) (rest := [.ref (a 0)]) ⟨hx, hb, hml, hown, hts⟩ (c_X5_in l D cA _ x 0 7) (cwS2 3 hts gX5_told_X5_in rfl rfl rfl (by decide +kernel) ⟨Nat.le_of_ble_eq_true rfl, Nat.le_of_ble_eq_true rfl⟩) hKN rfl hl.1 rfl (lv_room (Nat.le_of_ble_eq_true rfl)) dX5_told_5 ⟨Nat.zero_le _, Nat.zero_le _⟩ ?_
  refine lz_top (v := 0) hx0 ?_
  refine lv_if_eq (tgt := 15) hx hb dX5_told_8 (by decide) (fun _ => ?_) (fun h => absurd (by decide) h)
  refine lv_iconst (v := 1) hx hb dX5_told_15 (by decide) ?_
  refine mu_V (ci := 5) (q0 := 0) (As := [.int 1]) (rest := []) (ws' := (wMd cA a (1, f, 0, kp, tx, 0, wo, 0, 0, hs))) ⟨hx, hb, hml, hown, hts⟩ (c_X5_holds1 l D cA _ a (th, f, 0, kp, tx, 0, wo, 0, 0, hs) hP (hD.weaken (fun _ _ _ _ => trivial))) (cwV 1 hts gX5_told_X5_holds rfl rfl rfl (by decide +kernel) ⟨Nat.le_of_ble_eq_true rfl, Nat.le_of_ble_eq_true rfl⟩) hKN hP hD hS hA rfl rfl [0, 1, 2, 3, 4] rfl ((wMd_fst _ _ _).trans (wMd_fst _ _ _).symm) rfl rfl hl.1 rfl (lv_room (Nat.le_of_ble_eq_true rfl)) dX5_told_16 ⟨Nat.zero_le _, Nat.zero_le _⟩ (fun H locs hP hD hS => ?_)
  refine lv_if_eq (tgt := 30) hx hb dX5_told_19 (by decide) (fun _ => ?_) (fun h => absurd (by decide) h)
  refine lv_iconst (v := 0) hx hb dX5_told_30 (by decide) ?_
  exact mu_iret hx hb hr hlocks dX5_told_31 hAe hS hP rfl
set_option maxHeartbeats 4000000 in
set_option maxRecDepth 100000 in
theorem n_count (l : Launch) (D : va_G) (cA : Nat → ClassId) (H : Heap) (a : Nat → Nat) (th : Int32) (f kp tx wo : Nat → Int32) (hs : Int64) (x : Int32) (hx0 : inF x 0 9 = 0) (hP0 : va_P D vwCl (wMd cA a (th, f, 0, kp, tx, 0, wo, 0, 0, hs)) H) (hD0 : va_D (fun _ => True) (wMd cA a (th, f, 0, kp, tx, 0, wo, 0, 0, hs))) : MU l yX5_count wsX5_count ({ frames := 1, cells := 0, slots := 0, locals := 22 } : Room) D cA [.ref (a 0), .int x] H (wMd cA a (th, f, 0, kp, tx, 0, wo, 0, 0, hs)) (wMd cA a (1, f, 0, kp, tx, 0, wo, 0, 0, hs)) (some (.int 0)) := by
  refine Met.ofW (cc := cX5_count) (maxL := 2) (ret := (some .int)) (by decide) rfl ?_
  intro p e s m args below meth c s₁ B hml hv
  obtain ⟨rfl, hH, hKN⟩ := hv
  have hK := hKN.1
  have hx := B.exec
  have hb := B.bytes
  have hr := B.returns
  have hts := atoms_spec (ws := wsX5_count) B.pre
  have hown : s.vm.findClass RX5 = some m.cls := findClass_of_methodNamed B.named
  have hlocks := B.notSynchronized
  subst hH
  have hD := hD0.self (sz := s.heap.size)
  generalize hAe : va_A (wMd cA a (th, f, 0, kp, tx, 0, wo, 0, 0, hs)) s.heap.size = A at hD ⊢
  have hA : ∀ q : Nat, s.heap.size ≤ q → A q := fun q h => by rw [← hAe]; exact Or.inr h
  have hS : va_S A s.heap s.heap [] := va_S.rf
  have hP : va_P D vwCl (wMd cA a (th, f, 0, kp, tx, 0, wo, 0, 0, hs)) s.heap := hP0
  have hl := lv_entry ([.ref (a 0), .int x] : List Value) (n := 2) (Nat.le_of_ble_eq_true rfl)
  rw [lg_entry_eq]
  generalize (lg_sl ([.ref (a 0), .int x] : List Value) ++ List.replicate (2 - (lg_sl ([.ref (a 0), .int x] : List Value)).length) Slot.unset).toArray = ls at hl ⊢
  have hl : lv_has ls 2 [(0, .ref (a 0)), (1, .int x)] := hl
  refine lv_aload_n hx hb dX5_count_0 rfl (lv_at hl 0 rfl) ?_
  refine lv_iload_n hx hb dX5_count_1 rfl (lv_at hl 1 rfl) ?_
  refine lv_iconst (v := 0) hx hb dX5_count_2 (by decide) ?_
  refine lv_bipush (v := 9) hx hb dX5_count_3 (by decide) ?_
  refine ro_S (As := [.int x, .int 0, .int 9]) (rest := [.ref (a 0)]) ⟨hx, hb, hml, hown, hts⟩ (c_X5_in l D cA _ x 0 9) (cwS2 3 hts gX5_count_X5_in rfl rfl rfl (by decide +kernel) ⟨Nat.le_of_ble_eq_true rfl, Nat.le_of_ble_eq_true rfl⟩) hKN rfl hl.1 rfl (lv_room (Nat.le_of_ble_eq_true rfl)) dX5_count_5 ⟨Nat.zero_le _, Nat.zero_le _⟩ ?_
  refine lz_top (v := 0) hx0 ?_
  refine lv_if_eq (tgt := 15) hx hb dX5_count_8 (by decide) (fun _ => ?_) (fun h => absurd (by decide) h)
  refine lv_iconst (v := 1) hx hb dX5_count_15 (by decide) ?_
  refine mu_V (ci := 5) (q0 := 0) (As := [.int 1]) (rest := []) (ws' := (wMd cA a (1, f, 0, kp, tx, 0, wo, 0, 0, hs))) ⟨hx, hb, hml, hown, hts⟩ (c_X5_holds1 l D cA _ a (th, f, 0, kp, tx, 0, wo, 0, 0, hs) hP (hD.weaken (fun _ _ _ _ => trivial))) (cwV 1 hts gX5_count_X5_holds rfl rfl rfl (by decide +kernel) ⟨Nat.le_of_ble_eq_true rfl, Nat.le_of_ble_eq_true rfl⟩) hKN hP hD hS hA rfl rfl [0, 1, 2, 3, 4] rfl ((wMd_fst _ _ _).trans (wMd_fst _ _ _).symm) rfl rfl hl.1 rfl (lv_room (Nat.le_of_ble_eq_true rfl)) dX5_count_16 ⟨Nat.zero_le _, Nat.zero_le _⟩ (fun H locs hP hD hS => ?_)
  refine lv_if_eq (tgt := 30) hx hb dX5_count_19 (by decide) (fun _ => ?_) (fun h => absurd (by decide) h)
  refine lv_iconst (v := 0) hx hb dX5_count_30 (by decide) ?_
  exact mu_iret hx hb hr hlocks dX5_count_31 hAe hS hP rfl
set_option maxHeartbeats 4000000 in
set_option maxRecDepth 100000 in
theorem n_setting (l : Launch) (D : va_G) (cA : Nat → ClassId) (H : Heap) (a : Nat → Nat) (th : Int32) (f kp tx wo : Nat → Int32) (hs : Int64) (x : Int32) (hx0 : inF x 0 1 = 0) (hP0 : va_P D vwCl (wMd cA a (th, f, 0, kp, tx, 0, wo, 0, 0, hs)) H) (hD0 : va_D (fun _ => True) (wMd cA a (th, f, 0, kp, tx, 0, wo, 0, 0, hs))) : MU l yX5_setting wsX5_setting ({ frames := 1, cells := 0, slots := 0, locals := 22 } : Room) D cA [.ref (a 0), .int x] H (wMd cA a (th, f, 0, kp, tx, 0, wo, 0, 0, hs)) (wMd cA a (1, f, 0, kp, tx, 0, wo, 0, 0, hs)) (some (.int 0)) := by
  refine Met.ofW (cc := cX5_setting) (maxL := 2) (ret := (some .int)) (by decide) rfl ?_
  intro p e s m args below meth c s₁ B hml hv
  obtain ⟨rfl, hH, hKN⟩ := hv
  have hK := hKN.1
  have hx := B.exec
  have hb := B.bytes
  have hr := B.returns
  have hts := atoms_spec (ws := wsX5_setting) B.pre
  have hown : s.vm.findClass RX5 = some m.cls := findClass_of_methodNamed B.named
  have hlocks := B.notSynchronized
  subst hH
  have hD := hD0.self (sz := s.heap.size)
  generalize hAe : va_A (wMd cA a (th, f, 0, kp, tx, 0, wo, 0, 0, hs)) s.heap.size = A at hD ⊢
  have hA : ∀ q : Nat, s.heap.size ≤ q → A q := fun q h => by rw [← hAe]; exact Or.inr h
  have hS : va_S A s.heap s.heap [] := va_S.rf
  have hP : va_P D vwCl (wMd cA a (th, f, 0, kp, tx, 0, wo, 0, 0, hs)) s.heap := hP0
  have hl := lv_entry ([.ref (a 0), .int x] : List Value) (n := 2) (Nat.le_of_ble_eq_true rfl)
  rw [lg_entry_eq]
  generalize (lg_sl ([.ref (a 0), .int x] : List Value) ++ List.replicate (2 - (lg_sl ([.ref (a 0), .int x] : List Value)).length) Slot.unset).toArray = ls at hl ⊢
  have hl : lv_has ls 2 [(0, .ref (a 0)), (1, .int x)] := hl
  refine lv_aload_n hx hb dX5_setting_0 rfl (lv_at hl 0 rfl) ?_
  refine lv_iload_n hx hb dX5_setting_1 rfl (lv_at hl 1 rfl) ?_
  refine lv_iconst (v := 0) hx hb dX5_setting_2 (by decide) ?_
  refine lv_iconst (v := 1) hx hb dX5_setting_3 (by decide) ?_
  refine ro_S (As := [.int x, .int 0, .int 1]) (rest := [.ref (a 0)]) ⟨hx, hb, hml, hown, hts⟩ (c_X5_in l D cA _ x 0 1) (cwS2 3 hts gX5_setting_X5_in rfl rfl rfl (by decide +kernel) ⟨Nat.le_of_ble_eq_true rfl, Nat.le_of_ble_eq_true rfl⟩) hKN rfl hl.1 rfl (lv_room (Nat.le_of_ble_eq_true rfl)) dX5_setting_4 ⟨Nat.zero_le _, Nat.zero_le _⟩ ?_
  refine lz_top (v := 0) hx0 ?_
  refine lv_if_eq (tgt := 14) hx hb dX5_setting_7 (by decide) (fun _ => ?_) (fun h => absurd (by decide) h)
  refine lv_iconst (v := 1) hx hb dX5_setting_14 (by decide) ?_
  refine mu_V (ci := 5) (q0 := 0) (As := [.int 1]) (rest := []) (ws' := (wMd cA a (1, f, 0, kp, tx, 0, wo, 0, 0, hs))) ⟨hx, hb, hml, hown, hts⟩ (c_X5_holds1 l D cA _ a (th, f, 0, kp, tx, 0, wo, 0, 0, hs) hP (hD.weaken (fun _ _ _ _ => trivial))) (cwV 1 hts gX5_setting_X5_holds rfl rfl rfl (by decide +kernel) ⟨Nat.le_of_ble_eq_true rfl, Nat.le_of_ble_eq_true rfl⟩) hKN hP hD hS hA rfl rfl [0, 1, 2, 3, 4] rfl ((wMd_fst _ _ _).trans (wMd_fst _ _ _).symm) rfl rfl hl.1 rfl (lv_room (Nat.le_of_ble_eq_true rfl)) dX5_setting_15 ⟨Nat.zero_le _, Nat.zero_le _⟩ (fun H locs hP hD hS => ?_)
  refine lv_if_eq (tgt := 33) hx hb dX5_setting_18 (by decide) (fun _ => ?_) (fun h => absurd (by decide) h)
  refine lv_iconst (v := 0) hx hb dX5_setting_33 (by decide) ?_
  exact mu_iret hx hb hr hlocks dX5_setting_34 hAe hS hP rfl
set_option maxHeartbeats 4000000 in
set_option maxRecDepth 100000 in
theorem n_ifLoaded (l : Launch) (D : va_G) (cA : Nat → ClassId) (H : Heap) (a : Nat → Nat) (th : Int32) (f kp tx wo : Nat → Int32) (hs : Int64) (x : Int32) (hx0 : inF x 0 15 = 0) (hP0 : va_P D vwCl (wMd cA a (th, f, 0, kp, tx, 0, wo, 0, 0, hs)) H) (hD0 : va_D (fun _ => True) (wMd cA a (th, f, 0, kp, tx, 0, wo, 0, 0, hs))) : MU l yX5_ifLoaded wsX5_ifLoaded ({ frames := 2, cells := 0, slots := 0, locals := 42 } : Room) D cA [.ref (a 0), .int x] H (wMd cA a (th, f, 0, kp, tx, 0, wo, 0, 0, hs)) (wMd cA a (1, f, 0, kp, tx, 0, wo, 0, 0, hs)) (some (.int 0)) := by
  refine Met.ofW (cc := cX5_ifLoaded) (maxL := 2) (ret := (some .int)) (by decide) rfl ?_
  intro p e s m args below meth c s₁ B hml hv
  obtain ⟨rfl, hH, hKN⟩ := hv
  have hK := hKN.1
  have hx := B.exec
  have hb := B.bytes
  have hr := B.returns
  have hts := atoms_spec (ws := wsX5_ifLoaded) B.pre
  have hown : s.vm.findClass RX5 = some m.cls := findClass_of_methodNamed B.named
  have hlocks := B.notSynchronized
  subst hH
  have hD := hD0.self (sz := s.heap.size)
  generalize hAe : va_A (wMd cA a (th, f, 0, kp, tx, 0, wo, 0, 0, hs)) s.heap.size = A at hD ⊢
  have hA : ∀ q : Nat, s.heap.size ≤ q → A q := fun q h => by rw [← hAe]; exact Or.inr h
  have hS : va_S A s.heap s.heap [] := va_S.rf
  have hP : va_P D vwCl (wMd cA a (th, f, 0, kp, tx, 0, wo, 0, 0, hs)) s.heap := hP0
  have hl := lv_entry ([.ref (a 0), .int x] : List Value) (n := 2) (Nat.le_of_ble_eq_true rfl)
  rw [lg_entry_eq]
  generalize (lg_sl ([.ref (a 0), .int x] : List Value) ++ List.replicate (2 - (lg_sl ([.ref (a 0), .int x] : List Value)).length) Slot.unset).toArray = ls at hl ⊢
  have hl : lv_has ls 2 [(0, .ref (a 0)), (1, .int x)] := hl
  refine lv_aload_n hx hb dX5_ifLoaded_0 rfl (lv_at hl 0 rfl) ?_
  refine lv_iload_n hx hb dX5_ifLoaded_1 rfl (lv_at hl 1 rfl) ?_
  refine ro_S (As := [.int x]) (rest := [.ref (a 0)]) ⟨hx, hb, hml, hown, hts⟩ (c_X5_isThread l D cA _ x) (cwS2 1 hts gX5_ifLoaded_X5_isThread rfl rfl rfl (by decide +kernel) ⟨Nat.le_of_ble_eq_true rfl, Nat.le_of_ble_eq_true rfl⟩) hKN rfl hl.1 rfl (lv_room (Nat.le_of_ble_eq_true rfl)) dX5_ifLoaded_2 ⟨Nat.zero_le _, Nat.zero_le _⟩ ?_
  refine lz_top (v := 0) hx0 ?_
  refine lv_if_eq (tgt := 12) hx hb dX5_ifLoaded_5 (by decide) (fun _ => ?_) (fun h => absurd (by decide) h)
  refine lv_iconst (v := 1) hx hb dX5_ifLoaded_12 (by decide) ?_
  refine mu_V (ci := 5) (q0 := 0) (As := [.int 1]) (rest := []) (ws' := (wMd cA a (1, f, 0, kp, tx, 0, wo, 0, 0, hs))) ⟨hx, hb, hml, hown, hts⟩ (c_X5_holds1 l D cA _ a (th, f, 0, kp, tx, 0, wo, 0, 0, hs) hP (hD.weaken (fun _ _ _ _ => trivial))) (cwV 1 hts gX5_ifLoaded_X5_holds rfl rfl rfl (by decide +kernel) ⟨Nat.le_of_ble_eq_true rfl, Nat.le_of_ble_eq_true rfl⟩) hKN hP hD hS hA rfl rfl [0, 1, 2, 3, 4] rfl ((wMd_fst _ _ _).trans (wMd_fst _ _ _).symm) rfl rfl hl.1 rfl (lv_room (Nat.le_of_ble_eq_true rfl)) dX5_ifLoaded_13 ⟨Nat.zero_le _, Nat.zero_le _⟩ (fun H locs hP hD hS => ?_)
  refine lv_if_ne (tgt := 21) hx hb dX5_ifLoaded_16 (by decide) (fun h => absurd (by decide) h) (fun _ => ?_)
  refine lv_iconst (v := 0) hx hb dX5_ifLoaded_19 (by decide) ?_
  exact mu_iret hx hb hr hlocks dX5_ifLoaded_20 hAe hS hP rfl
set_option maxHeartbeats 4000000 in
set_option maxRecDepth 100000 in
theorem n_lastsFor (l : Launch) (D : va_G) (cA : Nat → ClassId) (H : Heap) (a : Nat → Nat) (th : Int32) (f kp tx wo : Nat → Int32) (hs : Int64) (x : Int32) (hx0 : inF x 0 15 = 0) (hP0 : va_P D vwCl (wMd cA a (th, f, 0, kp, tx, 0, wo, 0, 0, hs)) H) (hD0 : va_D (fun _ => True) (wMd cA a (th, f, 0, kp, tx, 0, wo, 0, 0, hs))) : MU l yX5_lastsFor wsX5_lastsFor ({ frames := 2, cells := 0, slots := 0, locals := 42 } : Room) D cA [.ref (a 0), .int x] H (wMd cA a (th, f, 0, kp, tx, 0, wo, 0, 0, hs)) (wMd cA a (1, f, 0, kp, tx, 0, wo, 0, 0, hs)) (some (.int 0)) := by
  refine Met.ofW (cc := cX5_lastsFor) (maxL := 2) (ret := (some .int)) (by decide) rfl ?_
  intro p e s m args below meth c s₁ B hml hv
  obtain ⟨rfl, hH, hKN⟩ := hv
  have hK := hKN.1
  have hx := B.exec
  have hb := B.bytes
  have hr := B.returns
  have hts := atoms_spec (ws := wsX5_lastsFor) B.pre
  have hown : s.vm.findClass RX5 = some m.cls := findClass_of_methodNamed B.named
  have hlocks := B.notSynchronized
  subst hH
  have hD := hD0.self (sz := s.heap.size)
  generalize hAe : va_A (wMd cA a (th, f, 0, kp, tx, 0, wo, 0, 0, hs)) s.heap.size = A at hD ⊢
  have hA : ∀ q : Nat, s.heap.size ≤ q → A q := fun q h => by rw [← hAe]; exact Or.inr h
  have hS : va_S A s.heap s.heap [] := va_S.rf
  have hP : va_P D vwCl (wMd cA a (th, f, 0, kp, tx, 0, wo, 0, 0, hs)) s.heap := hP0
  have hl := lv_entry ([.ref (a 0), .int x] : List Value) (n := 2) (Nat.le_of_ble_eq_true rfl)
  rw [lg_entry_eq]
  generalize (lg_sl ([.ref (a 0), .int x] : List Value) ++ List.replicate (2 - (lg_sl ([.ref (a 0), .int x] : List Value)).length) Slot.unset).toArray = ls at hl ⊢
  have hl : lv_has ls 2 [(0, .ref (a 0)), (1, .int x)] := hl
  refine lv_aload_n hx hb dX5_lastsFor_0 rfl (lv_at hl 0 rfl) ?_
  refine lv_iload_n hx hb dX5_lastsFor_1 rfl (lv_at hl 1 rfl) ?_
  refine ro_S (As := [.int x]) (rest := [.ref (a 0)]) ⟨hx, hb, hml, hown, hts⟩ (c_X5_isThread l D cA _ x) (cwS2 1 hts gX5_lastsFor_X5_isThread rfl rfl rfl (by decide +kernel) ⟨Nat.le_of_ble_eq_true rfl, Nat.le_of_ble_eq_true rfl⟩) hKN rfl hl.1 rfl (lv_room (Nat.le_of_ble_eq_true rfl)) dX5_lastsFor_2 ⟨Nat.zero_le _, Nat.zero_le _⟩ ?_
  refine lz_top (v := 0) hx0 ?_
  refine lv_if_eq (tgt := 12) hx hb dX5_lastsFor_5 (by decide) (fun _ => ?_) (fun h => absurd (by decide) h)
  refine lv_iconst (v := 1) hx hb dX5_lastsFor_12 (by decide) ?_
  refine mu_V (ci := 5) (q0 := 0) (As := [.int 1]) (rest := []) (ws' := (wMd cA a (1, f, 0, kp, tx, 0, wo, 0, 0, hs))) ⟨hx, hb, hml, hown, hts⟩ (c_X5_holds1 l D cA _ a (th, f, 0, kp, tx, 0, wo, 0, 0, hs) hP (hD.weaken (fun _ _ _ _ => trivial))) (cwV 1 hts gX5_lastsFor_X5_holds rfl rfl rfl (by decide +kernel) ⟨Nat.le_of_ble_eq_true rfl, Nat.le_of_ble_eq_true rfl⟩) hKN hP hD hS hA rfl rfl [0, 1, 2, 3, 4] rfl ((wMd_fst _ _ _).trans (wMd_fst _ _ _).symm) rfl rfl hl.1 rfl (lv_room (Nat.le_of_ble_eq_true rfl)) dX5_lastsFor_13 ⟨Nat.zero_le _, Nat.zero_le _⟩ (fun H locs hP hD hS => ?_)
  refine lv_if_eq (tgt := 27) hx hb dX5_lastsFor_16 (by decide) (fun _ => ?_) (fun h => absurd (by decide) h)
  refine lv_iconst (v := 0) hx hb dX5_lastsFor_27 (by decide) ?_
  exact mu_iret hx hb hr hlocks dX5_lastsFor_28 hAe hS hP rfl
set_option maxHeartbeats 4000000 in
set_option maxRecDepth 100000 in
theorem n_cross1 (l : Launch) (D : va_G) (cA : Nat → ClassId) (H : Heap) (a : Nat → Nat) (th : Int32) (f kp tx wo : Nat → Int32) (hs : Int64) (y : Int32) (x : Int32) (hx0 : inF x 0 15 = 0) (hP0 : va_P D vwCl (wMd cA a (th, f, 0, kp, tx, 0, wo, 0, 0, hs)) H) (hD0 : va_D (fun _ => True) (wMd cA a (th, f, 0, kp, tx, 0, wo, 0, 0, hs))) : MU l yX5_cross wsX5_cross ({ frames := 2, cells := 0, slots := 0, locals := 42 } : Room) D cA [.ref (a 0), .int x, .int y] H (wMd cA a (th, f, 0, kp, tx, 0, wo, 0, 0, hs)) (wMd cA a (1, f, 0, kp, tx, 0, wo, 0, 0, hs)) (some (.int 0)) := by
  refine Met.ofW (cc := cX5_cross) (maxL := 3) (ret := (some .int)) (by decide) rfl ?_
  intro p e s m args below meth c s₁ B hml hv
  obtain ⟨rfl, hH, hKN⟩ := hv
  have hK := hKN.1
  have hx := B.exec
  have hb := B.bytes
  have hr := B.returns
  have hts := atoms_spec (ws := wsX5_cross) B.pre
  have hown : s.vm.findClass RX5 = some m.cls := findClass_of_methodNamed B.named
  have hlocks := B.notSynchronized
  subst hH
  have hD := hD0.self (sz := s.heap.size)
  generalize hAe : va_A (wMd cA a (th, f, 0, kp, tx, 0, wo, 0, 0, hs)) s.heap.size = A at hD ⊢
  have hA : ∀ q : Nat, s.heap.size ≤ q → A q := fun q h => by rw [← hAe]; exact Or.inr h
  have hS : va_S A s.heap s.heap [] := va_S.rf
  have hP : va_P D vwCl (wMd cA a (th, f, 0, kp, tx, 0, wo, 0, 0, hs)) s.heap := hP0
  have hl := lv_entry ([.ref (a 0), .int x, .int y] : List Value) (n := 3) (Nat.le_of_ble_eq_true rfl)
  rw [lg_entry_eq]
  generalize (lg_sl ([.ref (a 0), .int x, .int y] : List Value) ++ List.replicate (3 - (lg_sl ([.ref (a 0), .int x, .int y] : List Value)).length) Slot.unset).toArray = ls at hl ⊢
  have hl : lv_has ls 3 [(0, .ref (a 0)), (1, .int x), (2, .int y)] := hl
  refine lv_aload_n hx hb dX5_cross_0 rfl (lv_at hl 0 rfl) ?_
  refine lv_iload_n hx hb dX5_cross_1 rfl (lv_at hl 1 rfl) ?_
  refine ro_S (As := [.int x]) (rest := [.ref (a 0)]) ⟨hx, hb, hml, hown, hts⟩ (c_X5_isThread l D cA _ x) (cwS2 1 hts gX5_cross_X5_isThread rfl rfl rfl (by decide +kernel) ⟨Nat.le_of_ble_eq_true rfl, Nat.le_of_ble_eq_true rfl⟩) hKN rfl hl.1 rfl (lv_room (Nat.le_of_ble_eq_true rfl)) dX5_cross_2 ⟨Nat.zero_le _, Nat.zero_le _⟩ ?_
  refine lz_top (v := 0) hx0 ?_
  refine lv_if_eq (tgt := 19) hx hb dX5_cross_5 (by decide) (fun _ => ?_) (fun h => absurd (by decide) h)
  refine lv_iconst (v := 1) hx hb dX5_cross_19 (by decide) ?_
  refine mu_V (ci := 5) (q0 := 0) (As := [.int 1]) (rest := []) (ws' := (wMd cA a (1, f, 0, kp, tx, 0, wo, 0, 0, hs))) ⟨hx, hb, hml, hown, hts⟩ (c_X5_holds1 l D cA _ a (th, f, 0, kp, tx, 0, wo, 0, 0, hs) hP (hD.weaken (fun _ _ _ _ => trivial))) (cwV 1 hts gX5_cross_X5_holds rfl rfl rfl (by decide +kernel) ⟨Nat.le_of_ble_eq_true rfl, Nat.le_of_ble_eq_true rfl⟩) hKN hP hD hS hA rfl rfl [0, 1, 2, 3, 4] rfl ((wMd_fst _ _ _).trans (wMd_fst _ _ _).symm) rfl rfl hl.1 rfl (lv_room (Nat.le_of_ble_eq_true rfl)) dX5_cross_20 ⟨Nat.zero_le _, Nat.zero_le _⟩ (fun H locs hP hD hS => ?_)
  refine lv_if_ne (tgt := 28) hx hb dX5_cross_23 (by decide) (fun h => absurd (by decide) h) (fun _ => ?_)
  refine lv_iconst (v := 0) hx hb dX5_cross_26 (by decide) ?_
  exact mu_iret hx hb hr hlocks dX5_cross_27 hAe hS hP rfl
set_option maxHeartbeats 4000000 in
set_option maxRecDepth 100000 in
theorem n_lay1 (l : Launch) (D : va_G) (cA : Nat → ClassId) (H : Heap) (a : Nat → Nat) (th : Int32) (f kp tx wo : Nat → Int32) (hs : Int64) (y : Int32) (x : Int32) (hx0 : inF x 0 15 = 0) (hP0 : va_P D vwCl (wMd cA a (th, f, 0, kp, tx, 0, wo, 0, 0, hs)) H) (hD0 : va_D (fun _ => True) (wMd cA a (th, f, 0, kp, tx, 0, wo, 0, 0, hs))) : MU l yX5_lay wsX5_lay ({ frames := 2, cells := 0, slots := 0, locals := 42 } : Room) D cA [.ref (a 0), .int x, .int y] H (wMd cA a (th, f, 0, kp, tx, 0, wo, 0, 0, hs)) (wMd cA a (1, f, 0, kp, tx, 0, wo, 0, 0, hs)) (some (.int 0)) := by
  refine Met.ofW (cc := cX5_lay) (maxL := 3) (ret := (some .int)) (by decide) rfl ?_
  intro p e s m args below meth c s₁ B hml hv
  obtain ⟨rfl, hH, hKN⟩ := hv
  have hK := hKN.1
  have hx := B.exec
  have hb := B.bytes
  have hr := B.returns
  have hts := atoms_spec (ws := wsX5_lay) B.pre
  have hown : s.vm.findClass RX5 = some m.cls := findClass_of_methodNamed B.named
  have hlocks := B.notSynchronized
  subst hH
  have hD := hD0.self (sz := s.heap.size)
  generalize hAe : va_A (wMd cA a (th, f, 0, kp, tx, 0, wo, 0, 0, hs)) s.heap.size = A at hD ⊢
  have hA : ∀ q : Nat, s.heap.size ≤ q → A q := fun q h => by rw [← hAe]; exact Or.inr h
  have hS : va_S A s.heap s.heap [] := va_S.rf
  have hP : va_P D vwCl (wMd cA a (th, f, 0, kp, tx, 0, wo, 0, 0, hs)) s.heap := hP0
  have hl := lv_entry ([.ref (a 0), .int x, .int y] : List Value) (n := 3) (Nat.le_of_ble_eq_true rfl)
  rw [lg_entry_eq]
  generalize (lg_sl ([.ref (a 0), .int x, .int y] : List Value) ++ List.replicate (3 - (lg_sl ([.ref (a 0), .int x, .int y] : List Value)).length) Slot.unset).toArray = ls at hl ⊢
  have hl : lv_has ls 3 [(0, .ref (a 0)), (1, .int x), (2, .int y)] := hl
  refine lv_aload_n hx hb dX5_lay_0 rfl (lv_at hl 0 rfl) ?_
  refine lv_iload_n hx hb dX5_lay_1 rfl (lv_at hl 1 rfl) ?_
  refine ro_S (As := [.int x]) (rest := [.ref (a 0)]) ⟨hx, hb, hml, hown, hts⟩ (c_X5_isThread l D cA _ x) (cwS2 1 hts gX5_lay_X5_isThread rfl rfl rfl (by decide +kernel) ⟨Nat.le_of_ble_eq_true rfl, Nat.le_of_ble_eq_true rfl⟩) hKN rfl hl.1 rfl (lv_room (Nat.le_of_ble_eq_true rfl)) dX5_lay_2 ⟨Nat.zero_le _, Nat.zero_le _⟩ ?_
  refine lz_top (v := 0) hx0 ?_
  refine lv_if_ne (tgt := 12) hx hb dX5_lay_5 (by decide) (fun h => absurd (by decide) h) (fun _ => ?_)
  refine lv_iconst (v := 1) hx hb dX5_lay_8 (by decide) ?_
  refine lv_goto (tgt := 28) hx hb dX5_lay_9 (by decide) ?_
  refine mu_V (ci := 5) (q0 := 0) (As := [.int 1]) (rest := []) (ws' := (wMd cA a (1, f, 0, kp, tx, 0, wo, 0, 0, hs))) ⟨hx, hb, hml, hown, hts⟩ (c_X5_holds1 l D cA _ a (th, f, 0, kp, tx, 0, wo, 0, 0, hs) hP (hD.weaken (fun _ _ _ _ => trivial))) (cwV 1 hts gX5_lay_X5_holds rfl rfl rfl (by decide +kernel) ⟨Nat.le_of_ble_eq_true rfl, Nat.le_of_ble_eq_true rfl⟩) hKN hP hD hS hA rfl rfl [0, 1, 2, 3, 4] rfl ((wMd_fst _ _ _).trans (wMd_fst _ _ _).symm) rfl rfl hl.1 rfl (lv_room (Nat.le_of_ble_eq_true rfl)) dX5_lay_28 ⟨Nat.zero_le _, Nat.zero_le _⟩ (fun H locs hP hD hS => ?_)
  refine lv_if_ne (tgt := 36) hx hb dX5_lay_31 (by decide) (fun h => absurd (by decide) h) (fun _ => ?_)
  refine lv_iconst (v := 0) hx hb dX5_lay_34 (by decide) ?_
  exact mu_iret hx hb hr hlocks dX5_lay_35 hAe hS hP rfl
set_option maxHeartbeats 4000000 in
set_option maxRecDepth 100000 in
theorem n_set1 (l : Launch) (D : va_G) (cA : Nat → ClassId) (H : Heap) (a : Nat → Nat) (th : Int32) (f kp tx wo : Nat → Int32) (hs : Int64) (y : Int32) (x : Int32) (hx0 : inF x 0 1 = 0) (hP0 : va_P D vwCl (wMd cA a (th, f, 0, kp, tx, 0, wo, 0, 0, hs)) H) (hD0 : va_D (fun _ => True) (wMd cA a (th, f, 0, kp, tx, 0, wo, 0, 0, hs))) : MU l yX5_set wsX5_set ({ frames := 1, cells := 0, slots := 0, locals := 22 } : Room) D cA [.ref (a 0), .int x, .int y] H (wMd cA a (th, f, 0, kp, tx, 0, wo, 0, 0, hs)) (wMd cA a (1, f, 0, kp, tx, 0, wo, 0, 0, hs)) (some (.int 0)) := by
  refine Met.ofW (cc := cX5_set) (maxL := 4) (ret := (some .int)) (by decide) rfl ?_
  intro p e s m args below meth c s₁ B hml hv
  obtain ⟨rfl, hH, hKN⟩ := hv
  have hK := hKN.1
  have hx := B.exec
  have hb := B.bytes
  have hr := B.returns
  have hts := atoms_spec (ws := wsX5_set) B.pre
  have hown : s.vm.findClass RX5 = some m.cls := findClass_of_methodNamed B.named
  have hlocks := B.notSynchronized
  subst hH
  have hD := hD0.self (sz := s.heap.size)
  generalize hAe : va_A (wMd cA a (th, f, 0, kp, tx, 0, wo, 0, 0, hs)) s.heap.size = A at hD ⊢
  have hA : ∀ q : Nat, s.heap.size ≤ q → A q := fun q h => by rw [← hAe]; exact Or.inr h
  have hS : va_S A s.heap s.heap [] := va_S.rf
  have hP : va_P D vwCl (wMd cA a (th, f, 0, kp, tx, 0, wo, 0, 0, hs)) s.heap := hP0
  have hl := lv_entry ([.ref (a 0), .int x, .int y] : List Value) (n := 4) (Nat.le_of_ble_eq_true rfl)
  rw [lg_entry_eq]
  generalize (lg_sl ([.ref (a 0), .int x, .int y] : List Value) ++ List.replicate (4 - (lg_sl ([.ref (a 0), .int x, .int y] : List Value)).length) Slot.unset).toArray = ls at hl ⊢
  have hl : lv_has ls 4 [(0, .ref (a 0)), (1, .int x), (2, .int y)] := hl
  refine lv_aload_n hx hb dX5_set_0 rfl (lv_at hl 0 rfl) ?_
  refine lv_iload_n hx hb dX5_set_1 rfl (lv_at hl 1 rfl) ?_
  refine lv_iconst (v := 0) hx hb dX5_set_2 (by decide) ?_
  refine lv_iconst (v := 1) hx hb dX5_set_3 (by decide) ?_
  refine ro_S (As := [.int x, .int 0, .int 1]) (rest := [.ref (a 0)]) ⟨hx, hb, hml, hown, hts⟩ (c_X5_in l D cA _ x 0 1) (cwS2 3 hts gX5_set_X5_in rfl rfl rfl (by decide +kernel) ⟨Nat.le_of_ble_eq_true rfl, Nat.le_of_ble_eq_true rfl⟩) hKN rfl hl.1 rfl (lv_room (Nat.le_of_ble_eq_true rfl)) dX5_set_4 ⟨Nat.zero_le _, Nat.zero_le _⟩ ?_
  refine lz_top (v := 0) hx0 ?_
  refine lv_if_ne (tgt := 14) hx hb dX5_set_7 (by decide) (fun h => absurd (by decide) h) (fun _ => ?_)
  refine lv_iconst (v := 1) hx hb dX5_set_10 (by decide) ?_
  refine lv_goto (tgt := 39) hx hb dX5_set_11 (by decide) ?_
  refine mu_V (ci := 5) (q0 := 0) (As := [.int 1]) (rest := []) (ws' := (wMd cA a (1, f, 0, kp, tx, 0, wo, 0, 0, hs))) ⟨hx, hb, hml, hown, hts⟩ (c_X5_holds1 l D cA _ a (th, f, 0, kp, tx, 0, wo, 0, 0, hs) hP (hD.weaken (fun _ _ _ _ => trivial))) (cwV 1 hts gX5_set_X5_holds rfl rfl rfl (by decide +kernel) ⟨Nat.le_of_ble_eq_true rfl, Nat.le_of_ble_eq_true rfl⟩) hKN hP hD hS hA rfl rfl [0, 1, 2, 3, 4] rfl ((wMd_fst _ _ _).trans (wMd_fst _ _ _).symm) rfl rfl hl.1 rfl (lv_room (Nat.le_of_ble_eq_true rfl)) dX5_set_39 ⟨Nat.zero_le _, Nat.zero_le _⟩ (fun H locs hP hD hS => ?_)
  refine lv_if_ne (tgt := 47) hx hb dX5_set_42 (by decide) (fun h => absurd (by decide) h) (fun _ => ?_)
  refine lv_iconst (v := 0) hx hb dX5_set_45 (by decide) ?_
  exact mu_iret hx hb hr hlocks dX5_set_46 hAe hS hP rfl
set_option maxHeartbeats 4000000 in
set_option maxRecDepth 100000 in
theorem n_write1 (l : Launch) (D : va_G) (cA : Nat → ClassId) (H : Heap) (a : Nat → Nat) (th : Int32) (f kp tx wo : Nat → Int32) (hs : Int64) (y : Int32) (x : Int32) (hx0 : inF x 0 15 = 0) (hP0 : va_P D vwCl (wMd cA a (th, f, 0, kp, tx, 0, wo, 0, 0, hs)) H) (hD0 : va_D (fun _ => True) (wMd cA a (th, f, 0, kp, tx, 0, wo, 0, 0, hs))) : MU l yX5_write wsX5_write ({ frames := 2, cells := 0, slots := 0, locals := 42 } : Room) D cA [.ref (a 0), .int x, .int y] H (wMd cA a (th, f, 0, kp, tx, 0, wo, 0, 0, hs)) (wMd cA a (1, f, 0, kp, tx, 0, wo, 0, 0, hs)) (some (.int 0)) := by
  refine Met.ofW (cc := cX5_write) (maxL := 5) (ret := (some .int)) (by decide) rfl ?_
  intro p e s m args below meth c s₁ B hml hv
  obtain ⟨rfl, hH, hKN⟩ := hv
  have hK := hKN.1
  have hx := B.exec
  have hb := B.bytes
  have hr := B.returns
  have hts := atoms_spec (ws := wsX5_write) B.pre
  have hown : s.vm.findClass RX5 = some m.cls := findClass_of_methodNamed B.named
  have hlocks := B.notSynchronized
  subst hH
  have hD := hD0.self (sz := s.heap.size)
  generalize hAe : va_A (wMd cA a (th, f, 0, kp, tx, 0, wo, 0, 0, hs)) s.heap.size = A at hD ⊢
  have hA : ∀ q : Nat, s.heap.size ≤ q → A q := fun q h => by rw [← hAe]; exact Or.inr h
  have hS : va_S A s.heap s.heap [] := va_S.rf
  have hP : va_P D vwCl (wMd cA a (th, f, 0, kp, tx, 0, wo, 0, 0, hs)) s.heap := hP0
  have hl := lv_entry ([.ref (a 0), .int x, .int y] : List Value) (n := 5) (Nat.le_of_ble_eq_true rfl)
  rw [lg_entry_eq]
  generalize (lg_sl ([.ref (a 0), .int x, .int y] : List Value) ++ List.replicate (5 - (lg_sl ([.ref (a 0), .int x, .int y] : List Value)).length) Slot.unset).toArray = ls at hl ⊢
  have hl : lv_has ls 5 [(0, .ref (a 0)), (1, .int x), (2, .int y)] := hl
  refine lv_aload_n hx hb dX5_write_0 rfl (lv_at hl 0 rfl) ?_
  refine lv_iload_n hx hb dX5_write_1 rfl (lv_at hl 1 rfl) ?_
  refine ro_S (As := [.int x]) (rest := [.ref (a 0)]) ⟨hx, hb, hml, hown, hts⟩ (c_X5_isThread l D cA _ x) (cwS2 1 hts gX5_write_X5_isThread rfl rfl rfl (by decide +kernel) ⟨Nat.le_of_ble_eq_true rfl, Nat.le_of_ble_eq_true rfl⟩) hKN rfl hl.1 rfl (lv_room (Nat.le_of_ble_eq_true rfl)) dX5_write_2 ⟨Nat.zero_le _, Nat.zero_le _⟩ ?_
  refine lz_top (v := 0) hx0 ?_
  refine lv_if_eq (tgt := 24) hx hb dX5_write_5 (by decide) (fun _ => ?_) (fun h => absurd (by decide) h)
  refine lv_iconst (v := 1) hx hb dX5_write_24 (by decide) ?_
  refine mu_V (ci := 5) (q0 := 0) (As := [.int 1]) (rest := []) (ws' := (wMd cA a (1, f, 0, kp, tx, 0, wo, 0, 0, hs))) ⟨hx, hb, hml, hown, hts⟩ (c_X5_holds1 l D cA _ a (th, f, 0, kp, tx, 0, wo, 0, 0, hs) hP (hD.weaken (fun _ _ _ _ => trivial))) (cwV 1 hts gX5_write_X5_holds rfl rfl rfl (by decide +kernel) ⟨Nat.le_of_ble_eq_true rfl, Nat.le_of_ble_eq_true rfl⟩) hKN hP hD hS hA rfl rfl [0, 1, 2, 3, 4] rfl ((wMd_fst _ _ _).trans (wMd_fst _ _ _).symm) rfl rfl hl.1 rfl (lv_room (Nat.le_of_ble_eq_true rfl)) dX5_write_25 ⟨Nat.zero_le _, Nat.zero_le _⟩ (fun H locs hP hD hS => ?_)
  refine lv_if_ne (tgt := 33) hx hb dX5_write_28 (by decide) (fun h => absurd (by decide) h) (fun _ => ?_)
  refine lv_iconst (v := 0) hx hb dX5_write_31 (by decide) ?_
  exact mu_iret hx hb hr hlocks dX5_write_32 hAe hS hP rfl
set_option maxHeartbeats 4000000 in
set_option maxRecDepth 100000 in
theorem n_threadOf1 (l : Launch) (D : va_G) (cA : Nat → ClassId) (H : Heap) (a : Nat → Nat) (th : Int32) (f kp tx wo : Nat → Int32) (hs : Int64) (y : Int32) (x : Int32) (hx0 : inF x 0 15 = 0) (hP0 : va_P D vwCl (wMd cA a (th, f, 0, kp, tx, 0, wo, 0, 0, hs)) H) (hD0 : va_D (fun _ => True) (wMd cA a (th, f, 0, kp, tx, 0, wo, 0, 0, hs))) : MU l yX5_threadOf wsX5_threadOf ({ frames := 2, cells := 0, slots := 0, locals := 42 } : Room) D cA [.ref (a 0), .int x, .int y] H (wMd cA a (th, f, 0, kp, tx, 0, wo, 0, 0, hs)) (wMd cA a (1, f, 0, kp, tx, 0, wo, 0, 0, hs)) (some (.int 0)) := by
  refine Met.ofW (cc := cX5_threadOf) (maxL := 3) (ret := (some .int)) (by decide) rfl ?_
  intro p e s m args below meth c s₁ B hml hv
  obtain ⟨rfl, hH, hKN⟩ := hv
  have hK := hKN.1
  have hx := B.exec
  have hb := B.bytes
  have hr := B.returns
  have hts := atoms_spec (ws := wsX5_threadOf) B.pre
  have hown : s.vm.findClass RX5 = some m.cls := findClass_of_methodNamed B.named
  have hlocks := B.notSynchronized
  subst hH
  have hD := hD0.self (sz := s.heap.size)
  generalize hAe : va_A (wMd cA a (th, f, 0, kp, tx, 0, wo, 0, 0, hs)) s.heap.size = A at hD ⊢
  have hA : ∀ q : Nat, s.heap.size ≤ q → A q := fun q h => by rw [← hAe]; exact Or.inr h
  have hS : va_S A s.heap s.heap [] := va_S.rf
  have hP : va_P D vwCl (wMd cA a (th, f, 0, kp, tx, 0, wo, 0, 0, hs)) s.heap := hP0
  have hl := lv_entry ([.ref (a 0), .int x, .int y] : List Value) (n := 3) (Nat.le_of_ble_eq_true rfl)
  rw [lg_entry_eq]
  generalize (lg_sl ([.ref (a 0), .int x, .int y] : List Value) ++ List.replicate (3 - (lg_sl ([.ref (a 0), .int x, .int y] : List Value)).length) Slot.unset).toArray = ls at hl ⊢
  have hl : lv_has ls 3 [(0, .ref (a 0)), (1, .int x), (2, .int y)] := hl
  refine lv_aload_n hx hb dX5_threadOf_0 rfl (lv_at hl 0 rfl) ?_
  refine lv_iload_n hx hb dX5_threadOf_1 rfl (lv_at hl 1 rfl) ?_
  refine ro_S (As := [.int x]) (rest := [.ref (a 0)]) ⟨hx, hb, hml, hown, hts⟩ (c_X5_isThread l D cA _ x) (cwS2 1 hts gX5_threadOf_X5_isThread rfl rfl rfl (by decide +kernel) ⟨Nat.le_of_ble_eq_true rfl, Nat.le_of_ble_eq_true rfl⟩) hKN rfl hl.1 rfl (lv_room (Nat.le_of_ble_eq_true rfl)) dX5_threadOf_2 ⟨Nat.zero_le _, Nat.zero_le _⟩ ?_
  refine lz_top (v := 0) hx0 ?_
  refine lv_if_ne (tgt := 12) hx hb dX5_threadOf_5 (by decide) (fun h => absurd (by decide) h) (fun _ => ?_)
  refine lv_iconst (v := 1) hx hb dX5_threadOf_8 (by decide) ?_
  refine lv_goto (tgt := 27) hx hb dX5_threadOf_9 (by decide) ?_
  refine mu_V (ci := 5) (q0 := 0) (As := [.int 1]) (rest := []) (ws' := (wMd cA a (1, f, 0, kp, tx, 0, wo, 0, 0, hs))) ⟨hx, hb, hml, hown, hts⟩ (c_X5_holds1 l D cA _ a (th, f, 0, kp, tx, 0, wo, 0, 0, hs) hP (hD.weaken (fun _ _ _ _ => trivial))) (cwV 1 hts gX5_threadOf_X5_holds rfl rfl rfl (by decide +kernel) ⟨Nat.le_of_ble_eq_true rfl, Nat.le_of_ble_eq_true rfl⟩) hKN hP hD hS hA rfl rfl [0, 1, 2, 3, 4] rfl ((wMd_fst _ _ _).trans (wMd_fst _ _ _).symm) rfl rfl hl.1 rfl (lv_room (Nat.le_of_ble_eq_true rfl)) dX5_threadOf_27 ⟨Nat.zero_le _, Nat.zero_le _⟩ (fun H locs hP hD hS => ?_)
  refine lv_if_eq (tgt := 42) hx hb dX5_threadOf_30 (by decide) (fun _ => ?_) (fun h => absurd (by decide) h)
  refine lv_iconst (v := 0) hx hb dX5_threadOf_42 (by decide) ?_
  exact mu_iret hx hb hr hlocks dX5_threadOf_43 hAe hS hP rfl
set_option maxHeartbeats 4000000 in
set_option maxRecDepth 100000 in
theorem n_ringOf1 (l : Launch) (D : va_G) (cA : Nat → ClassId) (H : Heap) (a : Nat → Nat) (th : Int32) (f kp tx wo : Nat → Int32) (hs : Int64) (y : Int32) (x : Int32) (hx0 : inF x 0 7 = 0) (hP0 : va_P D vwCl (wMd cA a (th, f, 0, kp, tx, 0, wo, 0, 0, hs)) H) (hD0 : va_D (fun _ => True) (wMd cA a (th, f, 0, kp, tx, 0, wo, 0, 0, hs))) : MU l yX5_ringOf wsX5_ringOf ({ frames := 2, cells := 0, slots := 0, locals := 42 } : Room) D cA [.ref (a 0), .int x, .int y] H (wMd cA a (th, f, 0, kp, tx, 0, wo, 0, 0, hs)) (wMd cA a (1, f, 0, kp, tx, 0, wo, 0, 0, hs)) (some (.int 0)) := by
  refine Met.ofW (cc := cX5_ringOf) (maxL := 3) (ret := (some .int)) (by decide) rfl ?_
  intro p e s m args below meth c s₁ B hml hv
  obtain ⟨rfl, hH, hKN⟩ := hv
  have hK := hKN.1
  have hx := B.exec
  have hb := B.bytes
  have hr := B.returns
  have hts := atoms_spec (ws := wsX5_ringOf) B.pre
  have hown : s.vm.findClass RX5 = some m.cls := findClass_of_methodNamed B.named
  have hlocks := B.notSynchronized
  subst hH
  have hD := hD0.self (sz := s.heap.size)
  generalize hAe : va_A (wMd cA a (th, f, 0, kp, tx, 0, wo, 0, 0, hs)) s.heap.size = A at hD ⊢
  have hA : ∀ q : Nat, s.heap.size ≤ q → A q := fun q h => by rw [← hAe]; exact Or.inr h
  have hS : va_S A s.heap s.heap [] := va_S.rf
  have hP : va_P D vwCl (wMd cA a (th, f, 0, kp, tx, 0, wo, 0, 0, hs)) s.heap := hP0
  have hl := lv_entry ([.ref (a 0), .int x, .int y] : List Value) (n := 3) (Nat.le_of_ble_eq_true rfl)
  rw [lg_entry_eq]
  generalize (lg_sl ([.ref (a 0), .int x, .int y] : List Value) ++ List.replicate (3 - (lg_sl ([.ref (a 0), .int x, .int y] : List Value)).length) Slot.unset).toArray = ls at hl ⊢
  have hl : lv_has ls 3 [(0, .ref (a 0)), (1, .int x), (2, .int y)] := hl
  refine lv_aload_n hx hb dX5_ringOf_0 rfl (lv_at hl 0 rfl) ?_
  refine lv_iload_n hx hb dX5_ringOf_1 rfl (lv_at hl 1 rfl) ?_
  refine ro_S (As := [.int x]) (rest := [.ref (a 0)]) ⟨hx, hb, hml, hown, hts⟩ (c_X5_isRing l D cA _ x) (cwS2 1 hts gX5_ringOf_X5_isRing rfl rfl rfl (by decide +kernel) ⟨Nat.le_of_ble_eq_true rfl, Nat.le_of_ble_eq_true rfl⟩) hKN rfl hl.1 rfl (lv_room (Nat.le_of_ble_eq_true rfl)) dX5_ringOf_2 ⟨Nat.zero_le _, Nat.zero_le _⟩ ?_
  refine lz_top (v := 0) hx0 ?_
  refine lv_if_ne (tgt := 12) hx hb dX5_ringOf_5 (by decide) (fun h => absurd (by decide) h) (fun _ => ?_)
  refine lv_iconst (v := 1) hx hb dX5_ringOf_8 (by decide) ?_
  refine lv_goto (tgt := 26) hx hb dX5_ringOf_9 (by decide) ?_
  refine mu_V (ci := 5) (q0 := 0) (As := [.int 1]) (rest := []) (ws' := (wMd cA a (1, f, 0, kp, tx, 0, wo, 0, 0, hs))) ⟨hx, hb, hml, hown, hts⟩ (c_X5_holds1 l D cA _ a (th, f, 0, kp, tx, 0, wo, 0, 0, hs) hP (hD.weaken (fun _ _ _ _ => trivial))) (cwV 1 hts gX5_ringOf_X5_holds rfl rfl rfl (by decide +kernel) ⟨Nat.le_of_ble_eq_true rfl, Nat.le_of_ble_eq_true rfl⟩) hKN hP hD hS hA rfl rfl [0, 1, 2, 3, 4] rfl ((wMd_fst _ _ _).trans (wMd_fst _ _ _).symm) rfl rfl hl.1 rfl (lv_room (Nat.le_of_ble_eq_true rfl)) dX5_ringOf_26 ⟨Nat.zero_le _, Nat.zero_le _⟩ (fun H locs hP hD hS => ?_)
  refine lv_if_eq (tgt := 41) hx hb dX5_ringOf_29 (by decide) (fun _ => ?_) (fun h => absurd (by decide) h)
  refine lv_iconst (v := 0) hx hb dX5_ringOf_41 (by decide) ?_
  exact mu_iret hx hb hr hlocks dX5_ringOf_42 hAe hS hP rfl
set_option maxHeartbeats 4000000 in
set_option maxRecDepth 100000 in
theorem n_cross2 (l : Launch) (D : va_G) (cA : Nat → ClassId) (H : Heap) (a : Nat → Nat) (th : Int32) (f kp tx wo : Nat → Int32) (hs : Int64) (t : Nat) (ht : t < 16) (x : Int32) (hx0 : inF x 0 7 = 0) (hP0 : va_P D vwCl (wMd cA a (th, f, 0, kp, tx, 0, wo, 0, 0, hs)) H) (hD0 : va_D (fun _ => True) (wMd cA a (th, f, 0, kp, tx, 0, wo, 0, 0, hs))) : MU l yX5_cross wsX5_cross ({ frames := 2, cells := 0, slots := 0, locals := 42 } : Room) D cA [.ref (a 0), .int (nI t), .int x] H (wMd cA a (th, f, 0, kp, tx, 0, wo, 0, 0, hs)) (wMd cA a (1, f, 0, kp, tx, 0, wo, 0, 0, hs)) (some (.int 0)) := by
  refine Met.ofW (cc := cX5_cross) (maxL := 3) (ret := (some .int)) (by decide) rfl ?_
  intro p e s m args below meth c s₁ B hml hv
  obtain ⟨rfl, hH, hKN⟩ := hv
  have hK := hKN.1
  have hx := B.exec
  have hb := B.bytes
  have hr := B.returns
  have hts := atoms_spec (ws := wsX5_cross) B.pre
  have hown : s.vm.findClass RX5 = some m.cls := findClass_of_methodNamed B.named
  have hlocks := B.notSynchronized
  subst hH
  have hD := hD0.self (sz := s.heap.size)
  generalize hAe : va_A (wMd cA a (th, f, 0, kp, tx, 0, wo, 0, 0, hs)) s.heap.size = A at hD ⊢
  have hA : ∀ q : Nat, s.heap.size ≤ q → A q := fun q h => by rw [← hAe]; exact Or.inr h
  have hS : va_S A s.heap s.heap [] := va_S.rf
  have hP : va_P D vwCl (wMd cA a (th, f, 0, kp, tx, 0, wo, 0, 0, hs)) s.heap := hP0
  have hl := lv_entry ([.ref (a 0), .int (nI t), .int x] : List Value) (n := 3) (Nat.le_of_ble_eq_true rfl)
  rw [lg_entry_eq]
  generalize (lg_sl ([.ref (a 0), .int (nI t), .int x] : List Value) ++ List.replicate (3 - (lg_sl ([.ref (a 0), .int (nI t), .int x] : List Value)).length) Slot.unset).toArray = ls at hl ⊢
  have hl : lv_has ls 3 [(0, .ref (a 0)), (1, .int (nI t)), (2, .int x)] := hl
  refine lv_aload_n hx hb dX5_cross_0 rfl (lv_at hl 0 rfl) ?_
  refine lv_iload_n hx hb dX5_cross_1 rfl (lv_at hl 1 rfl) ?_
  refine ro_S (As := [.int (nI t)]) (rest := [.ref (a 0)]) ⟨hx, hb, hml, hown, hts⟩ (c_X5_isThread l D cA _ (nI t)) (cwS2 1 hts gX5_cross_X5_isThread rfl rfl rfl (by decide +kernel) ⟨Nat.le_of_ble_eq_true rfl, Nat.le_of_ble_eq_true rfl⟩) hKN rfl hl.1 rfl (lv_room (Nat.le_of_ble_eq_true rfl)) dX5_cross_2 ⟨Nat.zero_le _, Nat.zero_le _⟩ ?_
  refine lz_top (v := 1) (inF_ok (k := t) (a := 0) (b := 15) (by omega) (by omega) (by decide)) ?_
  refine lv_if_eq (tgt := 19) hx hb dX5_cross_5 (by decide) (fun h => absurd h (by decide)) (fun _ => ?_)
  refine lv_iload_n hx hb dX5_cross_8 rfl (lv_at hl 2 rfl) ?_
  refine ro_S (As := [.int x]) (rest := [.ref (a 0)]) ⟨hx, hb, hml, hown, hts⟩ (c_X5_isRing l D cA _ x) (cwS2 1 hts gX5_cross_X5_isRing rfl rfl rfl (by decide +kernel) ⟨Nat.le_of_ble_eq_true rfl, Nat.le_of_ble_eq_true rfl⟩) hKN rfl hl.1 rfl (lv_room (Nat.le_of_ble_eq_true rfl)) dX5_cross_9 ⟨Nat.zero_le _, Nat.zero_le _⟩ ?_
  refine lz_top (v := 0) hx0 ?_
  refine lv_if_eq (tgt := 19) hx hb dX5_cross_12 (by decide) (fun _ => ?_) (fun h => absurd (by decide) h)
  refine lv_iconst (v := 1) hx hb dX5_cross_19 (by decide) ?_
  refine mu_V (ci := 5) (q0 := 0) (As := [.int 1]) (rest := []) (ws' := (wMd cA a (1, f, 0, kp, tx, 0, wo, 0, 0, hs))) ⟨hx, hb, hml, hown, hts⟩ (c_X5_holds1 l D cA _ a (th, f, 0, kp, tx, 0, wo, 0, 0, hs) hP (hD.weaken (fun _ _ _ _ => trivial))) (cwV 1 hts gX5_cross_X5_holds rfl rfl rfl (by decide +kernel) ⟨Nat.le_of_ble_eq_true rfl, Nat.le_of_ble_eq_true rfl⟩) hKN hP hD hS hA rfl rfl [0, 1, 2, 3, 4] rfl ((wMd_fst _ _ _).trans (wMd_fst _ _ _).symm) rfl rfl hl.1 rfl (lv_room (Nat.le_of_ble_eq_true rfl)) dX5_cross_20 ⟨Nat.zero_le _, Nat.zero_le _⟩ (fun H locs hP hD hS => ?_)
  refine lv_if_ne (tgt := 28) hx hb dX5_cross_23 (by decide) (fun h => absurd (by decide) h) (fun _ => ?_)
  refine lv_iconst (v := 0) hx hb dX5_cross_26 (by decide) ?_
  exact mu_iret hx hb hr hlocks dX5_cross_27 hAe hS hP rfl
set_option maxHeartbeats 4000000 in
set_option maxRecDepth 100000 in
theorem n_lay2 (l : Launch) (D : va_G) (cA : Nat → ClassId) (H : Heap) (a : Nat → Nat) (th : Int32) (f kp tx wo : Nat → Int32) (hs : Int64) (t : Nat) (ht : t < 16) (x : Int32) (hx0 : inF x 0 255 = 0) (hP0 : va_P D vwCl (wMd cA a (th, f, 0, kp, tx, 0, wo, 0, 0, hs)) H) (hD0 : va_D (fun _ => True) (wMd cA a (th, f, 0, kp, tx, 0, wo, 0, 0, hs))) : MU l yX5_lay wsX5_lay ({ frames := 2, cells := 0, slots := 0, locals := 42 } : Room) D cA [.ref (a 0), .int (nI t), .int x] H (wMd cA a (th, f, 0, kp, tx, 0, wo, 0, 0, hs)) (wMd cA a (2, f, 0, kp, tx, 0, wo, 0, 0, hs)) (some (.int 0)) := by
  refine Met.ofW (cc := cX5_lay) (maxL := 3) (ret := (some .int)) (by decide) rfl ?_
  intro p e s m args below meth c s₁ B hml hv
  obtain ⟨rfl, hH, hKN⟩ := hv
  have hK := hKN.1
  have hx := B.exec
  have hb := B.bytes
  have hr := B.returns
  have hts := atoms_spec (ws := wsX5_lay) B.pre
  have hown : s.vm.findClass RX5 = some m.cls := findClass_of_methodNamed B.named
  have hlocks := B.notSynchronized
  subst hH
  have hD := hD0.self (sz := s.heap.size)
  generalize hAe : va_A (wMd cA a (th, f, 0, kp, tx, 0, wo, 0, 0, hs)) s.heap.size = A at hD ⊢
  have hA : ∀ q : Nat, s.heap.size ≤ q → A q := fun q h => by rw [← hAe]; exact Or.inr h
  have hS : va_S A s.heap s.heap [] := va_S.rf
  have hP : va_P D vwCl (wMd cA a (th, f, 0, kp, tx, 0, wo, 0, 0, hs)) s.heap := hP0
  have hl := lv_entry ([.ref (a 0), .int (nI t), .int x] : List Value) (n := 3) (Nat.le_of_ble_eq_true rfl)
  rw [lg_entry_eq]
  generalize (lg_sl ([.ref (a 0), .int (nI t), .int x] : List Value) ++ List.replicate (3 - (lg_sl ([.ref (a 0), .int (nI t), .int x] : List Value)).length) Slot.unset).toArray = ls at hl ⊢
  have hl : lv_has ls 3 [(0, .ref (a 0)), (1, .int (nI t)), (2, .int x)] := hl
  refine lv_aload_n hx hb dX5_lay_0 rfl (lv_at hl 0 rfl) ?_
  refine lv_iload_n hx hb dX5_lay_1 rfl (lv_at hl 1 rfl) ?_
  refine ro_S (As := [.int (nI t)]) (rest := [.ref (a 0)]) ⟨hx, hb, hml, hown, hts⟩ (c_X5_isThread l D cA _ (nI t)) (cwS2 1 hts gX5_lay_X5_isThread rfl rfl rfl (by decide +kernel) ⟨Nat.le_of_ble_eq_true rfl, Nat.le_of_ble_eq_true rfl⟩) hKN rfl hl.1 rfl (lv_room (Nat.le_of_ble_eq_true rfl)) dX5_lay_2 ⟨Nat.zero_le _, Nat.zero_le _⟩ ?_
  refine lz_top (v := 1) (inF_ok (k := t) (a := 0) (b := 15) (by omega) (by omega) (by decide)) ?_
  refine lv_if_ne (tgt := 12) hx hb dX5_lay_5 (by decide) (fun _ => ?_) (fun h => absurd h (by decide))
  refine lv_iload_n hx hb dX5_lay_12 rfl (lv_at hl 2 rfl) ?_
  refine lv_iconst (v := 0) hx hb dX5_lay_13 (by decide) ?_
  refine lv_sipush (v := 255) hx hb dX5_lay_14 (by decide) ?_
  refine ro_S (As := [.int x, .int 0, .int 255]) (rest := [.ref (a 0)]) ⟨hx, hb, hml, hown, hts⟩ (c_X5_in l D cA _ x 0 255) (cwS2 3 hts gX5_lay_X5_in rfl rfl rfl (by decide +kernel) ⟨Nat.le_of_ble_eq_true rfl, Nat.le_of_ble_eq_true rfl⟩) hKN rfl hl.1 rfl (lv_room (Nat.le_of_ble_eq_true rfl)) dX5_lay_17 ⟨Nat.zero_le _, Nat.zero_le _⟩ ?_
  refine lz_top (v := 0) hx0 ?_
  refine lv_if_ne (tgt := 27) hx hb dX5_lay_20 (by decide) (fun h => absurd (by decide) h) (fun _ => ?_)
  refine lv_iconst (v := 2) hx hb dX5_lay_23 (by decide) ?_
  refine lv_goto (tgt := 28) hx hb dX5_lay_24 (by decide) ?_
  refine mu_V (ci := 5) (q0 := 0) (As := [.int 2]) (rest := []) (ws' := (wMd cA a (2, f, 0, kp, tx, 0, wo, 0, 0, hs))) ⟨hx, hb, hml, hown, hts⟩ (c_X5_holds2 l D cA _ a (th, f, 0, kp, tx, 0, wo, 0, 0, hs) hP (hD.weaken (fun _ _ _ _ => trivial))) (cwV 1 hts gX5_lay_X5_holds rfl rfl rfl (by decide +kernel) ⟨Nat.le_of_ble_eq_true rfl, Nat.le_of_ble_eq_true rfl⟩) hKN hP hD hS hA rfl rfl [0, 1, 2, 3, 4] rfl ((wMd_fst _ _ _).trans (wMd_fst _ _ _).symm) rfl rfl hl.1 rfl (lv_room (Nat.le_of_ble_eq_true rfl)) dX5_lay_28 ⟨Nat.zero_le _, Nat.zero_le _⟩ (fun H locs hP hD hS => ?_)
  refine lv_if_ne (tgt := 36) hx hb dX5_lay_31 (by decide) (fun h => absurd (by decide) h) (fun _ => ?_)
  refine lv_iconst (v := 0) hx hb dX5_lay_34 (by decide) ?_
  exact mu_iret hx hb hr hlocks dX5_lay_35 hAe hS hP rfl
set_option maxHeartbeats 4000000 in
set_option maxRecDepth 100000 in
theorem n_set2 (l : Launch) (D : va_G) (cA : Nat → ClassId) (H : Heap) (a : Nat → Nat) (th : Int32) (f kp tx wo : Nat → Int32) (hs : Int64) (x : Int32) (hx0 : inF x 1 8 = 0) (hP0 : va_P D vwCl (wMd cA a (th, f, 0, kp, tx, 0, wo, 0, 0, hs)) H) (hD0 : va_D (fun _ => True) (wMd cA a (th, f, 0, kp, tx, 0, wo, 0, 0, hs))) : MU l yX5_set wsX5_set ({ frames := 1, cells := 0, slots := 0, locals := 22 } : Room) D cA [.ref (a 0), .int 0, .int x] H (wMd cA a (th, f, 0, kp, tx, 0, wo, 0, 0, hs)) (wMd cA a (2, f, 0, kp, tx, 0, wo, 0, 0, hs)) (some (.int 0)) := by
  refine Met.ofW (cc := cX5_set) (maxL := 4) (ret := (some .int)) (by decide) rfl ?_
  intro p e s m args below meth c s₁ B hml hv
  obtain ⟨rfl, hH, hKN⟩ := hv
  have hK := hKN.1
  have hx := B.exec
  have hb := B.bytes
  have hr := B.returns
  have hts := atoms_spec (ws := wsX5_set) B.pre
  have hown : s.vm.findClass RX5 = some m.cls := findClass_of_methodNamed B.named
  have hlocks := B.notSynchronized
  subst hH
  have hD := hD0.self (sz := s.heap.size)
  generalize hAe : va_A (wMd cA a (th, f, 0, kp, tx, 0, wo, 0, 0, hs)) s.heap.size = A at hD ⊢
  have hA : ∀ q : Nat, s.heap.size ≤ q → A q := fun q h => by rw [← hAe]; exact Or.inr h
  have hS : va_S A s.heap s.heap [] := va_S.rf
  have hP : va_P D vwCl (wMd cA a (th, f, 0, kp, tx, 0, wo, 0, 0, hs)) s.heap := hP0
  have hl := lv_entry ([.ref (a 0), .int 0, .int x] : List Value) (n := 4) (Nat.le_of_ble_eq_true rfl)
  rw [lg_entry_eq]
  generalize (lg_sl ([.ref (a 0), .int 0, .int x] : List Value) ++ List.replicate (4 - (lg_sl ([.ref (a 0), .int 0, .int x] : List Value)).length) Slot.unset).toArray = ls at hl ⊢
  have hl : lv_has ls 4 [(0, .ref (a 0)), (1, .int 0), (2, .int x)] := hl
  refine lv_aload_n hx hb dX5_set_0 rfl (lv_at hl 0 rfl) ?_
  refine lv_iload_n hx hb dX5_set_1 rfl (lv_at hl 1 rfl) ?_
  refine lv_iconst (v := 0) hx hb dX5_set_2 (by decide) ?_
  refine lv_iconst (v := 1) hx hb dX5_set_3 (by decide) ?_
  refine ro_S (As := [.int 0, .int 0, .int 1]) (rest := [.ref (a 0)]) ⟨hx, hb, hml, hown, hts⟩ (c_X5_in l D cA _ 0 0 1) (cwS2 3 hts gX5_set_X5_in rfl rfl rfl (by decide +kernel) ⟨Nat.le_of_ble_eq_true rfl, Nat.le_of_ble_eq_true rfl⟩) hKN rfl hl.1 rfl (lv_room (Nat.le_of_ble_eq_true rfl)) dX5_set_4 ⟨Nat.zero_le _, Nat.zero_le _⟩ ?_
  refine lz_top (v := 1) (inF_ok (k := 0) (a := 0) (b := 1) (by omega) (by omega) (by decide)) ?_
  refine lv_if_ne (tgt := 14) hx hb dX5_set_7 (by decide) (fun _ => ?_) (fun h => absurd h (by decide))
  refine lv_iload_n hx hb dX5_set_14 rfl (lv_at hl 2 rfl) ?_
  refine lv_iconst (v := 1) hx hb dX5_set_15 (by decide) ?_
  refine lv_iload_n hx hb dX5_set_16 rfl (lv_at hl 1 rfl) ?_
  refine lz_isub (v := 1) hx hb dX5_set_17 (by decide) ?_
  refine lv_iload_n hx hb dX5_set_18 rfl (lv_at hl 1 rfl) ?_
  refine lv_if_ne (tgt := 27) hx hb dX5_set_19 (by decide) (fun h => absurd (by decide) h) (fun _ => ?_)
  refine lv_bipush (v := 8) hx hb dX5_set_22 (by decide) ?_
  refine lv_goto (tgt := 28) hx hb dX5_set_24 (by decide) ?_
  refine ro_S (As := [.int x, .int 1, .int 8]) (rest := [.ref (a 0)]) ⟨hx, hb, hml, hown, hts⟩ (c_X5_in l D cA _ x 1 8) (cwS2 3 hts gX5_set_X5_in rfl rfl rfl (by decide +kernel) ⟨Nat.le_of_ble_eq_true rfl, Nat.le_of_ble_eq_true rfl⟩) hKN rfl hl.1 rfl (lv_room (Nat.le_of_ble_eq_true rfl)) dX5_set_28 ⟨Nat.zero_le _, Nat.zero_le _⟩ ?_
  refine lz_top (v := 0) hx0 ?_
  refine lv_if_ne (tgt := 38) hx hb dX5_set_31 (by decide) (fun h => absurd (by decide) h) (fun _ => ?_)
  refine lv_iconst (v := 2) hx hb dX5_set_34 (by decide) ?_
  refine lv_goto (tgt := 39) hx hb dX5_set_35 (by decide) ?_
  refine mu_V (ci := 5) (q0 := 0) (As := [.int 2]) (rest := []) (ws' := (wMd cA a (2, f, 0, kp, tx, 0, wo, 0, 0, hs))) ⟨hx, hb, hml, hown, hts⟩ (c_X5_holds2 l D cA _ a (th, f, 0, kp, tx, 0, wo, 0, 0, hs) hP (hD.weaken (fun _ _ _ _ => trivial))) (cwV 1 hts gX5_set_X5_holds rfl rfl rfl (by decide +kernel) ⟨Nat.le_of_ble_eq_true rfl, Nat.le_of_ble_eq_true rfl⟩) hKN hP hD hS hA rfl rfl [0, 1, 2, 3, 4] rfl ((wMd_fst _ _ _).trans (wMd_fst _ _ _).symm) rfl rfl hl.1 rfl (lv_room (Nat.le_of_ble_eq_true rfl)) dX5_set_39 ⟨Nat.zero_le _, Nat.zero_le _⟩ (fun H locs hP hD hS => ?_)
  refine lv_if_ne (tgt := 47) hx hb dX5_set_42 (by decide) (fun h => absurd (by decide) h) (fun _ => ?_)
  refine lv_iconst (v := 0) hx hb dX5_set_45 (by decide) ?_
  exact mu_iret hx hb hr hlocks dX5_set_46 hAe hS hP rfl
set_option maxHeartbeats 4000000 in
set_option maxRecDepth 100000 in
theorem n_set3 (l : Launch) (D : va_G) (cA : Nat → ClassId) (H : Heap) (a : Nat → Nat) (th : Int32) (f kp tx wo : Nat → Int32) (hs : Int64) (x : Int32) (hx0 : inF x 0 1 = 0) (hP0 : va_P D vwCl (wMd cA a (th, f, 0, kp, tx, 0, wo, 0, 0, hs)) H) (hD0 : va_D (fun _ => True) (wMd cA a (th, f, 0, kp, tx, 0, wo, 0, 0, hs))) : MU l yX5_set wsX5_set ({ frames := 1, cells := 0, slots := 0, locals := 22 } : Room) D cA [.ref (a 0), .int 1, .int x] H (wMd cA a (th, f, 0, kp, tx, 0, wo, 0, 0, hs)) (wMd cA a (2, f, 0, kp, tx, 0, wo, 0, 0, hs)) (some (.int 0)) := by
  refine Met.ofW (cc := cX5_set) (maxL := 4) (ret := (some .int)) (by decide) rfl ?_
  intro p e s m args below meth c s₁ B hml hv
  obtain ⟨rfl, hH, hKN⟩ := hv
  have hK := hKN.1
  have hx := B.exec
  have hb := B.bytes
  have hr := B.returns
  have hts := atoms_spec (ws := wsX5_set) B.pre
  have hown : s.vm.findClass RX5 = some m.cls := findClass_of_methodNamed B.named
  have hlocks := B.notSynchronized
  subst hH
  have hD := hD0.self (sz := s.heap.size)
  generalize hAe : va_A (wMd cA a (th, f, 0, kp, tx, 0, wo, 0, 0, hs)) s.heap.size = A at hD ⊢
  have hA : ∀ q : Nat, s.heap.size ≤ q → A q := fun q h => by rw [← hAe]; exact Or.inr h
  have hS : va_S A s.heap s.heap [] := va_S.rf
  have hP : va_P D vwCl (wMd cA a (th, f, 0, kp, tx, 0, wo, 0, 0, hs)) s.heap := hP0
  have hl := lv_entry ([.ref (a 0), .int 1, .int x] : List Value) (n := 4) (Nat.le_of_ble_eq_true rfl)
  rw [lg_entry_eq]
  generalize (lg_sl ([.ref (a 0), .int 1, .int x] : List Value) ++ List.replicate (4 - (lg_sl ([.ref (a 0), .int 1, .int x] : List Value)).length) Slot.unset).toArray = ls at hl ⊢
  have hl : lv_has ls 4 [(0, .ref (a 0)), (1, .int 1), (2, .int x)] := hl
  refine lv_aload_n hx hb dX5_set_0 rfl (lv_at hl 0 rfl) ?_
  refine lv_iload_n hx hb dX5_set_1 rfl (lv_at hl 1 rfl) ?_
  refine lv_iconst (v := 0) hx hb dX5_set_2 (by decide) ?_
  refine lv_iconst (v := 1) hx hb dX5_set_3 (by decide) ?_
  refine ro_S (As := [.int 1, .int 0, .int 1]) (rest := [.ref (a 0)]) ⟨hx, hb, hml, hown, hts⟩ (c_X5_in l D cA _ 1 0 1) (cwS2 3 hts gX5_set_X5_in rfl rfl rfl (by decide +kernel) ⟨Nat.le_of_ble_eq_true rfl, Nat.le_of_ble_eq_true rfl⟩) hKN rfl hl.1 rfl (lv_room (Nat.le_of_ble_eq_true rfl)) dX5_set_4 ⟨Nat.zero_le _, Nat.zero_le _⟩ ?_
  refine lz_top (v := 1) (inF_ok (k := 1) (a := 0) (b := 1) (by omega) (by omega) (by decide)) ?_
  refine lv_if_ne (tgt := 14) hx hb dX5_set_7 (by decide) (fun _ => ?_) (fun h => absurd h (by decide))
  refine lv_iload_n hx hb dX5_set_14 rfl (lv_at hl 2 rfl) ?_
  refine lv_iconst (v := 1) hx hb dX5_set_15 (by decide) ?_
  refine lv_iload_n hx hb dX5_set_16 rfl (lv_at hl 1 rfl) ?_
  refine lz_isub (v := 0) hx hb dX5_set_17 (by decide) ?_
  refine lv_iload_n hx hb dX5_set_18 rfl (lv_at hl 1 rfl) ?_
  refine lv_if_ne (tgt := 27) hx hb dX5_set_19 (by decide) (fun _ => ?_) (fun h => absurd h (by decide))
  refine lv_iconst (v := 1) hx hb dX5_set_27 (by decide) ?_
  refine ro_S (As := [.int x, .int 0, .int 1]) (rest := [.ref (a 0)]) ⟨hx, hb, hml, hown, hts⟩ (c_X5_in l D cA _ x 0 1) (cwS2 3 hts gX5_set_X5_in rfl rfl rfl (by decide +kernel) ⟨Nat.le_of_ble_eq_true rfl, Nat.le_of_ble_eq_true rfl⟩) hKN rfl hl.1 rfl (lv_room (Nat.le_of_ble_eq_true rfl)) dX5_set_28 ⟨Nat.zero_le _, Nat.zero_le _⟩ ?_
  refine lz_top (v := 0) hx0 ?_
  refine lv_if_ne (tgt := 38) hx hb dX5_set_31 (by decide) (fun h => absurd (by decide) h) (fun _ => ?_)
  refine lv_iconst (v := 2) hx hb dX5_set_34 (by decide) ?_
  refine lv_goto (tgt := 39) hx hb dX5_set_35 (by decide) ?_
  refine mu_V (ci := 5) (q0 := 0) (As := [.int 2]) (rest := []) (ws' := (wMd cA a (2, f, 0, kp, tx, 0, wo, 0, 0, hs))) ⟨hx, hb, hml, hown, hts⟩ (c_X5_holds2 l D cA _ a (th, f, 0, kp, tx, 0, wo, 0, 0, hs) hP (hD.weaken (fun _ _ _ _ => trivial))) (cwV 1 hts gX5_set_X5_holds rfl rfl rfl (by decide +kernel) ⟨Nat.le_of_ble_eq_true rfl, Nat.le_of_ble_eq_true rfl⟩) hKN hP hD hS hA rfl rfl [0, 1, 2, 3, 4] rfl ((wMd_fst _ _ _).trans (wMd_fst _ _ _).symm) rfl rfl hl.1 rfl (lv_room (Nat.le_of_ble_eq_true rfl)) dX5_set_39 ⟨Nat.zero_le _, Nat.zero_le _⟩ (fun H locs hP hD hS => ?_)
  refine lv_if_ne (tgt := 47) hx hb dX5_set_42 (by decide) (fun h => absurd (by decide) h) (fun _ => ?_)
  refine lv_iconst (v := 0) hx hb dX5_set_45 (by decide) ?_
  exact mu_iret hx hb hr hlocks dX5_set_46 hAe hS hP rfl
set_option maxHeartbeats 4000000 in
set_option maxRecDepth 100000 in
theorem n_write2 (l : Launch) (D : va_G) (cA : Nat → ClassId) (H : Heap) (a : Nat → Nat) (th : Int32) (f kp tx wo : Nat → Int32) (hs : Int64) (t : Nat) (ht : t < 16) (x : Int32) (hx0 : inF x 0 15 = 0) (hP0 : va_P D vwCl (wMd cA a (th, f, 0, kp, tx, 0, wo, 0, 0, hs)) H) (hD0 : va_D (fun _ => True) (wMd cA a (th, f, 0, kp, tx, 0, wo, 0, 0, hs))) : MU l yX5_write wsX5_write ({ frames := 2, cells := 0, slots := 0, locals := 42 } : Room) D cA [.ref (a 0), .int (nI t), .int x] H (wMd cA a (th, f, 0, kp, tx, 0, wo, 0, 0, hs)) (wMd cA a (1, f, 0, kp, tx, 0, wo, 0, 0, hs)) (some (.int 0)) := by
  refine Met.ofW (cc := cX5_write) (maxL := 5) (ret := (some .int)) (by decide) rfl ?_
  intro p e s m args below meth c s₁ B hml hv
  obtain ⟨rfl, hH, hKN⟩ := hv
  have hK := hKN.1
  have hx := B.exec
  have hb := B.bytes
  have hr := B.returns
  have hts := atoms_spec (ws := wsX5_write) B.pre
  have hown : s.vm.findClass RX5 = some m.cls := findClass_of_methodNamed B.named
  have hlocks := B.notSynchronized
  subst hH
  have hD := hD0.self (sz := s.heap.size)
  generalize hAe : va_A (wMd cA a (th, f, 0, kp, tx, 0, wo, 0, 0, hs)) s.heap.size = A at hD ⊢
  have hA : ∀ q : Nat, s.heap.size ≤ q → A q := fun q h => by rw [← hAe]; exact Or.inr h
  have hS : va_S A s.heap s.heap [] := va_S.rf
  have hP : va_P D vwCl (wMd cA a (th, f, 0, kp, tx, 0, wo, 0, 0, hs)) s.heap := hP0
  have hl := lv_entry ([.ref (a 0), .int (nI t), .int x] : List Value) (n := 5) (Nat.le_of_ble_eq_true rfl)
  rw [lg_entry_eq]
  generalize (lg_sl ([.ref (a 0), .int (nI t), .int x] : List Value) ++ List.replicate (5 - (lg_sl ([.ref (a 0), .int (nI t), .int x] : List Value)).length) Slot.unset).toArray = ls at hl ⊢
  have hl : lv_has ls 5 [(0, .ref (a 0)), (1, .int (nI t)), (2, .int x)] := hl
  refine lv_aload_n hx hb dX5_write_0 rfl (lv_at hl 0 rfl) ?_
  refine lv_iload_n hx hb dX5_write_1 rfl (lv_at hl 1 rfl) ?_
  refine ro_S (As := [.int (nI t)]) (rest := [.ref (a 0)]) ⟨hx, hb, hml, hown, hts⟩ (c_X5_isThread l D cA _ (nI t)) (cwS2 1 hts gX5_write_X5_isThread rfl rfl rfl (by decide +kernel) ⟨Nat.le_of_ble_eq_true rfl, Nat.le_of_ble_eq_true rfl⟩) hKN rfl hl.1 rfl (lv_room (Nat.le_of_ble_eq_true rfl)) dX5_write_2 ⟨Nat.zero_le _, Nat.zero_le _⟩ ?_
  refine lz_top (v := 1) (inF_ok (k := t) (a := 0) (b := 15) (by omega) (by omega) (by decide)) ?_
  refine lv_if_eq (tgt := 24) hx hb dX5_write_5 (by decide) (fun h => absurd h (by decide)) (fun _ => ?_)
  refine lv_iload_n hx hb dX5_write_8 rfl (lv_at hl 2 rfl) ?_
  refine ro_S (As := [.int x]) (rest := [.ref (a 0)]) ⟨hx, hb, hml, hown, hts⟩ (c_X5_isThread l D cA _ x) (cwS2 1 hts gX5_write_X5_isThread rfl rfl rfl (by decide +kernel) ⟨Nat.le_of_ble_eq_true rfl, Nat.le_of_ble_eq_true rfl⟩) hKN rfl hl.1 rfl (lv_room (Nat.le_of_ble_eq_true rfl)) dX5_write_9 ⟨Nat.zero_le _, Nat.zero_le _⟩ ?_
  refine lz_top (v := 0) hx0 ?_
  refine lv_if_eq (tgt := 24) hx hb dX5_write_12 (by decide) (fun _ => ?_) (fun h => absurd (by decide) h)
  refine lv_iconst (v := 1) hx hb dX5_write_24 (by decide) ?_
  refine mu_V (ci := 5) (q0 := 0) (As := [.int 1]) (rest := []) (ws' := (wMd cA a (1, f, 0, kp, tx, 0, wo, 0, 0, hs))) ⟨hx, hb, hml, hown, hts⟩ (c_X5_holds1 l D cA _ a (th, f, 0, kp, tx, 0, wo, 0, 0, hs) hP (hD.weaken (fun _ _ _ _ => trivial))) (cwV 1 hts gX5_write_X5_holds rfl rfl rfl (by decide +kernel) ⟨Nat.le_of_ble_eq_true rfl, Nat.le_of_ble_eq_true rfl⟩) hKN hP hD hS hA rfl rfl [0, 1, 2, 3, 4] rfl ((wMd_fst _ _ _).trans (wMd_fst _ _ _).symm) rfl rfl hl.1 rfl (lv_room (Nat.le_of_ble_eq_true rfl)) dX5_write_25 ⟨Nat.zero_le _, Nat.zero_le _⟩ (fun H locs hP hD hS => ?_)
  refine lv_if_ne (tgt := 33) hx hb dX5_write_28 (by decide) (fun h => absurd (by decide) h) (fun _ => ?_)
  refine lv_iconst (v := 0) hx hb dX5_write_31 (by decide) ?_
  exact mu_iret hx hb hr hlocks dX5_write_32 hAe hS hP rfl
set_option maxHeartbeats 4000000 in
set_option maxRecDepth 100000 in
theorem n_write3 (l : Launch) (D : va_G) (cA : Nat → ClassId) (H : Heap) (a : Nat → Nat) (th : Int32) (f kp tx wo : Nat → Int32) (hs : Int64) (t : Nat) (ht : t < 16) (v : Nat) (hv0 : v < 16) (hvt : v < t) (hP0 : va_P D vwCl (wMd cA a (th, f, 0, kp, tx, 0, wo, 0, 0, hs)) H) (hD0 : va_D (fun _ => True) (wMd cA a (th, f, 0, kp, tx, 0, wo, 0, 0, hs))) : MU l yX5_write wsX5_write ({ frames := 2, cells := 0, slots := 0, locals := 42 } : Room) D cA [.ref (a 0), .int (nI t), .int (nI v)] H (wMd cA a (th, f, 0, kp, tx, 0, wo, 0, 0, hs)) (wMd cA a (1, f, 0, kp, tx, 0, wo, 0, 0, hs)) (some (.int 0)) := by
  refine Met.ofW (cc := cX5_write) (maxL := 5) (ret := (some .int)) (by decide) rfl ?_
  intro p e s m args below meth c s₁ B hml hv
  obtain ⟨rfl, hH, hKN⟩ := hv
  have hK := hKN.1
  have hx := B.exec
  have hb := B.bytes
  have hr := B.returns
  have hts := atoms_spec (ws := wsX5_write) B.pre
  have hown : s.vm.findClass RX5 = some m.cls := findClass_of_methodNamed B.named
  have hlocks := B.notSynchronized
  subst hH
  have hD := hD0.self (sz := s.heap.size)
  generalize hAe : va_A (wMd cA a (th, f, 0, kp, tx, 0, wo, 0, 0, hs)) s.heap.size = A at hD ⊢
  have hA : ∀ q : Nat, s.heap.size ≤ q → A q := fun q h => by rw [← hAe]; exact Or.inr h
  have hS : va_S A s.heap s.heap [] := va_S.rf
  have hP : va_P D vwCl (wMd cA a (th, f, 0, kp, tx, 0, wo, 0, 0, hs)) s.heap := hP0
  have hl := lv_entry ([.ref (a 0), .int (nI t), .int (nI v)] : List Value) (n := 5) (Nat.le_of_ble_eq_true rfl)
  rw [lg_entry_eq]
  generalize (lg_sl ([.ref (a 0), .int (nI t), .int (nI v)] : List Value) ++ List.replicate (5 - (lg_sl ([.ref (a 0), .int (nI t), .int (nI v)] : List Value)).length) Slot.unset).toArray = ls at hl ⊢
  have hl : lv_has ls 5 [(0, .ref (a 0)), (1, .int (nI t)), (2, .int (nI v))] := hl
  refine lv_aload_n hx hb dX5_write_0 rfl (lv_at hl 0 rfl) ?_
  refine lv_iload_n hx hb dX5_write_1 rfl (lv_at hl 1 rfl) ?_
  refine ro_S (As := [.int (nI t)]) (rest := [.ref (a 0)]) ⟨hx, hb, hml, hown, hts⟩ (c_X5_isThread l D cA _ (nI t)) (cwS2 1 hts gX5_write_X5_isThread rfl rfl rfl (by decide +kernel) ⟨Nat.le_of_ble_eq_true rfl, Nat.le_of_ble_eq_true rfl⟩) hKN rfl hl.1 rfl (lv_room (Nat.le_of_ble_eq_true rfl)) dX5_write_2 ⟨Nat.zero_le _, Nat.zero_le _⟩ ?_
  refine lz_top (v := 1) (inF_ok (k := t) (a := 0) (b := 15) (by omega) (by omega) (by decide)) ?_
  refine lv_if_eq (tgt := 24) hx hb dX5_write_5 (by decide) (fun h => absurd h (by decide)) (fun _ => ?_)
  refine lv_iload_n hx hb dX5_write_8 rfl (lv_at hl 2 rfl) ?_
  refine ro_S (As := [.int (nI v)]) (rest := [.ref (a 0)]) ⟨hx, hb, hml, hown, hts⟩ (c_X5_isThread l D cA _ (nI v)) (cwS2 1 hts gX5_write_X5_isThread rfl rfl rfl (by decide +kernel) ⟨Nat.le_of_ble_eq_true rfl, Nat.le_of_ble_eq_true rfl⟩) hKN rfl hl.1 rfl (lv_room (Nat.le_of_ble_eq_true rfl)) dX5_write_9 ⟨Nat.zero_le _, Nat.zero_le _⟩ ?_
  refine lz_top (v := 1) (inF_ok (k := v) (a := 0) (b := 15) (by omega) (by omega) (by decide)) ?_
  refine lv_if_eq (tgt := 24) hx hb dX5_write_12 (by decide) (fun h => absurd h (by decide)) (fun _ => ?_)
  refine lv_iload_n hx hb dX5_write_15 rfl (lv_at hl 1 rfl) ?_
  refine lv_iload_n hx hb dX5_write_16 rfl (lv_at hl 2 rfl) ?_
  refine lv_icmp_gt (tgt := 24) hx hb dX5_write_17 (by decide) (fun _ => ?_) (fun h => absurd (nI_lt (a := v) (b := t) hvt (by omega)) h)
  refine lv_iconst (v := 1) hx hb dX5_write_24 (by decide) ?_
  refine mu_V (ci := 5) (q0 := 0) (As := [.int 1]) (rest := []) (ws' := (wMd cA a (1, f, 0, kp, tx, 0, wo, 0, 0, hs))) ⟨hx, hb, hml, hown, hts⟩ (c_X5_holds1 l D cA _ a (th, f, 0, kp, tx, 0, wo, 0, 0, hs) hP (hD.weaken (fun _ _ _ _ => trivial))) (cwV 1 hts gX5_write_X5_holds rfl rfl rfl (by decide +kernel) ⟨Nat.le_of_ble_eq_true rfl, Nat.le_of_ble_eq_true rfl⟩) hKN hP hD hS hA rfl rfl [0, 1, 2, 3, 4] rfl ((wMd_fst _ _ _).trans (wMd_fst _ _ _).symm) rfl rfl hl.1 rfl (lv_room (Nat.le_of_ble_eq_true rfl)) dX5_write_25 ⟨Nat.zero_le _, Nat.zero_le _⟩ (fun H locs hP hD hS => ?_)
  refine lv_if_ne (tgt := 33) hx hb dX5_write_28 (by decide) (fun h => absurd (by decide) h) (fun _ => ?_)
  refine lv_iconst (v := 0) hx hb dX5_write_31 (by decide) ?_
  exact mu_iret hx hb hr hlocks dX5_write_32 hAe hS hP rfl
set_option maxHeartbeats 4000000 in
set_option maxRecDepth 100000 in
theorem n_threadOf2 (l : Launch) (D : va_G) (cA : Nat → ClassId) (H : Heap) (a : Nat → Nat) (th : Int32) (f kp tx wo : Nat → Int32) (hs : Int64) (t : Nat) (ht : t < 16) (x : Int32) (hx0 : inF x 0 7 = 0) (hP0 : va_P D vwCl (wMd cA a (th, f, 0, kp, tx, 0, wo, 0, 0, hs)) H) (hD0 : va_D (fun _ => True) (wMd cA a (th, f, 0, kp, tx, 0, wo, 0, 0, hs))) : MU l yX5_threadOf wsX5_threadOf ({ frames := 2, cells := 0, slots := 0, locals := 42 } : Room) D cA [.ref (a 0), .int (nI t), .int x] H (wMd cA a (th, f, 0, kp, tx, 0, wo, 0, 0, hs)) (wMd cA a (2, f, 0, kp, tx, 0, wo, 0, 0, hs)) (some (.int 0)) := by
  refine Met.ofW (cc := cX5_threadOf) (maxL := 3) (ret := (some .int)) (by decide) rfl ?_
  intro p e s m args below meth c s₁ B hml hv
  obtain ⟨rfl, hH, hKN⟩ := hv
  have hK := hKN.1
  have hx := B.exec
  have hb := B.bytes
  have hr := B.returns
  have hts := atoms_spec (ws := wsX5_threadOf) B.pre
  have hown : s.vm.findClass RX5 = some m.cls := findClass_of_methodNamed B.named
  have hlocks := B.notSynchronized
  subst hH
  have hD := hD0.self (sz := s.heap.size)
  generalize hAe : va_A (wMd cA a (th, f, 0, kp, tx, 0, wo, 0, 0, hs)) s.heap.size = A at hD ⊢
  have hA : ∀ q : Nat, s.heap.size ≤ q → A q := fun q h => by rw [← hAe]; exact Or.inr h
  have hS : va_S A s.heap s.heap [] := va_S.rf
  have hP : va_P D vwCl (wMd cA a (th, f, 0, kp, tx, 0, wo, 0, 0, hs)) s.heap := hP0
  have hl := lv_entry ([.ref (a 0), .int (nI t), .int x] : List Value) (n := 3) (Nat.le_of_ble_eq_true rfl)
  rw [lg_entry_eq]
  generalize (lg_sl ([.ref (a 0), .int (nI t), .int x] : List Value) ++ List.replicate (3 - (lg_sl ([.ref (a 0), .int (nI t), .int x] : List Value)).length) Slot.unset).toArray = ls at hl ⊢
  have hl : lv_has ls 3 [(0, .ref (a 0)), (1, .int (nI t)), (2, .int x)] := hl
  refine lv_aload_n hx hb dX5_threadOf_0 rfl (lv_at hl 0 rfl) ?_
  refine lv_iload_n hx hb dX5_threadOf_1 rfl (lv_at hl 1 rfl) ?_
  refine ro_S (As := [.int (nI t)]) (rest := [.ref (a 0)]) ⟨hx, hb, hml, hown, hts⟩ (c_X5_isThread l D cA _ (nI t)) (cwS2 1 hts gX5_threadOf_X5_isThread rfl rfl rfl (by decide +kernel) ⟨Nat.le_of_ble_eq_true rfl, Nat.le_of_ble_eq_true rfl⟩) hKN rfl hl.1 rfl (lv_room (Nat.le_of_ble_eq_true rfl)) dX5_threadOf_2 ⟨Nat.zero_le _, Nat.zero_le _⟩ ?_
  refine lz_top (v := 1) (inF_ok (k := t) (a := 0) (b := 15) (by omega) (by omega) (by decide)) ?_
  refine lv_if_ne (tgt := 12) hx hb dX5_threadOf_5 (by decide) (fun _ => ?_) (fun h => absurd h (by decide))
  refine lv_iload_n hx hb dX5_threadOf_12 rfl (lv_at hl 2 rfl) ?_
  refine lv_iconst (v := 0) hx hb dX5_threadOf_13 (by decide) ?_
  refine lv_bipush (v := 7) hx hb dX5_threadOf_14 (by decide) ?_
  refine ro_S (As := [.int x, .int 0, .int 7]) (rest := [.ref (a 0)]) ⟨hx, hb, hml, hown, hts⟩ (c_X5_in l D cA _ x 0 7) (cwS2 3 hts gX5_threadOf_X5_in rfl rfl rfl (by decide +kernel) ⟨Nat.le_of_ble_eq_true rfl, Nat.le_of_ble_eq_true rfl⟩) hKN rfl hl.1 rfl (lv_room (Nat.le_of_ble_eq_true rfl)) dX5_threadOf_16 ⟨Nat.zero_le _, Nat.zero_le _⟩ ?_
  refine lz_top (v := 0) hx0 ?_
  refine lv_if_ne (tgt := 26) hx hb dX5_threadOf_19 (by decide) (fun h => absurd (by decide) h) (fun _ => ?_)
  refine lv_iconst (v := 2) hx hb dX5_threadOf_22 (by decide) ?_
  refine lv_goto (tgt := 27) hx hb dX5_threadOf_23 (by decide) ?_
  refine mu_V (ci := 5) (q0 := 0) (As := [.int 2]) (rest := []) (ws' := (wMd cA a (2, f, 0, kp, tx, 0, wo, 0, 0, hs))) ⟨hx, hb, hml, hown, hts⟩ (c_X5_holds2 l D cA _ a (th, f, 0, kp, tx, 0, wo, 0, 0, hs) hP (hD.weaken (fun _ _ _ _ => trivial))) (cwV 1 hts gX5_threadOf_X5_holds rfl rfl rfl (by decide +kernel) ⟨Nat.le_of_ble_eq_true rfl, Nat.le_of_ble_eq_true rfl⟩) hKN hP hD hS hA rfl rfl [0, 1, 2, 3, 4] rfl ((wMd_fst _ _ _).trans (wMd_fst _ _ _).symm) rfl rfl hl.1 rfl (lv_room (Nat.le_of_ble_eq_true rfl)) dX5_threadOf_27 ⟨Nat.zero_le _, Nat.zero_le _⟩ (fun H locs hP hD hS => ?_)
  refine lv_if_eq (tgt := 42) hx hb dX5_threadOf_30 (by decide) (fun _ => ?_) (fun h => absurd (by decide) h)
  refine lv_iconst (v := 0) hx hb dX5_threadOf_42 (by decide) ?_
  exact mu_iret hx hb hr hlocks dX5_threadOf_43 hAe hS hP rfl
set_option maxHeartbeats 4000000 in
set_option maxRecDepth 100000 in
theorem n_ringOf2 (l : Launch) (D : va_G) (cA : Nat → ClassId) (H : Heap) (a : Nat → Nat) (th : Int32) (f kp tx wo : Nat → Int32) (hs : Int64) (r : Nat) (hr0 : r < 8) (x : Int32) (hx0 : inF x 0 4 = 0) (hP0 : va_P D vwCl (wMd cA a (th, f, 0, kp, tx, 0, wo, 0, 0, hs)) H) (hD0 : va_D (fun _ => True) (wMd cA a (th, f, 0, kp, tx, 0, wo, 0, 0, hs))) : MU l yX5_ringOf wsX5_ringOf ({ frames := 2, cells := 0, slots := 0, locals := 42 } : Room) D cA [.ref (a 0), .int (nI r), .int x] H (wMd cA a (th, f, 0, kp, tx, 0, wo, 0, 0, hs)) (wMd cA a (2, f, 0, kp, tx, 0, wo, 0, 0, hs)) (some (.int 0)) := by
  refine Met.ofW (cc := cX5_ringOf) (maxL := 3) (ret := (some .int)) (by decide) rfl ?_
  intro p e s m args below meth c s₁ B hml hv
  obtain ⟨rfl, hH, hKN⟩ := hv
  have hK := hKN.1
  have hx := B.exec
  have hb := B.bytes
  have hr := B.returns
  have hts := atoms_spec (ws := wsX5_ringOf) B.pre
  have hown : s.vm.findClass RX5 = some m.cls := findClass_of_methodNamed B.named
  have hlocks := B.notSynchronized
  subst hH
  have hD := hD0.self (sz := s.heap.size)
  generalize hAe : va_A (wMd cA a (th, f, 0, kp, tx, 0, wo, 0, 0, hs)) s.heap.size = A at hD ⊢
  have hA : ∀ q : Nat, s.heap.size ≤ q → A q := fun q h => by rw [← hAe]; exact Or.inr h
  have hS : va_S A s.heap s.heap [] := va_S.rf
  have hP : va_P D vwCl (wMd cA a (th, f, 0, kp, tx, 0, wo, 0, 0, hs)) s.heap := hP0
  have hl := lv_entry ([.ref (a 0), .int (nI r), .int x] : List Value) (n := 3) (Nat.le_of_ble_eq_true rfl)
  rw [lg_entry_eq]
  generalize (lg_sl ([.ref (a 0), .int (nI r), .int x] : List Value) ++ List.replicate (3 - (lg_sl ([.ref (a 0), .int (nI r), .int x] : List Value)).length) Slot.unset).toArray = ls at hl ⊢
  have hl : lv_has ls 3 [(0, .ref (a 0)), (1, .int (nI r)), (2, .int x)] := hl
  refine lv_aload_n hx hb dX5_ringOf_0 rfl (lv_at hl 0 rfl) ?_
  refine lv_iload_n hx hb dX5_ringOf_1 rfl (lv_at hl 1 rfl) ?_
  refine ro_S (As := [.int (nI r)]) (rest := [.ref (a 0)]) ⟨hx, hb, hml, hown, hts⟩ (c_X5_isRing l D cA _ (nI r)) (cwS2 1 hts gX5_ringOf_X5_isRing rfl rfl rfl (by decide +kernel) ⟨Nat.le_of_ble_eq_true rfl, Nat.le_of_ble_eq_true rfl⟩) hKN rfl hl.1 rfl (lv_room (Nat.le_of_ble_eq_true rfl)) dX5_ringOf_2 ⟨Nat.zero_le _, Nat.zero_le _⟩ ?_
  refine lz_top (v := 1) (inF_ok (k := r) (a := 0) (b := 7) (by omega) (by omega) (by decide)) ?_
  refine lv_if_ne (tgt := 12) hx hb dX5_ringOf_5 (by decide) (fun _ => ?_) (fun h => absurd h (by decide))
  refine lv_iload_n hx hb dX5_ringOf_12 rfl (lv_at hl 2 rfl) ?_
  refine lv_iconst (v := 0) hx hb dX5_ringOf_13 (by decide) ?_
  refine lv_iconst (v := 4) hx hb dX5_ringOf_14 (by decide) ?_
  refine ro_S (As := [.int x, .int 0, .int 4]) (rest := [.ref (a 0)]) ⟨hx, hb, hml, hown, hts⟩ (c_X5_in l D cA _ x 0 4) (cwS2 3 hts gX5_ringOf_X5_in rfl rfl rfl (by decide +kernel) ⟨Nat.le_of_ble_eq_true rfl, Nat.le_of_ble_eq_true rfl⟩) hKN rfl hl.1 rfl (lv_room (Nat.le_of_ble_eq_true rfl)) dX5_ringOf_15 ⟨Nat.zero_le _, Nat.zero_le _⟩ ?_
  refine lz_top (v := 0) hx0 ?_
  refine lv_if_ne (tgt := 25) hx hb dX5_ringOf_18 (by decide) (fun h => absurd (by decide) h) (fun _ => ?_)
  refine lv_iconst (v := 2) hx hb dX5_ringOf_21 (by decide) ?_
  refine lv_goto (tgt := 26) hx hb dX5_ringOf_22 (by decide) ?_
  refine mu_V (ci := 5) (q0 := 0) (As := [.int 2]) (rest := []) (ws' := (wMd cA a (2, f, 0, kp, tx, 0, wo, 0, 0, hs))) ⟨hx, hb, hml, hown, hts⟩ (c_X5_holds2 l D cA _ a (th, f, 0, kp, tx, 0, wo, 0, 0, hs) hP (hD.weaken (fun _ _ _ _ => trivial))) (cwV 1 hts gX5_ringOf_X5_holds rfl rfl rfl (by decide +kernel) ⟨Nat.le_of_ble_eq_true rfl, Nat.le_of_ble_eq_true rfl⟩) hKN hP hD hS hA rfl rfl [0, 1, 2, 3, 4] rfl ((wMd_fst _ _ _).trans (wMd_fst _ _ _).symm) rfl rfl hl.1 rfl (lv_room (Nat.le_of_ble_eq_true rfl)) dX5_ringOf_26 ⟨Nat.zero_le _, Nat.zero_le _⟩ (fun H locs hP hD hS => ?_)
  refine lv_if_eq (tgt := 41) hx hb dX5_ringOf_29 (by decide) (fun _ => ?_) (fun h => absurd (by decide) h)
  refine lv_iconst (v := 0) hx hb dX5_ringOf_41 (by decide) ?_
  exact mu_iret hx hb hr hlocks dX5_ringOf_42 hAe hS hP rfl
set_option maxHeartbeats 4000000 in
set_option maxRecDepth 100000 in
theorem n_strength1 (l : Launch) (D : va_G) (cA : Nat → ClassId) (H : Heap) (a : Nat → Nat) (th : Int32) (f kp tx wo : Nat → Int32) (hs : Int64) (y z9 : Int32) (x : Int32) (hx0 : inF x 0 15 = 0) (hP0 : va_P D vwCl (wMd cA a (th, f, 0, kp, tx, 0, wo, 0, 0, hs)) H) (hD0 : va_D (fun _ => True) (wMd cA a (th, f, 0, kp, tx, 0, wo, 0, 0, hs))) : MU l yX5_strength wsX5_strength ({ frames := 2, cells := 0, slots := 0, locals := 42 } : Room) D cA [.ref (a 0), .int x, .int y, .int z9] H (wMd cA a (th, f, 0, kp, tx, 0, wo, 0, 0, hs)) (wMd cA a (1, f, 0, kp, tx, 0, wo, 0, 0, hs)) (some (.int 0)) := by
  refine Met.ofW (cc := cX5_strength) (maxL := 4) (ret := (some .int)) (by decide) rfl ?_
  intro p e s m args below meth c s₁ B hml hv
  obtain ⟨rfl, hH, hKN⟩ := hv
  have hK := hKN.1
  have hx := B.exec
  have hb := B.bytes
  have hr := B.returns
  have hts := atoms_spec (ws := wsX5_strength) B.pre
  have hown : s.vm.findClass RX5 = some m.cls := findClass_of_methodNamed B.named
  have hlocks := B.notSynchronized
  subst hH
  have hD := hD0.self (sz := s.heap.size)
  generalize hAe : va_A (wMd cA a (th, f, 0, kp, tx, 0, wo, 0, 0, hs)) s.heap.size = A at hD ⊢
  have hA : ∀ q : Nat, s.heap.size ≤ q → A q := fun q h => by rw [← hAe]; exact Or.inr h
  have hS : va_S A s.heap s.heap [] := va_S.rf
  have hP : va_P D vwCl (wMd cA a (th, f, 0, kp, tx, 0, wo, 0, 0, hs)) s.heap := hP0
  have hl := lv_entry ([.ref (a 0), .int x, .int y, .int z9] : List Value) (n := 4) (Nat.le_of_ble_eq_true rfl)
  rw [lg_entry_eq]
  generalize (lg_sl ([.ref (a 0), .int x, .int y, .int z9] : List Value) ++ List.replicate (4 - (lg_sl ([.ref (a 0), .int x, .int y, .int z9] : List Value)).length) Slot.unset).toArray = ls at hl ⊢
  have hl : lv_has ls 4 [(0, .ref (a 0)), (1, .int x), (2, .int y), (3, .int z9)] := hl
  refine lv_aload_n hx hb dX5_strength_0 rfl (lv_at hl 0 rfl) ?_
  refine lv_iload_n hx hb dX5_strength_1 rfl (lv_at hl 1 rfl) ?_
  refine ro_S (As := [.int x]) (rest := [.ref (a 0)]) ⟨hx, hb, hml, hown, hts⟩ (c_X5_isThread l D cA _ x) (cwS2 1 hts gX5_strength_X5_isThread rfl rfl rfl (by decide +kernel) ⟨Nat.le_of_ble_eq_true rfl, Nat.le_of_ble_eq_true rfl⟩) hKN rfl hl.1 rfl (lv_room (Nat.le_of_ble_eq_true rfl)) dX5_strength_2 ⟨Nat.zero_le _, Nat.zero_le _⟩ ?_
  refine lz_top (v := 0) hx0 ?_
  refine lv_if_eq (tgt := 15) hx hb dX5_strength_5 (by decide) (fun _ => ?_) (fun h => absurd (by decide) h)
  refine lv_iconst (v := 1) hx hb dX5_strength_15 (by decide) ?_
  refine lv_goto (tgt := 33) hx hb dX5_strength_16 (by decide) ?_
  refine mu_V (ci := 5) (q0 := 0) (As := [.int 1]) (rest := []) (ws' := (wMd cA a (1, f, 0, kp, tx, 0, wo, 0, 0, hs))) ⟨hx, hb, hml, hown, hts⟩ (c_X5_holds1 l D cA _ a (th, f, 0, kp, tx, 0, wo, 0, 0, hs) hP (hD.weaken (fun _ _ _ _ => trivial))) (cwV 1 hts gX5_strength_X5_holds rfl rfl rfl (by decide +kernel) ⟨Nat.le_of_ble_eq_true rfl, Nat.le_of_ble_eq_true rfl⟩) hKN hP hD hS hA rfl rfl [0, 1, 2, 3, 4] rfl ((wMd_fst _ _ _).trans (wMd_fst _ _ _).symm) rfl rfl hl.1 rfl (lv_room (Nat.le_of_ble_eq_true rfl)) dX5_strength_33 ⟨Nat.zero_le _, Nat.zero_le _⟩ (fun H locs hP hD hS => ?_)
  refine lv_if_ne (tgt := 41) hx hb dX5_strength_36 (by decide) (fun h => absurd (by decide) h) (fun _ => ?_)
  refine lv_iconst (v := 0) hx hb dX5_strength_39 (by decide) ?_
  exact mu_iret hx hb hr hlocks dX5_strength_40 hAe hS hP rfl
set_option maxHeartbeats 4000000 in
set_option maxRecDepth 100000 in
theorem n_strength2 (l : Launch) (D : va_G) (cA : Nat → ClassId) (H : Heap) (a : Nat → Nat) (th : Int32) (f kp tx wo : Nat → Int32) (hs : Int64) (t : Nat) (ht : t < 16) (z9 : Int32) (x : Int32) (hx0 : inF x 0 7 = 0) (hP0 : va_P D vwCl (wMd cA a (th, f, 0, kp, tx, 0, wo, 0, 0, hs)) H) (hD0 : va_D (fun _ => True) (wMd cA a (th, f, 0, kp, tx, 0, wo, 0, 0, hs))) : MU l yX5_strength wsX5_strength ({ frames := 2, cells := 0, slots := 0, locals := 42 } : Room) D cA [.ref (a 0), .int (nI t), .int x, .int z9] H (wMd cA a (th, f, 0, kp, tx, 0, wo, 0, 0, hs)) (wMd cA a (1, f, 0, kp, tx, 0, wo, 0, 0, hs)) (some (.int 0)) := by
  refine Met.ofW (cc := cX5_strength) (maxL := 4) (ret := (some .int)) (by decide) rfl ?_
  intro p e s m args below meth c s₁ B hml hv
  obtain ⟨rfl, hH, hKN⟩ := hv
  have hK := hKN.1
  have hx := B.exec
  have hb := B.bytes
  have hr := B.returns
  have hts := atoms_spec (ws := wsX5_strength) B.pre
  have hown : s.vm.findClass RX5 = some m.cls := findClass_of_methodNamed B.named
  have hlocks := B.notSynchronized
  subst hH
  have hD := hD0.self (sz := s.heap.size)
  generalize hAe : va_A (wMd cA a (th, f, 0, kp, tx, 0, wo, 0, 0, hs)) s.heap.size = A at hD ⊢
  have hA : ∀ q : Nat, s.heap.size ≤ q → A q := fun q h => by rw [← hAe]; exact Or.inr h
  have hS : va_S A s.heap s.heap [] := va_S.rf
  have hP : va_P D vwCl (wMd cA a (th, f, 0, kp, tx, 0, wo, 0, 0, hs)) s.heap := hP0
  have hl := lv_entry ([.ref (a 0), .int (nI t), .int x, .int z9] : List Value) (n := 4) (Nat.le_of_ble_eq_true rfl)
  rw [lg_entry_eq]
  generalize (lg_sl ([.ref (a 0), .int (nI t), .int x, .int z9] : List Value) ++ List.replicate (4 - (lg_sl ([.ref (a 0), .int (nI t), .int x, .int z9] : List Value)).length) Slot.unset).toArray = ls at hl ⊢
  have hl : lv_has ls 4 [(0, .ref (a 0)), (1, .int (nI t)), (2, .int x), (3, .int z9)] := hl
  refine lv_aload_n hx hb dX5_strength_0 rfl (lv_at hl 0 rfl) ?_
  refine lv_iload_n hx hb dX5_strength_1 rfl (lv_at hl 1 rfl) ?_
  refine ro_S (As := [.int (nI t)]) (rest := [.ref (a 0)]) ⟨hx, hb, hml, hown, hts⟩ (c_X5_isThread l D cA _ (nI t)) (cwS2 1 hts gX5_strength_X5_isThread rfl rfl rfl (by decide +kernel) ⟨Nat.le_of_ble_eq_true rfl, Nat.le_of_ble_eq_true rfl⟩) hKN rfl hl.1 rfl (lv_room (Nat.le_of_ble_eq_true rfl)) dX5_strength_2 ⟨Nat.zero_le _, Nat.zero_le _⟩ ?_
  refine lz_top (v := 1) (inF_ok (k := t) (a := 0) (b := 15) (by omega) (by omega) (by decide)) ?_
  refine lv_if_eq (tgt := 15) hx hb dX5_strength_5 (by decide) (fun h => absurd h (by decide)) (fun _ => ?_)
  refine lv_iload_n hx hb dX5_strength_8 rfl (lv_at hl 2 rfl) ?_
  refine ro_S (As := [.int x]) (rest := [.ref (a 0)]) ⟨hx, hb, hml, hown, hts⟩ (c_X5_isRing l D cA _ x) (cwS2 1 hts gX5_strength_X5_isRing rfl rfl rfl (by decide +kernel) ⟨Nat.le_of_ble_eq_true rfl, Nat.le_of_ble_eq_true rfl⟩) hKN rfl hl.1 rfl (lv_room (Nat.le_of_ble_eq_true rfl)) dX5_strength_9 ⟨Nat.zero_le _, Nat.zero_le _⟩ ?_
  refine lz_top (v := 0) hx0 ?_
  refine lv_if_ne (tgt := 19) hx hb dX5_strength_12 (by decide) (fun h => absurd (by decide) h) (fun _ => ?_)
  refine lv_iconst (v := 1) hx hb dX5_strength_15 (by decide) ?_
  refine lv_goto (tgt := 33) hx hb dX5_strength_16 (by decide) ?_
  refine mu_V (ci := 5) (q0 := 0) (As := [.int 1]) (rest := []) (ws' := (wMd cA a (1, f, 0, kp, tx, 0, wo, 0, 0, hs))) ⟨hx, hb, hml, hown, hts⟩ (c_X5_holds1 l D cA _ a (th, f, 0, kp, tx, 0, wo, 0, 0, hs) hP (hD.weaken (fun _ _ _ _ => trivial))) (cwV 1 hts gX5_strength_X5_holds rfl rfl rfl (by decide +kernel) ⟨Nat.le_of_ble_eq_true rfl, Nat.le_of_ble_eq_true rfl⟩) hKN hP hD hS hA rfl rfl [0, 1, 2, 3, 4] rfl ((wMd_fst _ _ _).trans (wMd_fst _ _ _).symm) rfl rfl hl.1 rfl (lv_room (Nat.le_of_ble_eq_true rfl)) dX5_strength_33 ⟨Nat.zero_le _, Nat.zero_le _⟩ (fun H locs hP hD hS => ?_)
  refine lv_if_ne (tgt := 41) hx hb dX5_strength_36 (by decide) (fun h => absurd (by decide) h) (fun _ => ?_)
  refine lv_iconst (v := 0) hx hb dX5_strength_39 (by decide) ?_
  exact mu_iret hx hb hr hlocks dX5_strength_40 hAe hS hP rfl
set_option maxHeartbeats 4000000 in
set_option maxRecDepth 100000 in
theorem n_strength3 (l : Launch) (D : va_G) (cA : Nat → ClassId) (H : Heap) (a : Nat → Nat) (th : Int32) (f kp tx wo : Nat → Int32) (hs : Int64) (t : Nat) (ht : t < 16) (r : Nat) (hr0 : r < 8) (x : Int32) (hx0 : inF x 0 1 = 0) (hP0 : va_P D vwCl (wMd cA a (th, f, 0, kp, tx, 0, wo, 0, 0, hs)) H) (hD0 : va_D (fun _ => True) (wMd cA a (th, f, 0, kp, tx, 0, wo, 0, 0, hs))) : MU l yX5_strength wsX5_strength ({ frames := 2, cells := 0, slots := 0, locals := 42 } : Room) D cA [.ref (a 0), .int (nI t), .int (nI r), .int x] H (wMd cA a (th, f, 0, kp, tx, 0, wo, 0, 0, hs)) (wMd cA a (2, f, 0, kp, tx, 0, wo, 0, 0, hs)) (some (.int 0)) := by
  refine Met.ofW (cc := cX5_strength) (maxL := 4) (ret := (some .int)) (by decide) rfl ?_
  intro p e s m args below meth c s₁ B hml hv
  obtain ⟨rfl, hH, hKN⟩ := hv
  have hK := hKN.1
  have hx := B.exec
  have hb := B.bytes
  have hr := B.returns
  have hts := atoms_spec (ws := wsX5_strength) B.pre
  have hown : s.vm.findClass RX5 = some m.cls := findClass_of_methodNamed B.named
  have hlocks := B.notSynchronized
  subst hH
  have hD := hD0.self (sz := s.heap.size)
  generalize hAe : va_A (wMd cA a (th, f, 0, kp, tx, 0, wo, 0, 0, hs)) s.heap.size = A at hD ⊢
  have hA : ∀ q : Nat, s.heap.size ≤ q → A q := fun q h => by rw [← hAe]; exact Or.inr h
  have hS : va_S A s.heap s.heap [] := va_S.rf
  have hP : va_P D vwCl (wMd cA a (th, f, 0, kp, tx, 0, wo, 0, 0, hs)) s.heap := hP0
  have hl := lv_entry ([.ref (a 0), .int (nI t), .int (nI r), .int x] : List Value) (n := 4) (Nat.le_of_ble_eq_true rfl)
  rw [lg_entry_eq]
  generalize (lg_sl ([.ref (a 0), .int (nI t), .int (nI r), .int x] : List Value) ++ List.replicate (4 - (lg_sl ([.ref (a 0), .int (nI t), .int (nI r), .int x] : List Value)).length) Slot.unset).toArray = ls at hl ⊢
  have hl : lv_has ls 4 [(0, .ref (a 0)), (1, .int (nI t)), (2, .int (nI r)), (3, .int x)] := hl
  refine lv_aload_n hx hb dX5_strength_0 rfl (lv_at hl 0 rfl) ?_
  refine lv_iload_n hx hb dX5_strength_1 rfl (lv_at hl 1 rfl) ?_
  refine ro_S (As := [.int (nI t)]) (rest := [.ref (a 0)]) ⟨hx, hb, hml, hown, hts⟩ (c_X5_isThread l D cA _ (nI t)) (cwS2 1 hts gX5_strength_X5_isThread rfl rfl rfl (by decide +kernel) ⟨Nat.le_of_ble_eq_true rfl, Nat.le_of_ble_eq_true rfl⟩) hKN rfl hl.1 rfl (lv_room (Nat.le_of_ble_eq_true rfl)) dX5_strength_2 ⟨Nat.zero_le _, Nat.zero_le _⟩ ?_
  refine lz_top (v := 1) (inF_ok (k := t) (a := 0) (b := 15) (by omega) (by omega) (by decide)) ?_
  refine lv_if_eq (tgt := 15) hx hb dX5_strength_5 (by decide) (fun h => absurd h (by decide)) (fun _ => ?_)
  refine lv_iload_n hx hb dX5_strength_8 rfl (lv_at hl 2 rfl) ?_
  refine ro_S (As := [.int (nI r)]) (rest := [.ref (a 0)]) ⟨hx, hb, hml, hown, hts⟩ (c_X5_isRing l D cA _ (nI r)) (cwS2 1 hts gX5_strength_X5_isRing rfl rfl rfl (by decide +kernel) ⟨Nat.le_of_ble_eq_true rfl, Nat.le_of_ble_eq_true rfl⟩) hKN rfl hl.1 rfl (lv_room (Nat.le_of_ble_eq_true rfl)) dX5_strength_9 ⟨Nat.zero_le _, Nat.zero_le _⟩ ?_
  refine lz_top (v := 1) (inF_ok (k := r) (a := 0) (b := 7) (by omega) (by omega) (by decide)) ?_
  refine lv_if_ne (tgt := 19) hx hb dX5_strength_12 (by decide) (fun _ => ?_) (fun h => absurd h (by decide))
  refine lv_iload_n hx hb dX5_strength_19 rfl (lv_at hl 3 rfl) ?_
  refine lv_iconst (v := 0) hx hb dX5_strength_20 (by decide) ?_
  refine lv_iconst (v := 1) hx hb dX5_strength_21 (by decide) ?_
  refine ro_S (As := [.int x, .int 0, .int 1]) (rest := [.ref (a 0)]) ⟨hx, hb, hml, hown, hts⟩ (c_X5_in l D cA _ x 0 1) (cwS2 3 hts gX5_strength_X5_in rfl rfl rfl (by decide +kernel) ⟨Nat.le_of_ble_eq_true rfl, Nat.le_of_ble_eq_true rfl⟩) hKN rfl hl.1 rfl (lv_room (Nat.le_of_ble_eq_true rfl)) dX5_strength_22 ⟨Nat.zero_le _, Nat.zero_le _⟩ ?_
  refine lz_top (v := 0) hx0 ?_
  refine lv_if_ne (tgt := 32) hx hb dX5_strength_25 (by decide) (fun h => absurd (by decide) h) (fun _ => ?_)
  refine lv_iconst (v := 2) hx hb dX5_strength_28 (by decide) ?_
  refine lv_goto (tgt := 33) hx hb dX5_strength_29 (by decide) ?_
  refine mu_V (ci := 5) (q0 := 0) (As := [.int 2]) (rest := []) (ws' := (wMd cA a (2, f, 0, kp, tx, 0, wo, 0, 0, hs))) ⟨hx, hb, hml, hown, hts⟩ (c_X5_holds2 l D cA _ a (th, f, 0, kp, tx, 0, wo, 0, 0, hs) hP (hD.weaken (fun _ _ _ _ => trivial))) (cwV 1 hts gX5_strength_X5_holds rfl rfl rfl (by decide +kernel) ⟨Nat.le_of_ble_eq_true rfl, Nat.le_of_ble_eq_true rfl⟩) hKN hP hD hS hA rfl rfl [0, 1, 2, 3, 4] rfl ((wMd_fst _ _ _).trans (wMd_fst _ _ _).symm) rfl rfl hl.1 rfl (lv_room (Nat.le_of_ble_eq_true rfl)) dX5_strength_33 ⟨Nat.zero_le _, Nat.zero_le _⟩ (fun H locs hP hD hS => ?_)
  refine lv_if_ne (tgt := 41) hx hb dX5_strength_36 (by decide) (fun h => absurd (by decide) h) (fun _ => ?_)
  refine lv_iconst (v := 0) hx hb dX5_strength_39 (by decide) ?_
  exact mu_iret hx hb hr hlocks dX5_strength_40 hAe hS hP rfl
set_option maxHeartbeats 4000000 in
set_option maxRecDepth 100000 in
theorem n_ifGone1 (l : Launch) (D : va_G) (cA : Nat → ClassId) (H : Heap) (a : Nat → Nat) (th : Int32) (f kp tx wo : Nat → Int32) (hs : Int64) (y : Int32) (x : Int32) (hx0 : inF x 1 99 = 0) (hP0 : va_P D vwCl (wMd cA a (th, f, 0, kp, tx, 0, wo, 0, 0, hs)) H) (hD0 : va_D (fun _ => True) (wMd cA a (th, f, 0, kp, tx, 0, wo, 0, 0, hs))) : MU l yX5_ifGone wsX5_ifGone ({ frames := 1, cells := 0, slots := 0, locals := 22 } : Room) D cA [.ref (a 0), .int x, .int y] H (wMd cA a (th, f, 0, kp, tx, 0, wo, 0, 0, hs)) (wMd cA a (1, f, 0, kp, tx, 0, wo, 0, 0, hs)) (some (.int 0)) := by
  refine Met.ofW (cc := cX5_ifGone) (maxL := 3) (ret := (some .int)) (by decide) rfl ?_
  intro p e s m args below meth c s₁ B hml hv
  obtain ⟨rfl, hH, hKN⟩ := hv
  have hK := hKN.1
  have hx := B.exec
  have hb := B.bytes
  have hr := B.returns
  have hts := atoms_spec (ws := wsX5_ifGone) B.pre
  have hown : s.vm.findClass RX5 = some m.cls := findClass_of_methodNamed B.named
  have hlocks := B.notSynchronized
  subst hH
  have hD := hD0.self (sz := s.heap.size)
  generalize hAe : va_A (wMd cA a (th, f, 0, kp, tx, 0, wo, 0, 0, hs)) s.heap.size = A at hD ⊢
  have hA : ∀ q : Nat, s.heap.size ≤ q → A q := fun q h => by rw [← hAe]; exact Or.inr h
  have hS : va_S A s.heap s.heap [] := va_S.rf
  have hP : va_P D vwCl (wMd cA a (th, f, 0, kp, tx, 0, wo, 0, 0, hs)) s.heap := hP0
  have hl := lv_entry ([.ref (a 0), .int x, .int y] : List Value) (n := 3) (Nat.le_of_ble_eq_true rfl)
  rw [lg_entry_eq]
  generalize (lg_sl ([.ref (a 0), .int x, .int y] : List Value) ++ List.replicate (3 - (lg_sl ([.ref (a 0), .int x, .int y] : List Value)).length) Slot.unset).toArray = ls at hl ⊢
  have hl : lv_has ls 3 [(0, .ref (a 0)), (1, .int x), (2, .int y)] := hl
  refine lv_aload_n hx hb dX5_ifGone_0 rfl (lv_at hl 0 rfl) ?_
  refine lv_iload_n hx hb dX5_ifGone_1 rfl (lv_at hl 1 rfl) ?_
  refine lv_iconst (v := 1) hx hb dX5_ifGone_2 (by decide) ?_
  refine lv_bipush (v := 99) hx hb dX5_ifGone_3 (by decide) ?_
  refine ro_S (As := [.int x, .int 1, .int 99]) (rest := [.ref (a 0)]) ⟨hx, hb, hml, hown, hts⟩ (c_X5_in l D cA _ x 1 99) (cwS2 3 hts gX5_ifGone_X5_in rfl rfl rfl (by decide +kernel) ⟨Nat.le_of_ble_eq_true rfl, Nat.le_of_ble_eq_true rfl⟩) hKN rfl hl.1 rfl (lv_room (Nat.le_of_ble_eq_true rfl)) dX5_ifGone_5 ⟨Nat.zero_le _, Nat.zero_le _⟩ ?_
  refine lz_top (v := 0) hx0 ?_
  refine lv_if_eq (tgt := 24) hx hb dX5_ifGone_8 (by decide) (fun _ => ?_) (fun h => absurd (by decide) h)
  refine lv_iconst (v := 1) hx hb dX5_ifGone_24 (by decide) ?_
  refine mu_V (ci := 5) (q0 := 0) (As := [.int 1]) (rest := []) (ws' := (wMd cA a (1, f, 0, kp, tx, 0, wo, 0, 0, hs))) ⟨hx, hb, hml, hown, hts⟩ (c_X5_holds1 l D cA _ a (th, f, 0, kp, tx, 0, wo, 0, 0, hs) hP (hD.weaken (fun _ _ _ _ => trivial))) (cwV 1 hts gX5_ifGone_X5_holds rfl rfl rfl (by decide +kernel) ⟨Nat.le_of_ble_eq_true rfl, Nat.le_of_ble_eq_true rfl⟩) hKN hP hD hS hA rfl rfl [0, 1, 2, 3, 4] rfl ((wMd_fst _ _ _).trans (wMd_fst _ _ _).symm) rfl rfl hl.1 rfl (lv_room (Nat.le_of_ble_eq_true rfl)) dX5_ifGone_25 ⟨Nat.zero_le _, Nat.zero_le _⟩ (fun H locs hP hD hS => ?_)
  refine lv_if_eq (tgt := 40) hx hb dX5_ifGone_28 (by decide) (fun _ => ?_) (fun h => absurd (by decide) h)
  refine lv_iconst (v := 0) hx hb dX5_ifGone_40 (by decide) ?_
  exact mu_iret hx hb hr hlocks dX5_ifGone_41 hAe hS hP rfl
set_option maxHeartbeats 4000000 in
set_option maxRecDepth 100000 in
theorem n_ifGone2 (l : Launch) (D : va_G) (cA : Nat → ClassId) (H : Heap) (a : Nat → Nat) (th : Int32) (f kp tx wo : Nat → Int32) (hs : Int64) (n : Nat) (h1 : 1 ≤ n) (h99 : n ≤ 99) (x : Int32) (hx0 : inF x 0 3 = 0) (hP0 : va_P D vwCl (wMd cA a (th, f, 0, kp, tx, 0, wo, 0, 0, hs)) H) (hD0 : va_D (fun _ => True) (wMd cA a (th, f, 0, kp, tx, 0, wo, 0, 0, hs))) : MU l yX5_ifGone wsX5_ifGone ({ frames := 1, cells := 0, slots := 0, locals := 22 } : Room) D cA [.ref (a 0), .int (nI n), .int x] H (wMd cA a (th, f, 0, kp, tx, 0, wo, 0, 0, hs)) (wMd cA a (1, f, 0, kp, tx, 0, wo, 0, 0, hs)) (some (.int 0)) := by
  refine Met.ofW (cc := cX5_ifGone) (maxL := 3) (ret := (some .int)) (by decide) rfl ?_
  intro p e s m args below meth c s₁ B hml hv
  obtain ⟨rfl, hH, hKN⟩ := hv
  have hK := hKN.1
  have hx := B.exec
  have hb := B.bytes
  have hr := B.returns
  have hts := atoms_spec (ws := wsX5_ifGone) B.pre
  have hown : s.vm.findClass RX5 = some m.cls := findClass_of_methodNamed B.named
  have hlocks := B.notSynchronized
  subst hH
  have hD := hD0.self (sz := s.heap.size)
  generalize hAe : va_A (wMd cA a (th, f, 0, kp, tx, 0, wo, 0, 0, hs)) s.heap.size = A at hD ⊢
  have hA : ∀ q : Nat, s.heap.size ≤ q → A q := fun q h => by rw [← hAe]; exact Or.inr h
  have hS : va_S A s.heap s.heap [] := va_S.rf
  have hP : va_P D vwCl (wMd cA a (th, f, 0, kp, tx, 0, wo, 0, 0, hs)) s.heap := hP0
  have hl := lv_entry ([.ref (a 0), .int (nI n), .int x] : List Value) (n := 3) (Nat.le_of_ble_eq_true rfl)
  rw [lg_entry_eq]
  generalize (lg_sl ([.ref (a 0), .int (nI n), .int x] : List Value) ++ List.replicate (3 - (lg_sl ([.ref (a 0), .int (nI n), .int x] : List Value)).length) Slot.unset).toArray = ls at hl ⊢
  have hl : lv_has ls 3 [(0, .ref (a 0)), (1, .int (nI n)), (2, .int x)] := hl
  refine lv_aload_n hx hb dX5_ifGone_0 rfl (lv_at hl 0 rfl) ?_
  refine lv_iload_n hx hb dX5_ifGone_1 rfl (lv_at hl 1 rfl) ?_
  refine lv_iconst (v := 1) hx hb dX5_ifGone_2 (by decide) ?_
  refine lv_bipush (v := 99) hx hb dX5_ifGone_3 (by decide) ?_
  refine ro_S (As := [.int (nI n), .int 1, .int 99]) (rest := [.ref (a 0)]) ⟨hx, hb, hml, hown, hts⟩ (c_X5_in l D cA _ (nI n) 1 99) (cwS2 3 hts gX5_ifGone_X5_in rfl rfl rfl (by decide +kernel) ⟨Nat.le_of_ble_eq_true rfl, Nat.le_of_ble_eq_true rfl⟩) hKN rfl hl.1 rfl (lv_room (Nat.le_of_ble_eq_true rfl)) dX5_ifGone_5 ⟨Nat.zero_le _, Nat.zero_le _⟩ ?_
  refine lz_top (v := 1) (inF_ok (k := n) (a := 1) (b := 99) (by omega) (by omega) (by decide)) ?_
  refine lv_if_eq (tgt := 24) hx hb dX5_ifGone_8 (by decide) (fun h => absurd h (by decide)) (fun _ => ?_)
  refine lv_iload_n hx hb dX5_ifGone_11 rfl (lv_at hl 2 rfl) ?_
  refine lv_iconst (v := 0) hx hb dX5_ifGone_12 (by decide) ?_
  refine lv_iconst (v := 3) hx hb dX5_ifGone_13 (by decide) ?_
  refine ro_S (As := [.int x, .int 0, .int 3]) (rest := [.ref (a 0)]) ⟨hx, hb, hml, hown, hts⟩ (c_X5_in l D cA _ x 0 3) (cwS2 3 hts gX5_ifGone_X5_in rfl rfl rfl (by decide +kernel) ⟨Nat.le_of_ble_eq_true rfl, Nat.le_of_ble_eq_true rfl⟩) hKN rfl hl.1 rfl (lv_room (Nat.le_of_ble_eq_true rfl)) dX5_ifGone_14 ⟨Nat.zero_le _, Nat.zero_le _⟩ ?_
  refine lz_top (v := 0) hx0 ?_
  refine lv_if_eq (tgt := 24) hx hb dX5_ifGone_17 (by decide) (fun _ => ?_) (fun h => absurd (by decide) h)
  refine lv_iconst (v := 1) hx hb dX5_ifGone_24 (by decide) ?_
  refine mu_V (ci := 5) (q0 := 0) (As := [.int 1]) (rest := []) (ws' := (wMd cA a (1, f, 0, kp, tx, 0, wo, 0, 0, hs))) ⟨hx, hb, hml, hown, hts⟩ (c_X5_holds1 l D cA _ a (th, f, 0, kp, tx, 0, wo, 0, 0, hs) hP (hD.weaken (fun _ _ _ _ => trivial))) (cwV 1 hts gX5_ifGone_X5_holds rfl rfl rfl (by decide +kernel) ⟨Nat.le_of_ble_eq_true rfl, Nat.le_of_ble_eq_true rfl⟩) hKN hP hD hS hA rfl rfl [0, 1, 2, 3, 4] rfl ((wMd_fst _ _ _).trans (wMd_fst _ _ _).symm) rfl rfl hl.1 rfl (lv_room (Nat.le_of_ble_eq_true rfl)) dX5_ifGone_25 ⟨Nat.zero_le _, Nat.zero_le _⟩ (fun H locs hP hD hS => ?_)
  refine lv_if_eq (tgt := 40) hx hb dX5_ifGone_28 (by decide) (fun _ => ?_) (fun h => absurd (by decide) h)
  refine lv_iconst (v := 0) hx hb dX5_ifGone_40 (by decide) ?_
  exact mu_iret hx hb hr hlocks dX5_ifGone_41 hAe hS hP rfl
