-- shares, write, the parts of the digest
section SHR
variable {p : Program} {l : Launch} {e : Env} {R : Room} {s : State} {m : MethodId} {args : Array Value} {below : List Frame} {meth : Method} {c : Code} {H : Heap} {locs : List Loc} {cells slots : Nat} {Q : State → Prop}
variable {cc : ByteArray} {rest : List Value} {pc : Nat} {ls : Array Slot} {D : va_G} {cA : Nat → ClassId}
theorem ldcwf {T : State} (X : Stand p l e R s m args below meth c T locs cells slots) (hexec : p.tables.exec = Jvm.exec) {own : String} {index : Nat} {v : UInt32} (hown : s.vm.findClass own = some m.cls)
    (hconst : (Cond.constantFloat own index v).before args s = true) {g : JFrame} (hg : g.method = m) (hdg : decode c.code g.pc = .ok (.ldc_w index, 3)) :
    ∀ target, Steps p.tables e below (T.setTop { g with pc := g.pc + 3, stack := .float v :: g.stack }) target → Steps p.tables e below (T.setTop g) target := by
  obtain ⟨k, cf, hk, hcf, hcp⟩ := Cond.constantFloat_spec hown hconst
  obtain ⟨k', hk', he⟩ := X.warmed.alike.2.2 _ _ hk
  intro target hrest
  subst hg
  jvm_step X.here [hexec, hdg, ldc_w.wp_float (s := T) (f := g) X.here.top hk' (by rw [he]; exact hcf) hcp]
  exact hrest
theorem lv_ldcwf (hexec : p.tables.exec = Jvm.exec) (hb : c.code = cc) {own : String} {index : Nat} {v : UInt32} (hown : s.vm.findClass own = some m.cls) (hconst : (Cond.constantFloat own index v).before args s = true) (hdg : decode cc pc = .ok (.ldc_w index, 3)) (k : W p l e R s m args below meth c H locs cells slots Q (F0 m (pc + 3) ls (.float v :: rest))) : W p l e R s m args below meth c H locs cells slots Q (F0 m pc ls rest) := by
  intro T hT X
  obtain ⟨t, a, b⟩ := k T hT X
  exact ⟨t, ldcwf X hexec hown hconst (g := F0 m pc ls rest) rfl (by rw [hb]; exact hdg) t a, b⟩
theorem ro_dret {x z : UInt64} (hexec : p.tables.exec = Jvm.exec) (hb : c.code = cc) (hr : meth.sig.returnType = some .double) (hlocks : meth.locks = false) (hH : H = s.heap) (hdg : decode cc pc = .ok (.dreturn, 1)) (hv : x = z) :
    W p l e R s m args below meth c H [] 0 0 (MQ below (roQ s.heap (some (.double z))) args s 0 0 noA) (F0 m pc ls [.double x]) := by
  subst hv
  subst hH
  exact W.dret hexec hb hr (fun t ht _ => ⟨rfl, ht⟩) (fun q h => by cases h) hdg hlocks
theorem ro_fret {x z : UInt32} (hexec : p.tables.exec = Jvm.exec) (hb : c.code = cc) (hr : meth.sig.returnType = some .float) (hlocks : meth.locks = false) (hH : H = s.heap) (hdg : decode cc pc = .ok (.freturn, 1)) (hv : x = z) :
    W p l e R s m args below meth c H [] 0 0 (MQ below (roQ s.heap (some (.float z))) args s 0 0 noA) (F0 m pc ls [.float x]) := by
  subst hv
  subst hH
  exact W.fret hexec hb hr (fun t ht _ => ⟨rfl, ht⟩) (fun q h => by cases h) hdg hlocks
theorem mu_lret {A : Nat → Prop} {w0 w1 : va_W} {x z : Int64} (hexec : p.tables.exec = Jvm.exec) (hb : c.code = cc) (hr : meth.sig.returnType = some .long) (hlocks : meth.locks = false) (hdg : decode cc pc = .ok (.lreturn, 1)) (hAe : va_A w0 s.heap.size = A) (hS : va_S A s.heap H locs) (hP : va_P D vwCl w1 H) (hv : x = z) :
    W p l e R s m args below meth c H locs 0 0 (MQ below (muQ D s.heap w0 w1 (some (.long z))) args s 0 0 A) (F0 m pc ls [.long x]) := by
  subst hv
  subst hAe
  exact W.lret hexec hb hr (fun t ht _ => ⟨rfl, by rw [ht]; exact hP, by rw [ht]; exact hS.1, fun q h1 h2 => by rw [ht]; exact hS.2.1 q h1 h2⟩) hS.2.2 hdg hlocks
end SHR
def shareF (x : Int32) : UInt64 := FP.ddiv (FP.i2d x) 4625196817309499392
def meanF (x : Int32) : UInt32 := FP.fdiv (FP.i2f x) 1090519040
theorem share_ok : ∀ k, k < 17 → vf_n64 (shareF (nI k)) := by
  show ∀ k, k < 17 → shareF (nI k) &&& 0x7fffffffffffffff ≤ 0x7ff0000000000000
  decide +kernel
theorem mean_ok : vf_n32 (FP.fdiv (FP.i2f 0) 1090519040) := by
  show FP.fdiv (FP.i2f 0) 1090519040 &&& 0x7fffffff ≤ 0x7f800000
  decide +kernel
theorem rightT_bd (u : SV) : ∀ k, ∃ j, j ≤ k ∧ rightT u k = nI j := by
  intro k
  induction k with
  | zero => exact ⟨0, Nat.le_refl _, rfl⟩
  | succ k ih =>
    obtain ⟨j, hj, e⟩ := ih
    rw [rightT_succ]
    split
    · exact ⟨j + 1, by omega, by rw [e]; exact nI_1 j⟩
    · exact ⟨j, by omega, e⟩
theorem share_right (u : SV) : vf_n64 (FP.ddiv (FP.i2d (rightT u 16)) 4625196817309499392) := by
  obtain ⟨j, hj, e⟩ := rightT_bd u 16
  rw [e]
  exact share_ok j (by omega)
def dgI (u : SV) (t : Nat) (h : Int64) : Nat → Int64
  | 0 => h
  | w + 1 => 31 * dgI u t h w + i2lF (thofS u t w)
def dgT (u : SV) (h : Int64) : Nat → Int64
  | 0 => h
  | t + 1 => 31 * dgI u t (dgT u h t) 8 + i2lF (rucS u t)
def drI (u : SV) (r : Nat) (h : Int64) : Nat → Int64
  | 0 => h
  | w + 1 => 31 * drI u r h w + i2lF (riofS u r w)
def drT (u : SV) (h : Int64) : Nat → Int64
  | 0 => h
  | r + 1 => drI u r (drT u h r) 5
def dsI (u : SV) (t : Nat) (h : Int64) : Nat → Int64
  | 0 => h
  | r + 1 => 31 * dsI u t h r + i2lF (strgS u t r 0)
def dmI (u : SV) (h : Int64) : Nat → Int64
  | 0 => h
  | w + 1 => 31 * dmI u h w + i2lF (machS u w)
def dlI (u : SV) (h : Int64) : Nat → Int64
  | 0 => h
  | w + 1 => 31 * dlI u h w + i2lF (u.2.2.2.2.2.2.2.2.1 w)
def dcI (u : SV) (z : Nat) (w : Nat → Int32) (h : Int64) : Nat → Int64
  | 0 => h
  | k + 1 => 31 * dcI u z w h k + i2lF (countS u z w k)
theorem mX4_rightShare_f10 : Cond.fieldLink RX4 10 "WireLoom" "now" "LWireLoom$State;" ∈ wsX4_rightShare := by decide +kernel
theorem mX4_rightShare_k278 : Cond.constantDouble RX4 278 (4625196817309499392) ∈ wsX4_rightShare := by decide +kernel
set_option maxRecDepth 20000 in
theorem iX4_rightShare_X4 : ∀ w ∈ wsX40, w ∈ wsX4_rightShare := by decide +kernel
set_option maxHeartbeats 4000000 in
set_option maxRecDepth 100000 in
theorem c_X4_rightShare (l : Launch) (D : va_G) (cA : Nat → ClassId) (H : Heap) (Ad : Nat → Nat → Nat) (f : Nat → SV) (o z : Nat) (tx : TV) (rt : (Nat → Int32) × (Nat → Int32)) (hP0 : va_P D vwCl (all cA Ad (f, ((nI o), (nI z)), tx, rt)) H) : RO l yX4_rightShare wsX4_rightShare ({ frames := 4, cells := 0, slots := 0, locals := 95 } : Room) D cA [.ref (Ad 10 0)] H (some (.double (shareF (rightT (f 0) 16)))) := by
  refine Met.ofW (cc := cX4_rightShare) (maxL := 1) (ret := (some .double)) (by decide) rfl ?_
  intro p e s m args below meth c s₁ B hml hv
  obtain ⟨rfl, hH, hKN⟩ := hv
  have hK := hKN.1
  have hx := B.exec
  have hb := B.bytes
  have hr := B.returns
  have hts := atoms_spec (ws := wsX4_rightShare) B.pre
  have hown : s.vm.findClass RX4 = some m.cls := findClass_of_methodNamed B.named
  have hlocks := B.notSynchronized
  subst hH
  have hH : s.heap = s.heap := rfl
  have hWP := hP0
  have hl := lv_entry ([.ref (Ad 10 0)] : List Value) (n := 1) (Nat.le_of_ble_eq_true rfl)
  rw [lg_entry_eq]
  generalize (lg_sl ([.ref (Ad 10 0)] : List Value) ++ List.replicate (1 - (lg_sl ([.ref (Ad 10 0)] : List Value)).length) Slot.unset).toArray = ls at hl ⊢
  have hl : lv_has ls 1 [(0, .ref (Ad 10 0))] := hl
  refine lv_aload_n hx hb dX4_rightShare_0 rfl (lv_at hl 0 rfl) ?_
  have hP : va_P D vwCl ((wLm cA Ad rt) ++ (rst cA Ad (f, ((nI o), (nI z)), tx, rt) 10)) s.heap := lw_fP 10 (by decide) hWP
  refine va_get (D := D) (ci := 4) (v := .ref (Ad 0 0)) (C := RX4) (T := TX4) (N := 7) hx hb hts iX4_rightShare_X4 hown hK hP 0 rfl rfl 0 (by decide) (hts _ mX4_rightShare_f10) (fun _ h9 => h9) rfl dX4_rightShare_1 ?_
  have hP : va_P D vwCl ((wSt cA (Ad 0) (f 0)) ++ (rst cA Ad (f, ((nI o), (nI z)), tx, rt) 0)) s.heap := lw_fP 0 (by decide) hWP
  refine ro_V (ci := 2) (q0 := 0) (As := []) (rest := []) ⟨hx, hb, hml, hown, hts⟩ (c_X2_threadsRight l D cA _ (Ad 0) (f 0) (va_P_l hP) ) (cwV 0 hts gX4_rightShare_X2_threadsRight rfl rfl rfl (by decide +kernel) ⟨Nat.le_of_ble_eq_true rfl, Nat.le_of_ble_eq_true rfl⟩) hKN hP rfl rfl rfl hl.1 rfl (lv_room (Nat.le_of_ble_eq_true rfl)) dX4_rightShare_4 ⟨Nat.zero_le _, Nat.zero_le _⟩ ?_
  refine lv_i2d hx hb dX4_rightShare_7 ?_
  refine lv_ldc2d (v := 4625196817309499392) hx hb hown (hts _ mX4_rightShare_k278) dX4_rightShare_8 ?_
  refine lv_ddiv hx hb dX4_rightShare_11 (share_right (f 0)) ?_
  exact ro_dret hx hb hr hlocks hH dX4_rightShare_12 rfl
theorem mX4_meanWear_f10 : Cond.fieldLink RX4 10 "WireLoom" "now" "LWireLoom$State;" ∈ wsX4_meanWear := by decide +kernel
theorem mX4_meanWear_k283 : Cond.constantFloat RX4 283 (1090519040) ∈ wsX4_meanWear := by decide +kernel
set_option maxRecDepth 20000 in
theorem iX4_meanWear_X4 : ∀ w ∈ wsX40, w ∈ wsX4_meanWear := by decide +kernel
set_option maxHeartbeats 4000000 in
set_option maxRecDepth 100000 in
theorem c_X4_meanWear (l : Launch) (D : va_G) (cA : Nat → ClassId) (H : Heap) (Ad : Nat → Nat → Nat) (f : Nat → SV) (o z : Nat) (tx : TV) (rt : (Nat → Int32) × (Nat → Int32)) (h0 : woaT (f 0) 8 = 0) (hP0 : va_P D vwCl (all cA Ad (f, ((nI o), (nI z)), tx, rt)) H) : RO l yX4_meanWear wsX4_meanWear ({ frames := 1, cells := 0, slots := 0, locals := 22 } : Room) D cA [.ref (Ad 10 0)] H (some (.float (meanF 0))) := by
  refine Met.ofW (cc := cX4_meanWear) (maxL := 1) (ret := (some .float)) (by decide) rfl ?_
  intro p e s m args below meth c s₁ B hml hv
  obtain ⟨rfl, hH, hKN⟩ := hv
  have hK := hKN.1
  have hx := B.exec
  have hb := B.bytes
  have hr := B.returns
  have hts := atoms_spec (ws := wsX4_meanWear) B.pre
  have hown : s.vm.findClass RX4 = some m.cls := findClass_of_methodNamed B.named
  have hlocks := B.notSynchronized
  subst hH
  have hH : s.heap = s.heap := rfl
  have hWP := hP0
  have hl := lv_entry ([.ref (Ad 10 0)] : List Value) (n := 1) (Nat.le_of_ble_eq_true rfl)
  rw [lg_entry_eq]
  generalize (lg_sl ([.ref (Ad 10 0)] : List Value) ++ List.replicate (1 - (lg_sl ([.ref (Ad 10 0)] : List Value)).length) Slot.unset).toArray = ls at hl ⊢
  have hl : lv_has ls 1 [(0, .ref (Ad 10 0))] := hl
  refine lv_aload_n hx hb dX4_meanWear_0 rfl (lv_at hl 0 rfl) ?_
  have hP : va_P D vwCl ((wLm cA Ad rt) ++ (rst cA Ad (f, ((nI o), (nI z)), tx, rt) 10)) s.heap := lw_fP 10 (by decide) hWP
  refine va_get (D := D) (ci := 4) (v := .ref (Ad 0 0)) (C := RX4) (T := TX4) (N := 7) hx hb hts iX4_meanWear_X4 hown hK hP 0 rfl rfl 0 (by decide) (hts _ mX4_meanWear_f10) (fun _ h9 => h9) rfl dX4_meanWear_1 ?_
  have hP : va_P D vwCl ((wSt cA (Ad 0) (f 0)) ++ (rst cA Ad (f, ((nI o), (nI z)), tx, rt) 0)) s.heap := lw_fP 0 (by decide) hWP
  refine ro_V (ci := 2) (q0 := 0) (As := []) (rest := []) ⟨hx, hb, hml, hown, hts⟩ (c_X2_wearOfAll l D cA _ (Ad 0) (f 0) (va_P_l hP) ) (cwV 0 hts gX4_meanWear_X2_wearOfAll rfl rfl rfl (by decide +kernel) ⟨Nat.le_of_ble_eq_true rfl, Nat.le_of_ble_eq_true rfl⟩) hKN hP rfl rfl rfl hl.1 rfl (lv_room (Nat.le_of_ble_eq_true rfl)) dX4_meanWear_4 ⟨Nat.zero_le _, Nat.zero_le _⟩ ?_
  refine lz_top (v := 0) h0 ?_
  refine lv_i2f hx hb dX4_meanWear_7 ?_
  refine lv_ldcwf (v := 1090519040) hx hb hown (hts _ mX4_meanWear_k283) dX4_meanWear_8 ?_
  refine lv_fdiv hx hb dX4_meanWear_11 mean_ok ?_
  exact ro_fret hx hb hr hlocks hH dX4_meanWear_12 rfl
theorem mX4_write_f37 : Cond.fieldLink RX4 37 "WireLoom" "buffer" "LWireLoom$Text;" ∈ wsX4_write := by decide +kernel
theorem mX4_write_f129 : Cond.fieldLink RX4 129 "WireLoom$Text" "length" "I" ∈ wsX4_write := by decide +kernel
theorem mX4_write_f10 : Cond.fieldLink RX4 10 "WireLoom" "now" "LWireLoom$State;" ∈ wsX4_write := by decide +kernel
set_option maxRecDepth 20000 in
theorem iX4_write_X3 : ∀ w ∈ wsX30, w ∈ wsX4_write := by decide +kernel
set_option maxRecDepth 20000 in
theorem iX4_write_X4 : ∀ w ∈ wsX40, w ∈ wsX4_write := by decide +kernel
set_option maxHeartbeats 4000000 in
set_option maxRecDepth 100000 in
theorem c_X4_write (l : Launch) (D : va_G) (cA : Nat → ClassId) (H : Heap) (Ad : Nat → Nat → Nat) (f : Nat → SV) (o z : Nat) (tx : TV) (rt : (Nat → Int32) × (Nat → Int32)) (a0 b0 : Nat) (ha0 : a0 < 16) (hb0 : b0 < 16) (hab : a0 ≤ b0) (hP0 : va_P D vwCl (all cA Ad (f, ((nI o), (nI z)), tx, rt)) H) (hD0 : va_D (fun _ => True) (all cA Ad (f, ((nI o), (nI z)), tx, rt))) : MU l yX4_write wsX4_write ({ frames := 4, cells := 0, slots := 0, locals := 94 } : Room) D cA [.ref (Ad 10 0), .int (nI a0), .int (nI b0)] H (all cA Ad (f, ((nI o), (nI z)), tx, rt)) (all cA Ad (f, ((nI o), (nI z)), (wrT tx.1 (f 0) a0 (b0 + 1 - a0), tx.2.1, nI (2 * (b0 + 1 - a0)), tx.2.2.2), rt)) (some (.int (nI (2 * (b0 + 1 - a0))))) := by
  refine Met.ofW (cc := cX4_write) (maxL := 4) (ret := (some .int)) (by decide) rfl ?_
  intro p e s m args below meth c s₁ B hml hv
  obtain ⟨rfl, hH, hKN⟩ := hv
  have hK := hKN.1
  have hx := B.exec
  have hb := B.bytes
  have hr := B.returns
  have hts := atoms_spec (ws := wsX4_write) B.pre
  have hown : s.vm.findClass RX4 = some m.cls := findClass_of_methodNamed B.named
  have hlocks := B.notSynchronized
  subst hH
  have hWD := hD0.self (sz := s.heap.size)
  generalize hAe : va_A (all cA Ad (f, ((nI o), (nI z)), tx, rt)) s.heap.size = A at hWD ⊢
  have hA : ∀ q : Nat, s.heap.size ≤ q → A q := fun q h => by rw [← hAe]; exact Or.inr h
  have hS : va_S A s.heap s.heap [] := va_S.rf
  have hWP : va_P D vwCl (all cA Ad (f, ((nI o), (nI z)), tx, rt)) s.heap := hP0
  have hl := lv_entry ([.ref (Ad 10 0), .int (nI a0), .int (nI b0)] : List Value) (n := 4) (Nat.le_of_ble_eq_true rfl)
  rw [lg_entry_eq]
  generalize (lg_sl ([.ref (Ad 10 0), .int (nI a0), .int (nI b0)] : List Value) ++ List.replicate (4 - (lg_sl ([.ref (Ad 10 0), .int (nI a0), .int (nI b0)] : List Value)).length) Slot.unset).toArray = ls at hl ⊢
  have hl : lv_has ls 4 [(0, .ref (Ad 10 0)), (1, .int (nI a0)), (2, .int (nI b0))] := hl
  refine lv_iload_n hx hb dX4_write_0 rfl (lv_at hl 1 rfl) ?_
  refine ro_S (As := [.int (nI a0)]) (rest := []) ⟨hx, hb, hml, hown, hts⟩ (c_X4_isThread l D cA _ (nI a0)) (cwS2 1 hts gX4_write_X4_isThread rfl rfl rfl (by decide +kernel) ⟨Nat.le_of_ble_eq_true rfl, Nat.le_of_ble_eq_true rfl⟩) hKN rfl hl.1 rfl (lv_room (Nat.le_of_ble_eq_true rfl)) dX4_write_1 ⟨Nat.zero_le _, Nat.zero_le _⟩ ?_
  refine lz_top (v := 1) (inF_ok (k := a0) (a := 0) (b := 15) (by omega) (by omega) (by decide)) ?_
  refine lv_if_eq (tgt := 19) hx hb dX4_write_4 (by decide) (fun h => absurd h (by decide)) (fun _ => ?_)
  refine lv_iload_n hx hb dX4_write_7 rfl (lv_at hl 2 rfl) ?_
  refine ro_S (As := [.int (nI b0)]) (rest := []) ⟨hx, hb, hml, hown, hts⟩ (c_X4_isThread l D cA _ (nI b0)) (cwS2 1 hts gX4_write_X4_isThread rfl rfl rfl (by decide +kernel) ⟨Nat.le_of_ble_eq_true rfl, Nat.le_of_ble_eq_true rfl⟩) hKN rfl hl.1 rfl (lv_room (Nat.le_of_ble_eq_true rfl)) dX4_write_8 ⟨Nat.zero_le _, Nat.zero_le _⟩ ?_
  refine lz_top (v := 1) (inF_ok (k := b0) (a := 0) (b := 15) (by omega) (by omega) (by decide)) ?_
  refine lv_if_eq (tgt := 19) hx hb dX4_write_11 (by decide) (fun h => absurd h (by decide)) (fun _ => ?_)
  refine lv_iload_n hx hb dX4_write_14 rfl (lv_at hl 2 rfl) ?_
  refine lv_iload_n hx hb dX4_write_15 rfl (lv_at hl 1 rfl) ?_
  refine lv_icmp_ge (tgt := 29) hx hb dX4_write_16 (by decide) (fun _ => ?_) (fun h => absurd (nI_le hab (by omega)) h)
  refine lv_aload_n hx hb dX4_write_29 rfl (lv_at hl 0 rfl) ?_
  have hP : va_P D vwCl ((wLm cA Ad rt) ++ (rst cA Ad (f, ((nI o), (nI z)), tx, rt) 10)) s.heap := lw_fP 10 (by decide) hWP
  have hD : va_D A ((wLm cA Ad rt) ++ (rst cA Ad (f, ((nI o), (nI z)), tx, rt) 10)) := lw_fD 10 (by decide) hWD
  refine va_get (D := D) (ci := 4) (v := .ref (Ad 12 0)) (C := RX4) (T := TX4) (N := 7) hx hb hts iX4_write_X4 hown hK hP 0 rfl rfl 5 (by decide) (hts _ mX4_write_f37) (fun _ h9 => h9) rfl dX4_write_30 ?_
  refine lv_iconst (v := 0) hx hb dX4_write_33 (by decide) ?_
  have hP : va_P D vwCl ((wTx cA (Ad 12) tx) ++ (rst cA Ad (f, ((nI o), (nI z)), tx, rt) 12)) s.heap := lw_fP 12 (by decide) hWP
  have hD : va_D A ((wTx cA (Ad 12) tx) ++ (rst cA Ad (f, ((nI o), (nI z)), tx, rt) 12)) := lw_fD 12 (by decide) hWD
  refine va_put (D := D) (ci := 3) (v := .int 0) (ty := .int) (C := RX3) (T := TX3) (N := 5) hx hb hts iX4_write_X3 tyX3 tyX3_ok nmX3 hown hK hP hD hS 0 rfl rfl 2 (by decide) (hts _ mX4_write_f129) (fun _ h9 => h9) rfl (by decide +kernel) rfl rfl (Nat.le_of_ble_eq_true rfl) dX4_write_34 (fun H locs hP hD hS => ?_)
  have hP : va_P D vwCl ((wTx cA (Ad 12) (tx.1, tx.2.1, 0, tx.2.2.2.1, tx.2.2.2.2)) ++ (rst cA Ad (f, ((nI o), (nI z)), tx, rt) 12)) H := hP
  have hD : va_D A ((wTx cA (Ad 12) (tx.1, tx.2.1, 0, tx.2.2.2.1, tx.2.2.2.2)) ++ (rst cA Ad (f, ((nI o), (nI z)), tx, rt) 12)) := hD
  refine lv_iload_n hx hb dX4_write_37 rfl (lv_at hl 1 rfl) ?_
  refine lv_istore_n (lv' := [(3, .int (nI a0)), (0, .ref (Ad 10 0)), (1, .int (nI a0)), (2, .int (nI b0))]) hx hb dX4_write_38 rfl hl (by decide) rfl (fun ls hl => ?_)
  have hWP : va_P D vwCl (all cA Ad (f, ((nI o), (nI z)), (tx.1, tx.2.1, 0, tx.2.2.2.1, tx.2.2.2.2), rt)) H := lw_uP 12 (f, ((nI o), (nI z)), (tx.1, tx.2.1, 0, tx.2.2.2.1, tx.2.2.2.2), rt) (by decide) bc_tx hP
  have hWD : va_D A (all cA Ad (f, ((nI o), (nI z)), (tx.1, tx.2.1, 0, tx.2.2.2.1, tx.2.2.2.2), rt)) := lw_uD 12 (f, ((nI o), (nI z)), (tx.1, tx.2.1, 0, tx.2.2.2.1, tx.2.2.2.2), rt) (by decide) bc_tx hD
  have loop39 : ∀ (n39 k39 : Nat), k39 + n39 = (b0 + 1) → ∀ (H : Heap) (locs : List Loc), va_P D vwCl (all cA Ad (f, ((nI o), (nI z)), ((wrT tx.1 (f 0) a0 (k39 - a0)), tx.2.1, (nI (2 * (k39 - a0))), tx.2.2.2.1, tx.2.2.2.2), rt)) H → va_D A (all cA Ad (f, ((nI o), (nI z)), ((wrT tx.1 (f 0) a0 (k39 - a0)), tx.2.1, (nI (2 * (k39 - a0))), tx.2.2.2.1, tx.2.2.2.2), rt)) → va_S A s.heap H locs → a0 ≤ k39 → ∀ (ls : Array Slot), lv_has ls 4 [(3, .int (nI k39)), (0, .ref (Ad 10 0)), (1, .int (nI a0)), (2, .int (nI b0))] → W p l e ({ frames := 4, cells := 0, slots := 0, locals := 94 } : Room) s m ([.ref (Ad 10 0), .int (nI a0), .int (nI b0)] : List Value).toArray below meth c H locs 0 0 (MQ below (muQ D s.heap (all cA Ad (f, ((nI o), (nI z)), tx, rt)) (all cA Ad (f, ((nI o), (nI z)), (wrT tx.1 (f 0) a0 (b0 + 1 - a0), tx.2.1, nI (2 * (b0 + 1 - a0)), tx.2.2.2), rt)) (some (.int (nI (2 * (b0 + 1 - a0)))))) ([.ref (Ad 10 0), .int (nI a0), .int (nI b0)] : List Value).toArray s 0 0 A) (F0 m 39 ls []) := by
    intro n39
    induction n39 with
    | zero =>
      intro k39 hk39 H locs hWP hWD hS hq39 ls hl
      obtain rfl : (b0 + 1) = k39 := by omega
      refine lv_iload_n hx hb dX4_write_39 rfl (lv_at hl 0 rfl) ?_
      refine lv_iload_n hx hb dX4_write_40 rfl (lv_at hl 3 rfl) ?_
      refine lv_icmp_gt (tgt := 65) hx hb dX4_write_41 (by decide) (fun _ => ?_) (fun h => absurd (nI_lt (by omega) (by omega)) h)
      refine lv_aload_n hx hb dX4_write_65 rfl (lv_at hl 1 rfl) ?_
      have hP : va_P D vwCl ((wLm cA Ad rt) ++ (rst cA Ad (f, ((nI o), (nI z)), ((wrT tx.1 (f 0) a0 ((b0 + 1) - a0)), tx.2.1, (nI (2 * ((b0 + 1) - a0))), tx.2.2.2.1, tx.2.2.2.2), rt) 10)) H := lw_fP 10 (by decide) hWP
      have hD : va_D A ((wLm cA Ad rt) ++ (rst cA Ad (f, ((nI o), (nI z)), ((wrT tx.1 (f 0) a0 ((b0 + 1) - a0)), tx.2.1, (nI (2 * ((b0 + 1) - a0))), tx.2.2.2.1, tx.2.2.2.2), rt) 10)) := lw_fD 10 (by decide) hWD
      refine va_get (D := D) (ci := 4) (v := .ref (Ad 12 0)) (C := RX4) (T := TX4) (N := 7) hx hb hts iX4_write_X4 hown hK hP 0 rfl rfl 5 (by decide) (hts _ mX4_write_f37) (fun _ h9 => h9) rfl dX4_write_66 ?_
      have hP : va_P D vwCl ((wTx cA (Ad 12) ((wrT tx.1 (f 0) a0 ((b0 + 1) - a0)), tx.2.1, (nI (2 * ((b0 + 1) - a0))), tx.2.2.2.1, tx.2.2.2.2)) ++ (rst cA Ad (f, ((nI o), (nI z)), ((wrT tx.1 (f 0) a0 ((b0 + 1) - a0)), tx.2.1, (nI (2 * ((b0 + 1) - a0))), tx.2.2.2.1, tx.2.2.2.2), rt) 12)) H := lw_fP 12 (by decide) hWP
      have hD : va_D A ((wTx cA (Ad 12) ((wrT tx.1 (f 0) a0 ((b0 + 1) - a0)), tx.2.1, (nI (2 * ((b0 + 1) - a0))), tx.2.2.2.1, tx.2.2.2.2)) ++ (rst cA Ad (f, ((nI o), (nI z)), ((wrT tx.1 (f 0) a0 ((b0 + 1) - a0)), tx.2.1, (nI (2 * ((b0 + 1) - a0))), tx.2.2.2.1, tx.2.2.2.2), rt) 12)) := lw_fD 12 (by decide) hWD
      refine va_get (D := D) (ci := 3) (v := .int (nI (2 * ((b0 + 1) - a0)))) (C := RX3) (T := TX3) (N := 5) hx hb hts iX4_write_X3 hown hK hP 0 rfl rfl 2 (by decide) (hts _ mX4_write_f129) (fun _ h9 => h9) rfl dX4_write_69 ?_
      exact mu_iret hx hb hr hlocks dX4_write_72 hAe hS hWP rfl
    | succ n39 ih39 =>
      intro k39 hk39 H locs hWP hWD hS hq39 ls hl
      have hlt39 : k39 < (b0 + 1) := by omega
      refine lv_iload_n hx hb dX4_write_39 rfl (lv_at hl 0 rfl) ?_
      refine lv_iload_n hx hb dX4_write_40 rfl (lv_at hl 3 rfl) ?_
      refine lv_icmp_gt (tgt := 65) hx hb dX4_write_41 (by decide) (fun h => absurd h (nI_nlt (by omega) (by omega))) (fun _ => ?_)
      refine lv_aload_n hx hb dX4_write_44 rfl (lv_at hl 1 rfl) ?_
      have hP : va_P D vwCl ((wLm cA Ad rt) ++ (rst cA Ad (f, ((nI o), (nI z)), ((wrT tx.1 (f 0) a0 (k39 - a0)), tx.2.1, (nI (2 * (k39 - a0))), tx.2.2.2.1, tx.2.2.2.2), rt) 10)) H := lw_fP 10 (by decide) hWP
      have hD : va_D A ((wLm cA Ad rt) ++ (rst cA Ad (f, ((nI o), (nI z)), ((wrT tx.1 (f 0) a0 (k39 - a0)), tx.2.1, (nI (2 * (k39 - a0))), tx.2.2.2.1, tx.2.2.2.2), rt) 10)) := lw_fD 10 (by decide) hWD
      refine va_get (D := D) (ci := 4) (v := .ref (Ad 12 0)) (C := RX4) (T := TX4) (N := 7) hx hb hts iX4_write_X4 hown hK hP 0 rfl rfl 5 (by decide) (hts _ mX4_write_f37) (fun _ h9 => h9) rfl dX4_write_45 ?_
      refine lv_aload_n hx hb dX4_write_48 rfl (lv_at hl 1 rfl) ?_
      refine va_get (D := D) (ci := 4) (v := .ref (Ad 0 0)) (C := RX4) (T := TX4) (N := 7) hx hb hts iX4_write_X4 hown hK hP 0 rfl rfl 0 (by decide) (hts _ mX4_write_f10) (fun _ h9 => h9) rfl dX4_write_49 ?_
      refine lv_iload_n hx hb dX4_write_52 rfl (lv_at hl 0 rfl) ?_
      have hP : va_P D vwCl ((wSt cA (Ad 0) (f 0)) ++ (rst cA Ad (f, ((nI o), (nI z)), ((wrT tx.1 (f 0) a0 (k39 - a0)), tx.2.1, (nI (2 * (k39 - a0))), tx.2.2.2.1, tx.2.2.2.2), rt) 0)) H := lw_fP 0 (by decide) hWP
      have hD : va_D A ((wSt cA (Ad 0) (f 0)) ++ (rst cA Ad (f, ((nI o), (nI z)), ((wrT tx.1 (f 0) a0 (k39 - a0)), tx.2.1, (nI (2 * (k39 - a0))), tx.2.2.2.1, tx.2.2.2.2), rt) 0)) := lw_fD 0 (by decide) hWD
      refine ro_V (ci := 2) (q0 := 0) (As := [.int (nI k39)]) (rest := [.ref (Ad 12 0)]) ⟨hx, hb, hml, hown, hts⟩ (c_X2_tells l D cA _ (Ad 0) (f 0) k39 (by omega) (va_P_l hP) ) (cwV 1 hts gX4_write_X2_tells rfl rfl rfl (by decide +kernel) ⟨Nat.le_of_ble_eq_true rfl, Nat.le_of_ble_eq_true rfl⟩) hKN hP rfl rfl rfl hl.1 rfl (lv_room (Nat.le_of_ble_eq_true rfl)) dX4_write_53 ⟨Nat.zero_le _, Nat.zero_le _⟩ ?_
      obtain ⟨hw, htw⟩ := tellN_spec (f 0) k39
      refine lz_top (v := nI (tellN (f 0) k39)) htw ?_
      have hP : va_P D vwCl ((wTx cA (Ad 12) ((wrT tx.1 (f 0) a0 (k39 - a0)), tx.2.1, (nI (2 * (k39 - a0))), tx.2.2.2.1, tx.2.2.2.2)) ++ (rst cA Ad (f, ((nI o), (nI z)), ((wrT tx.1 (f 0) a0 (k39 - a0)), tx.2.1, (nI (2 * (k39 - a0))), tx.2.2.2.1, tx.2.2.2.2), rt) 12)) H := lw_fP 12 (by decide) hWP
      have hD : va_D A ((wTx cA (Ad 12) ((wrT tx.1 (f 0) a0 (k39 - a0)), tx.2.1, (nI (2 * (k39 - a0))), tx.2.2.2.1, tx.2.2.2.2)) ++ (rst cA Ad (f, ((nI o), (nI z)), ((wrT tx.1 (f 0) a0 (k39 - a0)), tx.2.1, (nI (2 * (k39 - a0))), tx.2.2.2.1, tx.2.2.2.2), rt) 12)) := lw_fD 12 (by decide) hWD
      refine mu_Va (ci := 3) (q0 := 0) (As := [.int (nI (tellN (f 0) k39))]) (rest := []) ⟨hx, hb, hml, hown, hts⟩ (c_X3_putWord l D cA _ (Ad 12) (wrT tx.1 (f 0) a0 (k39 - a0)) tx.2.1 tx.2.2.2.1 tx.2.2.2.2 (2 * (k39 - a0)) (by omega) (tellN (f 0) k39) (by omega) (va_P_l hP) (va_D_l hD)) (cwV 1 hts gX4_write_X3_putWord rfl rfl rfl (by decide +kernel) ⟨Nat.le_of_ble_eq_true rfl, Nat.le_of_ble_eq_true rfl⟩) hKN hP hD hS hA rfl rfl ((wTx_fst _ _ _).trans (wTx_fst _ _ _).symm) rfl hl.1 rfl (lv_room (Nat.le_of_ble_eq_true rfl)) dX4_write_56 ⟨Nat.zero_le _, Nat.zero_le _⟩ (fun H locs hP hD hS => ?_)
      have hP : va_P D vwCl ((wTx cA (Ad 12) ((upd (upd (wrT tx.1 (f 0) a0 (k39 - a0)) (2 * (k39 - a0)) (signF ((tellN (f 0) k39) / 16))) ((2 * (k39 - a0)) + 1) (signF ((tellN (f 0) k39) % 16))), tx.2.1, (nI ((2 * (k39 - a0)) + 1 + 1)), tx.2.2.2.1, tx.2.2.2.2)) ++ (rst cA Ad (f, ((nI o), (nI z)), ((wrT tx.1 (f 0) a0 (k39 - a0)), tx.2.1, (nI (2 * (k39 - a0))), tx.2.2.2.1, tx.2.2.2.2), rt) 12)) H := hP
      have hD : va_D A ((wTx cA (Ad 12) ((upd (upd (wrT tx.1 (f 0) a0 (k39 - a0)) (2 * (k39 - a0)) (signF ((tellN (f 0) k39) / 16))) ((2 * (k39 - a0)) + 1) (signF ((tellN (f 0) k39) % 16))), tx.2.1, (nI ((2 * (k39 - a0)) + 1 + 1)), tx.2.2.2.1, tx.2.2.2.2)) ++ (rst cA Ad (f, ((nI o), (nI z)), ((wrT tx.1 (f 0) a0 (k39 - a0)), tx.2.1, (nI (2 * (k39 - a0))), tx.2.2.2.1, tx.2.2.2.2), rt) 12)) := hD
      refine lv_iinc (v := (nI (k39 + 1))) (lv' := [(3, .int (nI (k39 + 1))), (0, .ref (Ad 10 0)), (1, .int (nI a0)), (2, .int (nI b0))]) hx hb dX4_write_59 hl (k := 0) rfl (nI_1 _) (by decide) rfl (fun ls hl => ?_)
      refine lv_goto (tgt := 39) hx hb dX4_write_62 (by decide) ?_
      have hWP : va_P D vwCl (all cA Ad (f, ((nI o), (nI z)), ((upd (upd (wrT tx.1 (f 0) a0 (k39 - a0)) (2 * (k39 - a0)) (signF ((tellN (f 0) k39) / 16))) ((2 * (k39 - a0)) + 1) (signF ((tellN (f 0) k39) % 16))), tx.2.1, (nI ((2 * (k39 - a0)) + 1 + 1)), tx.2.2.2.1, tx.2.2.2.2), rt)) H := lw_uP 12 (f, ((nI o), (nI z)), ((upd (upd (wrT tx.1 (f 0) a0 (k39 - a0)) (2 * (k39 - a0)) (signF ((tellN (f 0) k39) / 16))) ((2 * (k39 - a0)) + 1) (signF ((tellN (f 0) k39) % 16))), tx.2.1, (nI ((2 * (k39 - a0)) + 1 + 1)), tx.2.2.2.1, tx.2.2.2.2), rt) (by decide) bc_tx hP
      have hWD : va_D A (all cA Ad (f, ((nI o), (nI z)), ((upd (upd (wrT tx.1 (f 0) a0 (k39 - a0)) (2 * (k39 - a0)) (signF ((tellN (f 0) k39) / 16))) ((2 * (k39 - a0)) + 1) (signF ((tellN (f 0) k39) % 16))), tx.2.1, (nI ((2 * (k39 - a0)) + 1 + 1)), tx.2.2.2.1, tx.2.2.2.2), rt)) := lw_uD 12 (f, ((nI o), (nI z)), ((upd (upd (wrT tx.1 (f 0) a0 (k39 - a0)) (2 * (k39 - a0)) (signF ((tellN (f 0) k39) / 16))) ((2 * (k39 - a0)) + 1) (signF ((tellN (f 0) k39) % 16))), tx.2.1, (nI ((2 * (k39 - a0)) + 1 + 1)), tx.2.2.2.1, tx.2.2.2.2), rt) (by decide) bc_tx hD
      have e_1 : ((f, ((nI o), (nI z)), ((wrT tx.1 (f 0) a0 ((k39 + 1) - a0)), tx.2.1, (nI (2 * ((k39 + 1) - a0))), tx.2.2.2.1, tx.2.2.2.2), rt) : LV) = (f, ((nI o), (nI z)), ((upd (upd (wrT tx.1 (f 0) a0 (k39 - a0)) (2 * (k39 - a0)) (signF ((tellN (f 0) k39) / 16))) ((2 * (k39 - a0)) + 1) (signF ((tellN (f 0) k39) % 16))), tx.2.1, (nI ((2 * (k39 - a0)) + 1 + 1)), tx.2.2.2.1, tx.2.2.2.2), rt) := (by rw [show k39 + 1 - a0 = (k39 - a0) + 1 by omega, wrT_succ, show a0 + (k39 - a0) = k39 by omega, show 2 * (k39 - a0 + 1) = 2 * (k39 - a0) + 1 + 1 by omega])
      exact ih39 (k39 + 1) (by omega) _ _ (by rw [e_1]; exact hWP) (by rw [e_1]; exact hWD) hS (by omega) ls (lv_sub hl [0, 1, 2, 3] rfl)
  exact loop39 ((b0 + 1) - a0) a0 (by omega) _ _ (by rw [Nat.sub_self]; exact hWP) (by rw [Nat.sub_self]; exact hWD) hS (Nat.le_refl _) ls (lv_sub hl [0, 1, 2, 3] rfl)
