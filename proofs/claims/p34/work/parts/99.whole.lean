-- ===== end of PART A; then your names; then what follows =====
/-! THE CLAIM OUT OF ONE WALK OF THE LAW'S BODY. Your part is whole_start (and what it stands on); all else here is the same for every law, but numbers. -/
def R_law : String := "WireLoomLaw"
def lw_P (b : Addr) (xs : List Int32) (args : Array Value) (s : State) : Prop := args = #[.ref b] ∧ s.IntsAt b xs ∧ xs.length ≤ 260 ∧ (Jvm.Cond.and given_1 narrow_1).before args s = true
/-- what a walk over the start with the record d0 says of its end, said of the start itself -/
theorem lw_closed {s t : State} {o : Outcome} {d0 : Drawn} {L : List Loc} {k n : Nat} (hd0 : s.drawn.sameBut d0 lw_cs) (hv : ∃ v, o = .returned v) (hW : (s.setDrawn d0).WarmedH t.vm) (hs : (s.setDrawn d0).sameButNew ({ t with vm := s.vm } : State) L k n) : State.butDraws s t lw_cs (fun t1 => Framed s o t1 L k n) := by
  have h2 : t.drawn = d0 := congrArg State.drawn hs.1
  refine ⟨⟨hv, hW, State.sameButNew.setDrawn hs s.drawn⟩, ?_, by decide⟩
  rw [h2]
  exact hd0
def lw_Q (_ : Array Value) (s : State) (o : Outcome) (t : State) : Prop := o = .returned (some (.int 1)) ∧ State.butDraws s t lw_cs (fun t1 => Framed s o t1 [] 600130 7301080)
def lw_Z (below : List Frame) (a : Array Value) (s : State) : State → Prop := fun t => ∃ o, t.status = .running ∧ Ended t below o ∧ lw_Q a s o t
/-- the law's own end, with 1 on the stack, nothing written that was there before, its room as the claim has it; d0: the record of draws at this point (at the entry s.drawn: begin with 'refine W.base ?_' and 'have hd0 := Drawn.sameBut.refl s.drawn lw_cs') -/
theorem lw_ret {p : Program} {l : Launch} {e : Env} {s : State} {m : MethodId} {below : List Frame} {meth : Method} {c : Code} {b : Nat} {d0 : Drawn} (hd0 : s.drawn.sameBut d0 lw_cs) (hx : p.tables.exec = Jvm.exec) (hb : c.code = code) (hr : meth.sig.returnType = ret) (hlocks : meth.locks = false) {pc : Nat} {H : Heap} {ls : Array Slot} (hdg : decode code pc = .ok (.ireturn, 1)) : W p l e room_1 (s.setDrawn d0) m #[Value.ref b] below meth c H [] 600130 7301080 (lw_Z below #[Value.ref b] s) (F0 m pc ls [.int 1]) := by
  intro T hT X
  obtain ⟨fs, hret, hrun, hended, hW, hframe⟩ := X.leave (v := some (.int 1)) (hlocks := hlocks) (fun h => by rw [hr] at h; cases h)
  have hmeth' : T.vm.method? m = some meth := X.method'
  refine ⟨T.setFrames fs, ?_, .returned (some (.int 1)), hrun, hended, rfl, lw_closed hd0 ⟨_, rfl⟩ hW hframe⟩
  jvm_step X.here [X.here.top, hx, hb, hdg, hmeth', hr, ret, narrow_b1]
  (try refine ⟨rfl, ?_⟩); (try refine ⟨rfl, ?_⟩)
  first | (intro acts; rw [hret _ acts rfl rfl rfl]) | rw [hret _ _ rfl rfl rfl]
  exact Steps.refl _
/-- what holds at the law's entry: the machine, the code, the tables' words (any of lw_tbl by 'hts w (by decide +kernel)'), the script of L ints xs at the cell b, what the Statement gives of the start (any of its parts by flat_of_before) -/
def lw_At (p : Program) (s : State) (m : MethodId) (meth : Method) (c : Code) (b L : Nat) (xs : Nat → Int32) : Prop :=
  p.tables.exec = Jvm.exec ∧ c.code = code ∧ meth.sig.returnType = ret ∧ c.maxLocals = 13 ∧ s.vm.findClass R_law = some m.cls ∧ (∀ w ∈ lw_tbl, w.before #[Value.ref b] s = true) ∧ va_X b L xs s s.heap ∧ b < s.heap.size ∧ meth.locks = false ∧ (Jvm.Cond.and given_1 narrow_1).before #[Value.ref b] s = true
-- ===== YOUR PART BEGINS =====
set_option maxHeartbeats 16000000 in
set_option maxRecDepth 100000 in
theorem law_walk {p : Program} {e : Env} {s : State} {m : MethodId} {below : List Frame} {meth : Method} {c : Code} (l : Launch) {b L : Nat} {xs : Nat → Int32} {D : va_G} {cA : Nat → ClassId} {Ad : Nat → Nat → Nat} {A : Nat → Prop} {H : Heap} {locs : List Loc} {ls : Array Slot} {f : Nat → SV} {o z : Nat} {tx : TV} {rt : (Nat → Int32) × (Nat → Int32)} (hL : L ≤ 260) (hx : p.tables.exec = Jvm.exec) (hb : c.code = cL_law) (hml : c.maxLocals = 13) (hown : s.vm.findClass RL = some m.cls) (hts : ∀ w ∈ wsL_law, w.before #[Value.ref b] s = true) (hX : va_X b L xs s s.heap) (hbl : b < s.heap.size) (hbA : ¬ A b) (hA : ∀ q : Nat, s.heap.size ≤ q → A q) (hKN : KN D cA s)
    (hf0 : f 0 = initS) (ho : o < 6) (hz6 : z ≤ 6) (hWP : va_P D vwCl (all cA Ad (f, ((nI o), (nI z)), tx, rt)) H) (hWD : va_D A (all cA Ad (f, ((nI o), (nI z)), tx, rt))) (hS : va_S A s.heap H locs) (hl : lv_has ls 13 [(1, .ref (Ad 10 0)), (0, .ref b)])
    (hret : ∀ (H : Heap) (locs : List Loc) (ls : Array Slot), va_S A s.heap H locs → W p l e room_1 s m #[Value.ref b] below meth c H locs 1000 5000 (lw_Z below #[Value.ref b] s) (F0 m 381 ls [.int 1])) : W p l e room_1 s m #[Value.ref b] below meth c H locs 1000 5000 (lw_Z below #[Value.ref b] s) (F0 m 8 ls []) := by
  have hK := hKN.1
  have hG : GD 0 (f 0) := by rw [hf0]; exact GD_init
  refine lv_aload_n hx hb dL_law_8 rfl (lv_at hl 0 rfl) ?_
  refine lv_iconst (v := 0) hx hb dL_law_9 (by decide) ?_
  refine mu_Vw (ci := 4) (q0 := 0) (As := [.int 0]) (rest := []) ⟨hx, hb, hml, hown, hts⟩ (c_X4_keep0 l D cA _ Ad f o z tx rt hG.ru hWP (hWD.weaken (fun _ _ _ _ => trivial))) (cwV 1 hts gL_law_X4_keep rfl rfl rfl (by decide +kernel) ⟨Nat.le_of_ble_eq_true rfl, Nat.le_of_ble_eq_true rfl⟩) hKN hWP hWD hS hA (lw_fP 10 (by decide) hWP : va_P D vwCl ((wLm cA Ad rt) ++ (rst cA Ad (f, ((nI o), (nI z)), tx, rt) 10)) H) rfl rfl (all_fst _ _ _ _) rfl hl.1 rfl (lv_room (Nat.le_of_ble_eq_true rfl)) dL_law_10 ⟨Nat.le_of_ble_eq_true rfl, Nat.le_of_ble_eq_true rfl⟩ (fun H locs hWP hWD hS => ?_)
  have hWP : va_P D vwCl (all cA Ad ((upS f 2 (f 0)), ((nI o), (nI z)), tx, ((upd rt.1 0 1), rt.2))) H := hWP
  have hWD : va_D A (all cA Ad ((upS f 2 (f 0)), ((nI o), (nI z)), tx, ((upd rt.1 0 1), rt.2))) := hWD
  refine lz_top (v := (cbtT (f 0) 16)) rfl ?_
  refine lz_top (v := 0) (by rw [hf0]; decide +kernel) ?_
  obtain ⟨f, ef, g0, g2⟩ := gS2 f
  obtain ⟨rt, er, gr1, gr0⟩ := gK rt 0
  rw [ef, er] at hWP hWD
  have hG : GD 0 (f 0) := by rw [g0]; exact hG
  have hf2 : f 2 = initS := g2.trans hf0
  have hf0 : f 0 = initS := g0.trans hf0
  have hk : rt.1 0 = 1 := gr1
  clear ef er g0 g2 gr0 gr1
  have hWP : va_P D vwCl (all cA Ad (f, ((nI o), (nI z)), tx, rt)) H := hWP
  have hWD : va_D A (all cA Ad (f, ((nI o), (nI z)), tx, rt)) := hWD
  refine lv_if_ne (tgt := 23) hx hb dL_law_13 (by decide) (fun h => absurd (by decide) h) (fun _ => ?_)
  refine lv_aload_n hx hb dL_law_16 rfl (lv_at hl 0 rfl) ?_
  refine mu_Sw (As := [.ref (Ad 10 0)]) (rest := []) ⟨hx, hb, hml, hown, hts⟩ (c_L_holds l D cA _ Ad f o z tx rt 0 (by omega) hG hWP (hWD.weaken (fun _ _ _ _ => trivial))) (cwS2 1 hts gL_law_L_holds rfl rfl rfl (by decide +kernel) ⟨Nat.le_of_ble_eq_true rfl, Nat.le_of_ble_eq_true rfl⟩) hKN hWP hWD hS hA (all_fst _ _ _ _) rfl hl.1 rfl (lv_room (Nat.le_of_ble_eq_true rfl)) dL_law_17 ⟨Nat.le_of_ble_eq_true rfl, Nat.le_of_ble_eq_true rfl⟩ (fun H locs hWP hWD hS => ?_)
  have hWP : va_P D vwCl (all cA Ad (f, ((nI o), (nI z)), tx, (rt.1, (wtT (f 0) rt.2 16)))) H := hWP
  have hWD : va_D A (all cA Ad (f, ((nI o), (nI z)), tx, (rt.1, (wtT (f 0) rt.2 16)))) := hWD
  obtain ⟨rt, er, gr⟩ := gR rt (wtT (f 0) rt.2 16)
  rw [er] at hWP hWD
  have hk : rt.1 0 = 1 := by rw [gr]; exact hk
  clear er gr
  have hWP : va_P D vwCl (all cA Ad (f, ((nI o), (nI z)), tx, rt)) H := hWP
  have hWD : va_D A (all cA Ad (f, ((nI o), (nI z)), tx, rt)) := hWD
  refine lv_if_ne (tgt := 25) hx hb dL_law_20 (by decide) (fun _ => ?_) (fun h => absurd h (by decide))
  refine lv_iconst (v := 0) hx hb dL_law_25 (by decide) ?_
  refine lv_istore_n (lv' := [(2, .int 0), (1, .ref (Ad 10 0)), (0, .ref b)]) hx hb dL_law_26 rfl hl (by decide) rfl (fun ls hl => ?_)
  have loop27 : ∀ (n k : Nat), k + n = 32 → ∀ (u s2 : SV), GD (9 * k) u → GD (9 * k) s2 → ∀ (f : Nat → SV) (o z : Nat) (rt : (Nat → Int32) × (Nat → Int32)) (H : Heap) (locs : List Loc), f 0 = u → f 2 = s2 → o < 6 → z ≤ 6 → rt.1 0 = 1 → va_P D vwCl (all cA Ad (f, ((nI o), (nI z)), tx, rt)) H → va_D A (all cA Ad (f, ((nI o), (nI z)), tx, rt)) → va_S A s.heap H locs → ∀ (ls : Array Slot), lv_has ls 13 [(2, .int (nI k)), (1, .ref (Ad 10 0)), (0, .ref b)] → W p l e room_1 s m #[Value.ref b] below meth c H locs 1000 5000 (lw_Z below #[Value.ref b] s) (F0 m 27 ls []) := by
    intro n
    induction n with
    | zero =>
      intro k hkk u s2 hGu hG2u f o z rt H locs hf0 hf2 ho hz6 hk hWP hWD hS ls hl
      obtain rfl : 32 = k := by omega
      have hG : GD 288 (f 0) := by rw [hf0]; exact hGu
      refine lv_iload_n hx hb dL_law_27 rfl (lv_at hl 0 rfl) ?_
      refine lv_bipush (v := 32) hx hb dL_law_28 (by decide) ?_
      refine lv_icmp_ge (tgt := 377) hx hb dL_law_30 (by decide) (fun _ => ?_) (fun h => absurd (by decide) h)
      refine lv_aload_n hx hb dL_law_377 rfl (lv_at hl 1 rfl) ?_
      refine mu_Sw (As := [.ref (Ad 10 0)]) (rest := []) ⟨hx, hb, hml, hown, hts⟩ (c_L_holds l D cA _ Ad f o z tx rt 288 (by omega) hG hWP (hWD.weaken (fun _ _ _ _ => trivial))) (cwS2 1 hts gL_law_L_holds rfl rfl rfl (by decide +kernel) ⟨Nat.le_of_ble_eq_true rfl, Nat.le_of_ble_eq_true rfl⟩) hKN hWP hWD hS hA (all_fst _ _ _ _) rfl hl.1 rfl (lv_room (Nat.le_of_ble_eq_true rfl)) dL_law_378 ⟨Nat.le_of_ble_eq_true rfl, Nat.le_of_ble_eq_true rfl⟩ (fun H locs hWP hWD hS => ?_)
      have hWP : va_P D vwCl (all cA Ad (f, ((nI o), (nI z)), tx, (rt.1, (wtT (f 0) rt.2 16)))) H := hWP
      have hWD : va_D A (all cA Ad (f, ((nI o), (nI z)), tx, (rt.1, (wtT (f 0) rt.2 16)))) := hWD
      obtain ⟨rt, er, gr⟩ := gR rt (wtT (f 0) rt.2 16)
      rw [er] at hWP hWD
      have hk : rt.1 0 = 1 := by rw [gr]; exact hk
      clear er gr
      have hWP : va_P D vwCl (all cA Ad (f, ((nI o), (nI z)), tx, rt)) H := hWP
      have hWD : va_D A (all cA Ad (f, ((nI o), (nI z)), tx, rt)) := hWD
      exact hret _ _ _ hS
    | succ n ih =>
      intro k hkk u s2 hGu hG2u f o z rt H locs hf0 hf2 ho hz6 hk hWP hWD hS ls hl
      have hlt : k < 32 := by omega
      obtain ⟨KU, eKU⟩ : ∃ KU, KU = 9 * k := ⟨_, rfl⟩
      obtain ⟨KK, eKK⟩ : ∃ KK, KK = 9 * (k + 1) := ⟨_, rfl⟩
      rw [← eKU] at hGu hG2u
      have hKU : KU < 1000000 := by omega
      have hG : GD KU (f 0) := by rw [hf0]; exact hGu
      have hG2 : GD KU (f 2) := by rw [hf2]; exact hG2u
      obtain ⟨z0, hz0⟩ : ∃ z0, z0 = z := ⟨_, rfl⟩
      have hz06 : z0 ≤ 6 := by omega
      refine lv_iload_n hx hb dL_law_27 rfl (lv_at hl 0 rfl) ?_
      refine lv_bipush (v := 32) hx hb dL_law_28 (by decide) ?_
      refine lv_icmp_ge (tgt := 377) hx hb dL_law_30 (by decide) (fun h => absurd h (show ¬ (32 : Int32) ≤ nI k from nI_ge (b := 32) hlt (by decide))) (fun _ => ?_)
      refine lv_aload_n hx hb dL_law_33 rfl (lv_at hl 2 rfl) ?_
      refine lv_iconst (v := 2) hx hb dL_law_34 (by decide) ?_
      refine lv_iload_n hx hb dL_law_35 rfl (lv_at hl 0 rfl) ?_
      refine lz_imul (v := (nI (2 * k))) hx hb dL_law_36 (pk_mul 2 k) ?_
      refine cell_S (As := [.ref b, .int (nI (2 * k))]) (rest := []) ⟨hx, hb, hml, hown, hts⟩ (c_L_cell l _ b L xs hL (Nat.lt_of_lt_of_le hbl hS.1) (2 * k) (by omega)) (cwS2 2 hts gL_law_L_cell rfl rfl rfl (by decide +kernel) ⟨Nat.le_of_ble_eq_true rfl, Nat.le_of_ble_eq_true rfl⟩) (hX.kept (hS.2.1 b hbl hbA)) rfl hl.1 rfl (lv_room (Nat.le_of_ble_eq_true rfl)) dL_law_37 ⟨Nat.le_of_ble_eq_true rfl, Nat.le_of_ble_eq_true rfl⟩ (fun x => ?_)
      refine lv_istore_n (lv' := [(3, .int x), (2, .int (nI k)), (1, .ref (Ad 10 0)), (0, .ref b)]) hx hb dL_law_40 rfl hl (by decide) rfl (fun ls hl => ?_)
      refine lv_aload_n hx hb dL_law_41 rfl (lv_at hl 3 rfl) ?_
      refine lv_iconst (v := 2) hx hb dL_law_42 (by decide) ?_
      refine lv_iload_n hx hb dL_law_43 rfl (lv_at hl 1 rfl) ?_
      refine lz_imul (v := (nI (2 * k))) hx hb dL_law_44 (pk_mul 2 k) ?_
      refine lv_iconst (v := 1) hx hb dL_law_45 (by decide) ?_
      refine lz_iadd (v := (nI ((2 * k) + 1))) hx hb dL_law_46 (nI_add _ _) ?_
      refine cell_S (As := [.ref b, .int (nI ((2 * k) + 1))]) (rest := []) ⟨hx, hb, hml, hown, hts⟩ (c_L_cell l _ b L xs hL (Nat.lt_of_lt_of_le hbl hS.1) ((2 * k) + 1) (by omega)) (cwS2 2 hts gL_law_L_cell rfl rfl rfl (by decide +kernel) ⟨Nat.le_of_ble_eq_true rfl, Nat.le_of_ble_eq_true rfl⟩) (hX.kept (hS.2.1 b hbl hbA)) rfl hl.1 rfl (lv_room (Nat.le_of_ble_eq_true rfl)) dL_law_47 ⟨Nat.le_of_ble_eq_true rfl, Nat.le_of_ble_eq_true rfl⟩ (fun y => ?_)
      refine lv_istore (lv' := [(4, .int y), (3, .int x), (2, .int (nI k)), (1, .ref (Ad 10 0)), (0, .ref b)]) hx hb dL_law_50 hl (by decide) rfl (fun ls hl => ?_)
      refine lv_aload_n hx hb dL_law_52 rfl (lv_at hl 3 rfl) ?_
      refine mu_Sw (As := [.ref (Ad 10 0)]) (rest := []) ⟨hx, hb, hml, hown, hts⟩ (c_L_looks l D cA _ Ad f o z tx rt hWP (hWD.weaken (fun _ _ _ _ => trivial))) (cwS2 1 hts gL_law_L_looks rfl rfl rfl (by decide +kernel) ⟨Nat.le_of_ble_eq_true rfl, Nat.le_of_ble_eq_true rfl⟩) hKN hWP hWD hS hA (all_fst _ _ _ _) rfl hl.1 rfl (lv_room (Nat.le_of_ble_eq_true rfl)) dL_law_53 ⟨Nat.le_of_ble_eq_true rfl, Nat.le_of_ble_eq_true rfl⟩ (fun H locs hWP hWD hS => ?_)
      have hWP : va_P D vwCl (all cA Ad (f, ((nI o), (nI z)), tx, (rt.1, (lkW (f 0) rt.2 9)))) H := hWP
      have hWD : va_D A (all cA Ad (f, ((nI o), (nI z)), tx, (rt.1, (lkW (f 0) rt.2 9)))) := hWD
      refine lz_topL (v := (looksV u)) (by rw [hf0]) ?_
      obtain ⟨rt, er, gr⟩ := gR rt (lkW (f 0) rt.2 9)
      rw [er] at hWP hWD
      have hk : rt.1 0 = 1 := by rw [gr]; exact hk
      clear er gr
      have hWP : va_P D vwCl (all cA Ad (f, ((nI o), (nI z)), tx, rt)) H := hWP
      have hWD : va_D A (all cA Ad (f, ((nI o), (nI z)), tx, rt)) := hWD
      refine lv_lstore (lv' := [(5, .long (looksV u)), (4, .int y), (3, .int x), (2, .int (nI k)), (1, .ref (Ad 10 0)), (0, .ref b)]) hx hb dL_law_56 hl (by decide) rfl (fun ls hl => ?_)
      refine lv_aload_n hx hb dL_law_58 rfl (lv_at hl 4 rfl) ?_
      refine lv_bipush (v := 9) hx hb dL_law_59 (by decide) ?_
      refine mu_Vw (ci := 4) (q0 := 0) (As := [.int 9]) (rest := []) ⟨hx, hb, hml, hown, hts⟩ (c_X4_count l D cA _ Ad f o z tx rt 9 (by decide) hWP (hWD.weaken (fun _ _ _ _ => trivial))) (cwV 1 hts gL_law_X4_count rfl rfl rfl (by decide +kernel) ⟨Nat.le_of_ble_eq_true rfl, Nat.le_of_ble_eq_true rfl⟩) hKN hWP hWD hS hA (lw_fP 10 (by decide) hWP : va_P D vwCl ((wLm cA Ad rt) ++ (rst cA Ad (f, ((nI o), (nI z)), tx, rt) 10)) H) rfl rfl (all_fst _ _ _ _) rfl hl.1 rfl (lv_room (Nat.le_of_ble_eq_true rfl)) dL_law_61 ⟨Nat.le_of_ble_eq_true rfl, Nat.le_of_ble_eq_true rfl⟩ (fun H locs hWP hWD hS => ?_)
      have hWP : va_P D vwCl (all cA Ad (f, ((nI o), (nI z)), tx, rt)) H := hWP
      have hWD : va_D A (all cA Ad (f, ((nI o), (nI z)), tx, rt)) := hWD
      refine lz_top (v := (nI z)) rfl ?_
      refine lz_top (v := nI z0) (by rw [hz0]) ?_
      refine lv_istore (lv' := [(7, .int (nI z0)), (5, .long (looksV u)), (4, .int y), (3, .int x), (2, .int (nI k)), (1, .ref (Ad 10 0)), (0, .ref b)]) hx hb dL_law_64 hl (by decide) rfl (fun ls hl => ?_)
      refine lv_aload_n hx hb dL_law_66 rfl (lv_at hl 5 rfl) ?_
      refine lv_iload_n hx hb dL_law_67 rfl (lv_at hl 3 rfl) ?_
      refine lv_iload hx hb dL_law_68 (lv_at hl 2 rfl) ?_
      obtain ⟨u1, hu1⟩ : ∃ u1, (actP u s2 x y).2 = u1 := ⟨_, rfl⟩
      have hGu1 : GD KK u1 := by rw [← hu1, show KK = KU + 9 by omega]; exact (act_ok hGu hG2u hKU x y).2
      have ht16 : upN y 16 < 16 := upN_lt y (by decide)
      refine mu_Sw (As := [.ref (Ad 10 0), .int x, .int y]) (rest := []) ⟨hx, hb, hml, hown, hts⟩ (c_L_act l D cA _ Ad f o z tx rt ho hz6 KU hG hG2 hk x y hWP (hWD.weaken (fun _ _ _ _ => trivial))) (cwS2 3 hts gL_law_L_act rfl rfl rfl (by decide +kernel) ⟨Nat.le_of_ble_eq_true rfl, Nat.le_of_ble_eq_true rfl⟩) hKN hWP hWD hS hA (all_fst _ _ _ _) rfl hl.1 rfl (lv_room (Nat.le_of_ble_eq_true rfl)) dL_law_70 ⟨Nat.le_of_ble_eq_true rfl, Nat.le_of_ble_eq_true rfl⟩ (fun H locs hWP hWD hS => ?_)
      have hWP : va_P D vwCl (all cA Ad ((upS (pushF f ((o + z) % 6)) 0 ((actP (f 0) (f 2) x y).2)), ((nI (if z < 6 then o else (o + 1) % 6)), (nI (if z < 6 then z + 1 else z))), tx, rt)) H := hWP
      have hWD : va_D A (all cA Ad ((upS (pushF f ((o + z) % 6)) 0 ((actP (f 0) (f 2) x y).2)), ((nI (if z < 6 then o else (o + 1) % 6)), (nI (if z < 6 then z + 1 else z))), tx, rt)) := hWD
      refine lz_top (v := (actP u s2 x y).1) (by rw [hf0, hf2]) ?_
      obtain ⟨f, o, z, ef, eo, ez, g0, g2, g3, go, gz, hz1, gt, gq⟩ := gpush f ho hz6 (actP (f 0) (f 2) x y).2
      rw [ef, eo, ez] at hWP hWD
      have htop := gt.trans hf0
      have hf0 : f 0 = u1 := g0.trans (by rw [hf0, hf2]; exact hu1)
      have hf2 : f 2 = s2 := g2.trans hf2
      have ho := go
      have hz6 := gz
      clear ef eo ez g0 g2 g3 go gz gt
      have hWP : va_P D vwCl (all cA Ad (f, ((nI o), (nI z)), tx, rt)) H := hWP
      have hWD : va_D A (all cA Ad (f, ((nI o), (nI z)), tx, rt)) := hWD
      have hG : GD KK (f 0) := by rw [hf0]; exact hGu1
      refine lv_istore (lv' := [(8, .int ((actP u s2 x y).1)), (7, .int (nI z0)), (5, .long (looksV u)), (4, .int y), (3, .int x), (2, .int (nI k)), (1, .ref (Ad 10 0)), (0, .ref b)]) hx hb dL_law_73 hl (by decide) rfl (fun ls hl => ?_)
      refine lv_iload hx hb dL_law_75 (lv_at hl 0 rfl) ?_
      refine lv_if_lt (tgt := 109) hx hb dL_law_77 (by decide) (fun h => absurd h (act_ok hGu hG2u hKU x y).1) (fun _ => ?_)
      refine lv_aload_n hx hb dL_law_80 rfl (lv_at hl 6 rfl) ?_
      refine lv_bipush (v := 9) hx hb dL_law_81 (by decide) ?_
      refine mu_Vw (ci := 4) (q0 := 0) (As := [.int 9]) (rest := []) ⟨hx, hb, hml, hown, hts⟩ (c_X4_count l D cA _ Ad f o z tx rt 9 (by decide) hWP (hWD.weaken (fun _ _ _ _ => trivial))) (cwV 1 hts gL_law_X4_count rfl rfl rfl (by decide +kernel) ⟨Nat.le_of_ble_eq_true rfl, Nat.le_of_ble_eq_true rfl⟩) hKN hWP hWD hS hA (lw_fP 10 (by decide) hWP : va_P D vwCl ((wLm cA Ad rt) ++ (rst cA Ad (f, ((nI o), (nI z)), tx, rt) 10)) H) rfl rfl (all_fst _ _ _ _) rfl hl.1 rfl (lv_room (Nat.le_of_ble_eq_true rfl)) dL_law_83 ⟨Nat.le_of_ble_eq_true rfl, Nat.le_of_ble_eq_true rfl⟩ (fun H locs hWP hWD hS => ?_)
      have hWP : va_P D vwCl (all cA Ad (f, ((nI o), (nI z)), tx, rt)) H := hWP
      have hWD : va_D A (all cA Ad (f, ((nI o), (nI z)), tx, rt)) := hWD
      refine lz_top (v := (nI z)) rfl ?_
      refine lv_iload hx hb dL_law_86 (lv_at hl 1 rfl) ?_
      refine lv_bipush (v := 6) hx hb dL_law_88 (by decide) ?_
      have hj_90 : W p l e room_1 s m #[Value.ref b] below meth c H locs 1000 5000 (lw_Z below #[Value.ref b] s) (F0 m 102 ls [.int (nI z), .int (nI z)]) → W p l e room_1 s m #[Value.ref b] below meth c H locs 1000 5000 (lw_Z below #[Value.ref b] s) (F0 m 90 ls [.int 6, .int (nI z0), .int (nI z)]) := by
        intro hJ
        refine lv_icmp_ge (tgt := 100) hx hb dL_law_90 (by decide) (fun c_90 => ?_) (fun c_90 => ?_)
        · refine lv_bipush (v := 6) hx hb dL_law_100 (by decide) ?_
          refine lz_top (v := (nI z)) (by have h6 : 6 ≤ z0 := (nI_leI (a := 6) (by decide) (by omega)).mp c_90; have h7 : z = 6 := (by rw [gq, if_neg (by omega)]); rw [h7]; rfl) ?_
          exact hJ
        · refine lv_iload hx hb dL_law_93 (lv_at hl 1 rfl) ?_
          refine lv_iconst (v := 1) hx hb dL_law_95 (by decide) ?_
          refine lz_iadd (v := (nI (z0 + 1))) hx hb dL_law_96 (nI_add _ _) ?_
          refine lv_goto (tgt := 102) hx hb dL_law_97 (by decide) ?_
          refine lz_top (v := (nI z)) (by have h6 : ¬ 6 ≤ z0 := fun h => c_90 ((nI_leI (a := 6) (by decide) (by omega)).mpr h); have h7 : z = z0 + 1 := (by rw [gq, if_pos (by omega), hz0]); rw [h7]) ?_
          exact hJ
      refine hj_90 ?_
      refine lv_icmp_ne (tgt := 109) hx hb dL_law_102 (by decide) (fun h => absurd rfl h) (fun _ => ?_)
      refine lv_iconst (v := 1) hx hb dL_law_105 (by decide) ?_
      refine lv_goto (tgt := 110) hx hb dL_law_106 (by decide) ?_
      refine lv_istore (lv' := [(9, .int 1), (8, .int ((actP u s2 x y).1)), (7, .int (nI z0)), (5, .long (looksV u)), (4, .int y), (3, .int x), (2, .int (nI k)), (1, .ref (Ad 10 0)), (0, .ref b)]) hx hb dL_law_110 hl (by decide) rfl (fun ls hl => ?_)
      refine lv_iload hx hb dL_law_112 (lv_at hl 0 rfl) ?_
      refine lv_if_eq (tgt := 190) hx hb dL_law_114 (by decide) (fun h => absurd h (by decide)) (fun _ => ?_)
      refine lv_iload_n hx hb dL_law_117 rfl (lv_at hl 5 rfl) ?_
      refine lv_bipush (v := 8) hx hb dL_law_118 (by decide) ?_
      refine lv_ishr hx hb dL_law_120 ?_
      refine lv_iconst (v := 3) hx hb dL_law_121 (by decide) ?_
      refine lv_iand hx hb dL_law_122 ?_
      have hj_123 : (∀ (f : Nat → SV) (o z : Nat) (rt : (Nat → Int32) × (Nat → Int32)) (H : Heap) (locs : List Loc), f 0 = u1 → f 2 = s2 → o < 6 → z ≤ 6 → rt.1 0 = 1 → va_P D vwCl (all cA Ad (f, ((nI o), (nI z)), tx, rt)) H → va_D A (all cA Ad (f, ((nI o), (nI z)), tx, rt)) → va_S A s.heap H locs → ∀ (ls : Array Slot), lv_has ls 13 [(9, .int 1), (8, .int ((actP u s2 x y).1)), (7, .int (nI z0)), (5, .long (looksV u)), (4, .int y), (3, .int x), (2, .int (nI k)), (1, .ref (Ad 10 0)), (0, .ref b)] → W p l e room_1 s m #[Value.ref b] below meth c H locs 1000 5000 (lw_Z below #[Value.ref b] s) (F0 m 190 ls [])) → W p l e room_1 s m #[Value.ref b] below meth c H locs 1000 5000 (lw_Z below #[Value.ref b] s) (F0 m 123 ls [.int ((x >>> (8 &&& 31)) &&& 3)]) := by
        intro hJ
        refine lv_if_ne (tgt := 190) hx hb dL_law_123 (by decide) (fun c_123 => ?_) (fun c_123 => ?_)
        · exact hJ  f o z rt _ _ hf0 hf2 ho hz6 hk hWP hWD hS ls (lv_sub hl [0, 1, 2, 3, 4, 5, 6, 7, 8] rfl)
        · refine lv_aload_n hx hb dL_law_126 rfl (lv_at hl 7 rfl) ?_
          refine mu_Sw (As := [.ref (Ad 10 0)]) (rest := []) ⟨hx, hb, hml, hown, hts⟩ (c_L_looks l D cA _ Ad f o z tx rt hWP (hWD.weaken (fun _ _ _ _ => trivial))) (cwS2 1 hts gL_law_L_looks rfl rfl rfl (by decide +kernel) ⟨Nat.le_of_ble_eq_true rfl, Nat.le_of_ble_eq_true rfl⟩) hKN hWP hWD hS hA (all_fst _ _ _ _) rfl hl.1 rfl (lv_room (Nat.le_of_ble_eq_true rfl)) dL_law_127 ⟨Nat.le_of_ble_eq_true rfl, Nat.le_of_ble_eq_true rfl⟩ (fun H locs hWP hWD hS => ?_)
          have hWP : va_P D vwCl (all cA Ad (f, ((nI o), (nI z)), tx, (rt.1, (lkW (f 0) rt.2 9)))) H := hWP
          have hWD : va_D A (all cA Ad (f, ((nI o), (nI z)), tx, (rt.1, (lkW (f 0) rt.2 9)))) := hWD
          refine lz_topL (v := (looksV u1)) (by rw [hf0]) ?_
          obtain ⟨rt, er, gr⟩ := gR rt (lkW (f 0) rt.2 9)
          rw [er] at hWP hWD
          have hk : rt.1 0 = 1 := by rw [gr]; exact hk
          clear er gr
          have hWP : va_P D vwCl (all cA Ad (f, ((nI o), (nI z)), tx, rt)) H := hWP
          have hWD : va_D A (all cA Ad (f, ((nI o), (nI z)), tx, rt)) := hWD
          refine lv_lstore (lv' := [(10, .long (looksV u1)), (9, .int 1), (8, .int ((actP u s2 x y).1)), (7, .int (nI z0)), (5, .long (looksV u)), (4, .int y), (3, .int x), (2, .int (nI k)), (1, .ref (Ad 10 0)), (0, .ref b)]) hx hb dL_law_130 hl (by decide) rfl (fun ls hl => ?_)
          obtain ⟨z, rfl⟩ : ∃ w, z = w + 1 := ⟨z - 1, by omega⟩
          rw [Nat.add_sub_cancel] at htop
          have hWP : va_P D vwCl (all cA Ad (f, ((nI o), (nI (z + 1))), tx, rt)) H := hWP
          have hWD : va_D A (all cA Ad (f, ((nI o), (nI (z + 1))), tx, rt)) := hWD
          refine lv_aload_n hx hb dL_law_132 rfl (lv_at hl 8 rfl) ?_
          refine lv_bipush (v := 9) hx hb dL_law_133 (by decide) ?_
          refine mu_Vw (ci := 4) (q0 := 0) (As := [.int 9]) (rest := []) ⟨hx, hb, hml, hown, hts⟩ (c_X4_count l D cA _ Ad f o (z + 1) tx rt 9 (by decide) hWP (hWD.weaken (fun _ _ _ _ => trivial))) (cwV 1 hts gL_law_X4_count rfl rfl rfl (by decide +kernel) ⟨Nat.le_of_ble_eq_true rfl, Nat.le_of_ble_eq_true rfl⟩) hKN hWP hWD hS hA (lw_fP 10 (by decide) hWP : va_P D vwCl ((wLm cA Ad rt) ++ (rst cA Ad (f, ((nI o), (nI (z + 1))), tx, rt) 10)) H) rfl rfl (all_fst _ _ _ _) rfl hl.1 rfl (lv_room (Nat.le_of_ble_eq_true rfl)) dL_law_135 ⟨Nat.le_of_ble_eq_true rfl, Nat.le_of_ble_eq_true rfl⟩ (fun H locs hWP hWD hS => ?_)
          have hWP : va_P D vwCl (all cA Ad (f, ((nI o), (nI (z + 1))), tx, rt)) H := hWP
          have hWD : va_D A (all cA Ad (f, ((nI o), (nI (z + 1))), tx, rt)) := hWD
          refine lz_top (v := (nI (z + 1))) rfl ?_
          refine lv_iconst (v := 1) hx hb dL_law_138 (by decide) ?_
          refine lz_isub (v := (nI z)) hx hb dL_law_139 (nI_pred z) ?_
          refine lv_istore (lv' := [(12, .int (nI z)), (10, .long (looksV u1)), (9, .int 1), (8, .int ((actP u s2 x y).1)), (7, .int (nI z0)), (5, .long (looksV u)), (4, .int y), (3, .int x), (2, .int (nI k)), (1, .ref (Ad 10 0)), (0, .ref b)]) hx hb dL_law_140 hl (by decide) rfl (fun ls hl => ?_)
          refine lv_aload_n hx hb dL_law_142 rfl (lv_at hl 9 rfl) ?_
          refine mu_Vw (ci := 4) (q0 := 0) (As := []) (rest := []) ⟨hx, hb, hml, hown, hts⟩ (c_X4_undo l D cA _ Ad f o z tx rt ho (by omega) (by rw [htop]; exact hGu.ru) hWP (hWD.weaken (fun _ _ _ _ => trivial))) (cwV 0 hts gL_law_X4_undo rfl rfl rfl (by decide +kernel) ⟨Nat.le_of_ble_eq_true rfl, Nat.le_of_ble_eq_true rfl⟩) hKN hWP hWD hS hA (lw_fP 10 (by decide) hWP : va_P D vwCl ((wLm cA Ad rt) ++ (rst cA Ad (f, ((nI o), (nI (z + 1))), tx, rt) 10)) H) rfl rfl (all_fst _ _ _ _) rfl hl.1 rfl (lv_room (Nat.le_of_ble_eq_true rfl)) dL_law_143 ⟨Nat.le_of_ble_eq_true rfl, Nat.le_of_ble_eq_true rfl⟩ (fun H locs hWP hWD hS => ?_)
          have hWP : va_P D vwCl (all cA Ad ((upS f 0 (f (4 + (o + z) % 6))), ((nI o), (nI z)), tx, rt)) H := hWP
          have hWD : va_D A (all cA Ad ((upS f 0 (f (4 + (o + z) % 6))), ((nI o), (nI z)), tx, rt)) := hWD
          refine lz_top (v := (nI z)) rfl ?_
          obtain ⟨f, ef, g0, g2, g3⟩ := gU f (4 + (o + z) % 6)
          rw [ef] at hWP hWD
          have hf0 : f 0 = u := g0.trans htop
          have hf2 : f 2 = s2 := g2.trans hf2
          have hz6 : z ≤ 6 := by omega
          have hG : GD KU (f 0) := by rw [hf0]; exact hGu
          clear ef g0 g2 g3
          have hWP : va_P D vwCl (all cA Ad (f, ((nI o), (nI z)), tx, rt)) H := hWP
          have hWD : va_D A (all cA Ad (f, ((nI o), (nI z)), tx, rt)) := hWD
          refine lv_iload hx hb dL_law_146 (lv_at hl 0 rfl) ?_
          refine lv_icmp_ne (tgt := 187) hx hb dL_law_148 (by decide) (fun h => absurd rfl h) (fun _ => ?_)
          refine lv_aload_n hx hb dL_law_151 rfl (lv_at hl 9 rfl) ?_
          refine mu_Sw (As := [.ref (Ad 10 0)]) (rest := []) ⟨hx, hb, hml, hown, hts⟩ (c_L_looks l D cA _ Ad f o z tx rt hWP (hWD.weaken (fun _ _ _ _ => trivial))) (cwS2 1 hts gL_law_L_looks rfl rfl rfl (by decide +kernel) ⟨Nat.le_of_ble_eq_true rfl, Nat.le_of_ble_eq_true rfl⟩) hKN hWP hWD hS hA (all_fst _ _ _ _) rfl hl.1 rfl (lv_room (Nat.le_of_ble_eq_true rfl)) dL_law_152 ⟨Nat.le_of_ble_eq_true rfl, Nat.le_of_ble_eq_true rfl⟩ (fun H locs hWP hWD hS => ?_)
          have hWP : va_P D vwCl (all cA Ad (f, ((nI o), (nI z)), tx, (rt.1, (lkW (f 0) rt.2 9)))) H := hWP
          have hWD : va_D A (all cA Ad (f, ((nI o), (nI z)), tx, (rt.1, (lkW (f 0) rt.2 9)))) := hWD
          refine lz_topL (v := (looksV u)) (by rw [hf0]) ?_
          obtain ⟨rt, er, gr⟩ := gR rt (lkW (f 0) rt.2 9)
          rw [er] at hWP hWD
          have hk : rt.1 0 = 1 := by rw [gr]; exact hk
          clear er gr
          have hWP : va_P D vwCl (all cA Ad (f, ((nI o), (nI z)), tx, rt)) H := hWP
          have hWD : va_D A (all cA Ad (f, ((nI o), (nI z)), tx, rt)) := hWD
          refine lv_lload hx hb dL_law_155 (lv_at hl 5 rfl) ?_
          refine W.lcmp hx hb dL_law_157 ?_
          refine lz_top (v := 0) (lg_cmp_self _) ?_
          refine lv_if_ne (tgt := 187) hx hb dL_law_158 (by decide) (fun h => absurd (by decide) h) (fun _ => ?_)
          refine lv_aload_n hx hb dL_law_161 rfl (lv_at hl 9 rfl) ?_
          refine lv_iload_n hx hb dL_law_162 rfl (lv_at hl 7 rfl) ?_
          refine lv_iload hx hb dL_law_163 (lv_at hl 6 rfl) ?_
          have hG2 : GD KU (f 2) := by rw [hf2]; exact hG2u
          have hl : lv_has ls 13 [(10, .long (looksV u1)), (9, .int 1), (8, .int ((actP u s2 x y).1)), (7, .int (nI z0)), (5, .long (looksV u)), (4, .int y), (3, .int x), (2, .int (nI k)), (1, .ref (Ad 10 0)), (0, .ref b)] := lv_sub hl [1, 2, 3, 4, 5, 6, 7, 8, 9, 10] rfl
          refine mu_Sw (As := [.ref (Ad 10 0), .int x, .int y]) (rest := []) ⟨hx, hb, hml, hown, hts⟩ (c_L_act l D cA _ Ad f o z tx rt ho hz6 KU hG hG2 hk x y hWP (hWD.weaken (fun _ _ _ _ => trivial))) (cwS2 3 hts gL_law_L_act rfl rfl rfl (by decide +kernel) ⟨Nat.le_of_ble_eq_true rfl, Nat.le_of_ble_eq_true rfl⟩) hKN hWP hWD hS hA (all_fst _ _ _ _) rfl hl.1 rfl (lv_room (Nat.le_of_ble_eq_true rfl)) dL_law_165 ⟨Nat.le_of_ble_eq_true rfl, Nat.le_of_ble_eq_true rfl⟩ (fun H locs hWP hWD hS => ?_)
          have hWP : va_P D vwCl (all cA Ad ((upS (pushF f ((o + z) % 6)) 0 ((actP (f 0) (f 2) x y).2)), ((nI (if z < 6 then o else (o + 1) % 6)), (nI (if z < 6 then z + 1 else z))), tx, rt)) H := hWP
          have hWD : va_D A (all cA Ad ((upS (pushF f ((o + z) % 6)) 0 ((actP (f 0) (f 2) x y).2)), ((nI (if z < 6 then o else (o + 1) % 6)), (nI (if z < 6 then z + 1 else z))), tx, rt)) := hWD
          refine lz_top (v := (actP u s2 x y).1) (by rw [hf0, hf2]) ?_
          obtain ⟨f, o, z, ef, eo, ez, g0, g2, g3, go, gz, hz1, gt, gq⟩ := gpush f ho hz6 (actP (f 0) (f 2) x y).2
          rw [ef, eo, ez] at hWP hWD
          have htop := gt.trans hf0
          have hf0 : f 0 = u1 := g0.trans (by rw [hf0, hf2]; exact hu1)
          have hf2 : f 2 = s2 := g2.trans hf2
          have ho := go
          have hz6 := gz
          clear ef eo ez g0 g2 g3 go gz gt
          have hWP : va_P D vwCl (all cA Ad (f, ((nI o), (nI z)), tx, rt)) H := hWP
          have hWD : va_D A (all cA Ad (f, ((nI o), (nI z)), tx, rt)) := hWD
          have hG : GD KK (f 0) := by rw [hf0]; exact hGu1
          refine lv_iload hx hb dL_law_168 (lv_at hl 2 rfl) ?_
          refine lv_icmp_ne (tgt := 187) hx hb dL_law_170 (by decide) (fun h => absurd rfl h) (fun _ => ?_)
          refine lv_aload_n hx hb dL_law_173 rfl (lv_at hl 8 rfl) ?_
          refine mu_Sw (As := [.ref (Ad 10 0)]) (rest := []) ⟨hx, hb, hml, hown, hts⟩ (c_L_looks l D cA _ Ad f o z tx rt hWP (hWD.weaken (fun _ _ _ _ => trivial))) (cwS2 1 hts gL_law_L_looks rfl rfl rfl (by decide +kernel) ⟨Nat.le_of_ble_eq_true rfl, Nat.le_of_ble_eq_true rfl⟩) hKN hWP hWD hS hA (all_fst _ _ _ _) rfl hl.1 rfl (lv_room (Nat.le_of_ble_eq_true rfl)) dL_law_174 ⟨Nat.le_of_ble_eq_true rfl, Nat.le_of_ble_eq_true rfl⟩ (fun H locs hWP hWD hS => ?_)
          have hWP : va_P D vwCl (all cA Ad (f, ((nI o), (nI z)), tx, (rt.1, (lkW (f 0) rt.2 9)))) H := hWP
          have hWD : va_D A (all cA Ad (f, ((nI o), (nI z)), tx, (rt.1, (lkW (f 0) rt.2 9)))) := hWD
          refine lz_topL (v := (looksV u1)) (by rw [hf0]) ?_
          obtain ⟨rt, er, gr⟩ := gR rt (lkW (f 0) rt.2 9)
          rw [er] at hWP hWD
          have hk : rt.1 0 = 1 := by rw [gr]; exact hk
          clear er gr
          have hWP : va_P D vwCl (all cA Ad (f, ((nI o), (nI z)), tx, rt)) H := hWP
          have hWD : va_D A (all cA Ad (f, ((nI o), (nI z)), tx, rt)) := hWD
          refine lv_lload hx hb dL_law_177 (lv_at hl 0 rfl) ?_
          refine W.lcmp hx hb dL_law_179 ?_
          refine lz_top (v := 0) (lg_cmp_self _) ?_
          refine lv_if_ne (tgt := 187) hx hb dL_law_180 (by decide) (fun h => absurd (by decide) h) (fun _ => ?_)
          refine lv_iconst (v := 1) hx hb dL_law_183 (by decide) ?_
          refine lv_goto (tgt := 188) hx hb dL_law_184 (by decide) ?_
          refine lv_istore (lv' := [(9, .int 1), (10, .long (looksV u1)), (8, .int ((actP u s2 x y).1)), (7, .int (nI z0)), (5, .long (looksV u)), (4, .int y), (3, .int x), (2, .int (nI k)), (1, .ref (Ad 10 0)), (0, .ref b)]) hx hb dL_law_188 hl (by decide) rfl (fun ls hl => ?_)
          exact hJ  f o z rt _ _ hf0 hf2 ho hz6 hk hWP hWD hS ls (lv_sub hl [0, 2, 3, 4, 5, 6, 7, 8, 9] rfl)
      refine hj_123 (fun  f o z rt H locs hf0 hf2 ho hz6 hk hWP hWD hS ls hl => ?_)
      have hG : GD KK (f 0) := by rw [hf0]; exact hGu1
      refine lv_aload_n hx hb dL_law_190 rfl (lv_at hl 7 rfl) ?_
      refine lv_iload hx hb dL_law_191 (lv_at hl 4 rfl) ?_
      refine lv_bipush (v := 16) hx hb dL_law_193 (by decide) ?_
      refine ro_S (As := [.int y, .int 16]) (rest := [.ref (Ad 10 0)]) ⟨hx, hb, hml, hown, hts⟩ (c_L_up l D cA _ y 16 (by decide) (by decide)) (cwS2 2 hts gL_law_L_up rfl rfl rfl (by decide +kernel) ⟨Nat.le_of_ble_eq_true rfl, Nat.le_of_ble_eq_true rfl⟩) hKN rfl hl.1 rfl (lv_room (Nat.le_of_ble_eq_true rfl)) dL_law_195 ⟨Nat.le_of_ble_eq_true rfl, Nat.le_of_ble_eq_true rfl⟩ ?_
      refine lv_iconst (v := 3) hx hb dL_law_198 (by decide) ?_
      refine ro_V (ci := 4) (q0 := 0) (As := [.int (nI (upN y 16)), .int 3]) (rest := []) ⟨hx, hb, hml, hown, hts⟩ (c_X4_threadOf l D cA _ Ad f o z tx rt (upN y 16) (by omega) 3 (by decide) hWP) (cwV 2 hts gL_law_X4_threadOf rfl rfl rfl (by decide +kernel) ⟨Nat.le_of_ble_eq_true rfl, Nat.le_of_ble_eq_true rfl⟩) hKN (lw_fP 10 (by decide) hWP : va_P D vwCl ((wLm cA Ad rt) ++ (rst cA Ad (f, ((nI o), (nI z)), tx, rt) 10)) H) rfl rfl rfl hl.1 rfl (lv_room (Nat.le_of_ble_eq_true rfl)) dL_law_199 ⟨Nat.le_of_ble_eq_true rfl, Nat.le_of_ble_eq_true rfl⟩ ?_
      refine lz_top (v := (tellsS (f 0) (upN y 16))) rfl ?_
      refine lz_top (v := (tellsS u1 (upN y 16))) (by rw [hf0]) ?_
      refine lv_istore (lv' := [(10, .int (tellsS u1 (upN y 16))), (9, .int 1), (8, .int ((actP u s2 x y).1)), (7, .int (nI z0)), (5, .long (looksV u)), (4, .int y), (3, .int x), (2, .int (nI k)), (1, .ref (Ad 10 0)), (0, .ref b)]) hx hb dL_law_202 hl (by decide) rfl (fun ls hl => ?_)
      refine lv_iload hx hb dL_law_204 (lv_at hl 1 rfl) ?_
      refine lv_if_eq (tgt := 278) hx hb dL_law_206 (by decide) (fun h => absurd h (by decide)) (fun _ => ?_)
      refine lv_aload_n hx hb dL_law_209 rfl (lv_at hl 8 rfl) ?_
      refine lv_iload hx hb dL_law_210 (lv_at hl 5 rfl) ?_
      refine lv_iconst (v := 5) hx hb dL_law_212 (by decide) ?_
      refine lv_ishr hx hb dL_law_213 ?_
      refine lv_bipush (v := 16) hx hb dL_law_214 (by decide) ?_
      refine ro_S (As := [.int (y >>> (5 &&& 31)), .int 16]) (rest := [.ref (Ad 10 0)]) ⟨hx, hb, hml, hown, hts⟩ (c_L_up l D cA _ (y >>> (5 &&& 31)) 16 (by decide) (by decide)) (cwS2 2 hts gL_law_L_up rfl rfl rfl (by decide +kernel) ⟨Nat.le_of_ble_eq_true rfl, Nat.le_of_ble_eq_true rfl⟩) hKN rfl hl.1 rfl (lv_room (Nat.le_of_ble_eq_true rfl)) dL_law_216 ⟨Nat.le_of_ble_eq_true rfl, Nat.le_of_ble_eq_true rfl⟩ ?_
      have hts9 : upN (y >>> (5 &&& 31)) 16 < 16 := upN_lt _ (by decide)
      refine ro_S (As := [.ref (Ad 10 0), .int (nI (upN (y >>> (5 &&& 31)) 16))]) (rest := []) ⟨hx, hb, hml, hown, hts⟩ (c_L_isStrong l D cA _ Ad f o z tx rt (upN (y >>> (5 &&& 31)) 16) (by omega) KK hG hWP) (cwS2 2 hts gL_law_L_isStrong rfl rfl rfl (by decide +kernel) ⟨Nat.le_of_ble_eq_true rfl, Nat.le_of_ble_eq_true rfl⟩) hKN rfl hl.1 rfl (lv_room (Nat.le_of_ble_eq_true rfl)) dL_law_219 ⟨Nat.le_of_ble_eq_true rfl, Nat.le_of_ble_eq_true rfl⟩ ?_
      refine lv_if_eq (tgt := 278) hx hb dL_law_222 (by decide) (fun h => absurd h (by decide)) (fun _ => ?_)
      refine lv_iload_n hx hb dL_law_225 rfl (lv_at hl 7 rfl) ?_
      refine lv_iconst (v := 4) hx hb dL_law_226 (by decide) ?_
      refine lz_irem (v := (remF (nI k) 4)) hx hb dL_law_227 (by decide) rfl ?_
      refine lv_iconst (v := 1) hx hb dL_law_228 (by decide) ?_
      have hj_229 : (∀ (f : Nat → SV) (o z : Nat) (rt : (Nat → Int32) × (Nat → Int32)) (H : Heap) (locs : List Loc), f 0 = u1 → f 2 = s2 → o < 6 → z ≤ 6 → rt.1 0 = 1 → va_P D vwCl (all cA Ad (f, ((nI o), (nI z)), tx, rt)) H → va_D A (all cA Ad (f, ((nI o), (nI z)), tx, rt)) → va_S A s.heap H locs → ∀ (ls : Array Slot), lv_has ls 13 [(10, .int (tellsS u1 (upN y 16))), (9, .int 1), (8, .int ((actP u s2 x y).1)), (7, .int (nI z0)), (5, .long (looksV u)), (4, .int y), (3, .int x), (2, .int (nI k)), (1, .ref (Ad 10 0)), (0, .ref b)] → W p l e room_1 s m #[Value.ref b] below meth c H locs 1000 5000 (lw_Z below #[Value.ref b] s) (F0 m 239 ls [])) → W p l e room_1 s m #[Value.ref b] below meth c H locs 1000 5000 (lw_Z below #[Value.ref b] s) (F0 m 229 ls [.int 1, .int (remF (nI k) 4)]) := by
        intro hJ
        refine lv_icmp_ne (tgt := 239) hx hb dL_law_229 (by decide) (fun c_229 => ?_) (fun c_229 => ?_)
        · exact hJ  f o z rt _ _ hf0 hf2 ho hz6 hk hWP hWD hS ls (lv_sub hl [0, 1, 2, 3, 4, 5, 6, 7, 8, 9] rfl)
        · refine lv_aload_n hx hb dL_law_232 rfl (lv_at hl 8 rfl) ?_
          refine mu_Sw (As := [.ref (Ad 10 0)]) (rest := []) ⟨hx, hb, hml, hown, hts⟩ (c_L_holds l D cA _ Ad f o z tx rt KK (by omega) hG hWP (hWD.weaken (fun _ _ _ _ => trivial))) (cwS2 1 hts gL_law_L_holds rfl rfl rfl (by decide +kernel) ⟨Nat.le_of_ble_eq_true rfl, Nat.le_of_ble_eq_true rfl⟩) hKN hWP hWD hS hA (all_fst _ _ _ _) rfl hl.1 rfl (lv_room (Nat.le_of_ble_eq_true rfl)) dL_law_233 ⟨Nat.le_of_ble_eq_true rfl, Nat.le_of_ble_eq_true rfl⟩ (fun H locs hWP hWD hS => ?_)
          have hWP : va_P D vwCl (all cA Ad (f, ((nI o), (nI z)), tx, (rt.1, (wtT (f 0) rt.2 16)))) H := hWP
          have hWD : va_D A (all cA Ad (f, ((nI o), (nI z)), tx, (rt.1, (wtT (f 0) rt.2 16)))) := hWD
          obtain ⟨rt, er, gr⟩ := gR rt (wtT (f 0) rt.2 16)
          rw [er] at hWP hWD
          have hk : rt.1 0 = 1 := by rw [gr]; exact hk
          clear er gr
          have hWP : va_P D vwCl (all cA Ad (f, ((nI o), (nI z)), tx, rt)) H := hWP
          have hWD : va_D A (all cA Ad (f, ((nI o), (nI z)), tx, rt)) := hWD
          refine lv_if_eq (tgt := 278) hx hb dL_law_236 (by decide) (fun h => absurd h (by decide)) (fun _ => ?_)
          exact hJ  f o z rt _ _ hf0 hf2 ho hz6 hk hWP hWD hS ls (lv_sub hl [0, 1, 2, 3, 4, 5, 6, 7, 8, 9] rfl)
      refine hj_229 (fun  f o z rt H locs hf0 hf2 ho hz6 hk hWP hWD hS ls hl => ?_)
      have hG : GD KK (f 0) := by rw [hf0]; exact hGu1
      refine lv_iload_n hx hb dL_law_239 rfl (lv_at hl 7 rfl) ?_
      refine lv_bipush (v := 8) hx hb dL_law_240 (by decide) ?_
      refine lz_irem (v := (remF (nI k) 8)) hx hb dL_law_242 (by decide) rfl ?_
      refine lv_iconst (v := 5) hx hb dL_law_243 (by decide) ?_
      have hj_244 : (∀ (f : Nat → SV) (o z : Nat) (rt : (Nat → Int32) × (Nat → Int32)) (H : Heap) (locs : List Loc), f 0 = u1 → f 2 = s2 → o < 6 → z ≤ 6 → rt.1 0 = 1 → va_P D vwCl (all cA Ad (f, ((nI o), (nI z)), tx, rt)) H → va_D A (all cA Ad (f, ((nI o), (nI z)), tx, rt)) → va_S A s.heap H locs → ∀ (ls : Array Slot), lv_has ls 13 [(10, .int (tellsS u1 (upN y 16))), (9, .int 1), (8, .int ((actP u s2 x y).1)), (7, .int (nI z0)), (5, .long (looksV u)), (4, .int y), (3, .int x), (2, .int (nI k)), (1, .ref (Ad 10 0)), (0, .ref b)] → W p l e room_1 s m #[Value.ref b] below meth c H locs 1000 5000 (lw_Z below #[Value.ref b] s) (F0 m 274 ls [])) → W p l e room_1 s m #[Value.ref b] below meth c H locs 1000 5000 (lw_Z below #[Value.ref b] s) (F0 m 244 ls [.int 5, .int (remF (nI k) 8)]) := by
        intro hJ
        refine lv_icmp_ne (tgt := 274) hx hb dL_law_244 (by decide) (fun c_244 => ?_) (fun c_244 => ?_)
        · exact hJ  f o z rt _ _ hf0 hf2 ho hz6 hk hWP hWD hS ls (lv_sub hl [0, 1, 2, 3, 4, 5, 6, 7, 8, 9] rfl)
        · refine lv_aload_n hx hb dL_law_247 rfl (lv_at hl 8 rfl) ?_
          refine lv_iload_n hx hb dL_law_248 rfl (lv_at hl 6 rfl) ?_
          refine lv_bipush (v := 9) hx hb dL_law_249 (by decide) ?_
          refine lv_ishr hx hb dL_law_251 ?_
          refine lv_bipush (v := 16) hx hb dL_law_252 (by decide) ?_
          refine ro_S (As := [.int (x >>> (9 &&& 31)), .int 16]) (rest := [.ref (Ad 10 0)]) ⟨hx, hb, hml, hown, hts⟩ (c_L_up l D cA _ (x >>> (9 &&& 31)) 16 (by decide) (by decide)) (cwS2 2 hts gL_law_L_up rfl rfl rfl (by decide +kernel) ⟨Nat.le_of_ble_eq_true rfl, Nat.le_of_ble_eq_true rfl⟩) hKN rfl hl.1 rfl (lv_room (Nat.le_of_ble_eq_true rfl)) dL_law_254 ⟨Nat.le_of_ble_eq_true rfl, Nat.le_of_ble_eq_true rfl⟩ ?_
          refine lv_iconst (v := 1) hx hb dL_law_257 (by decide) ?_
          refine lv_iload_n hx hb dL_law_258 rfl (lv_at hl 6 rfl) ?_
          refine lv_bipush (v := 13) hx hb dL_law_259 (by decide) ?_
          refine lv_ishr hx hb dL_law_261 ?_
          refine lv_bipush (v := 20) hx hb dL_law_262 (by decide) ?_
          refine ro_S (As := [.int (x >>> (13 &&& 31)), .int 20]) (rest := [.int 1, .int (nI (upN (x >>> (9 &&& 31)) 16)), .ref (Ad 10 0)]) ⟨hx, hb, hml, hown, hts⟩ (c_L_up l D cA _ (x >>> (13 &&& 31)) 20 (by decide) (by decide)) (cwS2 2 hts gL_law_L_up rfl rfl rfl (by decide +kernel) ⟨Nat.le_of_ble_eq_true rfl, Nat.le_of_ble_eq_true rfl⟩) hKN rfl hl.1 rfl (lv_room (Nat.le_of_ble_eq_true rfl)) dL_law_264 ⟨Nat.le_of_ble_eq_true rfl, Nat.le_of_ble_eq_true rfl⟩ ?_
          refine lz_iadd (v := (nI (1 + (upN (x >>> (13 &&& 31)) 20)))) hx hb dL_law_267 (nI_add _ _) ?_
          have h99 : upN (x >>> (9 &&& 31)) 16 < 16 := upN_lt _ (by decide)
          have h98 : upN (x >>> (13 &&& 31)) 20 < 20 := upN_lt _ (by decide)
          refine me_S (As := [.ref (Ad 10 0), .int (nI (upN (x >>> (9 &&& 31)) 16)), .int (nI (1 + (upN (x >>> (13 &&& 31)) 20)))]) (rest := []) ⟨hx, hb, hml, hown, hts⟩ (c_L_isAhead l D cA _ Ad f o z tx rt ho hz6 KK u1 s2 hf0 hf2 hGu1 hk (upN (x >>> (9 &&& 31)) 16) (by omega) (1 + (upN (x >>> (13 &&& 31)) 20)) (by omega) (by omega) hWP (hWD.weaken (fun _ _ _ _ => trivial))) (cwS2 3 hts gL_law_L_isAhead rfl rfl rfl (by decide +kernel) ⟨Nat.le_of_ble_eq_true rfl, Nat.le_of_ble_eq_true rfl⟩) hKN hWD hS hA rfl hl.1 rfl (lv_room (Nat.le_of_ble_eq_true rfl)) dL_law_268 ⟨Nat.le_of_ble_eq_true rfl, Nat.le_of_ble_eq_true rfl⟩ (fun S9 H locs hPS hWP hWD hS => ?_)
          obtain ⟨f, o, z, rt, rfl, hf0, hf2, ho, hz6, hk⟩ := hPS
          have hWP : va_P D vwCl (all cA Ad (f, ((nI o), (nI z)), tx, rt)) H := hWP
          have hWD : va_D A (all cA Ad (f, ((nI o), (nI z)), tx, rt)) := hWD
          have hG : GD KK (f 0) := by rw [hf0]; exact hGu1
          refine lv_if_eq (tgt := 278) hx hb dL_law_271 (by decide) (fun h => absurd h (by decide)) (fun _ => ?_)
          exact hJ  f o z rt _ _ hf0 hf2 ho hz6 hk hWP hWD hS ls (lv_sub hl [0, 1, 2, 3, 4, 5, 6, 7, 8, 9] rfl)
      refine hj_244 (fun  f o z rt H locs hf0 hf2 ho hz6 hk hWP hWD hS ls hl => ?_)
      have hG : GD KK (f 0) := by rw [hf0]; exact hGu1
      refine lv_iconst (v := 1) hx hb dL_law_274 (by decide) ?_
      refine lv_goto (tgt := 279) hx hb dL_law_275 (by decide) ?_
      refine lv_istore (lv' := [(9, .int 1), (10, .int (tellsS u1 (upN y 16))), (8, .int ((actP u s2 x y).1)), (7, .int (nI z0)), (5, .long (looksV u)), (4, .int y), (3, .int x), (2, .int (nI k)), (1, .ref (Ad 10 0)), (0, .ref b)]) hx hb dL_law_279 hl (by decide) rfl (fun ls hl => ?_)
      refine lv_iload hx hb dL_law_281 (lv_at hl 0 rfl) ?_
      refine lv_if_eq (tgt := 328) hx hb dL_law_283 (by decide) (fun h => absurd h (by decide)) (fun _ => ?_)
      refine lv_aload_n hx hb dL_law_286 rfl (lv_at hl 8 rfl) ?_
      refine lv_iload hx hb dL_law_287 (lv_at hl 5 rfl) ?_
      refine lv_bipush (v := 16) hx hb dL_law_289 (by decide) ?_
      refine ro_S (As := [.int y, .int 16]) (rest := [.ref (Ad 10 0)]) ⟨hx, hb, hml, hown, hts⟩ (c_L_up l D cA _ y 16 (by decide) (by decide)) (cwS2 2 hts gL_law_L_up rfl rfl rfl (by decide +kernel) ⟨Nat.le_of_ble_eq_true rfl, Nat.le_of_ble_eq_true rfl⟩) hKN rfl hl.1 rfl (lv_room (Nat.le_of_ble_eq_true rfl)) dL_law_291 ⟨Nat.le_of_ble_eq_true rfl, Nat.le_of_ble_eq_true rfl⟩ ?_
      refine mu_Vw (ci := 4) (q0 := 0) (As := [.int (nI (upN y 16))]) (rest := []) ⟨hx, hb, hml, hown, hts⟩ (c_X4_guard l D cA _ Ad f o z tx rt ho hz6 hG.ru (upN y 16) (by omega) hWP (hWD.weaken (fun _ _ _ _ => trivial))) (cwV 1 hts gL_law_X4_guard rfl rfl rfl (by decide +kernel) ⟨Nat.le_of_ble_eq_true rfl, Nat.le_of_ble_eq_true rfl⟩) hKN hWP hWD hS hA (lw_fP 10 (by decide) hWP : va_P D vwCl ((wLm cA Ad rt) ++ (rst cA Ad (f, ((nI o), (nI z)), tx, rt) 10)) H) rfl rfl (all_fst _ _ _ _) rfl hl.1 rfl (lv_room (Nat.le_of_ble_eq_true rfl)) dL_law_294 ⟨Nat.le_of_ble_eq_true rfl, Nat.le_of_ble_eq_true rfl⟩ (fun H locs hWP hWD hS => ?_)
      have hWP : va_P D vwCl (all cA Ad ((upS (pushF f ((o + z) % 6)) 0 (setGd (f 0) ((f 0).2.2.2.2.1 ^^^ ((1 : Int32) <<< (nI (upN y 16) &&& 31))))), ((nI (if z < 6 then o else (o + 1) % 6)), (nI (if z < 6 then z + 1 else z))), tx, rt)) H := hWP
      have hWD : va_D A (all cA Ad ((upS (pushF f ((o + z) % 6)) 0 (setGd (f 0) ((f 0).2.2.2.2.1 ^^^ ((1 : Int32) <<< (nI (upN y 16) &&& 31))))), ((nI (if z < 6 then o else (o + 1) % 6)), (nI (if z < 6 then z + 1 else z))), tx, rt)) := hWD
      refine lz_top (v := (bitF ((f 0).2.2.2.2.1 ^^^ ((1 : Int32) <<< (nI (upN y 16) &&& 31))) (nI (upN y 16)))) rfl ?_
      obtain ⟨f, o, z, ef, eo, ez, g0, g2, g3, go, gz, hz1, gt, gq⟩ := gpush f ho hz6 (setGd (f 0) ((f 0).2.2.2.2.1 ^^^ ((1 : Int32) <<< (nI (upN y 16) &&& 31))))
      rw [ef, eo, ez] at hWP hWD
      have htop := gt.trans hf0
      have hf0 : f 0 = setGd u1 (u1.2.2.2.2.1 ^^^ ((1 : Int32) <<< (nI (upN y 16) &&& 31))) := g0.trans (by rw [hf0])
      have hf2 : f 2 = s2 := g2.trans hf2
      have ho := go
      have hz6 := gz
      clear ef eo ez g0 g2 g3 go gz gt
      have hWP : va_P D vwCl (all cA Ad (f, ((nI o), (nI z)), tx, rt)) H := hWP
      have hWD : va_D A (all cA Ad (f, ((nI o), (nI z)), tx, rt)) := hWD
      have hG : GD KK (f 0) := by rw [hf0]; exact (GD_gd hGu1 (M16_xor hGu1.2.2.2.2.1 (M16_1shl ht16)))
      refine lv_if_lt (tgt := 328) hx hb dL_law_297 (by decide) (fun h => absurd h (bit_n0 _ (by omega))) (fun _ => ?_)
      refine lv_aload_n hx hb dL_law_300 rfl (lv_at hl 8 rfl) ?_
      refine lv_iload hx hb dL_law_301 (lv_at hl 5 rfl) ?_
      refine lv_bipush (v := 16) hx hb dL_law_303 (by decide) ?_
      refine ro_S (As := [.int y, .int 16]) (rest := [.ref (Ad 10 0)]) ⟨hx, hb, hml, hown, hts⟩ (c_L_up l D cA _ y 16 (by decide) (by decide)) (cwS2 2 hts gL_law_L_up rfl rfl rfl (by decide +kernel) ⟨Nat.le_of_ble_eq_true rfl, Nat.le_of_ble_eq_true rfl⟩) hKN rfl hl.1 rfl (lv_room (Nat.le_of_ble_eq_true rfl)) dL_law_305 ⟨Nat.le_of_ble_eq_true rfl, Nat.le_of_ble_eq_true rfl⟩ ?_
      refine lv_iconst (v := 3) hx hb dL_law_308 (by decide) ?_
      refine ro_V (ci := 4) (q0 := 0) (As := [.int (nI (upN y 16)), .int 3]) (rest := []) ⟨hx, hb, hml, hown, hts⟩ (c_X4_threadOf l D cA _ Ad f o z tx rt (upN y 16) (by omega) 3 (by decide) hWP) (cwV 2 hts gL_law_X4_threadOf rfl rfl rfl (by decide +kernel) ⟨Nat.le_of_ble_eq_true rfl, Nat.le_of_ble_eq_true rfl⟩) hKN (lw_fP 10 (by decide) hWP : va_P D vwCl ((wLm cA Ad rt) ++ (rst cA Ad (f, ((nI o), (nI z)), tx, rt) 10)) H) rfl rfl rfl hl.1 rfl (lv_room (Nat.le_of_ble_eq_true rfl)) dL_law_309 ⟨Nat.le_of_ble_eq_true rfl, Nat.le_of_ble_eq_true rfl⟩ ?_
      refine lz_top (v := (tellsS (f 0) (upN y 16))) rfl ?_
      refine lz_top (v := (tellsS u1 (upN y 16))) (by rw [hf0]; exact tells_guard u1 ht16) ?_
      refine lv_iload hx hb dL_law_312 (lv_at hl 1 rfl) ?_
      refine lv_icmp_ne (tgt := 328) hx hb dL_law_314 (by decide) (fun h => absurd rfl h) (fun _ => ?_)
      refine lv_aload_n hx hb dL_law_317 rfl (lv_at hl 8 rfl) ?_
      obtain ⟨z, rfl⟩ : ∃ w, z = w + 1 := ⟨z - 1, by omega⟩
      rw [Nat.add_sub_cancel] at htop
      have hWP : va_P D vwCl (all cA Ad (f, ((nI o), (nI (z + 1))), tx, rt)) H := hWP
      have hWD : va_D A (all cA Ad (f, ((nI o), (nI (z + 1))), tx, rt)) := hWD
      refine mu_Vw (ci := 4) (q0 := 0) (As := []) (rest := []) ⟨hx, hb, hml, hown, hts⟩ (c_X4_undo l D cA _ Ad f o z tx rt ho (by omega) (by rw [htop]; exact hGu1.ru) hWP (hWD.weaken (fun _ _ _ _ => trivial))) (cwV 0 hts gL_law_X4_undo rfl rfl rfl (by decide +kernel) ⟨Nat.le_of_ble_eq_true rfl, Nat.le_of_ble_eq_true rfl⟩) hKN hWP hWD hS hA (lw_fP 10 (by decide) hWP : va_P D vwCl ((wLm cA Ad rt) ++ (rst cA Ad (f, ((nI o), (nI (z + 1))), tx, rt) 10)) H) rfl rfl (all_fst _ _ _ _) rfl hl.1 rfl (lv_room (Nat.le_of_ble_eq_true rfl)) dL_law_318 ⟨Nat.le_of_ble_eq_true rfl, Nat.le_of_ble_eq_true rfl⟩ (fun H locs hWP hWD hS => ?_)
      have hWP : va_P D vwCl (all cA Ad ((upS f 0 (f (4 + (o + z) % 6))), ((nI o), (nI z)), tx, rt)) H := hWP
      have hWD : va_D A (all cA Ad ((upS f 0 (f (4 + (o + z) % 6))), ((nI o), (nI z)), tx, rt)) := hWD
      refine lz_top (v := (nI z)) rfl ?_
      obtain ⟨f, ef, g0, g2, g3⟩ := gU f (4 + (o + z) % 6)
      rw [ef] at hWP hWD
      have hf0 : f 0 = u1 := g0.trans htop
      have hf2 : f 2 = s2 := g2.trans hf2
      have hz6 : z ≤ 6 := by omega
      have hG : GD KK (f 0) := by rw [hf0]; exact hGu1
      clear ef g0 g2 g3
      have hWP : va_P D vwCl (all cA Ad (f, ((nI o), (nI z)), tx, rt)) H := hWP
      have hWD : va_D A (all cA Ad (f, ((nI o), (nI z)), tx, rt)) := hWD
      refine lv_if_lt (tgt := 328) hx hb dL_law_321 (by decide) (fun h => absurd h (nI_pos (by omega))) (fun _ => ?_)
      refine lv_iconst (v := 1) hx hb dL_law_324 (by decide) ?_
      refine lv_goto (tgt := 329) hx hb dL_law_325 (by decide) ?_
      refine lv_istore (lv' := [(9, .int 1), (10, .int (tellsS u1 (upN y 16))), (8, .int ((actP u s2 x y).1)), (7, .int (nI z0)), (5, .long (looksV u)), (4, .int y), (3, .int x), (2, .int (nI k)), (1, .ref (Ad 10 0)), (0, .ref b)]) hx hb dL_law_329 hl (by decide) rfl (fun ls hl => ?_)
      refine lv_iload hx hb dL_law_331 (lv_at hl 0 rfl) ?_
      refine lv_if_eq (tgt := 361) hx hb dL_law_333 (by decide) (fun h => absurd h (by decide)) (fun _ => ?_)
      refine lv_iload_n hx hb dL_law_336 rfl (lv_at hl 7 rfl) ?_
      refine lv_bipush (v := 9) hx hb dL_law_337 (by decide) ?_
      refine lz_irem (v := (remF (nI k) 9)) hx hb dL_law_339 (by decide) rfl ?_
      refine lv_iconst (v := 4) hx hb dL_law_340 (by decide) ?_
      have hj_341 : (∀ (s3 : SV), GD KK s3 → ∀ (f : Nat → SV) (o z : Nat) (rt : (Nat → Int32) × (Nat → Int32)) (H : Heap) (locs : List Loc), f 0 = u1 → f 2 = s3 → o < 6 → z ≤ 6 → rt.1 0 = 1 → va_P D vwCl (all cA Ad (f, ((nI o), (nI z)), tx, rt)) H → va_D A (all cA Ad (f, ((nI o), (nI z)), tx, rt)) → va_S A s.heap H locs → ∀ (ls : Array Slot), lv_has ls 13 [(2, .int (nI k)), (1, .ref (Ad 10 0)), (0, .ref b)] → W p l e room_1 s m #[Value.ref b] below meth c H locs 1000 5000 (lw_Z below #[Value.ref b] s) (F0 m 357 ls [])) → W p l e room_1 s m #[Value.ref b] below meth c H locs 1000 5000 (lw_Z below #[Value.ref b] s) (F0 m 341 ls [.int 4, .int (remF (nI k) 9)]) := by
        intro hJ
        refine lv_icmp_ne (tgt := 357) hx hb dL_law_341 (by decide) (fun c_341 => ?_) (fun c_341 => ?_)
        · exact hJ s2 (hG2u.mono (by omega)) f o z rt _ _ hf0 hf2 ho hz6 hk hWP hWD hS ls (lv_sub hl [7, 8, 9] rfl)
        · refine lv_aload_n hx hb dL_law_344 rfl (lv_at hl 8 rfl) ?_
          refine lv_iconst (v := 0) hx hb dL_law_345 (by decide) ?_
          refine mu_Vw (ci := 4) (q0 := 0) (As := [.int 0]) (rest := []) ⟨hx, hb, hml, hown, hts⟩ (c_X4_keep0 l D cA _ Ad f o z tx rt hG.ru hWP (hWD.weaken (fun _ _ _ _ => trivial))) (cwV 1 hts gL_law_X4_keep rfl rfl rfl (by decide +kernel) ⟨Nat.le_of_ble_eq_true rfl, Nat.le_of_ble_eq_true rfl⟩) hKN hWP hWD hS hA (lw_fP 10 (by decide) hWP : va_P D vwCl ((wLm cA Ad rt) ++ (rst cA Ad (f, ((nI o), (nI z)), tx, rt) 10)) H) rfl rfl (all_fst _ _ _ _) rfl hl.1 rfl (lv_room (Nat.le_of_ble_eq_true rfl)) dL_law_346 ⟨Nat.le_of_ble_eq_true rfl, Nat.le_of_ble_eq_true rfl⟩ (fun H locs hWP hWD hS => ?_)
          have hWP : va_P D vwCl (all cA Ad ((upS f 2 (f 0)), ((nI o), (nI z)), tx, ((upd rt.1 0 1), rt.2))) H := hWP
          have hWD : va_D A (all cA Ad ((upS f 2 (f 0)), ((nI o), (nI z)), tx, ((upd rt.1 0 1), rt.2))) := hWD
          refine lz_top (v := (cbtT (f 0) 16)) rfl ?_
          refine lz_top (v := (cbtT u1 16)) (by rw [hf0]) ?_
          obtain ⟨f, ef, g0, g2⟩ := gS2 f
          obtain ⟨rt, er, gr1, gr0⟩ := gK rt 0
          rw [ef, er] at hWP hWD
          have hG : GD KK (f 0) := by rw [g0]; exact hG
          have hf2 : f 2 = u1 := g2.trans hf0
          have hf0 : f 0 = u1 := g0.trans hf0
          have hk : rt.1 0 = 1 := gr1
          clear ef er g0 g2 gr0 gr1
          have hWP : va_P D vwCl (all cA Ad (f, ((nI o), (nI z)), tx, rt)) H := hWP
          have hWD : va_D A (all cA Ad (f, ((nI o), (nI z)), tx, rt)) := hWD
          refine lv_aload_n hx hb dL_law_349 rfl (lv_at hl 8 rfl) ?_
          refine lv_iconst (v := 0) hx hb dL_law_350 (by decide) ?_
          refine mu_Vw (ci := 4) (q0 := 0) (As := [.int 0]) (rest := [.int (cbtT u1 16)]) ⟨hx, hb, hml, hown, hts⟩ (c_X4_count l D cA _ Ad f o z tx rt 0 (by decide) hWP (hWD.weaken (fun _ _ _ _ => trivial))) (cwV 1 hts gL_law_X4_count rfl rfl rfl (by decide +kernel) ⟨Nat.le_of_ble_eq_true rfl, Nat.le_of_ble_eq_true rfl⟩) hKN hWP hWD hS hA (lw_fP 10 (by decide) hWP : va_P D vwCl ((wLm cA Ad rt) ++ (rst cA Ad (f, ((nI o), (nI z)), tx, rt) 10)) H) rfl rfl (all_fst _ _ _ _) rfl hl.1 rfl (lv_room (Nat.le_of_ble_eq_true rfl)) dL_law_351 ⟨Nat.le_of_ble_eq_true rfl, Nat.le_of_ble_eq_true rfl⟩ (fun H locs hWP hWD hS => ?_)
          have hWP : va_P D vwCl (all cA Ad (f, ((nI o), (nI z)), tx, rt)) H := hWP
          have hWD : va_D A (all cA Ad (f, ((nI o), (nI z)), tx, rt)) := hWD
          refine lz_top (v := (cbtT (f 0) 16)) rfl ?_
          refine lz_top (v := (cbtT u1 16)) (by rw [hf0]) ?_
          refine lv_icmp_ne (tgt := 361) hx hb dL_law_354 (by decide) (fun h => absurd rfl h) (fun _ => ?_)
          exact hJ u1 hGu1 f o z rt _ _ hf0 hf2 ho hz6 hk hWP hWD hS ls (lv_sub hl [7, 8, 9] rfl)
      refine hj_341 (fun s3 hG3 f o z rt H locs hf0 hf2 ho hz6 hk hWP hWD hS ls hl => ?_)
      have hG : GD KK (f 0) := by rw [hf0]; exact hGu1
      refine lv_iconst (v := 1) hx hb dL_law_357 (by decide) ?_
      refine lv_goto (tgt := 362) hx hb dL_law_358 (by decide) ?_
      refine lv_istore (lv' := [(9, .int 1), (2, .int (nI k)), (1, .ref (Ad 10 0)), (0, .ref b)]) hx hb dL_law_362 hl (by decide) rfl (fun ls hl => ?_)
      refine lv_iload hx hb dL_law_364 (lv_at hl 0 rfl) ?_
      refine lv_if_ne (tgt := 371) hx hb dL_law_366 (by decide) (fun _ => ?_) (fun h => absurd h (by decide))
      refine lv_iinc (v := (nI (k + 1))) (lv' := [(2, .int (nI (k + 1))), (9, .int 1), (1, .ref (Ad 10 0)), (0, .ref b)]) hx hb dL_law_371 hl (k := 1) rfl (nI_1 _) (by decide) rfl (fun ls hl => ?_)
      refine lv_goto (tgt := 27) hx hb dL_law_374 (by decide) ?_
      exact ih (k + 1) (by omega) u1 s3 (by rw [← eKK]; exact hGu1) (by rw [← eKK]; exact hG3) f o z rt H locs hf0 hf2 ho hz6 hk hWP hWD hS ls (lv_sub hl [0, 2, 3] rfl)
  exact loop27 32 0 (by omega) initS initS GD_init GD_init f o z rt _ _ hf0 hf2 ho hz6 hk hWP hWD hS ls (lv_sub hl [0, 1, 2] rfl)
set_option maxHeartbeats 8000000 in
set_option maxRecDepth 100000 in
theorem whole_start {p : Program} {e : Env} {s : State} {m : MethodId} {below : List Frame} {meth : Method} {c : Code} (l : Launch) (hflags : l.flags = flags0) {b L : Nat} {xs : Nat → Int32} (hL : L ≤ 260) (C0 : lw_At p s m meth c b L xs) : W p l e room_1 s m #[Value.ref b] below meth c s.heap [] 0 0 (lw_Z below #[Value.ref b] s) (entryFrame m ([Value.ref b] : List Value).toArray 13) := by
  obtain ⟨hx, hb, hr, hml, hown0, htsT, hX, hbl, hlocks, hgv⟩ := id C0
  have hown : s.vm.findClass RL = some m.cls := hown0
  have hb : c.code = cL_law := hb
  have hT : ∀ w ∈ tables_1, w.before #[Value.ref b] s = true := fun w h => htsT w (List.mem_append_right _ h)
  have hts : ∀ w ∈ wsL_law, w.before #[Value.ref b] s = true := fun w h => htsT w (wsL_law_in w h)
  obtain ⟨D, cA, hKN, hKC⟩ := lf_K htsT
  have hK := hKN.1
  obtain ⟨A0, hA0⟩ : ∃ A0 : Nat → Prop, A0 = fun q => s.heap.size ≤ q := ⟨_, rfl⟩
  have hA : ∀ q : Nat, s.heap.size ≤ q → A0 q := fun q h => by rw [hA0]; exact h
  have hbA : ¬ A0 b := by rw [hA0]; exact Nat.not_le.mpr hbl
  have hS : va_S A0 s.heap s.heap [] := va_S.rf
  have hP : va_P D vwCl ([] : va_W) s.heap := fun k q h => by simp at h
  have hD : va_D A0 ([] : va_W) := ⟨fun i j p q h => by simp at h, fun k q h => by simp at h⟩
  have hl := lv_entry ([.ref b] : List Value) (n := 13) (Nat.le_of_ble_eq_true rfl)
  rw [lg_entry_eq]
  generalize (lg_sl ([.ref b] : List Value) ++ List.replicate (13 - (lg_sl ([.ref b] : List Value)).length) Slot.unset).toArray = ls at hl ⊢
  have hl : lv_has ls 13 [(0, .ref b)] := hl
  refine va_new (ci := 4) (fs := [.null, .null, .null, .null, .null, .null, .null]) (C := RX4) (T := TX4) (N := 7) hx hb htsT inX4 tyX4 tyX4_ok hown (hT _ (List.mem_of_getElem? (i := 15) (by decide +kernel))) (hT _ (List.mem_of_getElem? (i := 16) (by decide +kernel))) (hT _ (List.mem_of_getElem? (i := 1) (by decide +kernel))) hK hP hD hS hA rfl (fun j hj => by rcases (show j = 0 ∨ j = 1 ∨ j = 2 ∨ j = 3 ∨ j = 4 ∨ j = 5 ∨ j = 6 by omega) with rfl | rfl | rfl | rfl | rfl | rfl | rfl <;> rfl) (Nat.le_of_ble_eq_true rfl) (Nat.le_of_ble_eq_true rfl) dL_law_0 (fun q1 H hP hD hS => ?_)
  have hP : va_P D vwCl ([(q1, .inr (4, [.null, .null, .null, .null, .null, .null, .null]))] ++ []) H := hP
  have hD : va_D A0 ([(q1, .inr (4, [.null, .null, .null, .null, .null, .null, .null]))] ++ []) := hD
  refine lv_dup hx hb dL_law_3 rfl ?_
  refine mk_I (As := []) (rest := [.ref q1]) ⟨hx, hb, hml, hown, hts⟩ (c_X4_init l D cA _ q1 (va_P_l hP) (va_D_l hD)) (cwI 0 hts gL_law_X4_init rfl rfl rfl (hT _ (List.mem_of_getElem? (i := 1) (by decide +kernel))) (hT _ (List.mem_of_getElem? (i := 17) (by decide +kernel))) (hT _ (List.mem_of_getElem? (i := 18) (by decide +kernel))) rfl (by decide +kernel) ⟨Nat.le_of_ble_eq_true rfl, Nat.le_of_ble_eq_true rfl⟩) hKN hKC hP hD hS hA rfl hl.1 rfl (lv_room (Nat.le_of_ble_eq_true rfl)) dL_law_4 ⟨Nat.le_of_ble_eq_true rfl, Nat.le_of_ble_eq_true rfl⟩ (fun Ad H locs ha hP2 hD2 hS => ?_)
  clear hP hD
  try dsimp only at ha
  subst ha
  have hWP := hP2
  have hWD := hD2
  clear hP2 hD2
  rw [List.append_nil] at hWP hWD
  refine lv_astore_n (lv' := [(1, .ref (Ad 10 0)), (0, .ref b)]) hx hb dL_law_7 rfl hl (by decide) rfl (fun ls hl => ?_)
  obtain ⟨f, o, z, tx, rt, eL, hf0, ho, hz6⟩ : ∃ (f : Nat → SV) (o z : Nat) (tx : TV) (rt : (Nat → Int32) × (Nat → Int32)), initL = (f, ((nI o), (nI z)), tx, rt) ∧ f 0 = initS ∧ o < 6 ∧ z ≤ 6 := ⟨fun _ => initS, 0, 0, _, _, rfl, rfl, by decide, by decide⟩
  rw [eL] at hWP hWD
  refine W.widen (k := 1000) (n := 5000) (by decide) (by decide) ?_
  refine law_walk l hL hx hb hml hown hts hX hbl hbA hA hKN hf0 ho hz6 hWP hWD hS hl (fun H locs ls hS => ?_)
  refine va_forget (fun q hq => by have h := hS.2.2 q hq; rw [hA0] at h; exact h) ?_
  refine W.widen (k := 600130) (n := 7301080) (by decide) (by decide) ?_
  exact lw_ret (d0 := s.drawn) (Drawn.sameBut.refl s.drawn lw_cs) hx hb hr hlocks dL_law_381
-- ===== YOUR PART ENDS =====
set_option maxHeartbeats 4000000 in
theorem lw_walk (l : Launch) (hflags : l.flags = flags0) (b : Addr) (xs : List Int32) : MetFree l x (headSpec (Jvm.Cond.code x code maxLocals ret :: tables_1) room_1) (lw_P b xs) (fun _ _ _ _ _ => True) lw_Q := by
  refine MetFree.of_bodyS (code := code) (maxLocals := maxLocals) (ret := ret) (by decide) ?_ ?_
  · intro args s m h hn
    obtain ⟨meth, c, h1, h2, h3, h4, h5, h6, -, -⟩ := Cond.code_spec hn (atoms_spec (ws := Jvm.Cond.code x code maxLocals ret :: tables_1) h _ List.mem_cons_self)
    exact ⟨meth, c, h1, h2, h3, h4, h5, h6⟩
  · intro p e s m args below meth c s₁ B hml0 hP _
    obtain ⟨rfl, hx, hbd, hgv⟩ := hP
    obtain ⟨scr, harrAt, hlist, hof, hsmall⟩ := hx
    obtain ⟨hcb, hkn, -, -⟩ := State.arrayAt?_spec harrAt
    have hown : s.vm.findClass R_law = some m.cls := findClass_of_methodNamed B.named
    have hts0 : ∀ c ∈ (Jvm.Cond.code x code maxLocals ret :: tables_1), c.before #[Value.ref b] s = true := atoms_spec (ws := Jvm.Cond.code x code maxLocals ret :: tables_1) B.pre
    have hts : ∀ w ∈ lw_tbl, w.before #[Value.ref b] s = true := k2_hts_sels lw_privs (fun w hw => hts0 w (List.mem_cons_of_mem _ hw)) lw_privs_ok
    have hml : c.maxLocals = 13 := B.maxLocals_eq (hts0 _ List.mem_cons_self)
    have X₀ : Stand p l e room_1 s m #[Value.ref b] below meth c s₁ [] 0 0 := Stand.of_body B
    have hh0 : s₁.heap = s.heap := by rw [B.state]; rfl
    have hsz : scr.slots.size = xs.length := by rw [← Array.length_toList, hlist, List.length_map]
    have hval : ∀ j : Nat, j < xs.length → scr.slots[j]? = some (.int (xs.getD j 0)) := fun j hj => by
      rw [← Array.getElem?_toList, hlist]
      simp [hj]
    have hbl : b < s.heap.size := (Array.getElem?_eq_some_iff.mp hcb).1
    have hX : va_X b xs.length (fun j => xs.getD j 0) s s.heap := ⟨scr, hcb, hof, hkn, hsz, hval⟩
    have K : W p l e room_1 s m #[Value.ref b] below meth c s₁.heap [] 0 0 (lw_Z below #[Value.ref b] s) (entryFrame m ([Value.ref b] : List Value).toArray 13) := by
      rw [hh0]
      exact whole_start l hflags hbd ⟨B.exec, B.bytes, B.returns, hml, hown, hts, hX, hbl, B.notSynchronized, hgv⟩
    obtain ⟨t, a1, o, b1, b2, b3⟩ := K s₁ rfl X₀
    exact ⟨t, o, a1, b1, b2, b3⟩
theorem lw_pre_spec {args : Array Value} {s : State} (h : (Jvm.Cond.and given_1 narrow_1).before args s = true) (hr : rest_1_c.before args s = true) : ∃ (b : Addr) (xs : List Int32), lw_P b xs args s := by
  have hs := flat_of_before _ h
  have hq := flat_of_before _ hr
  have hc : (Cond.count 1).before args s = true := hs _ (by decide +kernel)
  have harr : (Cond.arrayOf (.arg 0) .int).before args s = true := hs _ (by decide +kernel)
  have hle : (Cond.le (.length (.arg 0)) (.int 260)).before args s = true := hs _ (by decide +kernel)
  have hlen : (Cond.isInt (.length (.arg 0))).before args s = true := hq _ (by decide +kernel)
  have hall : (Cond.all (.arg 0) (.isInt (.elem (.arg 0) (.index 0)))).before args s = true := hq _ (by decide +kernel)
  obtain ⟨b, xs, hb, hx⟩ := State.ints_of_pre rfl harr hlen hall
  have hsm : xs.length < 2 ^ 31 := hx.choose_spec.2.2.2
  have hev : (Term.length (.arg 0)).eval args s none [] s = some (.int xs.length.toInt32) := hx.length_eval hb
  have hv := Cond.le_ints hev (show (Term.int 260).eval args s none [] s = some (.int 260) from rfl)
  have hd : xs.length.toInt32 ≤ 260 := by
    simpa [Cond.before, Cond.holds, hv] using hle
  have hN : xs.length ≤ 260 := (Int32.ofNat_le_ofNat hsm (by decide)).mp (show Int32.ofNat xs.length ≤ Int32.ofNat 260 from hd)
  exact ⟨b, xs, Cond.one_arg hc (show args[0]? = some (.ref b) from hb), hx, hN, h⟩
theorem lw_comes (l : Launch) (hflags : l.flags = flags0) : Comes l x (Jvm.Cond.code x code maxLocals ret :: tables_1) room_1 (fun tb e args s => Calls_1 tb e args s ∧ rest_1 tb e args s ∧ Pre_1 tb e args s)
    (fun _ _ args s o t => lw_Q args s o t) := by
  intro p e ha hc hk s m args below hf hfit hheap happ hpre
  obtain ⟨b, xs, hP⟩ := lw_pre_spec hpre.2.2 hpre.2.1
  obtain ⟨k, o, h1, h2, h3, hQ⟩ := lw_walk l hflags b xs p e ha hc hk s m args below hf ((Spec.applies_iff_loose hf).mp happ).1 hP trivial
  exact ⟨k, o, h1, h2, h3, hQ⟩
theorem lw_frame {s t : State} {o : Outcome} {args : Array Value} (h : State.butDraws s t lw_cs (fun t1 => Framed s o t1 [] 600130 7301080)) :
    State.butDraws s t [Jvm.Choice.named "NaN.bits"] (fun t1 => Framed s o t1 (fieldLocs frame_1_writes args s ++ arrayLocs frame_1_arrays args s ++ staticLocs frame_1_statics s) 600130 7301080) := h
theorem lw_limb (L : Cond) (hL : ∀ (args : Array Value) (s t : State), L.after args s (.returned (some (.int 1))) t = true) :
    ArmFor flags0 classFile x code maxLocals ret World_1 tables_1 room_1 Calls_1 rest_1 Pre_1
      (fun tb e a s o t => postC L tb e a s o t ∧ State.butDraws s t [Jvm.Choice.named "NaN.bits"] (fun t1 => Framed s o t1 (fieldLocs frame_1_writes a s ++ arrayLocs frame_1_arrays a s ++ staticLocs frame_1_statics s) 600130 7301080)) := by
  intro l hflags _ _ p e ha hc hk s m args below hf hfit hheap happ hpre
  obtain ⟨k, o, h1, h2, h3, rfl, hF⟩ := lw_comes l hflags p e ha hc hk s m args below hf hfit hheap happ hpre
  exact ⟨k, _, h1, h2, h3, hL args s _, lw_frame hF⟩
theorem i_vc : Claimed_1_1 ∧ Claimed_1_2 := ⟨lw_limb limb_1_1 (fun args s t => by simp [limb_1_1, Cond.after, Cond.holds, Cond.value]), lw_limb limb_1_2 (fun args s t => Cond.after_iff.mpr (by
  first | (rw [show limb_1_2 = Cond.eq .result (.int 1) from rfl, Cond.eq_ints (x := 1) (y := 1) rfl rfl]; simp; done) | (simp [limb_1_2, Cond.value, Term.eval]; done)))⟩
