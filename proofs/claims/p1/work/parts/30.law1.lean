-- the law's helpers: each ends, answers 0 and lays the class's answer into out, or answers which exception came; and leaves what isn't its own
abbrev L0 : LV := ((fun _ => initS), ((nI 0), (nI 0)), (fun _ => 0, fun _ => 0, 0, 0, 0), (fun _ => 0, fun _ => 0))
theorem initL_L0 : initL = L0 := rfl
theorem PlOk_init : PlOk initS := PlOk_of (m := 0) (by decide) rfl
abbrev oW (cA : Nat → ClassId) (o9 : Nat) (g : Nat → Int64) : va_W := [(o9, .inl (cA 3, 1, .inr (.inl g)))]
def KY (U : State) : Prop := KX U ∧ va_Nc "java/lang/IllegalArgumentException" "java/lang/IndexOutOfBoundsException" U ∧ va_Nc "java/lang/IllegalStateException" "java/lang/IllegalArgumentException" U
theorem KY.moved {s U : State} (hW : s.WarmedH U.vm) (h : KY s) : KY U := ⟨KX.moved hW h.1, va_Nc.moved hW.alike h.2.1, va_Nc.moved hW.alike h.2.2⟩
theorem KY.same {s U : State} (hv : U.vm = s.vm) (h : KY s) : KY U := ⟨KX.same hv h.1, va_Nc.moved (by rw [hv]; exact Vm.Alike.refl _) h.2.1, va_Nc.moved (by rw [hv]; exact Vm.Alike.refl _) h.2.2⟩
def preH (D : va_G) (cA : Nat → ClassId) (A : Nat → Prop) (av : List Value) (H : Heap) : Array Value → State → Prop := va_Pc av (fun U => U.heap = H ∧ KN D cA U ∧ KY U ∧ XZ A U H)
theorem preH_blind {D : va_G} {cA : Nat → ClassId} {A : Nat → Prop} {av : List Value} {H : Heap} : FrameBlind (preH D cA A av H) := by
  intro a U g mk q
  obtain ⟨q0, q1, q2, q3, q4⟩ := q
  exact ⟨q0, q1, ⟨va_K.moved (u := U) (U := U.calling g mk a) (Vm.Alike.refl U.vm) q2.1, va_Nw.same rfl rfl q2.2⟩, KY.same (s := U) (U := U.calling g mk a) rfl q3, XZ.moved (s := U) (U := U.calling g mk a) (Vm.Alike.refl U.vm) q4⟩
def hkQ (D : va_G) (cA : Nat → ClassId) (H : Heap) (A : Nat → Prop) (o9 : Nat) (k : Int32) (g : Nat → Int64) : Array Value → State → Outcome → State → Prop := fun _ _ o t => o = .returned (some (.int k)) ∧ va_P D vwCl (oW cA o9 g) t.heap ∧ H.size ≤ t.heap.size ∧ ∀ q : Nat, q < H.size → ¬ A q → t.heap[q]? = H[q]?
def noX : String → State → State → Prop := fun _ _ _ => False
def LH (l : Launch) (y : MethodName) (ws : List Cond) (rm : Room) (D : va_G) (cA : Nat → ClassId) (av : List Value) (H : Heap) (A : Nat → Prop) (o9 : Nat) (k : Int32) (g : Nat → Int64) : Prop := vx_Met l y ws rm (preH D cA A av H) (hkQ D cA H A o9 k g) noX 1 6 A
/-- a call that throws and has written cells of its own before -/
def XTw (cls : String) (H : Heap) (A : Nat → Prop) : String → State → State → Prop := fun E _ t => E = cls ∧ H.size ≤ t.heap.size ∧ ∀ q : Nat, q < H.size → ¬ A q → t.heap[q]? = H[q]?
def XTW (l : Launch) (y : MethodName) (ws : List Cond) (rm : Room) (D : va_G) (cA : Nat → ClassId) (av : List Value) (H : Heap) (A : Nat → Prop) (cls : String) : Prop := vx_Met l y ws rm (preX D cA A av H) noQ (XTw cls H A) 1 6 A
theorem inF_cases (x : Int32) (a b : Nat) (ha : a < 2 ^ 31) (hb : b < 2 ^ 31) : inF x (nI a) (nI b) = 0 ∨ ∃ t : Nat, a ≤ t ∧ t ≤ b ∧ x = nI t := by
  by_cases h : inF x (nI a) (nI b) = 0
  · exact Or.inl h
  · refine Or.inr ?_
    unfold inF at h
    split at h
    · exact absurd rfl h
    · rename_i h1
      split at h
      · exact absurd rfl h
      · rename_i h2
        rw [Int32.lt_iff_toInt_lt, nI_toInt ha] at h1
        rw [Int32.lt_iff_toInt_lt, nI_toInt hb] at h2
        refine ⟨x.toInt.toNat, by omega, by omega, ?_⟩
        apply Int32.toInt_inj.mp
        rw [nI_toInt (by omega)]
        omega
section LHR
variable {p : Program} {l : Launch} {e : Env} {R : Room} {s : State} {m : MethodId} {args : Array Value} {below : List Frame} {meth : Method} {c : Code} {H : Heap} {locs : List Loc} {cells slots : Nat} {Q : State → Prop}
variable {y : MethodName} {bytes cc : ByteArray} {maxL nL n index : Nat} {ret : Option FieldType} {ws : List Cond} {rm : Room} {Ts : List Cond} {own C : String} {b : Addr} {As rest st0 : List Value} {pc : Nat} {ls : Array Slot} {D : va_G} {cA : Nat → ClassId} {v : Option Value}
theorem va_P_r {D : va_G} {a b : va_W} {H : Heap} (h : va_P D vwCl (a ++ b) H) : va_P D vwCl b H := va_P_l (va_P_comm h)
theorem va_D_r {A : Nat → Prop} {a b : va_W} (h : va_D A (a ++ b)) : va_D A b := by
  rw [va_D_iff] at h ⊢
  rw [List.map_append] at h
  exact ⟨h.1.sublist (List.sublist_append_right _ _), fun q hq => h.2 q (List.mem_append_right _ hq)⟩
theorem va_D_r0 {A : Nat → Prop} {a b : va_W} (h : va_D A (a ++ b)) : va_D (fun _ => True) b := (va_D_r h).weaken (fun _ _ _ _ => trivial)
theorem va_A_l {w w' : va_W} {sz q : Nat} (h : va_A w sz q) : va_A (w ++ w') sz q := by
  rcases h with ⟨k, e9, h⟩ | h
  · exact Or.inl ⟨k, e9, by rw [List.getElem?_append_left (List.getElem?_eq_some_iff.mp h).1]; exact h⟩
  · exact Or.inr h
theorem mu_Vx {A0 : Nat → Prop} {H0 : Heap} {wc w1 wo wf : va_W} {q0 ci : Nat} {q : vw_C} {fs : List Value} (S : CallFix p m c cc nL s args Ts own) (hM : MU l y ws rm D cA (.ref b :: As) H wc w1 v) (cw : CallW R s args own q.1 index y bytes maxL ret ws rm 0 0 n) (hKN : KN D cA s)
    (hP : va_P D vwCl (wc ++ wo) H) (hD : va_D A0 (wc ++ wo)) (hS : va_S A0 H0 H locs) (hA : ∀ q, H0.size ≤ q → A0 q) (hPf : va_P D vwCl wf H) (hc : vwCl[ci]? = some q) (he : wf[q0]? = some (b, .inr (ci, fs))) (hfx : w1.map Prod.fst = wc.map Prod.fst)
    (hn : As.length = n) (hsize : ls.size = nL) (hst : st0 = As.reverse ++ .ref b :: rest) (hW : 2 * (F0 m pc ls st0).monitorRoom + (rest.map fun v => v.category).sum ≤ 8) (hdg : decode cc pc = .ok (.invokevirtual index, 3)) (hf : cells ≤ R.cells ∧ slots ≤ R.slots)
    (kk : ∀ (H1 : Heap) (locs1 : List Loc), va_P D vwCl wo H1 → va_D A0 wo → va_S A0 H0 H1 locs1 → W p l e R s m args below meth c H1 locs1 cells slots Q (F0 m (pc + 3) ls (v.toList ++ rest))) : W p l e R s m args below meth c H locs cells slots Q (F0 m pc ls st0) :=
  mu_runa (va_runV S hM cw ⟨preC_blind, va_recv hKN.1 hPf hc he, fun U hU hW => ⟨rfl, hU, hKN.moved hW⟩⟩ rfl hn hsize hst hW hdg hf) hP hD hS hA hfx (fun H1 locs1 h1 h2 h3 => kk H1 locs1 (va_P_r h1) (va_D_r h2) h3)
theorem xt_V {A0 : Nat → Prop} {H0 : Heap} {wf : va_W} {q0 ci : Nat} {q : vw_C} {fs : List Value} {cls : String} (S : CallFix p m c cc nL s args Ts own) (hM : XT l y ws rm D cA (.ref b :: As) H cls) (cw : CallW R s args own q.1 index y bytes maxL ret ws rm 1 6 n) (hKN : KN D cA s) (hKX : KX s) (hXZ : XZ noA s H)
    (hS : va_S A0 H0 H locs) (hA : ∀ q, H0.size ≤ q → A0 q) (hPf : va_P D vwCl wf H) (hc : vwCl[ci]? = some q) (he : wf[q0]? = some (b, .inr (ci, fs)))
    (hn : As.length = n) (hsize : ls.size = nL) (hst : st0 = As.reverse ++ .ref b :: rest) (hW : 2 * (F0 m pc ls st0).monitorRoom + (rest.map fun v => v.category).sum ≤ 8) (hdg : decode cc pc = .ok (.invokevirtual index, 3)) (hf : cells + 1 ≤ R.cells ∧ slots + 6 ≤ R.slots)
    (kx : ∀ (ce : Cell) (q9 : Addr) (H1 : Heap) (locs1 : List Loc), (∀ q : Nat, q < H.size → H1[q]? = H[q]?) → va_S A0 H0 H1 locs1 → H1[q9]? = some ce → ce.vm = .none → s.vm.findClass cls = some ce.cls → vx_W p l e R s m args below meth c H1 locs1 (cells + 1) (slots + 6) Q (F0 m pc ls rest) q9) : W p l e R s m args below meth c H locs cells slots Q (F0 m pc ls st0) := by
  intro T hT X
  have hr := vx_runV (locs := locs) (cells := cells) (slots := slots) (meth := meth) (below := below) (e := e) S hM cw ⟨preX_blind, va_recv hKN.1 hPf hc he, fun U hU hW => ⟨rfl, hU, hKN.moved hW, hKX.moved hW, hXZ.moved hW.alike⟩⟩ (g := F0 m pc ls st0) (rest := rest) rfl hn hsize hst hW hdg hf
  rcases hr T hT X with ⟨v, st₀, t, T', L, h0, X', hL, e1, e2, hq, st⟩ | ⟨q9, st₀, t, T', L, E, ce, h0, X', hL, e1, e2, ⟨hE, hz, hk⟩, hce, hcv, hcl, st⟩
  · exact hq.elim
  · subst hE
    have hS2 : va_S A0 H0 t.heap (locs ++ L) := ⟨Nat.le_trans hS.1 hz, fun q h1 h2 => by rw [hk q (Nat.lt_of_lt_of_le h1 hS.1)]; exact hS.2.1 q h1 h2, fun q hq => by
      rcases List.mem_append.mp hq with h | h
      · exact hS.2.2 q h
      · exact hA _ (Nat.le_trans hS.1 (hL q h))⟩
    obtain ⟨t2, a1, b1⟩ := kx ce q9 t.heap (locs ++ L) hk hS2 hce hcv hcl T' e1 X'
    exact ⟨t2, st.trans a1, b1⟩
theorem xt_VW {A0 : Nat → Prop} {H0 : Heap} {wc wo wf : va_W} {q0 ci : Nat} {q : vw_C} {fs : List Value} {cls : String} (S : CallFix p m c cc nL s args Ts own) (hM : XTW l y ws rm D cA (.ref b :: As) H (va_A wc H.size) cls) (cw : CallW R s args own q.1 index y bytes maxL ret ws rm 1 6 n) (hKN : KN D cA s) (hKX : KX s) (hXZ : XZ (va_A wc H.size) s H)
    (hP : va_P D vwCl (wc ++ wo) H) (hD : va_D A0 (wc ++ wo)) (hS : va_S A0 H0 H locs) (hA : ∀ q, H0.size ≤ q → A0 q) (hPf : va_P D vwCl wf H) (hc : vwCl[ci]? = some q) (he : wf[q0]? = some (b, .inr (ci, fs)))
    (hn : As.length = n) (hsize : ls.size = nL) (hst : st0 = As.reverse ++ .ref b :: rest) (hW : 2 * (F0 m pc ls st0).monitorRoom + (rest.map fun v => v.category).sum ≤ 8) (hdg : decode cc pc = .ok (.invokevirtual index, 3)) (hf : cells + 1 ≤ R.cells ∧ slots + 6 ≤ R.slots)
    (kx : ∀ (ce : Cell) (q9 : Addr) (H1 : Heap) (locs1 : List Loc), va_P D vwCl wo H1 → va_S A0 H0 H1 locs1 → H1[q9]? = some ce → ce.vm = .none → s.vm.findClass cls = some ce.cls → vx_W p l e R s m args below meth c H1 locs1 (cells + 1) (slots + 6) Q (F0 m pc ls rest) q9) : W p l e R s m args below meth c H locs cells slots Q (F0 m pc ls st0) := by
  have hF : ∀ q, va_A wc H.size q → A0 q := by
    intro q h
    rcases h with ⟨k, e9, h⟩ | h
    · exact hD.2 k (q, e9) (by rw [List.getElem?_append_left (List.getElem?_eq_some_iff.mp h).1]; exact h)
    · exact hA q (Nat.le_trans hS.1 h)
  have hwo : ∀ (k : Nat) (q : Nat × va_E), wo[k]? = some q → (wc ++ wo)[wc.length + k]? = some q := by
    intro k q hq
    rw [List.getElem?_append_right (Nat.le_add_right _ _), Nat.add_sub_cancel_left]
    exact hq
  have hout : ∀ (k : Nat) (q : Nat × va_E), wo[k]? = some q → q.1 < H.size ∧ ¬ va_A wc H.size q.1 := by
    intro k q hq
    have hq2 := hwo k q hq
    have hl := (hP _ q hq2).lt
    refine ⟨hl, fun h => ?_⟩
    rcases h with ⟨j, e9, h⟩ | h
    · have hj := (List.getElem?_eq_some_iff.mp h).1
      have := hD.1 j (wc.length + k) (q.1, e9) q (by rw [List.getElem?_append_left hj]; exact h) hq2 rfl
      omega
    · omega
  intro T hT X
  have hr := vx_runV (locs := locs) (cells := cells) (slots := slots) (meth := meth) (below := below) (e := e) S hM cw ⟨preX_blind, va_recv hKN.1 hPf hc he, fun U hU hW => ⟨rfl, hU, hKN.moved hW, hKX.moved hW, hXZ.moved hW.alike⟩⟩ (g := F0 m pc ls st0) (rest := rest) rfl hn hsize hst hW hdg hf
  rcases hr T hT X with ⟨v, st₀, t, T', L, h0, X', hL, e1, e2, hq, st⟩ | ⟨q9, st₀, t, T', L, E, ce, h0, X', hL, e1, e2, ⟨hE, hz, hk⟩, hce, hcv, hcl, st⟩
  · exact hq.elim
  · subst hE
    have hS2 : va_S A0 H0 t.heap (locs ++ L) := ⟨Nat.le_trans hS.1 hz, fun q h1 h2 => by rw [hk q (Nat.lt_of_lt_of_le h1 hS.1) (fun z => h2 (hF q z))]; exact hS.2.1 q h1 h2, fun q hq => by
      rcases List.mem_append.mp hq with h | h
      · exact hS.2.2 q h
      · exact hF _ (hL q h)⟩
    have hP2 : va_P D vwCl wo t.heap := fun k q hq => (hP _ q (hwo k q hq)).kept (hk q.1 (hout k q hq).1 (hout k q hq).2)
    obtain ⟨t2, a1, b1⟩ := kx ce q9 t.heap (locs ++ L) hP2 hS2 hce hcv hcl T' e1 X'
    exact ⟨t2, st.trans a1, b1⟩
theorem lh_iret {A : Nat → Prop} {o9 : Nat} {k r : Int32} {g : Nat → Int64} (hexec : p.tables.exec = Jvm.exec) (hb : c.code = cc) (hr : meth.sig.returnType = some .int) (hlocks : meth.locks = false) (hdg : decode cc pc = .ok (.ireturn, 1)) (hP : va_P D vwCl (oW cA o9 g) H) (hS : va_S A s.heap H locs) (hc : cells ≤ 1) (hs : slots ≤ 6) (hk : r = k) :
    W p l e R s m args below meth c H locs cells slots (vx_MQ below (hkQ D cA s.heap A o9 k g) noX args s 1 6 A) (F0 m pc ls [.int r]) := by
  subst hk
  refine vx_ret (W.widen hc hs ?_)
  exact W.iret hexec hb hr (fun t ht _ => ⟨rfl, by rw [ht]; exact hP, by rw [ht]; exact hS.1, fun q h1 h2 => by rw [ht]; exact hS.2.1 q h1 h2⟩) hS.2.2 hdg hlocks
/-- the law calls a helper: out holds what it laid there, the rest of the world stands -/
theorem lh_S {A0 : Nat → Prop} {H0 : Heap} {wc wo : va_W} {o9 : Nat} {k : Int32} {g : Nat → Int64} {hh : List (Nat × Nat × Nat × Nat)} (S : CallFix p m c cc nL s args Ts own) (hM : LH l y ws rm D cA As H (va_A wc H.size) o9 k g) (cw : vx_CSW R s args own index y bytes maxL ret hh ws rm 1 6 n) (hKN : KN D cA s) (hKY : KY s) (hXZ : XZ (va_A wc H.size) s H)
    (ho : o9 ∈ wc.map Prod.fst) (hP : va_P D vwCl (wc ++ wo) H) (hD : va_D A0 (wc ++ wo)) (hS : va_S A0 H0 H locs) (hA : ∀ q, H0.size ≤ q → A0 q)
    (hn : As.length = n) (hsize : ls.size = nL) (hst : st0 = As.reverse ++ rest) (hW : 2 * (F0 m pc ls st0).monitorRoom + (rest.map fun v => v.category).sum ≤ 8) (hdg : decode cc pc = .ok (.invokestatic index, 3)) (hf : cells + 1 ≤ R.cells ∧ slots + 6 ≤ R.slots)
    (kk : ∀ (H1 : Heap) (locs1 : List Loc), va_P D vwCl (wo ++ oW cA o9 g) H1 → va_D A0 (wo ++ oW cA o9 g) → va_S A0 H0 H1 locs1 → W p l e R s m args below meth c H1 locs1 (cells + 1) (slots + 6) Q (F0 m (pc + 3) ls (.int k :: rest))) : W p l e R s m args below meth c H locs cells slots Q (F0 m pc ls st0) := by
  have hF : ∀ q, va_A wc H.size q → A0 q := by
    intro q h
    rcases h with ⟨k, e9, h⟩ | h
    · exact hD.2 k (q, e9) (by rw [List.getElem?_append_left (List.getElem?_eq_some_iff.mp h).1]; exact h)
    · exact hA q (Nat.le_trans hS.1 h)
  have hwo : ∀ (k : Nat) (q : Nat × va_E), wo[k]? = some q → (wc ++ wo)[wc.length + k]? = some q := by
    intro k q hq
    rw [List.getElem?_append_right (Nat.le_add_right _ _), Nat.add_sub_cancel_left]
    exact hq
  have hout : ∀ (k : Nat) (q : Nat × va_E), wo[k]? = some q → q.1 < H.size ∧ ¬ va_A wc H.size q.1 := by
    intro k q hq
    have hq2 := hwo k q hq
    have hl := (hP _ q hq2).lt
    refine ⟨hl, fun h => ?_⟩
    rcases h with ⟨j, e9, h⟩ | h
    · have hj := (List.getElem?_eq_some_iff.mp h).1
      have := hD.1 j (wc.length + k) (q.1, e9) q (by rw [List.getElem?_append_left hj]; exact h) hq2 rfl
      omega
    · omega
  intro T hT X
  have hr := vx_runSX (locs := locs) (cells := cells) (slots := slots) (meth := meth) (below := below) (e := e) S hM cw ⟨preH_blind, fun U hU hW => ⟨rfl, hU, hKN.moved hW, hKY.moved hW, hXZ.moved hW.alike⟩⟩ (g := F0 m pc ls st0) (rest := rest) rfl hn hsize hst hW hdg hf
  rcases hr T hT X with ⟨v, st₀, t, T', L, h0, X', hL, e1, e2, ⟨hv, hp1, hz, hk⟩, st⟩ | ⟨q9, st₀, t, T', L, E, ce, h0, X', hL, e1, e2, hx9, _⟩
  · cases hv
    have hS2 : va_S A0 H0 t.heap (locs ++ L) := ⟨Nat.le_trans hS.1 hz, fun q h1 h2 => by rw [hk q (Nat.lt_of_lt_of_le h1 hS.1) (fun z => h2 (hF q z))]; exact hS.2.1 q h1 h2, fun q hq => by
      rcases List.mem_append.mp hq with h | h
      · exact hS.2.2 q h
      · exact hF _ (hL q h)⟩
    have hP2 : va_P D vwCl (wo ++ oW cA o9 g) t.heap := va_P.app (fun k q hq => (hP _ q (hwo k q hq)).kept (hk q.1 (hout k q hq).1 (hout k q hq).2)) hp1
    have hD2 : va_D A0 (wo ++ oW cA o9 g) := by
      rw [va_D_iff] at hD ⊢
      rw [List.map_append] at hD ⊢
      obtain ⟨h1, h2⟩ := hD
      have h3 := List.nodup_append.mp h1
      refine ⟨List.nodup_append.mpr ⟨h3.2.1, by simp, fun a ha b hb => ?_⟩, fun q hq => ?_⟩
      · rw [List.map_singleton, List.mem_singleton] at hb
        subst hb
        exact fun h => h3.2.2 _ ho _ ha h.symm
      · rcases List.mem_append.mp hq with h | h
        · exact h2 q (List.mem_append_right _ h)
        · rw [List.mem_singleton] at h
          subst h
          obtain ⟨z, hz1, hz2⟩ := List.mem_map.mp ho
          show A0 o9
          rw [← hz2]
          exact h2 z (List.mem_append_left _ hz1)
    obtain ⟨t2, a1, b1⟩ := kk t.heap (locs ++ L) hP2 hD2 hS2 T' e1 X'
    exact ⟨t2, st t2 a1, b1⟩
  · exact hx9.elim
end LHR
