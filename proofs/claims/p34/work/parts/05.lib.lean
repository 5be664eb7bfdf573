-- the worlds' array classes; a callee that only looks (RO), a callee that writes its own cells (MU): contracts and call rows
abbrev KT (cA : Nat → ClassId) : List (ClassId × FieldType) := [(cA 0, .int), (cA 1, .boolean), (cA 2, .object "WireLoom$State")]
def noA : Nat → Prop := fun _ => False
abbrev nl_bit : Cond := .methodLinkNest RX2 70 yX4_bit "WireLoom"
def KN (D : va_G) (cA : Nat → ClassId) (U : State) : Prop := va_K D vwCl (KT cA) U ∧ va_Nw nl_bit U
theorem KN.moved {D : va_G} {cA : Nat → ClassId} {s U : State} (hW : s.WarmedH U.vm) (h : KN D cA s) : KN D cA U := ⟨va_K.moved hW.alike h.1, va_Nw.warmM hW h.2⟩
def preC (D : va_G) (cA : Nat → ClassId) (av : List Value) (H : Heap) : Array Value → State → Prop := va_Pc av (fun U => U.heap = H ∧ KN D cA U)
theorem preC_blind {D : va_G} {cA : Nat → ClassId} {av : List Value} {H : Heap} : FrameBlind (preC D cA av H) := by
  intro a U g mk q
  obtain ⟨q0, q1, q2⟩ := q
  exact ⟨q0, q1, va_K.moved (u := U) (U := U.calling g mk a) (Vm.Alike.refl U.vm) q2.1, va_Nw.same rfl rfl q2.2⟩
def roQ (H : Heap) (v : Option Value) : Array Value → State → Outcome → State → Prop := fun _ _ o t => o = .returned v ∧ t.heap = H
def RO (l : Launch) (y : MethodName) (ws : List Cond) (rm : Room) (D : va_G) (cA : Nat → ClassId) (av : List Value) (H : Heap) (v : Option Value) : Prop := Met l y ws rm (preC D cA av H) (roQ H v) 0 0 noA
def muQ (D : va_G) (H : Heap) (w0 w1 : va_W) (v : Option Value) : Array Value → State → Outcome → State → Prop := fun _ _ o t => o = .returned v ∧ va_P D vwCl w1 t.heap ∧ H.size ≤ t.heap.size ∧ ∀ q : Nat, q < H.size → ¬ va_A w0 H.size q → t.heap[q]? = H[q]?
def MU (l : Launch) (y : MethodName) (ws : List Cond) (rm : Room) (D : va_G) (cA : Nat → ClassId) (av : List Value) (H : Heap) (w0 w1 : va_W) (v : Option Value) : Prop := Met l y ws rm (preC D cA av H) (muQ D H w0 w1 v) 0 0 (va_A w0 H.size)
/-- a world with some of its cells written anew, by their places -/
def setMany (ws : va_W) (is : List Nat) (w1 : va_W) : va_W := (is.zip w1).foldl (fun w q => w.set q.1 q.2) ws
section LIB
variable {p : Program} {l : Launch} {e : Env} {R : Room} {s : State} {m : MethodId} {args : Array Value} {below : List Frame} {meth : Method} {c : Code} {H : Heap} {locs : List Loc} {cells slots : Nat} {Q : State → Prop}
variable {y : MethodName} {bytes cc : ByteArray} {maxL nL n index : Nat} {ret : Option FieldType} {ws : List Cond} {rm : Room} {Ts : List Cond} {own C : String} {b : Addr} {As rest st0 : List Value} {pc : Nat} {ls : Array Slot} {D : va_G} {cA : Nat → ClassId} {v : Option Value}
theorem preS_of (hKN : KN D cA s) (av : List Value) : PreS s H (preC D cA av H) av :=
  ⟨preC_blind, fun U hU hW => ⟨rfl, hU, hKN.moved hW⟩⟩
theorem ro_run {Qa : Array Value} (hr : va_Run p l e R s m args below meth c H locs cells slots 0 0 (F0 m pc ls st0) rest (roQ H v Qa) noA)
    (kk : W p l e R s m args below meth c H locs cells slots Q (F0 m (pc + 3) ls (v.toList ++ rest))) : W p l e R s m args below meth c H locs cells slots Q (F0 m pc ls st0) := by
  intro T hT X
  obtain ⟨v', st₀, t, T', L, h0, X', hL, e1, e2, ⟨hv, hh⟩, st⟩ := hr T hT X
  cases hv
  have hLn : L = [] := by
    cases L with
    | nil => rfl
    | cons a L => exact (hL a List.mem_cons_self).elim
  subst hLn
  rw [List.append_nil] at X'
  obtain ⟨t2, a1, b1⟩ := kk T' (e1.trans hh) X'
  exact ⟨t2, st t2 a1, b1⟩
/-- a static method of the same class, or of another, that only looks -/
theorem ro_S (S : CallFix p m c cc nL s args Ts own) (hM : RO l y ws rm D cA As H v) (cw : CallB R s args own index y bytes maxL ret ws rm 0 0 n ∧ (Cond.static y).before args s = true) (hKN : KN D cA s)
    (hn : As.length = n) (hsize : ls.size = nL) (hst : st0 = As.reverse ++ rest) (hW : 2 * (F0 m pc ls st0).monitorRoom + (rest.map fun v => v.category).sum ≤ 8) (hdg : decode cc pc = .ok (.invokestatic index, 3)) (hf : cells ≤ R.cells ∧ slots ≤ R.slots)
    (kk : W p l e R s m args below meth c H locs cells slots Q (F0 m (pc + 3) ls (v.toList ++ rest))) : W p l e R s m args below meth c H locs cells slots Q (F0 m pc ls st0) :=
  ro_run (va_runS S hM cw (preS_of hKN As) rfl hn hsize hst hW hdg hf) kk
theorem ro_SN {host : String} (S : CallFix p m c cc nL s args Ts own) (hM : RO l y ws rm D cA As H v) (cw : va_CN R s args own index y host bytes maxL ret ws rm 0 0 n ∧ (Cond.static y).before args s = true ∧ True) (hKN : KN D cA s)
    (hn : As.length = n) (hsize : ls.size = nL) (hst : st0 = As.reverse ++ rest) (hW : 2 * (F0 m pc ls st0).monitorRoom + (rest.map fun v => v.category).sum ≤ 8) (hdg : decode cc pc = .ok (.invokestatic index, 3)) (hf : cells ≤ R.cells ∧ slots ≤ R.slots)
    (kk : W p l e R s m args below meth c H locs cells slots Q (F0 m (pc + 3) ls (v.toList ++ rest))) : W p l e R s m args below meth c H locs cells slots Q (F0 m pc ls st0) :=
  ro_run (va_runSN S hM cw (preS_of hKN As) rfl hn hsize hst hW hdg hf) kk
theorem ro_V {wsW : va_W} {q0 ci : Nat} {q : vw_C} {fs : List Value} (S : CallFix p m c cc nL s args Ts own) (hM : RO l y ws rm D cA (.ref b :: As) H v) (cw : CallW R s args own q.1 index y bytes maxL ret ws rm 0 0 n) (hKN : KN D cA s)
    (hP : va_P D vwCl wsW H) (hc : vwCl[ci]? = some q) (he : wsW[q0]? = some (b, .inr (ci, fs)))
    (hn : As.length = n) (hsize : ls.size = nL) (hst : st0 = As.reverse ++ .ref b :: rest) (hW : 2 * (F0 m pc ls st0).monitorRoom + (rest.map fun v => v.category).sum ≤ 8) (hdg : decode cc pc = .ok (.invokevirtual index, 3)) (hf : cells ≤ R.cells ∧ slots ≤ R.slots)
    (kk : W p l e R s m args below meth c H locs cells slots Q (F0 m (pc + 3) ls (v.toList ++ rest))) : W p l e R s m args below meth c H locs cells slots Q (F0 m pc ls st0) :=
  ro_run (va_runV S hM cw ⟨preC_blind, va_recv hKN.1 hP hc he, fun U hU hW => ⟨rfl, hU, hKN.moved hW⟩⟩ rfl hn hsize hst hW hdg hf) kk
/-- places in a list: what the i-th of them is -/
theorem sm_get {α β : Type} {f : Nat → α} {w : List β} {g : β → α} {is : List Nat} (h : is.map f = w.map g) {k : Nat} {i : Nat} (hi : is[k]? = some i) : ∃ b, w[k]? = some b ∧ f i = g b := by
  have h1 : (is.map f)[k]? = some (f i) := by rw [List.getElem?_map, hi]; rfl
  rw [h, List.getElem?_map] at h1
  cases hb : w[k]? with
  | none => rw [hb] at h1; cases h1
  | some b => rw [hb] at h1; exact ⟨b, rfl, (Option.some.inj h1).symm⟩
theorem setMany_spec : ∀ (is : List Nat) (w1 ws : va_W) (k : Nat) (q : Nat × va_E), (setMany ws is w1)[k]? = some q → (∃ j : Nat, is[j]? = some k ∧ w1[j]? = some q) ∨ ((∀ j : Nat, j < w1.length → is[j]? ≠ some k) ∧ ws[k]? = some q) := by
  intro is
  induction is with
  | nil =>
    intro w1 ws k q h
    exact Or.inr ⟨fun j _ hj => by simp at hj, h⟩
  | cons i is ih =>
    intro w1 ws k q h
    cases w1 with
    | nil => exact Or.inr ⟨fun j hj => by simp at hj, h⟩
    | cons x w1 =>
      have h' : (setMany (ws.set i x) is w1)[k]? = some q := h
      rcases ih w1 (ws.set i x) k q h' with ⟨j, h1, h2⟩ | ⟨h1, h2⟩
      · exact Or.inl ⟨j + 1, by simpa using h1, by simpa using h2⟩
      · by_cases hk : i = k
        · subst hk
          refine Or.inl ⟨0, by simp, ?_⟩
          have hl : i < ws.length := by
            rcases Nat.lt_or_ge i ws.length with q1 | q1
            · exact q1
            · have h3 := (List.getElem?_eq_some_iff.mp h2).1
              rw [List.length_set] at h3
              omega
          rw [List.getElem?_set_self hl] at h2
          simpa using h2
        · rw [List.getElem?_set_ne hk] at h2
          refine Or.inr ⟨fun j hj => ?_, h2⟩
          cases j with
          | zero => simpa using hk
          | succ j => simpa using h1 j (by simpa using hj)
theorem setMany_fst : ∀ (is : List Nat) (w1 ws : va_W), (∀ (j i : Nat) (x : Nat × va_E), is[j]? = some i → w1[j]? = some x → (ws.map Prod.fst)[i]? = some x.1) → (setMany ws is w1).map Prod.fst = ws.map Prod.fst := by
  intro is
  induction is with
  | nil => intro w1 ws _; rfl
  | cons i is ih =>
    intro w1 ws h
    cases w1 with
    | nil => rfl
    | cons x w1 =>
      have h0 := h 0 i x (by simp) (by simp)
      have e1 : (ws.set i x).map Prod.fst = ws.map Prod.fst := by
        rw [List.map_set]
        apply List.ext_getElem?
        intro k
        by_cases hk : i = k
        · subst hk
          have hl : i < (ws.map Prod.fst).length := (List.getElem?_eq_some_iff.mp h0).1
          rw [List.getElem?_set_self hl, h0]
        · rw [List.getElem?_set_ne hk]
      have e2 : (setMany (ws.set i x) is w1).map Prod.fst = (ws.set i x).map Prod.fst := ih w1 (ws.set i x) (fun j i2 x2 h1 h2 => by rw [e1]; exact h (j + 1) i2 x2 (by simpa using h1) (by simpa using h2))
      exact e2.trans e1
theorem va_D_fst {A : Nat → Prop} {w w' : va_W} (h : va_D A w) (hf : w'.map Prod.fst = w.map Prod.fst) : va_D A w' := by
  have key : ∀ (k : Nat) (q : Nat × va_E), w'[k]? = some q → ∃ q', w[k]? = some q' ∧ q'.1 = q.1 := by
    intro k q hk
    have h1 : (w'.map Prod.fst)[k]? = some q.1 := by rw [List.getElem?_map, hk]; rfl
    rw [hf, List.getElem?_map] at h1
    cases hq : w[k]? with
    | none => rw [hq] at h1; cases h1
    | some q' => rw [hq] at h1; exact ⟨q', rfl, Option.some.inj h1⟩
  refine ⟨fun i j x z hi hj hxz => ?_, fun k q hk => ?_⟩
  · obtain ⟨x', a1, a2⟩ := key i x hi
    obtain ⟨z', b1, b2⟩ := key j z hj
    exact h.1 i j x' z' a1 b1 (by rw [a2, b2, hxz])
  · obtain ⟨q', a1, a2⟩ := key k q hk
    rw [← a2]
    exact h.2 k q' a1
/-- behind a call that wrote its own cells: the caller's world with these cells anew, in their places -/
theorem mu_join {A0 : Nat → Prop} {wsW wc w1 : va_W} {H1 : Heap} (hP : va_P D vwCl wsW H) (hD : va_D A0 wsW) (is : List Nat) (hC : is.map (fun i => wsW[i]?) = wc.map some) (hf : w1.map Prod.fst = wc.map Prod.fst)
    (hk : ∀ q : Nat, q < H.size → ¬ va_A wc H.size q → H1[q]? = H[q]?) (hP1 : va_P D vwCl w1 H1) : va_P D vwCl (setMany wsW is w1) H1 ∧ va_D A0 (setMany wsW is w1) := by
  have hlen : w1.length = wc.length := by simpa using congrArg List.length hf
  have hlis : is.length = wc.length := by simpa using congrArg List.length hC
  have hfst : ∀ (j i : Nat) (x : Nat × va_E), is[j]? = some i → w1[j]? = some x → (wsW.map Prod.fst)[i]? = some x.1 := by
    intro j i x hi hx
    obtain ⟨z, h1, h2⟩ := sm_get hC hi
    have h3 : (w1.map Prod.fst)[j]? = some x.1 := by rw [List.getElem?_map, hx]; rfl
    rw [hf, List.getElem?_map, h1] at h3
    rw [List.getElem?_map, h2]
    exact h3
  refine ⟨fun k q hq => ?_, va_D_fst hD (setMany_fst is w1 wsW hfst)⟩
  rcases setMany_spec is w1 wsW k q hq with ⟨j, h1, h2⟩ | ⟨h1, h2⟩
  · exact hP1 j q h2
  · have hl := (hP k q h2).lt
    refine (hP k q h2).kept (hk q.1 hl ?_)
    intro h
    rcases h with ⟨j, e9, h⟩ | h
    · have hj : j < is.length := by rw [hlis]; exact (List.getElem?_eq_some_iff.mp h).1
      obtain ⟨z, h3, h4⟩ := sm_get hC (List.getElem?_eq_getElem hj)
      rw [h] at h3
      cases h3
      have := hD.1 k _ q (q.1, e9) h2 h4 rfl
      exact h1 j (by rw [hlen, ← hlis]; exact hj) (by rw [List.getElem?_eq_getElem hj, this])
    · omega
theorem mu_run {A0 : Nat → Prop} {H0 : Heap} {wsW ws' wc w1 : va_W} {Qa : Array Value} (hr : va_Run p l e R s m args below meth c H locs cells slots 0 0 (F0 m pc ls st0) rest (muQ D H wc w1 v Qa) (va_A wc H.size))
    (hP : va_P D vwCl wsW H) (hD : va_D A0 wsW) (hS : va_S A0 H0 H locs) (hA : ∀ q, H0.size ≤ q → A0 q) (is : List Nat) (hC : is.map (fun i => wsW[i]?) = wc.map some) (hf : w1.map Prod.fst = wc.map Prod.fst) (hw : setMany wsW is w1 = ws')
    (kk : ∀ (H1 : Heap) (locs1 : List Loc), va_P D vwCl ws' H1 → va_D A0 ws' → va_S A0 H0 H1 locs1 → W p l e R s m args below meth c H1 locs1 cells slots Q (F0 m (pc + 3) ls (v.toList ++ rest))) : W p l e R s m args below meth c H locs cells slots Q (F0 m pc ls st0) := by
  intro T hT X
  obtain ⟨v', st₀, t, T', L, h0, X', hL, e1, e2, ⟨hv, hp1, hz, hk⟩, st⟩ := hr T hT X
  cases hv
  have hF := va_free (wc := wc) hD hS hA is hC
  obtain ⟨hP2, hD2⟩ := mu_join (H1 := t.heap) hP hD is hC hf hk hp1
  rw [hw] at hP2 hD2
  have hS2 : va_S A0 H0 t.heap (locs ++ L) := ⟨Nat.le_trans hS.1 hz, fun q h1 h2 => by rw [hk q (Nat.lt_of_lt_of_le h1 hS.1) (fun z => h2 (hF q z))]; exact hS.2.1 q h1 h2, fun q hq => by
    rcases List.mem_append.mp hq with h | h
    · exact hS.2.2 q h
    · exact hF _ (hL q h)⟩
  obtain ⟨t2, a1, b1⟩ := kk t.heap (locs ++ L) hP2 hD2 hS2 T' e1 X'
  exact ⟨t2, st t2 a1, b1⟩
theorem mu_V {A0 : Nat → Prop} {H0 : Heap} {wsW ws' wc w1 : va_W} {q0 ci : Nat} {q : vw_C} {fs : List Value} (S : CallFix p m c cc nL s args Ts own) (hM : MU l y ws rm D cA (.ref b :: As) H wc w1 v) (cw : CallW R s args own q.1 index y bytes maxL ret ws rm 0 0 n) (hKN : KN D cA s)
    (hP : va_P D vwCl wsW H) (hD : va_D A0 wsW) (hS : va_S A0 H0 H locs) (hA : ∀ q, H0.size ≤ q → A0 q) (hc : vwCl[ci]? = some q) (he : wsW[q0]? = some (b, .inr (ci, fs)))
    (is : List Nat) (hC : is.map (fun i => wsW[i]?) = wc.map some) (hfx : w1.map Prod.fst = wc.map Prod.fst) (hw : setMany wsW is w1 = ws')
    (hn : As.length = n) (hsize : ls.size = nL) (hst : st0 = As.reverse ++ .ref b :: rest) (hW : 2 * (F0 m pc ls st0).monitorRoom + (rest.map fun v => v.category).sum ≤ 8) (hdg : decode cc pc = .ok (.invokevirtual index, 3)) (hf : cells ≤ R.cells ∧ slots ≤ R.slots)
    (kk : ∀ (H1 : Heap) (locs1 : List Loc), va_P D vwCl ws' H1 → va_D A0 ws' → va_S A0 H0 H1 locs1 → W p l e R s m args below meth c H1 locs1 cells slots Q (F0 m (pc + 3) ls (v.toList ++ rest))) : W p l e R s m args below meth c H locs cells slots Q (F0 m pc ls st0) :=
  mu_run (va_runV S hM cw ⟨preC_blind, va_recv hKN.1 hP hc he, fun U hU hW => ⟨rfl, hU, hKN.moved hW⟩⟩ rfl hn hsize hst hW hdg hf) hP hD hS hA is hC hfx hw kk
/-- the end of a method that only looks -/
theorem ro_iret {x z : Int32} (hexec : p.tables.exec = Jvm.exec) (hb : c.code = cc) (hr : meth.sig.returnType = some .int) (hlocks : meth.locks = false) (hH : H = s.heap) (hdg : decode cc pc = .ok (.ireturn, 1)) (hv : x = z) :
    W p l e R s m args below meth c H [] 0 0 (MQ below (roQ s.heap (some (.int z))) args s 0 0 noA) (F0 m pc ls [.int x]) := by
  subst hv
  subst hH
  exact W.iret hexec hb hr (fun t ht _ => ⟨rfl, ht⟩) (fun q h => by cases h) hdg hlocks
theorem ro_zret {x z : Int32} (hexec : p.tables.exec = Jvm.exec) (hb : c.code = cc) (hr : meth.sig.returnType = some .boolean) (hlocks : meth.locks = false) (hH : H = s.heap) (hdg : decode cc pc = .ok (.ireturn, 1)) (hn : narrow .boolean (.int x) = .int x) (hv : x = z) :
    W p l e R s m args below meth c H [] 0 0 (MQ below (roQ s.heap (some (.int z))) args s 0 0 noA) (F0 m pc ls [.int x]) := by
  subst hv
  subst hH
  exact W.zret hexec hb hr hn (fun t ht _ => ⟨rfl, ht⟩) (fun q h => by cases h) hdg hlocks
theorem ro_lret {x z : Int64} (hexec : p.tables.exec = Jvm.exec) (hb : c.code = cc) (hr : meth.sig.returnType = some .long) (hlocks : meth.locks = false) (hH : H = s.heap) (hdg : decode cc pc = .ok (.lreturn, 1)) (hv : x = z) :
    W p l e R s m args below meth c H [] 0 0 (MQ below (roQ s.heap (some (.long z))) args s 0 0 noA) (F0 m pc ls [.long x]) := by
  subst hv
  subst hH
  exact W.lret hexec hb hr (fun t ht _ => ⟨rfl, ht⟩) (fun q h => by cases h) hdg hlocks
theorem mu_iret {A : Nat → Prop} {w0 w1 : va_W} {x z : Int32} (hexec : p.tables.exec = Jvm.exec) (hb : c.code = cc) (hr : meth.sig.returnType = some .int) (hlocks : meth.locks = false) (hdg : decode cc pc = .ok (.ireturn, 1)) (hAe : va_A w0 s.heap.size = A) (hS : va_S A s.heap H locs) (hP : va_P D vwCl w1 H) (hv : x = z) :
    W p l e R s m args below meth c H locs 0 0 (MQ below (muQ D s.heap w0 w1 (some (.int z))) args s 0 0 A) (F0 m pc ls [.int x]) := by
  subst hv
  subst hAe
  exact W.iret hexec hb hr (fun t ht _ => ⟨rfl, by rw [ht]; exact hP, by rw [ht]; exact hS.1, fun q h1 h2 => by rw [ht]; exact hS.2.1 q h1 h2⟩) hS.2.2 hdg hlocks
theorem mu_vret {A : Nat → Prop} {w0 w1 : va_W} (hexec : p.tables.exec = Jvm.exec) (hb : c.code = cc) (hr : meth.sig.returnType = none) (hlocks : meth.locks = false) (hdg : decode cc pc = .ok (.return_, 1)) (hAe : va_A w0 s.heap.size = A) (hS : va_S A s.heap H locs) (hP : va_P D vwCl w1 H) :
    W p l e R s m args below meth c H locs 0 0 (MQ below (muQ D s.heap w0 w1 none) args s 0 0 A) (F0 m pc ls []) := by
  subst hAe
  exact W.vret hexec hb hr (fun t ht _ => ⟨rfl, by rw [ht]; exact hP, by rw [ht]; exact hS.1, fun q h1 h2 => by rw [ht]; exact hS.2.1 q h1 h2⟩) hS.2.2 hdg hlocks
/-! rows with a numeral for an index, or a value by another name -/
theorem lz_top {x v : Int32} (h : x = v) (k : W p l e R s m args below meth c H locs cells slots Q (F0 m pc ls (.int v :: rest))) : W p l e R s m args below meth c H locs cells slots Q (F0 m pc ls (.int x :: rest)) := by
  subst h
  exact k
theorem lz_iadd {x y v : Int32} (hexec : p.tables.exec = Jvm.exec) (hb : c.code = cc) (hdg : decode cc pc = .ok (.iadd, 1)) (hv : x + y = v) (k : W p l e R s m args below meth c H locs cells slots Q (F0 m (pc + 1) ls (.int v :: rest))) : W p l e R s m args below meth c H locs cells slots Q (F0 m pc ls (.int y :: .int x :: rest)) := by
  subst hv
  exact lv_iadd hexec hb hdg k
theorem lz_isub {x y v : Int32} (hexec : p.tables.exec = Jvm.exec) (hb : c.code = cc) (hdg : decode cc pc = .ok (.isub, 1)) (hv : x - y = v) (k : W p l e R s m args below meth c H locs cells slots Q (F0 m (pc + 1) ls (.int v :: rest))) : W p l e R s m args below meth c H locs cells slots Q (F0 m pc ls (.int y :: .int x :: rest)) := by
  subst hv
  exact lv_isub hexec hb hdg k
theorem lz_imul {x y v : Int32} (hexec : p.tables.exec = Jvm.exec) (hb : c.code = cc) (hdg : decode cc pc = .ok (.imul, 1)) (hv : x * y = v) (k : W p l e R s m args below meth c H locs cells slots Q (F0 m (pc + 1) ls (.int v :: rest))) : W p l e R s m args below meth c H locs cells slots Q (F0 m pc ls (.int y :: .int x :: rest)) := by
  subst hv
  exact lv_imul hexec hb hdg k
theorem lz_idiv {x y v : Int32} (hexec : p.tables.exec = Jvm.exec) (hb : c.code = cc) (hdg : decode cc pc = .ok (.idiv, 1)) (hne : ¬ y = 0) (hv : x / y = v) (k : W p l e R s m args below meth c H locs cells slots Q (F0 m (pc + 1) ls (.int v :: rest))) : W p l e R s m args below meth c H locs cells slots Q (F0 m pc ls (.int y :: .int x :: rest)) := by
  subst hv
  exact lv_idiv hexec hb hdg hne k
theorem lz_irem {x y v : Int32} (hexec : p.tables.exec = Jvm.exec) (hb : c.code = cc) (hdg : decode cc pc = .ok (.irem, 1)) (hne : ¬ y = 0) (hv : x - x / y * y = v) (k : W p l e R s m args below meth c H locs cells slots Q (F0 m (pc + 1) ls (.int v :: rest))) : W p l e R s m args below meth c H locs cells slots Q (F0 m pc ls (.int y :: .int x :: rest)) := by
  subst hv
  exact lv_irem hexec hb hdg hne k
theorem lz_in {k n : Nat} (hk : k < n) (hn : n < 2 ^ 31) : vp_in (nI k) n := vp_in_nI hk hn
theorem lz_iald {wsW : va_W} {a : Nat} (k : Nat) {f : Nat → Int32} (hexec : p.tables.exec = Jvm.exec) (hb : c.code = cc) (hK : va_K D vwCl (KT cA) s) (hP : va_P D vwCl wsW H) (q0 t0 : Nat) {cX : ClassId} {n : Nat} (ha : wsW[q0]? = some (a, .inl (cX, n, .inl f))) (ht : (KT cA)[t0]? = some (cX, .int)) (hk : k < n ∧ n < 2 ^ 31) (hdg : decode cc pc = .ok (.iaload, 1))
    (kk : W p l e R s m args below meth c H locs cells slots Q (F0 m (pc + 1) ls (.int (f k) :: rest))) : W p l e R s m args below meth c H locs cells slots Q (F0 m pc ls (.int (nI k) :: .ref a :: rest)) := by
  refine va_iald hexec hb hK hP q0 t0 ha ht (vp_in_nI hk.1 hk.2) hdg ?_
  rw [nI_clamp (Nat.lt_trans hk.1 hk.2)]
  exact kk
theorem lz_zald {wsW : va_W} {a : Nat} (k : Nat) {f : Nat → Int32} (hexec : p.tables.exec = Jvm.exec) (hb : c.code = cc) (hK : va_K D vwCl (KT cA) s) (hP : va_P D vwCl wsW H) (q0 t0 : Nat) {cX : ClassId} {n : Nat} (ha : wsW[q0]? = some (a, .inl (cX, n, .inl f))) (ht : (KT cA)[t0]? = some (cX, .boolean)) (hk : k < n ∧ n < 2 ^ 31) (hdg : decode cc pc = .ok (.baload, 1))
    (kk : W p l e R s m args below meth c H locs cells slots Q (F0 m (pc + 1) ls (.int (f k) :: rest))) : W p l e R s m args below meth c H locs cells slots Q (F0 m pc ls (.int (nI k) :: .ref a :: rest)) := by
  refine va_zald hexec hb hK hP q0 t0 ha ht (vp_in_nI hk.1 hk.2) hdg ?_
  rw [nI_clamp (Nat.lt_trans hk.1 hk.2)]
  exact kk
theorem lz_aldq {wsW : va_W} {a : Nat} (k : Nat) {f : Nat → Option Nat} (hexec : p.tables.exec = Jvm.exec) (hb : c.code = cc) (hK : va_K D vwCl (KT cA) s) (hP : va_P D vwCl wsW H) (q0 : Nat) {cX : ClassId} {n : Nat} (ha : wsW[q0]? = some (a, .inl (cX, n, .inr (.inr (.inr (.inr f)))))) (ht : (KT cA)[2]? = some (cX, .object "WireLoom$State")) (hk : k < n ∧ n < 2 ^ 31) (hdg : decode cc pc = .ok (.aaload, 1))
    (kk : W p l e R s m args below meth c H locs cells slots Q (F0 m (pc + 1) ls (va_rf (f k) :: rest))) : W p l e R s m args below meth c H locs cells slots Q (F0 m pc ls (.int (nI k) :: .ref a :: rest)) := by
  refine va_aldq hexec hb hK hP q0 2 ha ht (vp_in_nI hk.1 hk.2) hdg ?_
  rw [nI_clamp (Nat.lt_trans hk.1 hk.2)]
  exact kk
theorem lz_iast {A : Nat → Prop} {H0 : Heap} {wsW : va_W} {a : Nat} (k : Nat) {f : Nat → Int32} (hexec : p.tables.exec = Jvm.exec) (hb : c.code = cc) (hK : va_K D vwCl (KT cA) s) (hP : va_P D vwCl wsW H) (hD : va_D A wsW) (hS : va_S A H0 H locs) (q0 t0 : Nat) {cX : ClassId} {n : Nat} (ha : wsW[q0]? = some (a, .inl (cX, n, .inl f))) (ht : (KT cA)[t0]? = some (cX, .int)) {x : Int32} (hk : k < n ∧ n < 2 ^ 31) (hdg : decode cc pc = .ok (.iastore, 1))
    (kk : ∀ (H1 : Heap) (locs1 : List Loc), va_P D vwCl (wsW.set q0 (a, .inl (cX, n, .inl (upd f k x)))) H1 → va_D A (wsW.set q0 (a, .inl (cX, n, .inl (upd f k x)))) → va_S A H0 H1 locs1 → W p l e R s m args below meth c H1 locs1 cells slots Q (F0 m (pc + 1) ls rest)) : W p l e R s m args below meth c H locs cells slots Q (F0 m pc ls (.int x :: .int (nI k) :: .ref a :: rest)) := by
  refine va_iast hexec hb hK hP hD hS q0 t0 ha ht (vp_in_nI hk.1 hk.2) hdg ?_
  rw [nI_clamp (Nat.lt_trans hk.1 hk.2)]
  exact kk
theorem lz_last {A : Nat → Prop} {H0 : Heap} {wsW : va_W} {a : Nat} (k : Nat) {f : Nat → Int64} (hexec : p.tables.exec = Jvm.exec) (hb : c.code = cc) (hK : va_K D vwCl (KT cA) s) (hP : va_P D vwCl wsW H) (hD : va_D A wsW) (hS : va_S A H0 H locs) (q0 t0 : Nat) {cX : ClassId} {n : Nat} (ha : wsW[q0]? = some (a, .inl (cX, n, .inr (.inl f)))) (ht : (KT cA)[t0]? = some (cX, .long)) {x : Int64} (hk : k < n ∧ n < 2 ^ 31) (hdg : decode cc pc = .ok (.lastore, 1))
    (kk : ∀ (H1 : Heap) (locs1 : List Loc), va_P D vwCl (wsW.set q0 (a, .inl (cX, n, .inr (.inl (vp_updL f k x))))) H1 → va_D A (wsW.set q0 (a, .inl (cX, n, .inr (.inl (vp_updL f k x))))) → va_S A H0 H1 locs1 → W p l e R s m args below meth c H1 locs1 cells slots Q (F0 m (pc + 1) ls rest)) : W p l e R s m args below meth c H locs cells slots Q (F0 m pc ls (.long x :: .int (nI k) :: .ref a :: rest)) := by
  refine va_last hexec hb hK hP hD hS q0 t0 ha ht (vp_in_nI hk.1 hk.2) hdg ?_
  rw [nI_clamp (Nat.lt_trans hk.1 hk.2)]
  exact kk
/-- arrays that agree on their places are one -/
theorem vp_cell_ext {cX : ClassId} {n : Nat} {f g : Nat → Int32} (h : ∀ j, j < n → f j = g j) : vp_cell cX (n, .inl f) = vp_cell cX (n, .inl g) := by
  rw [vp_cell_i, vp_cell_i]
  unfold arrV
  congr 1
  apply Array.ext
  · simp
  · intro j h1 h2
    have hj : j < n := by simpa using h1
    simp [h j hj]
theorem set_ext {wsW : va_W} {q0 a : Nat} {cX : ClassId} {n : Nat} {f g : Nat → Int32} (h : ∀ j, j < n → f j = g j) (hP : va_P D vwCl (wsW.set q0 (a, .inl (cX, n, .inl f))) H) : va_P D vwCl (wsW.set q0 (a, .inl (cX, n, .inl g))) H := by
  intro k q hq
  by_cases hk : q0 = k
  · subst hk
    have hl : q0 < wsW.length := by
      have := (List.getElem?_eq_some_iff.mp hq).1
      rwa [List.length_set] at this
    rw [List.getElem?_set_self hl] at hq
    cases hq
    have h1 := hP q0 _ (List.getElem?_set_self hl)
    show H[a]? = some (vp_cell cX (n, .inl g))
    rw [← vp_cell_ext h]
    exact h1
  · exact hP k q (by rw [List.getElem?_set_ne hk] at hq ⊢; exact hq)
/-- System.arraycopy of a whole row of ints -/
theorem lz_copy {A : Nat → Prop} {H0 : Heap} {wsW : va_W} {f g : Nat → Int32} (N : Nat) (hexec : p.tables.exec = Jvm.exec) (hb : c.code = cc) (hml : c.maxLocals = ls.size) (hown : s.vm.findClass own = some m.cls) (hlink : (Cond.methodLink own index arraycopyName).before args s = true) (hnat : (Cond.native arraycopyName).before args s = true) (hstat : (Cond.static arraycopyName).before args s = true) (hini : (Cond.initialized "java/lang/System").before args s = true)
    (hK : va_K D vwCl (KT cA) s) (hP : va_P D vwCl wsW H) (hD : va_D A wsW) (hS : va_S A H0 H locs) (q0 q1 t0 : Nat) {a0 a1 : Nat} {cX : ClassId} (ha0 : wsW[q0]? = some (a0, .inl (cX, N, .inl f))) (ha1 : wsW[q1]? = some (a1, .inl (cX, N, .inl g))) (ht0 : (KT cA)[t0]? = some (cX, .int))
    {n : Int32} (h3 : ¬ n < 0) (h4 : n.toNatClampNeg = N) (hframes : 1 ≤ R.frames) (hlocals : (rest.map fun v => v.category).sum + (nativeFrameWords "java/lang/System" "arraycopy" 5 + 11) ≤ R.locals) (hdg : decode cc pc = .ok (.invokestatic index, 3))
    (kk : ∀ (H1 : Heap) (locs1 : List Loc), va_P D vwCl (wsW.set q1 (a1, .inl (cX, N, .inl f))) H1 → va_D A (wsW.set q1 (a1, .inl (cX, N, .inl f))) → va_S A H0 H1 locs1 → W p l e R s m args below meth c H1 locs1 cells slots Q (F0 m (pc + 3) ls rest)) : W p l e R s m args below meth c H locs cells slots Q (F0 m pc ls (.int n :: .int 0 :: .ref a1 :: .int 0 :: .ref a0 :: rest)) := by
  refine va_copyi hexec hb hml hown hlink hnat hstat hini hK hP hD hS q0 q1 t0 t0 ha0 ha1 ht0 ht0 rfl (sp := 0) (dp := 0) (by decide) (by decide) h3 (by rw [h4]; exact Nat.le_of_eq (Nat.zero_add _)) (by rw [h4]; exact Nat.le_of_eq (Nat.zero_add _)) (fun i hi => rfl) hframes hlocals hdg (fun H1 locs1 hP1 hD1 hS1 => ?_)
  refine kk H1 locs1 (set_ext (fun j hj => ?_) hP1) (va_D_fst hD1 ?_) hS1
  · rw [h4]
    show va_cpy f g 0 0 N j = f j
    have e0 : (0 : Int32).toNatClampNeg = 0 := rfl
    rw [pk_cpy_in (Nat.zero_le j) (by omega)]
    simp
  · rw [List.map_set, List.map_set]
theorem cwS2 {mc ms : Nat} {ws' : List Cond} (n : Nat) (ht : ∀ w ∈ Ts, w.before args s = true) (hT : GoodIn Ts (va_wsS own index y ws)) (hw : ws = Cond.code y bytes maxL ret :: ws') (hrc : rm.cells = mc) (hrs : rm.slots = ms)
    (hd : y.cls ≠ "java/lang/invoke/MethodHandle" ∧ y.cls ≠ "java/lang/invoke/VarHandle" ∧ (parseMethodDescriptor y.desc).map (fun d => d.parameters.length) = some n) (hR : rm.frames + 1 ≤ R.frames ∧ 8 + (maxL + 11) + rm.locals ≤ R.locals) :
    CallB R s args own index y bytes maxL ret ws rm mc ms n ∧ (Cond.static y).before args s = true := va_cwS n ht hT hw hrc hrs hd hR
/-- the class's own private static bit, called from State -/
theorem nestB {mc ms : Nat} {ws' : List Cond} {host : String} (n : Nat) (ht : ∀ w ∈ Ts, w.before args s = true) (hG : GoodIn Ts ws) (hw : ws = Cond.code y bytes maxL ret :: ws') (hrc : rm.cells = mc) (hrs : rm.slots = ms) (hl : va_Nw (.methodLinkNest own index y host) s) (hst : Cond.static y ∈ Ts) (hin : Cond.initialized y.cls ∈ Ts)
    (hd : y.cls ≠ "java/lang/invoke/MethodHandle" ∧ y.cls ≠ "java/lang/invoke/VarHandle" ∧ (parseMethodDescriptor y.desc).map (fun d => d.parameters.length) = some n) (hR : rm.frames + 1 ≤ R.frames ∧ 8 + (maxL + 11) + rm.locals ≤ R.locals) :
    va_CN R s args own index y host bytes maxL ret ws rm mc ms n ∧ (Cond.static y).before args s = true ∧ True := ⟨va_cnB n ht hG hw hrc hrs hl (ht _ hin) hd hR, ht _ hst, trivial⟩
end LIB
