/-! ===== BEGIN words of one list among another's, by their places ===== -/
theorem goodIn_r {big : List Cond} (ws : List Cond) (ps : List Nat) (hp : ws = ps.filterMap (fun i => big[i]?)) (h : ws.all goodWord = true) : GoodIn big ws := by
  intro w hw
  have h1 := List.all_eq_true.mp h w hw
  rw [hp] at hw
  obtain ⟨i, -, hi⟩ := List.mem_filterMap.mp hw
  have hm : w ∈ big := by first | exact List.mem_of_getElem? hi | exact List.getElem?_mem hi
  exact ⟨hm, good_of_word h1⟩
theorem goodIn_app {big a b : List Cond} (ha : GoodIn big a) (hb : GoodIn big b) : GoodIn big (a ++ b) := fun w h => (List.mem_append.mp h).elim (ha w) (hb w)
theorem goodIn_ca {big a b : List Cond} {c : Cond} (ha : GoodIn big (c :: a)) (hb : GoodIn big b) : GoodIn big (c :: (a ++ b)) := fun w h => (List.mem_cons.mp h).elim (fun e => ha w (List.mem_cons.mpr (Or.inl e))) (fun h => (List.mem_append.mp h).elim (fun h => ha w (List.mem_cons.mpr (Or.inr h))) (hb w))
theorem goodIn_sub {big ws : List Cond} (hm : ∀ w ∈ ws, w ∈ big) (h : ws.all goodWord = true) : GoodIn big ws := fun w hw => ⟨hm w hw, good_of_word (List.all_eq_true.mp h w hw)⟩
/-! ===== END ===== -/

/-! ===== BEGIN exceptions that leave a method, and their catching by the caller (launches without stack traces) ===== -/
section VXA
/-! The laws vx_back, vx_callV, vx_callS, vx_callSW, vx_throw0, vx_throwS follow proofs of the library, with one case more: JvmDerived/Free/Laws.lean (Back.of_free), Shelf42/LK1.lean (callV, callS), Shelf/KitTraced.lean (throwNew0V, throwNewS). -/
/-- where a method has thrown q: the class by its name, the cell, what was written, the world -/
def vx_T (XC : String → State → State → Prop) (st : State) (q : Addr) (t : State) (mc ms : Nat) (free : Addr → Prop) : Prop :=
  ∃ (E : String) (ce : Cell) (L : List Loc), XC E st t ∧ t.heap[q]? = some ce ∧ ce.vm = .none ∧ st.vm.findClass E = some ce.cls ∧ st.WarmedH t.vm ∧ st.sameButNew ({ t with vm := st.vm } : State) L mc ms ∧ ∀ z ∈ L, free z.base
def vx_Q (Qc : Array Value → State → Outcome → State → Prop) (XC : String → State → State → Prop) (mc ms : Nat) (free : Addr → Prop) : Array Value → State → Outcome → State → Prop := fun a st o t =>
  (Qc a st o t ∧ ∃ L, FrameEnd st o t L mc ms ∧ ∀ q ∈ L, free q.base) ∨ ∃ q, o = .threw q ∧ vx_T XC st q t mc ms free
/-- a callee that returns or throws -/
def vx_Met (l : Launch) (y : MethodName) (ws : List Cond) (rm : Room) (Pc : Array Value → State → Prop) (Qc : Array Value → State → Outcome → State → Prop) (XC : String → State → State → Prop) (mc ms : Nat) (free : Addr → Prop) : Prop :=
  MetFree l y (headSpec ws rm) Pc (fun _ _ _ _ _ => True) (vx_Q Qc XC mc ms free)
def vx_Post (XC : String → State → State → Prop) (mc ms : Nat) (free : Addr → Prop) : Pt → Array Value → Addr → Pt → Prop := fun A a q B =>
  ∃ (g : JFrame) (mk : MethodId) (t : State) (L : List Loc) (E : String) (ce : Cell), B.U.heap = t.heap ∧ B.U.vm = t.vm ∧ XC E (A.U.calling g mk a) t ∧ t.heap[q]? = some ce ∧ ce.vm = .none ∧ A.U.vm.findClass E = some ce.cls ∧ B.locs = A.locs ++ L ∧ (∀ z ∈ L, free z.base) ∧ B.cells = A.cells + mc ∧ B.slots = A.slots + ms
def vx_Back (l : Launch) (R : Room) (p : Program) (e : Env) (below : List Frame) (s : State) (sargs : Array Value) (y : MethodName) (len W9 : Nat)
    (Pre : Pt → Array Value → Prop) (Post : Pt → Array Value → Option Value → Pt → Prop) (PostX : Pt → Array Value → Addr → Pt → Prop) : Prop :=
  ∀ (m : MethodId) (meth : Method) (c : Code) (A : Pt) (g : JFrame) (ig : Instr) (mk : MethodId) (a : Array Value),
    Stand p l e R s m sargs below meth c A.U A.locs A.cells A.slots → g.method = m → g.locals.size = c.maxLocals → decode c.code g.pc = .ok (ig, len) →
    2 * g.monitorRoom + (g.stack.map fun v => v.category).sum ≤ W9 → A.U.methodNamed? y = some mk → Pre A a →
    (∃ (v : Option Value) (B : Pt), Stand p l e R s m sargs below meth c B.U B.locs B.cells B.slots ∧ Post A a v B ∧
      Steps p.tables e below (doInvoke e (A.U.setTop g) [] mk a).1 (B.U.setTop { g with pc := g.pc + len, stack := v.toList ++ g.stack })) ∨
    (∃ (q : Addr) (B : Pt), Stand p l e R s m sargs below meth c B.U B.locs B.cells B.slots ∧ PostX A a q B ∧
      Steps p.tables e below (doInvoke e (A.U.setTop g) [] mk a).1 ((B.U.setTop g).pushFrame (.throwing q)))
section Payer
variable {l : Launch} {R : Room} {p : Program} {e : Env} {below : List Frame} {s : State} {sargs : Array Value} {y : MethodName} {len W9 : Nat}
theorem vx_back {ws : List Cond} {rm : Room} {Pc : Array Value → State → Prop} {Qc : Array Value → State → Outcome → State → Prop} {XC : String → State → State → Prop} {mc ms : Nat} {free : Addr → Prop} {bytes : ByteArray} {maxL : Nat} {ret : Option FieldType}
    (hM : vx_Met l y ws rm Pc Qc XC mc ms free) (hblind : FrameBlind Pc) (hrc : rm.cells = mc) (hrs : rm.slots = ms)
    (hframes : rm.frames + 1 ≤ R.frames) (hlocals : W9 + (maxL + 11) + rm.locals ≤ R.locals)
    (hws : ∀ w ∈ ws, ∀ a' U, s.WarmedH U.vm → w.before a' U = true) (hcode : Cond.code y bytes maxL ret ∈ ws) (hinit : ∀ a' U, s.WarmedH U.vm → (Cond.initialized y.cls).before a' U = true) :
    vx_Back l R p e below s sargs y len W9 (PreOf R mc ms Pc) (PostOf Qc mc ms free) (vx_Post XC mc ms free) := by
  intro m meth c A g ig mk a X hg hsize hdg hW hn hp
  have h1 : (headSpec ws rm).pre.before a A.U = true := atoms_intro fun w hw => hws w hw _ _ X.warmed
  have h2 : (Cond.code y bytes maxL ret).before a A.U = true := hws _ hcode _ _ X.warmed
  have h3 : (Cond.initialized y.cls).before a A.U = true := hinit _ _ X.warmed
  have h4 : A.cells + (headSpec ws rm).room.cells ≤ R.cells := by rw [show (headSpec ws rm).room.cells = mc from hrc]; exact hp.1
  have h5 : A.slots + (headSpec ws rm).room.slots ≤ R.slots := by rw [show (headSpec ws rm).room.slots = ms from hrs]; exact hp.2.1
  have hPc : Pc a (A.U.calling g mk a) := hblind _ _ _ _ hp.2.2
  obtain ⟨U, Ls, c0, s0⟩ := A
  dsimp only [Pt.U, Pt.locs, Pt.cells, Pt.slots] at h1 h2 h3 h4 h5 X hn hPc ⊢
  obtain ⟨methY, cY, hmY, hcY, -, hlY, -, -, -, -⟩ := Cond.code_spec hn h2
  obtain ⟨kY, hkY, -⟩ := className_of_methodNamed hn
  have hinitY : kY.init = .initialized := Cond.initialized_spec (findClass_of_methodNamed hn) hkY h3
  have h : At U g.method c below := by rw [hg]; exact X.here
  have hlocals9 : W9 + (maxL + 11) + (headSpec ws rm).room.locals ≤ R.locals := hlocals
  have happ : (headSpec ws rm).appliesLoose y e.platform (U.calling g mk a) = true :=
    Spec.appliesLoose_calling (g := g) h hdg hn hkY hinitY
      (X.room_calling (g := g) (R' := (headSpec ws rm).room) hsize hmY hcY hframes (by rw [hlY]; omega) h4 h5) h1
  obtain ⟨mid, hmid⟩ := h.above
  have hfr : (U.setTop g).frames = (.java g :: mid) ++ below := by rw [State.frames_setTop' g h.top, hmid]; rfl
  obtain ⟨o, s₂, hsteps, -, hend, hq⟩ := Steps.callFree hM p X.admits X.cas X.clock (acts := []) hfr happ hPc trivial
  have hq' : vx_Q Qc XC mc ms free a (U.calling g mk a) o s₂ := hq
  rw [State.frames_setTop' g h.top] at hend
  obtain ⟨g₀, hg0⟩ := Option.isSome_iff_exists.mp h.top
  obtain ⟨r, hr⟩ := State.topJava?_eq_some.mp hg0
  have hr' : (({ U with heap := s₂.heap, slotsUsed := s₂.slotsUsed } : State).setVm s₂.vm).frames = .java g₀ :: r := hr
  rcases hq' with ⟨hqc, L, hfe, hL⟩ | ⟨q, rfl, E, ce, L, hx, hce, hcv, hcl, hW₂, hsm, hL⟩
  · obtain ⟨⟨v, rfl⟩, hW₂, e2, q2, q3, q4, q5, q6⟩ := id hfe
    have e3 : s₂ = ({ (U.calling g mk a).setFrames s₂.frames with heap := s₂.heap, slotsUsed := s₂.slotsUsed } : State).setVm s₂.vm := by
      have : s₂ = ({ s₂ with vm := (U.calling g mk a).vm } : State).setVm s₂.vm := rfl
      rw [e2] at this
      exact this
    obtain ⟨c₂, i₂, len₂, hc₂, hd₂, hf₂⟩ := hend
    have hW' : U.WarmedH s₂.vm := hW₂
    have hcc : c₂ = c := by
      have h1 : s₂.code? g.method = U.code? g.method := by
        rw [State.code?_eq, State.code?_eq, hW'.alike.method?]
      exact Option.some.inj (hc₂.symm.trans (h1.trans h.code))
    subst hcc
    have hlen : len₂ = len := by rw [hdg] at hd₂; cases hd₂; rfl
    subst hlen
    have hs₂ : s₂ = (({ U with heap := s₂.heap, slotsUsed := s₂.slotsUsed } : State).setVm s₂.vm).setTop { g with pc := g.pc + len₂, stack := v.toList ++ g.stack } := by
      refine e3.trans ?_
      rw [hf₂, State.calling_eq h.top, State.setFrames_setFrames, State.setTop_of_frames _ hr', hr]
      rfl
    have hsame : U.sameButNew ({ U with heap := s₂.heap, slotsUsed := s₂.slotsUsed } : State) L mc ms := by
      refine ⟨?_, q2, q3, q4, q5, q6⟩
      obtain ⟨t, ht, -⟩ := State.frames_cons hr
      show ({ U with heap := s₂.heap, slotsUsed := s₂.slotsUsed } : State) = { U.setFrames U.frames with heap := s₂.heap, slotsUsed := s₂.slotsUsed }
      rw [State.setFrames_self ht]
    subst hg
    refine Or.inl ⟨v, ⟨(({ U with heap := s₂.heap, slotsUsed := s₂.slotsUsed } : State).setVm s₂.vm), Ls ++ L, c0 + mc, s0 + ms⟩,
      ⟨X.admits, X.cas, X.clock, X.frames, X.room, X.hears, X.method, X.code, (X.here.setHeapUsed s₂.heap s₂.slotsUsed).setVm hW'.alike, X.tail, State.WarmedH.trans X.warmed hW', X.limits, X.bytes, X.same.trans (hsame.setVm s.vm)⟩,
      ⟨g, mk, s₂, L, rfl, rfl, hqc, rfl, hL, rfl, rfl⟩, ?_⟩
    show Steps p.tables e below _ ((({ U with heap := s₂.heap, slotsUsed := s₂.slotsUsed } : State).setVm s₂.vm).setTop { g with pc := g.pc + len₂, stack := v.toList ++ g.stack })
    rw [← hs₂]
    exact hsteps
  · obtain ⟨e2, q2, q3, q4, q5, q6⟩ := id hsm
    have e3 : s₂ = ({ (U.calling g mk a).setFrames s₂.frames with heap := s₂.heap, slotsUsed := s₂.slotsUsed } : State).setVm s₂.vm := by
      have : s₂ = ({ s₂ with vm := (U.calling g mk a).vm } : State).setVm s₂.vm := rfl
      rw [e2] at this
      exact this
    have hf₂ : s₂.frames = .throwing q :: .java g :: U.frames.tail := hend
    have hW' : U.WarmedH s₂.vm := hW₂
    have hs₂ : s₂ = ((({ U with heap := s₂.heap, slotsUsed := s₂.slotsUsed } : State).setVm s₂.vm).setTop g).pushFrame (.throwing q) := by
      refine e3.trans ?_
      rw [hf₂, State.calling_eq h.top, State.setFrames_setFrames, State.pushFrame, State.frames_setTop _ hr', State.setTop_of_frames _ hr', State.setFrames_setFrames, hr]
      rfl
    have hsame : U.sameButNew ({ U with heap := s₂.heap, slotsUsed := s₂.slotsUsed } : State) L mc ms := by
      refine ⟨?_, q2, q3, q4, q5, q6⟩
      obtain ⟨t, ht, -⟩ := State.frames_cons hr
      show ({ U with heap := s₂.heap, slotsUsed := s₂.slotsUsed } : State) = { U.setFrames U.frames with heap := s₂.heap, slotsUsed := s₂.slotsUsed }
      rw [State.setFrames_self ht]
    subst hg
    refine Or.inr ⟨q, ⟨(({ U with heap := s₂.heap, slotsUsed := s₂.slotsUsed } : State).setVm s₂.vm), Ls ++ L, c0 + mc, s0 + ms⟩,
      ⟨X.admits, X.cas, X.clock, X.frames, X.room, X.hears, X.method, X.code, (X.here.setHeapUsed s₂.heap s₂.slotsUsed).setVm hW'.alike, X.tail, State.WarmedH.trans X.warmed hW', X.limits, X.bytes, X.same.trans (hsame.setVm s.vm)⟩,
      ⟨g, mk, s₂, L, E, ce, rfl, rfl, hx, hce, hcv, hcl, rfl, hL, rfl, rfl⟩, ?_⟩
    show Steps p.tables e below _ (((({ U with heap := s₂.heap, slotsUsed := s₂.slotsUsed } : State).setVm s₂.vm).setTop g).pushFrame (.throwing q))
    rw [← hs₂]
    exact hsteps
end Payer
section Calls
variable {p : Program} {l : Launch} {e : Env} {R : Room} {s : State} {m : MethodId} {args : Array Value} {below : List Frame} {meth : Method} {c : Code} {T : State} {locs : List Loc} {cells slots : Nat}
theorem vx_callV (X : Stand p l e R s m args below meth c T locs cells slots) (hexec : p.tables.exec = Jvm.exec) {own C : String} {index : Nat} {y : MethodName} {bytes : ByteArray} {maxL : Nat} {ret : Option FieldType}
    (hown : s.vm.findClass own = some m.cls) (hlink : (Cond.methodLink own index y).before args s = true) (hinst : (Cond.instanceMethod y).before args s = true) (hsel : (Cond.selects C y y).before args s = true)
    (hcode : (Cond.code y bytes maxL ret).before args s = true) (hy : y.cls ≠ "java/lang/invoke/MethodHandle" ∧ y.cls ≠ "java/lang/invoke/VarHandle")
    {W9 : Nat} {Pre : Pt → Array Value → Prop} {Post : Pt → Array Value → Option Value → Pt → Prop} {PostX : Pt → Array Value → Addr → Pt → Prop} (hK : vx_Back l R p e below s args y 3 W9 Pre Post PostX)
    {b : Addr} {cellB : Cell} (hcell : T.heap[b]? = some cellB) (hobj : cellB.vm.isStatics = false) (hcls : s.vm.findClass C = some cellB.cls)
    {g : JFrame} (hg : g.method = m) (hsize : g.locals.size = c.maxLocals) {argsL rest : List Value} (hlen : ∀ sig, parseMethodDescriptor y.desc = some sig → argsL.length = sig.parameters.length)
    (hstack : g.stack = argsL.reverse ++ .ref b :: rest) (hW : 2 * g.monitorRoom + (rest.map fun v => v.category).sum ≤ W9) (hdg : decode c.code g.pc = .ok (.invokevirtual index, 3))
    (hpre : ∀ vm₁, s.WarmedH vm₁ → Pre ⟨T.setVm vm₁, locs, cells, slots⟩ (Value.ref b :: argsL).toArray) :
    (∃ (v : Option Value) (vm₁ : Vm) (B : Pt), s.WarmedH vm₁ ∧ Stand p l e R s m args below meth c B.U B.locs B.cells B.slots ∧ Post ⟨T.setVm vm₁, locs, cells, slots⟩ (Value.ref b :: argsL).toArray v B ∧
      ∀ target, Steps p.tables e below (B.U.setTop { g with pc := g.pc + 3, stack := v.toList ++ rest }) target → Steps p.tables e below (T.setTop g) target) ∨
    (∃ (q : Addr) (vm₁ : Vm) (B : Pt), s.WarmedH vm₁ ∧ Stand p l e R s m args below meth c B.U B.locs B.cells B.slots ∧ PostX ⟨T.setVm vm₁, locs, cells, slots⟩ (Value.ref b :: argsL).toArray q B ∧
      Steps p.tables e below (T.setTop g) ((B.U.setTop { g with stack := rest }).pushFrame (.throwing q))) := by
  obtain ⟨mk, methM, hnamed, hmethM, hstM, habM⟩ := Cond.instanceMethod_spec hinst
  obtain ⟨methM', cM, hmethM', -, -, -, -, -, -, hsigM⟩ := Cond.code_spec hnamed hcode
  cases hmethM.symm.trans hmethM'
  obtain ⟨c2, r2, m2, q1, q2, q3, q4, kP, hkP, hkPi⟩ := Cond.selects_spec hsel
  cases hcls.symm.trans q1
  cases (State.methodFound?_of_named hnamed hy).symm.trans q2
  cases hnamed.symm.trans q3
  have hselP : selectMethod e.platform s.vm cellB.cls mk = .method mk := by rw [Launch.admits_selectMethod X.admits]; exact q4
  obtain ⟨vm₁, X₁, hstep₁⟩ := X.invokevirtual hexec hown hlink hnamed hmethM hstM hkP hkPi hy (a := b) (cell := cellB) hcell
    (fun z h => by rw [h] at hobj; cases hobj) hselP hmethM habM hkP hkPi (g := g) hg (argsL := argsL) (rest := rest) (hlen _ hsigM) hstack hdg
  rcases hK m meth c ⟨T.setVm vm₁, locs, cells, slots⟩ { g with stack := rest } (.invokevirtual index) mk (Value.ref b :: argsL).toArray X₁ hg hsize hdg hW (X₁.named hnamed) (hpre vm₁ X₁.warmed) with ⟨v, B, X', hpost, hsteps⟩ | ⟨q, B, X', hpost, hsteps⟩
  · exact Or.inl ⟨v, vm₁, B, X₁.warmed, X', hpost, fun target h => hstep₁ _ fun acts => by rw [doInvoke_state]; exact hsteps.trans h⟩
  · exact Or.inr ⟨q, vm₁, B, X₁.warmed, X', hpost, hstep₁ _ fun acts => by rw [doInvoke_state]; exact hsteps⟩
theorem vx_callS (X : Stand p l e R s m args below meth c T locs cells slots) (hexec : p.tables.exec = Jvm.exec) {own : String} {index : Nat} {y : MethodName} {bytes : ByteArray} {maxL : Nat} {ret : Option FieldType}
    (hown : s.vm.findClass own = some m.cls) (hlink : (Cond.methodLink own index y).before args s = true) (hstat : (Cond.static y).before args s = true) (hinit : (Cond.initialized y.cls).before args s = true)
    (hcode : (Cond.code y bytes maxL ret).before args s = true) (hy : y.cls ≠ "java/lang/invoke/MethodHandle" ∧ y.cls ≠ "java/lang/invoke/VarHandle")
    {W9 : Nat} {Pre : Pt → Array Value → Prop} {Post : Pt → Array Value → Option Value → Pt → Prop} {PostX : Pt → Array Value → Addr → Pt → Prop} (hK : vx_Back l R p e below s args y 3 W9 Pre Post PostX)
    {g : JFrame} (hg : g.method = m) (hsize : g.locals.size = c.maxLocals) {argsL rest : List Value} (hlen : ∀ sig, parseMethodDescriptor y.desc = some sig → argsL.length = sig.parameters.length)
    (hstack : g.stack = argsL.reverse ++ rest) (hW : 2 * g.monitorRoom + (rest.map fun v => v.category).sum ≤ W9) (hdg : decode c.code g.pc = .ok (.invokestatic index, 3))
    (hpre : ∀ vm₁, s.WarmedH vm₁ → Pre ⟨T.setVm vm₁, locs, cells, slots⟩ argsL.toArray) :
    (∃ (v : Option Value) (vm₁ : Vm) (B : Pt), s.WarmedH vm₁ ∧ Stand p l e R s m args below meth c B.U B.locs B.cells B.slots ∧ Post ⟨T.setVm vm₁, locs, cells, slots⟩ argsL.toArray v B ∧
      ∀ target, Steps p.tables e below (B.U.setTop { g with pc := g.pc + 3, stack := v.toList ++ rest }) target → Steps p.tables e below (T.setTop g) target) ∨
    (∃ (q : Addr) (vm₁ : Vm) (B : Pt), s.WarmedH vm₁ ∧ Stand p l e R s m args below meth c B.U B.locs B.cells B.slots ∧ PostX ⟨T.setVm vm₁, locs, cells, slots⟩ argsL.toArray q B ∧
      Steps p.tables e below (T.setTop g) ((B.U.setTop { g with stack := rest }).pushFrame (.throwing q))) := by
  obtain ⟨mk, hnamed⟩ := Cond.code_named hcode
  obtain ⟨methM, cM, hmethM, -, -, -, -, -, -, hsigM⟩ := Cond.code_spec hnamed hcode
  have hstatic : methM.isStatic = true := Cond.static_spec hnamed hmethM hstat
  obtain ⟨kP, hkP, -⟩ := className_of_methodNamed hnamed
  have hinitP : kP.init = .initialized := Cond.initialized_spec (findClass_of_methodNamed hnamed) hkP hinit
  obtain ⟨vm₁, X₁, hstep₁⟩ := X.invokestatic hexec hown hlink hnamed hmethM hstatic hkP hinitP hy (g := g) hg (argsL := argsL) (rest := rest) (hlen _ hsigM) hstack hdg
  rcases hK m meth c ⟨T.setVm vm₁, locs, cells, slots⟩ { g with stack := rest } (.invokestatic index) mk argsL.toArray X₁ hg hsize hdg hW (X₁.named hnamed) (hpre vm₁ X₁.warmed) with ⟨v, B, X', hpost, hsteps⟩ | ⟨q, B, X', hpost, hsteps⟩
  · exact Or.inl ⟨v, vm₁, B, X₁.warmed, X', hpost, fun target h => hstep₁ _ fun acts => by rw [doInvoke_state]; exact hsteps.trans h⟩
  · exact Or.inr ⟨q, vm₁, B, X₁.warmed, X', hpost, hstep₁ _ fun acts => by rw [doInvoke_state]; exact hsteps⟩
end Calls
theorem vx_cls {s : State} {T : State} {vm₁ : Vm} {E : String} {k : ClassId} (hW : s.WarmedH vm₁) (h : (T.setVm vm₁).vm.findClass E = some k) : s.vm.findClass E = some k := by
  have h1 : vm₁.findClass E = some k := h
  rw [hW.alike.findClass] at h1
  exact h1
/-- the method's frame g, with q thrown over it -/
def vx_W (p : Program) (l : Launch) (e : Env) (R : Room) (s : State) (m : MethodId) (args : Array Value) (below : List Frame) (meth : Method) (c : Code) (H : Heap) (locs : List Loc) (cells slots : Nat) (Q : State → Prop) (g : JFrame) (q : Addr) : Prop :=
  ∀ T : State, T.heap = H → Stand p l e R s m args below meth c T locs cells slots → ∃ t, Steps p.tables e below ((T.setTop g).pushFrame (.throwing q)) t ∧ Q t
def vx_Run (p : Program) (l : Launch) (e : Env) (R : Room) (s : State) (m : MethodId) (args : Array Value) (below : List Frame) (meth : Method) (c : Code) (H : Heap) (locs : List Loc) (cells slots mc ms : Nat) (g : JFrame) (rest : List Value) (Qa : State → Outcome → State → Prop) (XC : String → State → State → Prop) (free : Addr → Prop) : Prop :=
  ∀ T : State, T.heap = H → Stand p l e R s m args below meth c T locs cells slots →
    (∃ (v : Option Value) (st₀ t T' : State) (L : List Loc), st₀.heap = H ∧ Stand p l e R s m args below meth c T' (locs ++ L) (cells + mc) (slots + ms) ∧ (∀ q ∈ L, free q.base) ∧ T'.heap = t.heap ∧ T'.vm = t.vm ∧ Qa st₀ (.returned v) t ∧
      Goes p e below T g T' { g with pc := g.pc + 3, stack := v.toList ++ rest }) ∨
    (∃ (q : Addr) (st₀ t T' : State) (L : List Loc) (E : String) (ce : Cell), st₀.heap = H ∧ Stand p l e R s m args below meth c T' (locs ++ L) (cells + mc) (slots + ms) ∧ (∀ z ∈ L, free z.base) ∧ T'.heap = t.heap ∧ T'.vm = t.vm ∧ XC E st₀ t ∧ t.heap[q]? = some ce ∧ ce.vm = .none ∧ s.vm.findClass E = some ce.cls ∧
      Steps p.tables e below (T.setTop g) ((T'.setTop { g with stack := rest }).pushFrame (.throwing q)))
def vx_X {S : Type} (px : S → Prop) (B : String → S → State → Prop) (A : Nat → Prop) : String → State → State → Prop := fun E st t => ∃ u : S, px u ∧ B E u t ∧ va_F A st t
section Runs
variable {p : Program} {l : Launch} {e : Env} {R : Room} {s : State} {m : MethodId} {args : Array Value} {below : List Frame} {meth : Method} {c : Code} {H : Heap} {locs : List Loc} {cells slots : Nat}
variable {y : MethodName} {bytes cc : ByteArray} {maxL nL mc ms n index : Nat} {ret : Option FieldType} {ws : List Cond} {rm : Room} {Pc : Array Value → State → Prop} {Qc : Array Value → State → Outcome → State → Prop} {XC : String → State → State → Prop} {free : Addr → Prop} {Ts : List Cond} {own C : String} {b : Addr} {As rest : List Value} {g : JFrame}
theorem vx_callBack (cb : CallB R s args own index y bytes maxL ret ws rm mc ms n) (hM : vx_Met l y ws rm Pc Qc XC mc ms free) (hbl : FrameBlind Pc) : vx_Back l R p e below s args y 3 8 (PreOf R mc ms Pc) (PostOf Qc mc ms free) (vx_Post XC mc ms free) := by
  obtain ⟨hrc, hrs, hfr, hlo, hws, hcw, -, hini, -⟩ := cb
  exact vx_back (bytes := bytes) (maxL := maxL) (ret := ret) hM hbl hrc hrs hfr hlo hws hcw (fun a' U hW => word_at hW (Or.inl (by first | rfl | simp [Cond.onTables, Cond.keeps, Cond.steady])) hini)
theorem vx_runV (S : CallFix p m c cc nL s args Ts own) (hM : vx_Met l y ws rm Pc Qc XC mc ms free) (cw : CallW R s args own C index y bytes maxL ret ws rm mc ms n) (hp : PreV s H C b Pc As)
    (hg : g.method = m) (hn : As.length = n) (hsize : g.locals.size = nL) (hstack : g.stack = As.reverse ++ .ref b :: rest) (hW : 2 * g.monitorRoom + (rest.map fun v => v.category).sum ≤ 8) (hdg : decode cc g.pc = .ok (.invokevirtual index, 3)) (hf : cells + mc ≤ R.cells ∧ slots + ms ≤ R.slots) :
    vx_Run p l e R s m args below meth c H locs cells slots mc ms g rest (Qc (Value.ref b :: As).toArray) XC free := by
  have hK : vx_Back l R p e below s args y 3 8 (PreOf R mc ms Pc) (PostOf Qc mc ms free) (vx_Post XC mc ms free) := vx_callBack cw.1 hM hp.1
  obtain ⟨⟨-, -, -, -, -, -, hcode, -, hy, hlen, hl⟩, hin, hse⟩ := cw
  obtain ⟨hx, hb, hml, ho, -⟩ := S
  obtain ⟨-, ⟨cellB, hcB, hoB, hclB⟩, hPc⟩ := hp
  intro T hT X
  rcases vx_callV X hx (C := C) (bytes := bytes) (maxL := maxL) (ret := ret) ho hl hin hse hcode hy hK (by rw [hT]; exact hcB) hoB hclB hg (hsize.trans hml.symm) (argsL := As) (rest := rest) (fun sig h => hn.trans (hlen sig h)) hstack hW (by rw [hb]; exact hdg)
    (fun vm₁ hW₁ => ⟨hf.1, hf.2, hPc (T.setVm vm₁) hT hW₁⟩) with ⟨v, vm₁, ⟨U', l2, c2, s2⟩, hW₁, X', ⟨g', mk, t, L, e1, e2, hq, h1, hL, h2, h3⟩, st⟩ | ⟨q, vm₁, ⟨U', l2, c2, s2⟩, hW₁, X', ⟨g', mk, t, L, E, ce, e1, e2, hq, hce, hcv, hcl, h1, hL, h2, h3⟩, st⟩
  · dsimp only [Pt.U, Pt.locs, Pt.cells, Pt.slots] at X' e1 e2 h1 h2 h3 st
    subst h1; subst h2; subst h3
    exact Or.inl ⟨v, (T.setVm vm₁).calling g' mk (Value.ref b :: As).toArray, t, U', L, hT, X', hL, e1, e2, hq, st⟩
  · dsimp only [Pt.U, Pt.locs, Pt.cells, Pt.slots] at X' e1 e2 h1 h2 h3 st hcl
    subst h1; subst h2; subst h3
    exact Or.inr ⟨q, (T.setVm vm₁).calling g' mk (Value.ref b :: As).toArray, t, U', L, E, ce, hT, X', hL, e1, e2, hq, hce, hcv, vx_cls hW₁ hcl, st⟩
theorem vx_runS (S : CallFix p m c cc nL s args Ts own) (hM : vx_Met l y ws rm Pc Qc XC mc ms free) (cw : CallB R s args own index y bytes maxL ret ws rm mc ms n ∧ (Cond.static y).before args s = true) (hp : PreS s H Pc As)
    (hg : g.method = m) (hn : As.length = n) (hsize : g.locals.size = nL) (hstack : g.stack = As.reverse ++ rest) (hW : 2 * g.monitorRoom + (rest.map fun v => v.category).sum ≤ 8) (hdg : decode cc g.pc = .ok (.invokestatic index, 3)) (hf : cells + mc ≤ R.cells ∧ slots + ms ≤ R.slots) :
    vx_Run p l e R s m args below meth c H locs cells slots mc ms g rest (Qc As.toArray) XC free := by
  have hK : vx_Back l R p e below s args y 3 8 (PreOf R mc ms Pc) (PostOf Qc mc ms free) (vx_Post XC mc ms free) := vx_callBack cw.1 hM hp.1
  obtain ⟨⟨-, -, -, -, -, -, hcode, hini, hy, hlen, hl⟩, hstt⟩ := cw
  obtain ⟨hx, hb, hml, ho, -⟩ := S
  intro T hT X
  rcases vx_callS X hx (bytes := bytes) (maxL := maxL) (ret := ret) ho hl hstt hini hcode hy hK hg (hsize.trans hml.symm) (argsL := As) (rest := rest) (fun sig h => hn.trans (hlen sig h)) hstack hW (by rw [hb]; exact hdg)
    (fun vm₁ hW₁ => ⟨hf.1, hf.2, hp.2 (T.setVm vm₁) hT hW₁⟩) with ⟨v, vm₁, ⟨U', l2, c2, s2⟩, hW₁, X', ⟨g', mk, t, L, e1, e2, hq, h1, hL, h2, h3⟩, st⟩ | ⟨q, vm₁, ⟨U', l2, c2, s2⟩, hW₁, X', ⟨g', mk, t, L, E, ce, e1, e2, hq, hce, hcv, hcl, h1, hL, h2, h3⟩, st⟩
  · dsimp only [Pt.U, Pt.locs, Pt.cells, Pt.slots] at X' e1 e2 h1 h2 h3 st
    subst h1; subst h2; subst h3
    exact Or.inl ⟨v, (T.setVm vm₁).calling g' mk As.toArray, t, U', L, hT, X', hL, e1, e2, hq, st⟩
  · dsimp only [Pt.U, Pt.locs, Pt.cells, Pt.slots] at X' e1 e2 h1 h2 h3 st hcl
    subst h1; subst h2; subst h3
    exact Or.inr ⟨q, (T.setVm vm₁).calling g' mk As.toArray, t, U', L, E, ce, hT, X', hL, e1, e2, hq, hce, hcv, vx_cls hW₁ hcl, st⟩
end Runs
section Rows
variable {p : Program} {l : Launch} {e : Env} {R : Room} {s : State} {m : MethodId} {args : Array Value} {below : List Frame} {meth : Method} {c : Code} {H : Heap} {locs : List Loc} {cells slots : Nat} {Q : State → Prop}
variable {mc ms : Nat} {free : Addr → Prop} {A0 A1 : Nat → Prop} {H0 : Heap} {a : Array Value} {pc : Nat} {ls : Array Slot} {st0 rest : List Value}
theorem vx_keep {st₀ t T' : State} {L : List Loc} (h0 : st₀.heap = H) (e1 : T'.heap = t.heap) (hS : va_S A0 H0 H locs) (hA : ∀ q, q < H.size → A1 q → A0 q) (hf : ∀ q, free q → A0 q) (hL : ∀ q ∈ L, free q.base) (hF : va_F A1 st₀ t) :
    H.size ≤ T'.heap.size ∧ (∀ q : Nat, q < H.size → ¬ A1 q → T'.heap[q]? = H[q]?) ∧ va_S A0 H0 T'.heap (locs ++ L) := by
  obtain ⟨hz, hk⟩ := hF
  rw [h0] at hz hk
  exact ⟨by rw [e1]; exact hz, fun q h1 h2 => by rw [e1]; exact hk q h1 h2,
    ⟨Nat.le_trans hS.1 (by rw [e1]; exact hz), fun q h1 h2 => by rw [e1, hk q (Nat.lt_of_lt_of_le h1 hS.1) (fun z => h2 (hA q (Nat.lt_of_lt_of_le h1 hS.1) z))]; exact hS.2.1 q h1 h2, fun q hq => by
      rcases List.mem_append.mp hq with h | h
      · exact hS.2.2 q h
      · exact hf _ (hL q h)⟩⟩
theorem vx_calli {S SX : Type} {post : Int32 → S → Prop} {px : SX → Prop} {B : S → State → Prop} {BX : String → SX → State → Prop} {AX : Nat → Prop} (hr : vx_Run p l e R s m args below meth c H locs cells slots mc ms (F0 m pc ls st0) rest (va_Qi post B A1 a) (vx_X px BX AX) free) (hS : va_S A0 H0 H locs) (hA : ∀ q, q < H.size → A1 q → A0 q) (hf : ∀ q, free q → A0 q) (hAX : ∀ q, q < H.size → AX q → A0 q)
    (kx : ∀ (E : String) (ce : Cell) (q9 : Addr) (u : SX) (t : State) (H1 : Heap) (locs1 : List Loc), t.heap = H1 → s.vm.Alike t.vm → px u → BX E u t → H.size ≤ H1.size → (∀ q : Nat, q < H.size → ¬ AX q → H1[q]? = H[q]?) → va_S A0 H0 H1 locs1 → H1[q9]? = some ce → ce.vm = .none → s.vm.findClass E = some ce.cls → vx_W p l e R s m args below meth c H1 locs1 (cells + mc) (slots + ms) Q (F0 m pc ls rest) q9)
    (kk : ∀ (r : Int32) (u : S) (t : State) (H1 : Heap) (locs1 : List Loc), t.heap = H1 → s.vm.Alike t.vm → post r u → B u t → H.size ≤ H1.size → (∀ q : Nat, q < H.size → ¬ A1 q → H1[q]? = H[q]?) → va_S A0 H0 H1 locs1 → W p l e R s m args below meth c H1 locs1 (cells + mc) (slots + ms) Q (F0 m (pc + 3) ls (.int r :: rest))) : W p l e R s m args below meth c H locs cells slots Q (F0 m pc ls st0) := by
  intro T hT X
  rcases hr T hT X with ⟨v, st₀, t, T', L, h0, X', hL, e1, e2, ⟨⟨r, u, hv, hp, hb⟩, hF⟩, st⟩ | ⟨q, st₀, t, T', L, E, ce, h0, X', hL, e1, e2, ⟨u, hp, hb, hF⟩, hce, hcv, hcl, st⟩
  · cases hv
    obtain ⟨k1, k2, k3⟩ := vx_keep h0 e1 hS hA hf hL hF
    obtain ⟨t2, a1, b1⟩ := kk r u t T'.heap (locs ++ L) e1.symm (by rw [← e2]; exact X'.warmed.alike) hp hb k1 k2 k3 T' rfl X'
    exact ⟨t2, st t2 a1, b1⟩
  · obtain ⟨k1, k2, k3⟩ := vx_keep h0 e1 hS hAX hf hL hF
    obtain ⟨t2, a1, b1⟩ := kx E ce q u t T'.heap (locs ++ L) e1.symm (by rw [← e2]; exact X'.warmed.alike) hp hb k1 k2 k3 (by rw [e1]; exact hce) hcv hcl T' rfl X'
    exact ⟨t2, st.trans a1, b1⟩
theorem vx_calll {S SX : Type} {post : Int64 → S → Prop} {px : SX → Prop} {B : S → State → Prop} {BX : String → SX → State → Prop} {AX : Nat → Prop} (hr : vx_Run p l e R s m args below meth c H locs cells slots mc ms (F0 m pc ls st0) rest (va_Ql post B A1 a) (vx_X px BX AX) free) (hS : va_S A0 H0 H locs) (hA : ∀ q, q < H.size → A1 q → A0 q) (hf : ∀ q, free q → A0 q) (hAX : ∀ q, q < H.size → AX q → A0 q)
    (kx : ∀ (E : String) (ce : Cell) (q9 : Addr) (u : SX) (t : State) (H1 : Heap) (locs1 : List Loc), t.heap = H1 → s.vm.Alike t.vm → px u → BX E u t → H.size ≤ H1.size → (∀ q : Nat, q < H.size → ¬ AX q → H1[q]? = H[q]?) → va_S A0 H0 H1 locs1 → H1[q9]? = some ce → ce.vm = .none → s.vm.findClass E = some ce.cls → vx_W p l e R s m args below meth c H1 locs1 (cells + mc) (slots + ms) Q (F0 m pc ls rest) q9)
    (kk : ∀ (r : Int64) (u : S) (t : State) (H1 : Heap) (locs1 : List Loc), t.heap = H1 → s.vm.Alike t.vm → post r u → B u t → H.size ≤ H1.size → (∀ q : Nat, q < H.size → ¬ A1 q → H1[q]? = H[q]?) → va_S A0 H0 H1 locs1 → W p l e R s m args below meth c H1 locs1 (cells + mc) (slots + ms) Q (F0 m (pc + 3) ls (.long r :: rest))) : W p l e R s m args below meth c H locs cells slots Q (F0 m pc ls st0) := by
  intro T hT X
  rcases hr T hT X with ⟨v, st₀, t, T', L, h0, X', hL, e1, e2, ⟨⟨r, u, hv, hp, hb⟩, hF⟩, st⟩ | ⟨q, st₀, t, T', L, E, ce, h0, X', hL, e1, e2, ⟨u, hp, hb, hF⟩, hce, hcv, hcl, st⟩
  · cases hv
    obtain ⟨k1, k2, k3⟩ := vx_keep h0 e1 hS hA hf hL hF
    obtain ⟨t2, a1, b1⟩ := kk r u t T'.heap (locs ++ L) e1.symm (by rw [← e2]; exact X'.warmed.alike) hp hb k1 k2 k3 T' rfl X'
    exact ⟨t2, st t2 a1, b1⟩
  · obtain ⟨k1, k2, k3⟩ := vx_keep h0 e1 hS hAX hf hL hF
    obtain ⟨t2, a1, b1⟩ := kx E ce q u t T'.heap (locs ++ L) e1.symm (by rw [← e2]; exact X'.warmed.alike) hp hb k1 k2 k3 (by rw [e1]; exact hce) hcv hcl T' rfl X'
    exact ⟨t2, st.trans a1, b1⟩
theorem vx_callf {S SX : Type} {post : UInt32 → S → Prop} {px : SX → Prop} {B : S → State → Prop} {BX : String → SX → State → Prop} {AX : Nat → Prop} (hr : vx_Run p l e R s m args below meth c H locs cells slots mc ms (F0 m pc ls st0) rest (va_Qf post B A1 a) (vx_X px BX AX) free) (hS : va_S A0 H0 H locs) (hA : ∀ q, q < H.size → A1 q → A0 q) (hf : ∀ q, free q → A0 q) (hAX : ∀ q, q < H.size → AX q → A0 q)
    (kx : ∀ (E : String) (ce : Cell) (q9 : Addr) (u : SX) (t : State) (H1 : Heap) (locs1 : List Loc), t.heap = H1 → s.vm.Alike t.vm → px u → BX E u t → H.size ≤ H1.size → (∀ q : Nat, q < H.size → ¬ AX q → H1[q]? = H[q]?) → va_S A0 H0 H1 locs1 → H1[q9]? = some ce → ce.vm = .none → s.vm.findClass E = some ce.cls → vx_W p l e R s m args below meth c H1 locs1 (cells + mc) (slots + ms) Q (F0 m pc ls rest) q9)
    (kk : ∀ (r : UInt32) (u : S) (t : State) (H1 : Heap) (locs1 : List Loc), t.heap = H1 → s.vm.Alike t.vm → post r u → B u t → H.size ≤ H1.size → (∀ q : Nat, q < H.size → ¬ A1 q → H1[q]? = H[q]?) → va_S A0 H0 H1 locs1 → W p l e R s m args below meth c H1 locs1 (cells + mc) (slots + ms) Q (F0 m (pc + 3) ls (.float r :: rest))) : W p l e R s m args below meth c H locs cells slots Q (F0 m pc ls st0) := by
  intro T hT X
  rcases hr T hT X with ⟨v, st₀, t, T', L, h0, X', hL, e1, e2, ⟨⟨r, u, hv, hp, hb⟩, hF⟩, st⟩ | ⟨q, st₀, t, T', L, E, ce, h0, X', hL, e1, e2, ⟨u, hp, hb, hF⟩, hce, hcv, hcl, st⟩
  · cases hv
    obtain ⟨k1, k2, k3⟩ := vx_keep h0 e1 hS hA hf hL hF
    obtain ⟨t2, a1, b1⟩ := kk r u t T'.heap (locs ++ L) e1.symm (by rw [← e2]; exact X'.warmed.alike) hp hb k1 k2 k3 T' rfl X'
    exact ⟨t2, st t2 a1, b1⟩
  · obtain ⟨k1, k2, k3⟩ := vx_keep h0 e1 hS hAX hf hL hF
    obtain ⟨t2, a1, b1⟩ := kx E ce q u t T'.heap (locs ++ L) e1.symm (by rw [← e2]; exact X'.warmed.alike) hp hb k1 k2 k3 (by rw [e1]; exact hce) hcv hcl T' rfl X'
    exact ⟨t2, st.trans a1, b1⟩
theorem vx_calld {S SX : Type} {post : UInt64 → S → Prop} {px : SX → Prop} {B : S → State → Prop} {BX : String → SX → State → Prop} {AX : Nat → Prop} (hr : vx_Run p l e R s m args below meth c H locs cells slots mc ms (F0 m pc ls st0) rest (va_Qd post B A1 a) (vx_X px BX AX) free) (hS : va_S A0 H0 H locs) (hA : ∀ q, q < H.size → A1 q → A0 q) (hf : ∀ q, free q → A0 q) (hAX : ∀ q, q < H.size → AX q → A0 q)
    (kx : ∀ (E : String) (ce : Cell) (q9 : Addr) (u : SX) (t : State) (H1 : Heap) (locs1 : List Loc), t.heap = H1 → s.vm.Alike t.vm → px u → BX E u t → H.size ≤ H1.size → (∀ q : Nat, q < H.size → ¬ AX q → H1[q]? = H[q]?) → va_S A0 H0 H1 locs1 → H1[q9]? = some ce → ce.vm = .none → s.vm.findClass E = some ce.cls → vx_W p l e R s m args below meth c H1 locs1 (cells + mc) (slots + ms) Q (F0 m pc ls rest) q9)
    (kk : ∀ (r : UInt64) (u : S) (t : State) (H1 : Heap) (locs1 : List Loc), t.heap = H1 → s.vm.Alike t.vm → post r u → B u t → H.size ≤ H1.size → (∀ q : Nat, q < H.size → ¬ A1 q → H1[q]? = H[q]?) → va_S A0 H0 H1 locs1 → W p l e R s m args below meth c H1 locs1 (cells + mc) (slots + ms) Q (F0 m (pc + 3) ls (.double r :: rest))) : W p l e R s m args below meth c H locs cells slots Q (F0 m pc ls st0) := by
  intro T hT X
  rcases hr T hT X with ⟨v, st₀, t, T', L, h0, X', hL, e1, e2, ⟨⟨r, u, hv, hp, hb⟩, hF⟩, st⟩ | ⟨q, st₀, t, T', L, E, ce, h0, X', hL, e1, e2, ⟨u, hp, hb, hF⟩, hce, hcv, hcl, st⟩
  · cases hv
    obtain ⟨k1, k2, k3⟩ := vx_keep h0 e1 hS hA hf hL hF
    obtain ⟨t2, a1, b1⟩ := kk r u t T'.heap (locs ++ L) e1.symm (by rw [← e2]; exact X'.warmed.alike) hp hb k1 k2 k3 T' rfl X'
    exact ⟨t2, st t2 a1, b1⟩
  · obtain ⟨k1, k2, k3⟩ := vx_keep h0 e1 hS hAX hf hL hF
    obtain ⟨t2, a1, b1⟩ := kx E ce q u t T'.heap (locs ++ L) e1.symm (by rw [← e2]; exact X'.warmed.alike) hp hb k1 k2 k3 (by rw [e1]; exact hce) hcv hcl T' rfl X'
    exact ⟨t2, st.trans a1, b1⟩
theorem vx_callv {S SX : Type} {post : S → Prop} {px : SX → Prop} {B : S → State → Prop} {BX : String → SX → State → Prop} {AX : Nat → Prop} (hr : vx_Run p l e R s m args below meth c H locs cells slots mc ms (F0 m pc ls st0) rest (va_Qv post B A1 a) (vx_X px BX AX) free) (hS : va_S A0 H0 H locs) (hA : ∀ q, q < H.size → A1 q → A0 q) (hf : ∀ q, free q → A0 q) (hAX : ∀ q, q < H.size → AX q → A0 q)
    (kx : ∀ (E : String) (ce : Cell) (q9 : Addr) (u : SX) (t : State) (H1 : Heap) (locs1 : List Loc), t.heap = H1 → s.vm.Alike t.vm → px u → BX E u t → H.size ≤ H1.size → (∀ q : Nat, q < H.size → ¬ AX q → H1[q]? = H[q]?) → va_S A0 H0 H1 locs1 → H1[q9]? = some ce → ce.vm = .none → s.vm.findClass E = some ce.cls → vx_W p l e R s m args below meth c H1 locs1 (cells + mc) (slots + ms) Q (F0 m pc ls rest) q9)
    (kk : ∀ (u : S) (t : State) (H1 : Heap) (locs1 : List Loc), t.heap = H1 → s.vm.Alike t.vm → post u → B u t → H.size ≤ H1.size → (∀ q : Nat, q < H.size → ¬ A1 q → H1[q]? = H[q]?) → va_S A0 H0 H1 locs1 → W p l e R s m args below meth c H1 locs1 (cells + mc) (slots + ms) Q (F0 m (pc + 3) ls (rest))) : W p l e R s m args below meth c H locs cells slots Q (F0 m pc ls st0) := by
  intro T hT X
  rcases hr T hT X with ⟨v, st₀, t, T', L, h0, X', hL, e1, e2, ⟨⟨u, hv, hp, hb⟩, hF⟩, st⟩ | ⟨q, st₀, t, T', L, E, ce, h0, X', hL, e1, e2, ⟨u, hp, hb, hF⟩, hce, hcv, hcl, st⟩
  · cases hv
    obtain ⟨k1, k2, k3⟩ := vx_keep h0 e1 hS hA hf hL hF
    obtain ⟨t2, a1, b1⟩ := kk u t T'.heap (locs ++ L) e1.symm (by rw [← e2]; exact X'.warmed.alike) hp hb k1 k2 k3 T' rfl X'
    exact ⟨t2, st t2 a1, b1⟩
  · obtain ⟨k1, k2, k3⟩ := vx_keep h0 e1 hS hAX hf hL hF
    obtain ⟨t2, a1, b1⟩ := kx E ce q u t T'.heap (locs ++ L) e1.symm (by rw [← e2]; exact X'.warmed.alike) hp hb k1 k2 k3 (by rw [e1]; exact hce) hcv hcl T' rfl X'
    exact ⟨t2, st.trans a1, b1⟩
/-- caught by the row x of this method's table; the rows ahead don't take it -/
theorem vx_catch {own name : String} {E : String} {ce : Cell} {q : Addr} (hown : s.vm.findClass own = some m.cls) (pre : List ExceptionTableEntry) (x : ExceptionTableEntry) (suf : List ExceptionTableEntry) (hsplit : c.exceptionTable.toList = pre ++ x :: suf)
    (hpass : ∀ z ∈ pre, covers z pc = false ∨ (z.catchType ≠ 0 ∧ ∃ nm : String, (Cond.classLink own z.catchType nm).before args s = true ∧ va_Nc E nm s)) (hx : covers x pc = true) (h0 : x.catchType ≠ 0)
    (hlink : (Cond.classLink own x.catchType name).before args s = true) (hcast : (Cond.castable E name).before args s = true) (hcell : H[q]? = some ce) (hv : ce.vm = .none) (hcl : s.vm.findClass E = some ce.cls)
    (kk : W p l e R s m args below meth c H locs cells slots Q (F0 m x.handlerPc ls [.ref q])) : vx_W p l e R s m args below meth c H locs cells slots Q (F0 m pc ls rest) q := by
  intro T hT X
  have hpl : e.platform.magicAccessors = ({} : Platform).magicAccessors := by rw [X.admits.platform]
  obtain ⟨c3, c4, hc3, hc4, hasg⟩ := Cond.castable_spec hcast
  cases Option.some.inj (hc3.symm.trans hcl)
  obtain ⟨c5, hc5, hcl5⟩ := Cond.classLink_spec hown hlink e.platform hpl
  cases Option.some.inj (hc4.symm.trans hc5)
  obtain ⟨vm', X', st⟩ := X.thenCaughtThrough q (g := F0 m pc ls rest) rfl (Steps.refl _) (by rw [hT]; exact hcell) (by rw [hv]; rfl) (by obtain ⟨k9, h9, -⟩ := Vm.findClass_spec hcl; exact ⟨k9, h9⟩) pre x suf hsplit
    (fun z hz => by
      rcases hpass z hz with h | ⟨hz0, nm, hl1, hn1⟩
      · exact Or.inl h
      · obtain ⟨c6, hc6, hcl6⟩ := Cond.classLink_spec hown hl1 e.platform hpl
        obtain ⟨a8, b8, h1, h2, h3⟩ := hn1
        cases Option.some.inj (h1.symm.trans hcl)
        cases Option.some.inj (h2.symm.trans hc6)
        exact Or.inr ⟨hz0, _, hcl6, h3⟩) hx (Or.inr ⟨h0, c4, hcl5, hasg⟩)
  obtain ⟨t, a1, b1⟩ := kk (T.setVm vm') hT X'
  exact ⟨t, st.trans a1, b1⟩
end Rows
section Ends
variable {p : Program} {l : Launch} {e : Env} {R : Room} {s : State} {m : MethodId} {args : Array Value} {below : List Frame} {meth : Method} {c : Code} {H : Heap} {locs : List Loc} {cells slots : Nat} {Q : State → Prop}
variable {mc ms : Nat} {free : Addr → Prop} {A0 A1 : Nat → Prop} {H0 : Heap} {a : Array Value} {ls : Array Slot} {st0 rest : List Value}
variable {Qc : Array Value → State → Outcome → State → Prop} {XC : String → State → State → Prop}
/-- what a body that may throw owes at its end -/
def vx_MQ (below : List Frame) (Qc : Array Value → State → Outcome → State → Prop) (XC : String → State → State → Prop) (a : Array Value) (s : State) (mc ms : Nat) (free : Addr → Prop) : State → Prop := fun t =>
  ∃ o, t.status = .running ∧ Ended t below o ∧ vx_Q Qc XC mc ms free a s o t
theorem vx_ret {g : JFrame} {mc ms : Nat} (k : W p l e R s m args below meth c H locs cells slots (MQ below Qc args s mc ms free) g) : W p l e R s m args below meth c H locs cells slots (vx_MQ below Qc XC args s mc ms free) g := by
  intro T hT X
  obtain ⟨t, a1, o, b1, b2, b3, b4⟩ := k T hT X
  exact ⟨t, a1, o, b1, b2, Or.inl ⟨b3, b4⟩⟩
/-- not caught here: it goes on to the caller -/
theorem vx_widen {g : JFrame} {q : Addr} {k n : Nat} (h1 : cells ≤ k) (h2 : slots ≤ n) (kk : vx_W p l e R s m args below meth c H locs k n Q g q) : vx_W p l e R s m args below meth c H locs cells slots Q g q := fun T hT X => kk T hT (stand_widen X h1 h2)
theorem vx_out {pc : Nat} {E : String} {ce : Cell} {q : Addr} {mc ms : Nat} (hout : ∀ x ∈ c.exceptionTable.toList, covers x pc = false) (hlocks : meth.locks = false) (hcell : H[q]? = some ce) (hv : ce.vm = .none) (hcl : s.vm.findClass E = some ce.cls)
    (hx : ∀ t : State, t.heap = H → s.vm.Alike t.vm → XC E s t) (hf : ∀ z ∈ locs, free z.base) (hc : cells ≤ mc) (hs : slots ≤ ms) :
    vx_W p l e R s m args below meth c H locs cells slots (vx_MQ below Qc XC args s mc ms free) (F0 m pc ls rest) q := by
  intro T hT X
  obtain ⟨st1, hrun, hend, hW, hsm⟩ := X.leaveThrown q (g := F0 m pc ls rest) rfl rfl rfl hout hlocks
  have hcell9 : (T.setFrames (.throwing q :: below)).heap[q]? = some ce := by
    show T.heap[q]? = some ce
    rw [hT]; exact hcell
  exact ⟨_, st1, .threw q, hrun, hend, Or.inr ⟨q, rfl, E, ce, locs, hx _ hT hW.alike, hcell9, hv, hcl, hW, hsm.mono hc hs, hf⟩⟩
theorem vx_frame {U : State} {k n : Nat} (h : s.sameButNew ({ U with vm := s.vm } : State) locs k n) : s.heap.size ≤ U.heap.size ∧ ∀ q : Nat, q < s.heap.size → (∀ z ∈ locs, z.base ≠ q) → U.heap[q]? = s.heap[q]? := by
  obtain ⟨-, h2, -, -, -, h6⟩ := h
  refine ⟨h2, fun q hq hz => ?_⟩
  obtain ⟨c9, e1, e2, e3, e4⟩ := h6 q _ (Array.getElem?_eq_getElem hq)
  have hs : c9.slots = (s.heap[q]).slots := Array.ext_getElem? fun i => e4 i fun hm => hz _ hm rfl
  have h9 : c9 = s.heap[q] := by
    rw [hs] at e2
    exact e2
  have e5 : U.heap[q]? = some c9 := e1
  rw [e5, h9, Array.getElem?_eq_getElem hq]
/-- the words of a throw but the four that speak of the heap -/
def vx_no (w : Cond) : Bool := decide (w ≠ .isRef (.static Bundle.tN "UNASSIGNED_STACK" Bundle.steD)) && decide (w ≠ .isRef (.static Bundle.tN "SUPPRESSED_SENTINEL" Bundle.listD)) && decide (w ≠ .laysStatic Bundle.tN "UNASSIGNED_STACK" Bundle.steD) && decide (w ≠ .laysStatic Bundle.tN "SUPPRESSED_SENTINEL" Bundle.listD)
def vx_at0 (own : String) (ic : Nat) (X : String) (names : List String) : List Cond := (Bundle.ownAtoms0 own ic X names).filter vx_no
def vx_atS (own : String) (ic : Nat) (X : String) (names : List String) : List Cond := (Bundle.ownAtoms own ic X names).filter vx_no
/-- a word that the tables alone decide, or a good one -/
def vx_ot (w : Cond) : Bool := w.onTables || goodWord w
theorem vx_ot_at {args a' : Array Value} {s U : State} {w : Cond} (hW : s.WarmedH U.vm) (hvm : s.vm = U.vm) (hg : vx_ot w = true) (h : w.before args s = true) : w.before a' U = true := by
  simp only [vx_ot, Bool.or_eq_true] at hg
  rcases hg with hg | hg
  · exact va_tabs hg hvm h
  · exact word_at hW (good_of_word hg) h
/-- a list's words: the good ones out of the method's own list, the others by premises of their own -/
theorem vx_hat {args : Array Value} {s : State} {L B : List Cond} (h1 : ∀ w ∈ L.filter goodWord, w.before args s = true) (h2 : ∀ w ∈ L.filter (fun w => !goodWord w), w ∈ B) (h3 : ∀ w ∈ B, w.before args s = true) : ∀ w ∈ L, w.before args s = true := by
  intro w hw
  by_cases g : goodWord w = true
  · exact h1 w (List.mem_filter.mpr ⟨hw, g⟩)
  · refine h3 w (h2 w (List.mem_filter.mpr ⟨hw, ?_⟩))
    show (!goodWord w) = true
    cases hgw : goodWord w
    · rfl
    · exact absurd hgw g
theorem vx_c {args : Array Value} {s : State} {w : Cond} {B : List Cond} (h : w.before args s = true) (t : ∀ w ∈ B, w.before args s = true) : ∀ w' ∈ w :: B, w'.before args s = true := fun w' h' => (List.mem_cons.mp h').elim (fun e => by rw [e]; exact h) (t w')
theorem vx_n {args : Array Value} {s : State} : ∀ w ∈ ([] : List Cond), w.before args s = true := fun _ h => nomatch h
theorem vx_own {args : Array Value} {s : State} {L : List Cond} (h1 : ∀ w ∈ L.filter vx_no, w.before args s = true)
    (hU : (Cond.isRef (.static Bundle.tN "UNASSIGNED_STACK" Bundle.steD)).before args s = true) (hN : (Cond.isRef (.static Bundle.tN "SUPPRESSED_SENTINEL" Bundle.listD)).before args s = true)
    (lU : (Cond.laysStatic Bundle.tN "UNASSIGNED_STACK" Bundle.steD).before args s = true) (lN : (Cond.laysStatic Bundle.tN "SUPPRESSED_SENTINEL" Bundle.listD).before args s = true) : ∀ w ∈ L, w.before args s = true := by
  intro w hw
  by_cases e1 : w = .isRef (.static Bundle.tN "UNASSIGNED_STACK" Bundle.steD)
  · rw [e1]; exact hU
  · by_cases e2 : w = .isRef (.static Bundle.tN "SUPPRESSED_SENTINEL" Bundle.listD)
    · rw [e2]; exact hN
    · by_cases e3 : w = .laysStatic Bundle.tN "UNASSIGNED_STACK" Bundle.steD
      · rw [e3]; exact lU
      · by_cases e4 : w = .laysStatic Bundle.tN "SUPPRESSED_SENTINEL" Bundle.listD
        · rw [e4]; exact lN
        · exact h1 w (List.mem_filter.mpr ⟨hw, by unfold vx_no; rw [decide_eq_true e1, decide_eq_true e2, decide_eq_true e3, decide_eq_true e4]; rfl⟩)
/-- where a static field lies, its class's statics cell in H -/
def vx_L (C n d : String) (A : Nat → Prop) (U : State) (H : Heap) : Prop := ∃ (c : ClassId) (k : Class) (i : Nat) (f : Field) (a : Nat) (cell : Cell), U.vm.findClass C = some c ∧ U.fieldFound? C n d = some (c, k, i, f) ∧ f.isStatic = true ∧ k.statics = some a ∧ H[a]? = some cell ∧ cell.vm.isStatics = true ∧ cell.cls = c ∧ f.slot < cell.slots.size ∧ k.staticTypes[f.slot]? = some f.type ∧ ¬ A a
theorem vx_L.moved {C n d : String} {A : Nat → Prop} {u U : State} {H : Heap} (hvm : u.vm.Alike U.vm) (h : vx_L C n d A u H) : vx_L C n d A U H := by
  obtain ⟨c, k, i, f, a, cell, h1, h2, h3, h4, h5, h6, h7, h8, h9, h10⟩ := h
  obtain ⟨k', hi', he⟩ := State.fieldFound?_setVm hvm h2
  exact ⟨c, k', i, f, a, cell, by rw [hvm.findClass]; exact h1, hi', h3, by rw [he]; exact h4, h5, h6, h7, h8, by rw [he]; exact h9, h10⟩
theorem vx_L.kept {C n d : String} {A : Nat → Prop} {U : State} {H H1 : Heap} (h : vx_L C n d A U H) (hq : ∀ a : Nat, a < H.size → ¬ A a → H1[a]? = H[a]?) : vx_L C n d A U H1 := by
  obtain ⟨c, k, i, f, a, cell, h1, h2, h3, h4, h5, h6, h7, h8, h9, h10⟩ := h
  exact ⟨c, k, i, f, a, cell, h1, h2, h3, h4, by rw [hq a (Array.getElem?_eq_some_iff.mp h5).1 h10]; exact h5, h6, h7, h8, h9, h10⟩
theorem vx_L.narrow {C n d : String} {A B : Nat → Prop} {U : State} {H : Heap} (h : vx_L C n d A U H) (hAB : ∀ q, B q → A q) : vx_L C n d B U H := by
  obtain ⟨c, k, i, f, a, cell, h1, h2, h3, h4, h5, h6, h7, h8, h9, h10⟩ := h
  exact ⟨c, k, i, f, a, cell, h1, h2, h3, h4, h5, h6, h7, h8, h9, fun z => h10 (hAB _ z)⟩
theorem vx_L.word {C n d : String} {A : Nat → Prop} {s : State} {args : Array Value} (h : vx_L C n d A s s.heap) : (Cond.laysStatic C n d).before args s = true := by
  obtain ⟨c, k, i, f, a, cell, h1, h2, h3, h4, h5, h6, h7, h8, h9, -⟩ := h
  show (Cond.laysStatic C n d).holds args s none s [] = true
  exact Cond.laysStatic_of h1 h2 h3 h4 h5 h6 h7 h8 h9
/-- .. and what it holds: null or some reference -/
def vx_Zq (C n d : String) (A : Nat → Prop) (U : State) (H : Heap) : Prop := va_Zq C n d A U H ∧ vx_L C n d A U H
theorem vx_Zq.moved {C n d : String} {A : Nat → Prop} {u U : State} {H : Heap} (hvm : u.vm.Alike U.vm) (h : vx_Zq C n d A u H) : vx_Zq C n d A U H := ⟨va_Zq.moved hvm h.1, vx_L.moved hvm h.2⟩
theorem vx_Zq.kept {C n d : String} {A : Nat → Prop} {U : State} {H H1 : Heap} (h : vx_Zq C n d A U H) (hq : ∀ a : Nat, a < H.size → ¬ A a → H1[a]? = H[a]?) : vx_Zq C n d A U H1 := ⟨va_Zq.kept h.1 hq, vx_L.kept h.2 hq⟩
theorem vx_Zq.narrow {C n d : String} {A B : Nat → Prop} {U : State} {H : Heap} (h : vx_Zq C n d A U H) (hAB : ∀ q, B q → A q) : vx_Zq C n d B U H := ⟨va_Zq.narrow h.1 hAB, vx_L.narrow h.2 hAB⟩
theorem vx_Zqof {args : Array Value} {s : State} {C n d : String} {A : Nat → Prop} (hl : (Cond.laysStatic C n d).before args s = true) (hini : (Cond.initialized C).before args s = true) (h : (Cond.isRef (.static C n d)).before args s = true) (hA : ∀ a : Nat, a < s.heap.size → ¬ A a) : vx_Zq C n d A s s.heap := by
  refine ⟨va_Zqof hl hini h hA, ?_⟩
  obtain ⟨c, k, i, f, a, cell, h1, h2, h3, h4, h5, h6, h7, h8, h9⟩ := Cond.laysStatic_spec hl
  exact ⟨c, k, i, f, a, cell, h1, h2, h3, h4, h5, h6, h7, h8, h9, hA a (Array.getElem?_eq_some_iff.mp h5).1⟩
theorem vx_isRef {C n d : String} {v : Value} {A : Nat → Prop} {s : State} {args : Array Value} (h : va_Z C n d v A s s.heap) (hv : v.isRef = true) : (Cond.isRef (.static C n d)).before args s = true := by
  obtain ⟨cf, kf, fi, f, a, cell, h1, h2, h3, h4, h5, h6, h7, -⟩ := h
  have he : (Term.static C n d).eval args s none [] s = some v := by
    simp [Term.eval, State.fieldNamed?, h1, h2, h4, h5, h6, h7]
  simp only [Cond.before, Cond.holds, Cond.value, he]
  cases v <;> simp_all [Value.isRef]
theorem vx_isRefq {C n d : String} {A : Nat → Prop} {s : State} {args : Array Value} (h : va_Zq C n d A s s.heap) : (Cond.isRef (.static C n d)).before args s = true := by
  rcases h with h | ⟨t, h⟩
  · exact vx_isRef h rfl
  · exact vx_isRef h rfl
/-- the same frame, seen from here: as if the method were called anew in this heap -/
theorem vx_rebase {T : State} (X : Stand p l e R s m args below meth c T locs cells slots) {R' : Room} (hf : R'.frames ≤ R.frames) (hl : R'.locals ≤ R.locals) (hc : cells + R'.cells ≤ R.cells) (hs : slots + R'.slots ≤ R.slots) :
    Stand p l e R' ((T.setVm s.vm).setFrames (.invoking m args :: below)) m args below meth c T [] 0 0 := by
  have htop : (T.setVm s.vm).topJava?.isSome := X.here.top
  have hF : ((T.setVm s.vm).setFrames (.invoking m args :: below)).frames = .invoking m args :: below := State.frames_setFrames _ (State.cur_lt_of_top htop)
  obtain ⟨g₀, hg0⟩ := Option.isSome_iff_exists.mp htop
  obtain ⟨r, hr⟩ := State.topJava?_eq_some.mp hg0
  have hl9 : e.platform.stackLimits (T.setVm s.vm).me = e.platform.stackLimits s.me := X.limits
  have hb9 : (T.setVm s.vm).me.stackBytes = s.me.stackBytes := X.bytes
  refine ⟨X.admits, X.cas, X.clock, hF, ?_, X.hears, X.method, X.code, X.here, X.tail, X.warmed, ?_, ?_, ?_⟩
  · have h := X.room
    have hU : ((T.setVm s.vm).setFrames (.invoking m args :: below)).localsInUse = s.localsInUse := by
      rw [State.localsInUse_invoking hF (meth := meth) (c := c) X.method X.code, State.localsInUse_invoking X.frames X.method X.code]
    simp only [State.hasRoom, Bool.and_eq_true, decide_eq_true_eq] at h ⊢
    obtain ⟨⟨⟨⟨h1, h2, h3, h4, h5, h6⟩, h7⟩, h8⟩, h9⟩ := h
    rw [X.frames, List.length_cons] at h2 h3
    have q1 := X.heapSize
    have q2 := X.used
    simp only [hF, hU, List.length_cons, State.stackLimits_setFrames, State.stackBytes_setFrames, hl9, hb9]
    refine ⟨⟨⟨⟨by omega, by omega, by omega, by omega, by omega, h6⟩, ?_⟩, ?_⟩, X.book⟩
    · show T.heap.size + R'.cells ≤ e.platform.maxCells
      omega
    · show T.slotsUsed + R'.slots ≤ e.platform.maxSlots
      omega
  · rw [State.stackLimits_setFrames]; rfl
  · rw [State.stackBytes_setFrames]; rfl
  · refine ⟨?_, Nat.le_refl _, Nat.le_refl _, ?_, ?_, fun a c9 h9 => ⟨c9, h9, rfl, rfl, fun _ _ => rfl⟩⟩
    · obtain ⟨t, ht, -⟩ := State.frames_cons hr
      show T.setVm s.vm = { ((T.setVm s.vm).setFrames (.invoking m args :: below)).setFrames (T.setVm s.vm).frames with heap := T.heap, slotsUsed := T.slotsUsed }
      rw [State.setFrames_setFrames, State.setFrames_self ht]
      rfl
    · show T.slotsUsed = T.slotsUsed + ((T.heap.toList.drop T.heap.size).map (·.slots.size)).sum
      rw [List.drop_eq_nil_of_le (Nat.le_of_eq Array.length_toList)]
      rfl
    · show ((T.heap.toList.drop T.heap.size).map (·.slots.size)).sum ≤ 0
      rw [List.drop_eq_nil_of_le (Nat.le_of_eq Array.length_toList)]
      exact Nat.le_refl _
/-- 'throw new E()': new; dup; invokespecial; athrow -/
theorem vx_throw0 {cc : ByteArray} {pc : Nat} (hexec : p.tables.exec = Jvm.exec) (hb : c.code = cc) (hl : l.stackTraces = false) {own cls : String} {names : List String} {ik ic mc ms : Nat} {A : Nat → Prop}
    (hown : s.vm.findClass own = some m.cls) (hcls : Bundle.fit cls = true) (hnames : ∀ n ∈ names, Bundle.fit n = true)
    (hk : (Cond.classLink own ik cls).before args s = true) (hini : (Cond.initialized cls).before args s = true) (hat : ∀ w ∈ vx_at0 own ic cls names, w.before args s = true)
    (hgood : ∀ w ∈ Cond.classLink own ik cls :: Cond.initialized cls :: vx_at0 own ic cls names, vx_ot w = true)
    (hU : vx_Zq Bundle.tN "UNASSIGNED_STACK" Bundle.steD A s s.heap) (hN : vx_Zq Bundle.tN "SUPPRESSED_SENTINEL" Bundle.listD A s s.heap) (hS : va_S A s.heap H locs) (hsize : ls.size = c.maxLocals)
    (d0 : decode cc pc = .ok (.new ik, 3)) (d3 : decode cc (pc + 3) = .ok (.dup, 1)) (d4 : decode cc (pc + 4) = .ok (.invokespecial ic, 3)) (d7 : decode cc (pc + 7) = .ok (.athrow, 1))
    (hout : ∀ x ∈ c.exceptionTable.toList, covers x (pc + 7) = false)
    (hRframes : names.length + 3 < R.frames) (hRlocals : (rest.map fun v => v.category).sum + (13 * (names.length + 1) + 42) ≤ R.locals) (hRcells : cells + 1 ≤ R.cells) (hRslots : slots + 6 ≤ R.slots) (hlocks : meth.locks = false)
    (hx : ∀ t : State, s.vm.Alike t.vm → H.size ≤ t.heap.size → (∀ q : Nat, q < H.size → t.heap[q]? = H[q]?) → XC cls s t)
    (hf : ∀ z ∈ locs, free z.base) (hc : cells + 1 ≤ mc) (hs : slots + 6 ≤ ms) :
    W p l e R s m args below meth c H locs cells slots (vx_MQ below Qc XC args s mc ms free) (F0 m pc ls rest) := by
  intro T hT X
  have htr : e.platform.stackTraces = false := (show e.platform.stackTraces = l.stackTraces by rw [X.admits.platform]).trans hl
  have Y := vx_rebase X (R' := { frames := R.frames, locals := R.locals, cells := 1, slots := 6 }) (Nat.le_refl _) (Nat.le_refl _) hRcells hRslots
  obtain ⟨s', hA⟩ : ∃ z, z = (T.setVm s.vm).setFrames (.invoking m args :: below) := ⟨_, rfl⟩
  rw [← hA] at Y
  have hvm : s'.vm = s.vm := by rw [hA]; rfl
  have hhp : s'.heap = H := by rw [hA]; exact hT
  have hW0 : s.WarmedH s'.vm := by rw [hvm]; exact State.WarmedH.refl s
  have hat' : ∀ w ∈ vx_at0 own ic cls names, w.before args s' = true := fun w hw => vx_ot_at hW0 hvm.symm (hgood w (List.mem_cons_of_mem _ (List.mem_cons_of_mem _ hw))) (hat w hw)
  have hk' : (Cond.classLink own ik cls).before args s' = true := vx_ot_at hW0 hvm.symm (hgood _ List.mem_cons_self) hk
  have hini' : (Cond.initialized cls).before args s' = true := vx_ot_at hW0 hvm.symm (hgood _ (List.mem_cons_of_mem _ List.mem_cons_self)) hini
  have hU' : vx_Zq Bundle.tN "UNASSIGNED_STACK" Bundle.steD A s' s'.heap := by rw [hhp]; exact vx_Zq.moved hW0.alike (hU.kept hS.2.1)
  have hN' : vx_Zq Bundle.tN "SUPPRESSED_SENTINEL" Bundle.listD A s' s'.heap := by rw [hhp]; exact vx_Zq.moved hW0.alike (hN.kept hS.2.1)
  have h : ∀ w ∈ Bundle.ownAtoms0 own ic cls names, w.before args s' = true := vx_own hat' (vx_isRefq hU'.1) (vx_isRefq hN'.1) hU'.2.word hN'.2.word
  have hown' : s'.vm.findClass own = some m.cls := by rw [hvm]; exact hown
  have hins : (Cond.instantiable cls 6).before args s' = true := h _ (by simp [Bundle.ownAtoms0])
  obtain ⟨vm₁, cX, kX, hfX, hkX, -, -, X₁, st1⟩ := Y.newCold hexec (own := own) (C := cls) (index := ik) (n := 6) hown' hk' hins hini'
    (g := F0 m pc ls rest) rfl (by rw [hb]; exact d0) (Nat.le_refl _) (Nat.le_refl _)
  generalize hT1 : (T.setVm vm₁).pushCell { cls := cX, slots := kX.instanceTypes.map defaultValue, vm := .none } = T1 at X₁ st1
  have hcat : (Value.ref T.heap.size).category = 1 := rfl
  have hcellA : T1.heap[T.heap.size]? = some (freshCell cX kX) := by rw [← hT1]; exact State.heap_pushCell_size _ _
  have d3' : decode c.code (pc + 3) = .ok (.dup, 1) := by rw [hb]; exact d3
  obtain ⟨U, hsteps, hrun, hend, hW, hsame, ce, hce, hO⟩ := X₁.ctorThrow0 hexec htr (own := own) (cls := cls) (names := names) (ic := ic) hown' hcls hnames h (fun x hx => nomatch hx) hfX hkX hcellA (by rw [hhp, hT]; exact Nat.le_refl _)
    (g := { method := m, pc := pc + 4, locals := ls, stack := .ref T.heap.size :: .ref T.heap.size :: rest, locked := none }) rfl hsize rfl rfl (rest := rest) rfl
    (by rw [hb]; exact d4) (by rw [hb]; exact d7) hout hRframes (by simp only [List.map_cons, List.sum_cons, hcat]; omega) hlocks
  obtain ⟨f1, f2⟩ := vx_frame hsame
  rw [hhp] at f1 f2
  have hWs : s.WarmedH U.vm := State.WarmedH.trans hW0 hW
  have hcl : s.vm.findClass cls = some ce.cls := by
    have h9 := hO.cls
    rw [hvm] at h9
    exact h9
  have hall : s.sameButNew ({ U with vm := s.vm } : State) locs mc ms := by
    subst hA
    obtain ⟨e1, e2⟩ := hsame
    rw [State.setFrames_setFrames] at e1
    have h2 : (T.setVm s.vm).sameButNew ({ U with vm := s.vm } : State) [] (0 + 1) (0 + 6) := ⟨e1, e2⟩
    have h3 := X.same.trans h2
    rw [List.append_nil] at h3
    exact h3.mono hc hs
  refine ⟨U, ?_, .threw T.heap.size, hrun, hend, Or.inr ⟨T.heap.size, rfl, cls, ce, locs, hx U hWs.alike f1 (fun q hq => f2 q hq (fun z hz => nomatch hz)), hce, hO.vm, hcl, hWs, hall, hf⟩⟩
  refine st1 _ ?_
  show Steps p.tables e below (T1.setTop { method := m, pc := pc + 3, locals := ls, stack := .ref T.heap.size :: rest, locked := none }) _
  jvm_step X₁.here [X₁.here.top, hexec, d3', Value.category]
  exact hsteps
/-- 'throw new E("text")': new; dup; ldc; invokespecial; athrow -/
theorem vx_throwS {cc : ByteArray} {pc : Nat} (hexec : p.tables.exec = Jvm.exec) (hb : c.code = cc) (hl : l.stackTraces = false) {own cls text : String} {names : List String} {ik is ic mc ms sa : Nat} {A : Nat → Prop}
    (hown : s.vm.findClass own = some m.cls) (hcls : Bundle.fit cls = true) (hnames : ∀ n ∈ names, Bundle.fit n = true)
    (hk : (Cond.classLink own ik cls).before args s = true) (hini : (Cond.initialized cls).before args s = true) (hstr : vk_R own is text sa s) (hat : ∀ w ∈ vx_atS own ic cls names, w.before args s = true)
    (hgood : ∀ w ∈ Cond.classLink own ik cls :: Cond.initialized cls :: vx_atS own ic cls names, vx_ot w = true)
    (hU : vx_Zq Bundle.tN "UNASSIGNED_STACK" Bundle.steD A s s.heap) (hN : vx_Zq Bundle.tN "SUPPRESSED_SENTINEL" Bundle.listD A s s.heap) (hS : va_S A s.heap H locs) (hsize : ls.size = c.maxLocals)
    (d0 : decode cc pc = .ok (.new ik, 3)) (d3 : decode cc (pc + 3) = .ok (.dup, 1)) (d4 : decode cc (pc + 4) = .ok (.ldc is, 2)) (d6 : decode cc (pc + 6) = .ok (.invokespecial ic, 3)) (d9 : decode cc (pc + 9) = .ok (.athrow, 1))
    (hout : ∀ x ∈ c.exceptionTable.toList, covers x (pc + 9) = false)
    (hRframes : names.length + 3 < R.frames) (hRlocals : (rest.map fun v => v.category).sum + (13 * (names.length + 1) + 43) ≤ R.locals) (hRcells : cells + 1 ≤ R.cells) (hRslots : slots + 6 ≤ R.slots) (hlocks : meth.locks = false)
    (hx : ∀ t : State, s.vm.Alike t.vm → H.size ≤ t.heap.size → (∀ q : Nat, q < H.size → t.heap[q]? = H[q]?) → XC cls s t)
    (hf : ∀ z ∈ locs, free z.base) (hc : cells + 1 ≤ mc) (hs : slots + 6 ≤ ms) :
    W p l e R s m args below meth c H locs cells slots (vx_MQ below Qc XC args s mc ms free) (F0 m pc ls rest) := by
  intro T hT X
  have htr : e.platform.stackTraces = false := (show e.platform.stackTraces = l.stackTraces by rw [X.admits.platform]).trans hl
  have Y := vx_rebase X (R' := { frames := R.frames, locals := R.locals, cells := 1, slots := 6 }) (Nat.le_refl _) (Nat.le_refl _) hRcells hRslots
  obtain ⟨s', hA⟩ : ∃ z, z = (T.setVm s.vm).setFrames (.invoking m args :: below) := ⟨_, rfl⟩
  rw [← hA] at Y
  have hvm : s'.vm = s.vm := by rw [hA]; rfl
  have hhp : s'.heap = H := by rw [hA]; exact hT
  have hW0 : s.WarmedH s'.vm := by rw [hvm]; exact State.WarmedH.refl s
  have hat' : ∀ w ∈ vx_atS own ic cls names, w.before args s' = true := fun w hw => vx_ot_at hW0 hvm.symm (hgood w (List.mem_cons_of_mem _ (List.mem_cons_of_mem _ hw))) (hat w hw)
  have hk' : (Cond.classLink own ik cls).before args s' = true := vx_ot_at hW0 hvm.symm (hgood _ List.mem_cons_self) hk
  have hini' : (Cond.initialized cls).before args s' = true := vx_ot_at hW0 hvm.symm (hgood _ (List.mem_cons_of_mem _ List.mem_cons_self)) hini
  have hU' : vx_Zq Bundle.tN "UNASSIGNED_STACK" Bundle.steD A s' s'.heap := by rw [hhp]; exact vx_Zq.moved hW0.alike (hU.kept hS.2.1)
  have hN' : vx_Zq Bundle.tN "SUPPRESSED_SENTINEL" Bundle.listD A s' s'.heap := by rw [hhp]; exact vx_Zq.moved hW0.alike (hN.kept hS.2.1)
  have h : ∀ w ∈ Bundle.ownAtoms own ic cls names, w.before args s' = true := vx_own hat' (vx_isRefq hU'.1) (vx_isRefq hN'.1) hU'.2.word hN'.2.word
  have hown' : s'.vm.findClass own = some m.cls := by rw [hvm]; exact hown
  have hins : (Cond.instantiable cls 6).before args s' = true := h _ (by simp [Bundle.ownAtoms])
  obtain ⟨vm₁, cX, kX, hfX, hkX, -, -, X₁, st1⟩ := Y.newCold hexec (own := own) (C := cls) (index := ik) (n := 6) hown' hk' hins hini'
    (g := F0 m pc ls rest) rfl (by rw [hb]; exact d0) (Nat.le_refl _) (Nat.le_refl _)
  generalize hT1 : (T.setVm vm₁).pushCell { cls := cX, slots := kX.instanceTypes.map defaultValue, vm := .none } = T1 at X₁ st1
  have hcat : (Value.ref T.heap.size).category = 1 := rfl
  have hcellA : T1.heap[T.heap.size]? = some (freshCell cX kX) := by rw [← hT1]; exact State.heap_pushCell_size _ _
  have d3' : decode c.code (pc + 3) = .ok (.dup, 1) := by rw [hb]; exact d3
  have d4' : decode c.code (pc + 4) = .ok (.ldc is, 2) := by rw [hb]; exact d4
  have hstr' : vk_R own is text sa s' := vk_R.warm hW0 hstr
  obtain ⟨U, hsteps, hrun, hend, hW, hsame, ce, hce, hO⟩ := X₁.ctorThrowS hexec htr (own := own) (cls := cls) (names := names) (ic := ic) hown' hcls hnames h (fun x hx => nomatch hx) hfX hkX hcellA (by rw [hhp, hT]; exact Nat.le_refl _) (msg := .ref sa) rfl
    (g := { method := m, pc := pc + 6, locals := ls, stack := .ref sa :: .ref T.heap.size :: .ref T.heap.size :: rest, locked := none }) rfl hsize rfl rfl (rest := rest) rfl
    (by rw [hb]; exact d6) (by rw [hb]; exact d9) hout hRframes (by simp only [List.map_cons, List.sum_cons, hcat]; omega) hlocks
  obtain ⟨f1, f2⟩ := vx_frame hsame
  rw [hhp] at f1 f2
  have hWs : s.WarmedH U.vm := State.WarmedH.trans hW0 hW
  have hcl : s.vm.findClass cls = some ce.cls := by
    have h9 := hO.cls
    rw [hvm] at h9
    exact h9
  have hall : s.sameButNew ({ U with vm := s.vm } : State) locs mc ms := by
    subst hA
    obtain ⟨e1, e2⟩ := hsame
    rw [State.setFrames_setFrames] at e1
    have h2 : (T.setVm s.vm).sameButNew ({ U with vm := s.vm } : State) [] (0 + 1) (0 + 6) := ⟨e1, e2⟩
    have h3 := X.same.trans h2
    rw [List.append_nil] at h3
    exact h3.mono hc hs
  refine ⟨U, ?_, .threw T.heap.size, hrun, hend, Or.inr ⟨T.heap.size, rfl, cls, ce, locs, hx U hWs.alike f1 (fun q hq => f2 q hq (fun z hz => nomatch hz)), hce, hO.vm, hcl, hWs, hall, hf⟩⟩
  refine st1 _ ?_
  show Steps p.tables e below (T1.setTop { method := m, pc := pc + 3, locals := ls, stack := .ref T.heap.size :: rest, locked := none }) _
  jvm_step X₁.here [X₁.here.top, hexec, d3', Value.category]
  exact X₁.ldcString hexec (own := own) (text := text) (index := is) (a := sa) hown' hstr'.1 hstr'.2
    (g := { method := m, pc := pc + 4, locals := ls, stack := .ref T.heap.size :: .ref T.heap.size :: rest, locked := none }) rfl d4' _ hsteps
/-- 'throw new E("text")', the text by a wide index -/
theorem vx_throwSW {cc : ByteArray} {pc : Nat} (hexec : p.tables.exec = Jvm.exec) (hb : c.code = cc) (hl : l.stackTraces = false) {own cls text : String} {names : List String} {ik is ic mc ms sa : Nat} {A : Nat → Prop}
    (hown : s.vm.findClass own = some m.cls) (hcls : Bundle.fit cls = true) (hnames : ∀ n ∈ names, Bundle.fit n = true)
    (hk : (Cond.classLink own ik cls).before args s = true) (hini : (Cond.initialized cls).before args s = true) (hstr : vk_R own is text sa s) (hat : ∀ w ∈ vx_atS own ic cls names, w.before args s = true)
    (hgood : ∀ w ∈ Cond.classLink own ik cls :: Cond.initialized cls :: vx_atS own ic cls names, vx_ot w = true)
    (hU : vx_Zq Bundle.tN "UNASSIGNED_STACK" Bundle.steD A s s.heap) (hN : vx_Zq Bundle.tN "SUPPRESSED_SENTINEL" Bundle.listD A s s.heap) (hS : va_S A s.heap H locs) (hsize : ls.size = c.maxLocals)
    (d0 : decode cc pc = .ok (.new ik, 3)) (d3 : decode cc (pc + 3) = .ok (.dup, 1)) (d4 : decode cc (pc + 4) = .ok (.ldc_w is, 3)) (d7 : decode cc (pc + 7) = .ok (.invokespecial ic, 3)) (d10 : decode cc (pc + 10) = .ok (.athrow, 1))
    (hout : ∀ x ∈ c.exceptionTable.toList, covers x (pc + 10) = false)
    (hRframes : names.length + 3 < R.frames) (hRlocals : (rest.map fun v => v.category).sum + (13 * (names.length + 1) + 43) ≤ R.locals) (hRcells : cells + 1 ≤ R.cells) (hRslots : slots + 6 ≤ R.slots) (hlocks : meth.locks = false)
    (hx : ∀ t : State, s.vm.Alike t.vm → H.size ≤ t.heap.size → (∀ q : Nat, q < H.size → t.heap[q]? = H[q]?) → XC cls s t)
    (hf : ∀ z ∈ locs, free z.base) (hc : cells + 1 ≤ mc) (hs : slots + 6 ≤ ms) :
    W p l e R s m args below meth c H locs cells slots (vx_MQ below Qc XC args s mc ms free) (F0 m pc ls rest) := by
  intro T hT X
  have htr : e.platform.stackTraces = false := (show e.platform.stackTraces = l.stackTraces by rw [X.admits.platform]).trans hl
  have Y := vx_rebase X (R' := { frames := R.frames, locals := R.locals, cells := 1, slots := 6 }) (Nat.le_refl _) (Nat.le_refl _) hRcells hRslots
  obtain ⟨s', hA⟩ : ∃ z, z = (T.setVm s.vm).setFrames (.invoking m args :: below) := ⟨_, rfl⟩
  rw [← hA] at Y
  have hvm : s'.vm = s.vm := by rw [hA]; rfl
  have hhp : s'.heap = H := by rw [hA]; exact hT
  have hW0 : s.WarmedH s'.vm := by rw [hvm]; exact State.WarmedH.refl s
  have hat' : ∀ w ∈ vx_atS own ic cls names, w.before args s' = true := fun w hw => vx_ot_at hW0 hvm.symm (hgood w (List.mem_cons_of_mem _ (List.mem_cons_of_mem _ hw))) (hat w hw)
  have hk' : (Cond.classLink own ik cls).before args s' = true := vx_ot_at hW0 hvm.symm (hgood _ List.mem_cons_self) hk
  have hini' : (Cond.initialized cls).before args s' = true := vx_ot_at hW0 hvm.symm (hgood _ (List.mem_cons_of_mem _ List.mem_cons_self)) hini
  have hU' : vx_Zq Bundle.tN "UNASSIGNED_STACK" Bundle.steD A s' s'.heap := by rw [hhp]; exact vx_Zq.moved hW0.alike (hU.kept hS.2.1)
  have hN' : vx_Zq Bundle.tN "SUPPRESSED_SENTINEL" Bundle.listD A s' s'.heap := by rw [hhp]; exact vx_Zq.moved hW0.alike (hN.kept hS.2.1)
  have h : ∀ w ∈ Bundle.ownAtoms own ic cls names, w.before args s' = true := vx_own hat' (vx_isRefq hU'.1) (vx_isRefq hN'.1) hU'.2.word hN'.2.word
  have hown' : s'.vm.findClass own = some m.cls := by rw [hvm]; exact hown
  have hins : (Cond.instantiable cls 6).before args s' = true := h _ (by simp [Bundle.ownAtoms])
  obtain ⟨vm₁, cX, kX, hfX, hkX, -, -, X₁, st1⟩ := Y.newCold hexec (own := own) (C := cls) (index := ik) (n := 6) hown' hk' hins hini'
    (g := F0 m pc ls rest) rfl (by rw [hb]; exact d0) (Nat.le_refl _) (Nat.le_refl _)
  generalize hT1 : (T.setVm vm₁).pushCell { cls := cX, slots := kX.instanceTypes.map defaultValue, vm := .none } = T1 at X₁ st1
  have hcat : (Value.ref T.heap.size).category = 1 := rfl
  have hcellA : T1.heap[T.heap.size]? = some (freshCell cX kX) := by rw [← hT1]; exact State.heap_pushCell_size _ _
  have d3' : decode c.code (pc + 3) = .ok (.dup, 1) := by rw [hb]; exact d3
  have d4' : decode c.code (pc + 4) = .ok (.ldc_w is, 3) := by rw [hb]; exact d4
  have hstr' : vk_R own is text sa s' := vk_R.warm hW0 hstr
  obtain ⟨U, hsteps, hrun, hend, hW, hsame, ce, hce, hO⟩ := X₁.ctorThrowS hexec htr (own := own) (cls := cls) (names := names) (ic := ic) hown' hcls hnames h (fun x hx => nomatch hx) hfX hkX hcellA (by rw [hhp, hT]; exact Nat.le_refl _) (msg := .ref sa) rfl
    (g := { method := m, pc := pc + 7, locals := ls, stack := .ref sa :: .ref T.heap.size :: .ref T.heap.size :: rest, locked := none }) rfl hsize rfl rfl (rest := rest) rfl
    (by rw [hb]; exact d7) (by rw [hb]; exact d10) hout hRframes (by simp only [List.map_cons, List.sum_cons, hcat]; omega) hlocks
  obtain ⟨f1, f2⟩ := vx_frame hsame
  rw [hhp] at f1 f2
  have hWs : s.WarmedH U.vm := State.WarmedH.trans hW0 hW
  have hcl : s.vm.findClass cls = some ce.cls := by
    have h9 := hO.cls
    rw [hvm] at h9
    exact h9
  have hall : s.sameButNew ({ U with vm := s.vm } : State) locs mc ms := by
    subst hA
    obtain ⟨e1, e2⟩ := hsame
    rw [State.setFrames_setFrames] at e1
    have h2 : (T.setVm s.vm).sameButNew ({ U with vm := s.vm } : State) [] (0 + 1) (0 + 6) := ⟨e1, e2⟩
    have h3 := X.same.trans h2
    rw [List.append_nil] at h3
    exact h3.mono hc hs
  refine ⟨U, ?_, .threw T.heap.size, hrun, hend, Or.inr ⟨T.heap.size, rfl, cls, ce, locs, hx U hWs.alike f1 (fun q hq => f2 q hq (fun z hz => nomatch hz)), hce, hO.vm, hcl, hWs, hall, hf⟩⟩
  refine st1 _ ?_
  show Steps p.tables e below (T1.setTop { method := m, pc := pc + 3, locals := ls, stack := .ref T.heap.size :: rest, locked := none }) _
  jvm_step X₁.here [X₁.here.top, hexec, d3', Value.category]
  exact X₁.ldcStringW hexec (own := own) (text := text) (index := is) (a := sa) hown' hstr'.1 hstr'.2
    (g := { method := m, pc := pc + 4, locals := ls, stack := .ref T.heap.size :: .ref T.heap.size :: rest, locked := none }) rfl d4' _ hsteps
end Ends
section Bodies
variable {l : Launch}
theorem vx_ofW {y : MethodName} {ws ws' : List Cond} {rm : Room} {Pc : Array Value → State → Prop} {Qc : Array Value → State → Outcome → State → Prop} {XC : String → State → State → Prop} {mc ms : Nat} {free : Addr → Prop} {cc : ByteArray} {maxL : Nat} {ret : Option FieldType}
    (hy : plainName y.cls = true) (hw : ws = Cond.code y cc maxL ret :: ws')
    (body : ∀ p e s m args below meth c s₁, BodyLoose p l y (headSpec ws rm) cc maxL ret e s m args below meth c s₁ → c.maxLocals = maxL → (∀ x ∈ c.exceptionTable.toList, False) → Pc args s →
      W p l e (headSpec ws rm).room s m args below meth c s.heap [] 0 0 (vx_MQ below Qc XC args s mc ms free) (entryFrame m args maxL)) : vx_Met l y ws rm Pc Qc XC mc ms free := by
  refine MetFree.of_bodyS (code := cc) (maxLocals := maxL) (ret := ret) hy ?_ ?_
  · intro args s m h hn
    obtain ⟨meth, c, h1, h2, h3, h4, h5, h6, -, -⟩ := Cond.code_spec hn (atoms_spec (ws := ws) h _ (by rw [hw]; exact List.mem_cons_self))
    exact ⟨meth, c, h1, h2, h3, h4, h5, h6⟩
  · intro p e s m args below meth c s₁ B hml hP _
    have hh0 : s₁.heap = s.heap := by rw [B.state]; rfl
    have ht : ∀ x ∈ c.exceptionTable.toList, False := by
      obtain ⟨meth9, c9, h1, h2, -, -, -, -, h7, -⟩ := Cond.code_spec B.named (atoms_spec (ws := ws) B.pre _ (by rw [hw]; exact List.mem_cons_self))
      cases Option.some.inj (h1.symm.trans B.method)
      cases Option.some.inj (h2.symm.trans (Stand.of_body B).code)
      intro x hx
      rw [Array.isEmpty_iff.mp h7] at hx
      cases hx
    obtain ⟨t, a1, o, b1, b2, b3⟩ := body p e s m args below meth c s₁ B hml ht hP s₁ hh0 (Stand.of_body B)
    exact ⟨t, o, a1, b1, b2, b3⟩
/-- the table of a body with handlers -/
theorem vx_table {p : Program} {x y : MethodName} {S : Spec} {cc bytes : ByteArray} {maxL maxL' : Nat} {ret ret' : Option FieldType} {e : Env} {s s₁ : State} {m : MethodId} {args : Array Value} {below : List Frame} {meth : Method} {c : Code} {hh : List (Nat × Nat × Nat × Nat)}
    (B : BodyLoose p l y S cc maxL ret e s m args below meth c s₁) (h : (Cond.codeWith y bytes maxL' ret' hh).before args s = true) : c.exceptionTable.toList = tableOf hh := by
  obtain ⟨m9, meth9, c9, hn9, h1, h2, -, -, h6, -⟩ := Cond.codeWith_spec h
  cases Option.some.inj (hn9.symm.trans B.named)
  cases Option.some.inj (h1.symm.trans B.method)
  cases Option.some.inj (h2.symm.trans (Stand.of_body B).code)
  rw [← h6, table_eq]
end Bodies
end VXA
/-! ===== END ===== -/
/-! ===== BEGIN a static call of a method with an exception table ===== -/
section VXS
variable {p : Program} {l : Launch} {e : Env} {R : Room} {s : State} {m : MethodId} {args : Array Value} {below : List Frame} {meth : Method} {c : Code} {T : State} {H : Heap} {locs : List Loc} {cells slots : Nat}
abbrev vx_CSW (R : Room) (s : State) (args : Array Value) (own : String) (index : Nat) (y : MethodName) (bytes : ByteArray) (maxL : Nat) (ret : Option FieldType) (hh : List (Nat × Nat × Nat × Nat)) (ws : List Cond) (rm : Room) (mc ms n : Nat) : Prop :=
  (rm.cells = mc ∧ rm.slots = ms ∧ rm.frames + 1 ≤ R.frames ∧ 8 + (maxL + 11) + rm.locals ≤ R.locals ∧ (∀ w ∈ ws, ∀ (a' : Array Value) (U : State), s.WarmedH U.vm → w.before a' U = true) ∧ Cond.codeWith y bytes maxL ret hh ∈ ws) ∧
  (Cond.codeWith y bytes maxL ret hh).before args s = true ∧ (Cond.initialized y.cls).before args s = true ∧ (y.cls ≠ "java/lang/invoke/MethodHandle" ∧ y.cls ≠ "java/lang/invoke/VarHandle") ∧
  (∀ sig, parseMethodDescriptor y.desc = some sig → n = sig.parameters.length) ∧ (Cond.methodLink own index y).before args s = true ∧ (Cond.static y).before args s = true
theorem vx_cwSW {own : String} {index maxL mc ms : Nat} {y : MethodName} {bytes : ByteArray} {ret : Option FieldType} {hh : List (Nat × Nat × Nat × Nat)} {Ts ws ws' : List Cond} {rm : Room} (n : Nat) (ht : ∀ w ∈ Ts, w.before args s = true) (hT : GoodIn Ts (va_wsS own index y ws)) (hw : ws = Cond.codeWith y bytes maxL ret hh :: ws') (hrc : rm.cells = mc) (hrs : rm.slots = ms)
    (hd : y.cls ≠ "java/lang/invoke/MethodHandle" ∧ y.cls ≠ "java/lang/invoke/VarHandle" ∧ (parseMethodDescriptor y.desc).map (fun d => d.parameters.length) = some n) (hR : rm.frames + 1 ≤ R.frames ∧ 8 + (maxL + 11) + rm.locals ≤ R.locals) :
    vx_CSW R s args own index y bytes maxL ret hh ws rm mc ms n := by
  have ok : ∀ w ∈ va_wsS own index y ws, w.before args s = true := fun w h => ht w (hT w h).1
  have hG : GoodIn Ts ws := fun w h => hT w (by unfold va_wsS; exact List.mem_append_right _ h)
  have hc : Cond.codeWith y bytes maxL ret hh ∈ ws := by rw [hw]; exact List.mem_cons_self
  refine ⟨⟨hrc, hrs, hR.1, hR.2, pay_in ht hG, hc⟩, ht _ (hG _ hc).1, ok _ (by simp [va_wsS]), ⟨hd.1, hd.2.1⟩, fun sig h => ?_, ok _ (by simp [va_wsS]), ok _ (by simp [va_wsS])⟩
  have h2 := hd.2.2
  rw [h] at h2
  exact (Option.some.inj h2).symm
theorem vx_callSW (X : Stand p l e R s m args below meth c T locs cells slots) (hexec : p.tables.exec = Jvm.exec) {own : String} {index : Nat} {y : MethodName} {bytes : ByteArray} {maxL : Nat} {ret : Option FieldType} {hh : List (Nat × Nat × Nat × Nat)}
    (hown : s.vm.findClass own = some m.cls) (hlink : (Cond.methodLink own index y).before args s = true) (hstat : (Cond.static y).before args s = true) (hinit : (Cond.initialized y.cls).before args s = true)
    (hcode : (Cond.codeWith y bytes maxL ret hh).before args s = true) (hy : y.cls ≠ "java/lang/invoke/MethodHandle" ∧ y.cls ≠ "java/lang/invoke/VarHandle")
    {W9 : Nat} {Pre : Pt → Array Value → Prop} {Post : Pt → Array Value → Option Value → Pt → Prop} (hK : Back l R p e below s args y 3 W9 Pre Post)
    {g : JFrame} (hg : g.method = m) (hsize : g.locals.size = c.maxLocals) {argsL rest : List Value} (hlen : ∀ sig, parseMethodDescriptor y.desc = some sig → argsL.length = sig.parameters.length)
    (hstack : g.stack = argsL.reverse ++ rest) (hW : 2 * g.monitorRoom + (rest.map fun v => v.category).sum ≤ W9) (hdg : decode c.code g.pc = .ok (.invokestatic index, 3))
    (hpre : ∀ vm₁, s.WarmedH vm₁ → Pre ⟨T.setVm vm₁, locs, cells, slots⟩ argsL.toArray) :
    ∃ (v : Option Value) (vm₁ : Vm) (B : Pt), s.WarmedH vm₁ ∧ Stand p l e R s m args below meth c B.U B.locs B.cells B.slots ∧ Post ⟨T.setVm vm₁, locs, cells, slots⟩ argsL.toArray v B ∧
      ∀ target, Steps p.tables e below (B.U.setTop { g with pc := g.pc + 3, stack := v.toList ++ rest }) target → Steps p.tables e below (T.setTop g) target := by
  obtain ⟨mk, methM, cM, hnamed, hmethM, -, -, -, -, -, -, hsigM⟩ := Cond.codeWith_spec hcode
  have hstatic : methM.isStatic = true := Cond.static_spec hnamed hmethM hstat
  obtain ⟨kP, hkP, -⟩ := className_of_methodNamed hnamed
  have hinitP : kP.init = .initialized := Cond.initialized_spec (findClass_of_methodNamed hnamed) hkP hinit
  obtain ⟨vm₁, X₁, hstep₁⟩ := X.invokestatic hexec hown hlink hnamed hmethM hstatic hkP hinitP hy (g := g) hg (argsL := argsL) (rest := rest) (hlen _ hsigM) hstack hdg
  obtain ⟨v, B, X', hpost, hsteps⟩ := hK m meth c ⟨T.setVm vm₁, locs, cells, slots⟩ { g with stack := rest } (.invokestatic index) mk argsL.toArray X₁ hg hsize hdg hW (X₁.named hnamed) (hpre vm₁ X₁.warmed)
  exact ⟨v, vm₁, B, X₁.warmed, X', hpost, fun target h => hstep₁ _ fun acts => by rw [doInvoke_state]; exact hsteps.trans h⟩
theorem vx_runSW {y : MethodName} {bytes cc : ByteArray} {maxL nL mc ms n index : Nat} {ret : Option FieldType} {hh : List (Nat × Nat × Nat × Nat)} {ws : List Cond} {rm : Room} {Pc : Array Value → State → Prop} {Qc : Array Value → State → Outcome → State → Prop} {free : Addr → Prop} {Ts : List Cond} {own : String} {As rest : List Value} {g : JFrame}
    (S : CallFix p m c cc nL s args Ts own) (hM : Met l y ws rm Pc Qc mc ms free) (cw : vx_CSW R s args own index y bytes maxL ret hh ws rm mc ms n) (hp : PreS s H Pc As)
    (hg : g.method = m) (hn : As.length = n) (hsize : g.locals.size = nL) (hstack : g.stack = As.reverse ++ rest) (hW : 2 * g.monitorRoom + (rest.map fun v => v.category).sum ≤ 8) (hdg : decode cc g.pc = .ok (.invokestatic index, 3)) (hf : cells + mc ≤ R.cells ∧ slots + ms ≤ R.slots) :
    va_Run p l e R s m args below meth c H locs cells slots mc ms g rest (Qc As.toArray) (free) := by
  obtain ⟨⟨hrc, hrs, hfr, hlo, hws, hcw⟩, hcode, hini, hy, hlen, hl, hstt⟩ := cw
  have hK : Back l R p e below s args y 3 8 (PreOf R mc ms Pc) (PostOf Qc mc ms free) := va_backW (hh := hh) (bytes := bytes) (maxL := maxL) (ret := ret) hM hp.1 hrc hrs hfr hlo hws hcw (fun a' U hW => word_at hW (Or.inl (by first | rfl | simp [Cond.onTables, Cond.keeps, Cond.steady])) hini)
  obtain ⟨hx, hb, hml, ho, -⟩ := S
  intro T hT X
  obtain ⟨v, vm₁, ⟨U', l2, c2, s2⟩, hW₁, X', ⟨g', mk, t, L, e1, e2, hq, h1, hL, h2, h3⟩, st⟩ := vx_callSW X hx (hh := hh) (bytes := bytes) (maxL := maxL) (ret := ret) ho hl hstt hini hcode hy hK hg (hsize.trans hml.symm) (argsL := As) (rest := rest) (fun sig h => hn.trans (hlen sig h)) hstack hW (by rw [hb]; exact hdg)
    (fun vm₁ hW₁ => ⟨hf.1, hf.2, hp.2 (T.setVm vm₁) hT hW₁⟩)
  dsimp only [Pt.U, Pt.locs, Pt.cells, Pt.slots] at X' e1 e2 h1 h2 h3 st
  subst h1; subst h2; subst h3
  exact ⟨v, (T.setVm vm₁).calling g' mk As.toArray, t, U', L, hT, X', hL, e1, e2, hq, st⟩
/-- not caught here, past rows that name other classes: it goes on to the caller -/
theorem vx_outP {p : Program} {l : Launch} {e : Env} {R : Room} {s : State} {m : MethodId} {args : Array Value} {below : List Frame} {meth : Method} {c : Code} {H : Heap} {locs : List Loc} {cells slots : Nat} {free : Addr → Prop} {ls : Array Slot} {rest : List Value} {Qc : Array Value → State → Outcome → State → Prop} {XC : String → State → State → Prop}
    {pc : Nat} {own E : String} {ce : Cell} {q : Addr} {mc ms : Nat} (hown : s.vm.findClass own = some m.cls) (hlocks : meth.locks = false)
    (hpass : ∀ z ∈ c.exceptionTable.toList, covers z pc = false ∨ (z.catchType ≠ 0 ∧ ∃ nm : String, (Cond.classLink own z.catchType nm).before args s = true ∧ va_Nc E nm s)) (hcell : H[q]? = some ce) (hv : ce.vm = .none) (hcl : s.vm.findClass E = some ce.cls)
    (hx : ∀ t : State, t.heap = H → s.vm.Alike t.vm → XC E s t) (hf : ∀ z ∈ locs, free z.base) (hc : cells ≤ mc) (hs : slots ≤ ms) :
    vx_W p l e R s m args below meth c H locs cells slots (vx_MQ below Qc XC args s mc ms free) (F0 m pc ls rest) q := by
  intro T hT X
  have hpl : e.platform.magicAccessors = ({} : Platform).magicAccessors := by rw [X.admits.platform]
  obtain ⟨vm', hW', X', st⟩ := X.outThrough hlocks q (g := F0 m pc ls rest) rfl rfl rfl (cell := ce) (by rw [hT]; exact hcell) (by rw [hv]; rfl)
    (by obtain ⟨k9, h9, -⟩ := Vm.findClass_spec hcl; exact ⟨k9, h9⟩) (fun z hz => by
      rcases hpass z hz with h | ⟨hz0, nm, hl1, hn1⟩
      · exact Or.inl h
      · obtain ⟨c6, hc6, hcl6⟩ := Cond.classLink_spec hown hl1 e.platform hpl
        obtain ⟨a8, b8, h1, h2, h3⟩ := hn1
        cases Option.some.inj (h1.symm.trans hcl)
        cases Option.some.inj (h2.symm.trans hc6)
        exact Or.inr ⟨hz0, _, hcl6, h3⟩)
  obtain ⟨g₀, hfr⟩ := X'.frames_eq
  have hcell9 : ((T.setVm vm').setFrames (.throwing q :: below)).heap[q]? = some ce := by
    show T.heap[q]? = some ce
    rw [hT]; exact hcell
  have hend : Ended ((T.setVm vm').setFrames (.throwing q :: below)) below (.threw q) := State.frames_setFrames _ (State.cur_lt_of_frames hfr)
  refine ⟨(T.setVm vm').setFrames (.throwing q :: below), ?_, .threw q, X'.here.running, hend, Or.inr ⟨q, rfl, E, ce, locs, hx _ hT (X'.ends _).1.alike, hcell9, hv, hcl, (X'.ends _).1, (X'.ends _).2.mono hc hs, hf⟩⟩
  rw [X.pushThrowing_eq]
  exact st
/-- a thing of a world lies in the heap -/
theorem vx_lt {D : va_G} {cl : List vw_C} {ws : va_W} {H1 : Heap} (h : va_P D cl ws H1) {k : Nat} {q : Nat × va_E} (hk : ws[k]? = some q) : q.1 < H1.size := (h k q hk).lt
end VXS
/-! ===== END ===== -/
/-! ===== BEGIN methods with a table of their own: called by a name, returning or throwing ===== -/
section VXH
/-! vx_backW, vx_callVX, vx_callSX, vx_callVW, vx_runVW, vx_runVX, vx_runSX, vx_ofWH follow the same proofs as their sisters above (Free/Laws.lean, Shelf42/LK1.lean); vx_outP calls Shelf42/NT130.lean (outThrough). -/
section
variable {l : Launch} {R : Room} {p : Program} {e : Env} {below : List Frame} {s : State} {sargs : Array Value} {y : MethodName} {len W9 : Nat}
theorem vx_backW {ws : List Cond} {rm : Room} {Pc : Array Value → State → Prop} {Qc : Array Value → State → Outcome → State → Prop} {XC : String → State → State → Prop} {mc ms : Nat} {free : Addr → Prop} {bytes : ByteArray} {maxL : Nat} {ret : Option FieldType} {hh : List (Nat × Nat × Nat × Nat)}
    (hM : vx_Met l y ws rm Pc Qc XC mc ms free) (hblind : FrameBlind Pc) (hrc : rm.cells = mc) (hrs : rm.slots = ms)
    (hframes : rm.frames + 1 ≤ R.frames) (hlocals : W9 + (maxL + 11) + rm.locals ≤ R.locals)
    (hws : ∀ w ∈ ws, ∀ a' U, s.WarmedH U.vm → w.before a' U = true) (hcode : Cond.codeWith y bytes maxL ret hh ∈ ws) (hinit : ∀ a' U, s.WarmedH U.vm → (Cond.initialized y.cls).before a' U = true) :
    vx_Back l R p e below s sargs y len W9 (PreOf R mc ms Pc) (PostOf Qc mc ms free) (vx_Post XC mc ms free) := by
  intro m meth c A g ig mk a X hg hsize hdg hW hn hp
  have h1 : (headSpec ws rm).pre.before a A.U = true := atoms_intro fun w hw => hws w hw _ _ X.warmed
  have h2 : (Cond.codeWith y bytes maxL ret hh).before a A.U = true := hws _ hcode _ _ X.warmed
  have h3 : (Cond.initialized y.cls).before a A.U = true := hinit _ _ X.warmed
  have h4 : A.cells + (headSpec ws rm).room.cells ≤ R.cells := by rw [show (headSpec ws rm).room.cells = mc from hrc]; exact hp.1
  have h5 : A.slots + (headSpec ws rm).room.slots ≤ R.slots := by rw [show (headSpec ws rm).room.slots = ms from hrs]; exact hp.2.1
  have hPc : Pc a (A.U.calling g mk a) := hblind _ _ _ _ hp.2.2
  obtain ⟨U, Ls, c0, s0⟩ := A
  dsimp only [Pt.U, Pt.locs, Pt.cells, Pt.slots] at h1 h2 h3 h4 h5 X hn hPc ⊢
  obtain ⟨m9, methY, cY, hn9, hmY, hcY, -, hlY, -⟩ := Cond.codeWith_spec h2
  cases Option.some.inj (hn9.symm.trans hn)
  obtain ⟨kY, hkY, -⟩ := className_of_methodNamed hn
  have hinitY : kY.init = .initialized := Cond.initialized_spec (findClass_of_methodNamed hn) hkY h3
  have h : At U g.method c below := by rw [hg]; exact X.here
  have hlocals9 : W9 + (maxL + 11) + (headSpec ws rm).room.locals ≤ R.locals := hlocals
  have happ : (headSpec ws rm).appliesLoose y e.platform (U.calling g mk a) = true :=
    Spec.appliesLoose_calling (g := g) h hdg hn hkY hinitY
      (X.room_calling (g := g) (R' := (headSpec ws rm).room) hsize hmY hcY hframes (by rw [hlY]; omega) h4 h5) h1
  obtain ⟨mid, hmid⟩ := h.above
  have hfr : (U.setTop g).frames = (.java g :: mid) ++ below := by rw [State.frames_setTop' g h.top, hmid]; rfl
  obtain ⟨o, s₂, hsteps, -, hend, hq⟩ := Steps.callFree hM p X.admits X.cas X.clock (acts := []) hfr happ hPc trivial
  have hq' : vx_Q Qc XC mc ms free a (U.calling g mk a) o s₂ := hq
  rw [State.frames_setTop' g h.top] at hend
  obtain ⟨g₀, hg0⟩ := Option.isSome_iff_exists.mp h.top
  obtain ⟨r, hr⟩ := State.topJava?_eq_some.mp hg0
  have hr' : (({ U with heap := s₂.heap, slotsUsed := s₂.slotsUsed } : State).setVm s₂.vm).frames = .java g₀ :: r := hr
  rcases hq' with ⟨hqc, L, hfe, hL⟩ | ⟨q, rfl, E, ce, L, hx, hce, hcv, hcl, hW₂, hsm, hL⟩
  · obtain ⟨⟨v, rfl⟩, hW₂, e2, q2, q3, q4, q5, q6⟩ := id hfe
    have e3 : s₂ = ({ (U.calling g mk a).setFrames s₂.frames with heap := s₂.heap, slotsUsed := s₂.slotsUsed } : State).setVm s₂.vm := by
      have : s₂ = ({ s₂ with vm := (U.calling g mk a).vm } : State).setVm s₂.vm := rfl
      rw [e2] at this
      exact this
    obtain ⟨c₂, i₂, len₂, hc₂, hd₂, hf₂⟩ := hend
    have hW' : U.WarmedH s₂.vm := hW₂
    have hcc : c₂ = c := by
      have h1 : s₂.code? g.method = U.code? g.method := by
        rw [State.code?_eq, State.code?_eq, hW'.alike.method?]
      exact Option.some.inj (hc₂.symm.trans (h1.trans h.code))
    subst hcc
    have hlen : len₂ = len := by rw [hdg] at hd₂; cases hd₂; rfl
    subst hlen
    have hs₂ : s₂ = (({ U with heap := s₂.heap, slotsUsed := s₂.slotsUsed } : State).setVm s₂.vm).setTop { g with pc := g.pc + len₂, stack := v.toList ++ g.stack } := by
      refine e3.trans ?_
      rw [hf₂, State.calling_eq h.top, State.setFrames_setFrames, State.setTop_of_frames _ hr', hr]
      rfl
    have hsame : U.sameButNew ({ U with heap := s₂.heap, slotsUsed := s₂.slotsUsed } : State) L mc ms := by
      refine ⟨?_, q2, q3, q4, q5, q6⟩
      obtain ⟨t, ht, -⟩ := State.frames_cons hr
      show ({ U with heap := s₂.heap, slotsUsed := s₂.slotsUsed } : State) = { U.setFrames U.frames with heap := s₂.heap, slotsUsed := s₂.slotsUsed }
      rw [State.setFrames_self ht]
    subst hg
    refine Or.inl ⟨v, ⟨(({ U with heap := s₂.heap, slotsUsed := s₂.slotsUsed } : State).setVm s₂.vm), Ls ++ L, c0 + mc, s0 + ms⟩,
      ⟨X.admits, X.cas, X.clock, X.frames, X.room, X.hears, X.method, X.code, (X.here.setHeapUsed s₂.heap s₂.slotsUsed).setVm hW'.alike, X.tail, State.WarmedH.trans X.warmed hW', X.limits, X.bytes, X.same.trans (hsame.setVm s.vm)⟩,
      ⟨g, mk, s₂, L, rfl, rfl, hqc, rfl, hL, rfl, rfl⟩, ?_⟩
    show Steps p.tables e below _ ((({ U with heap := s₂.heap, slotsUsed := s₂.slotsUsed } : State).setVm s₂.vm).setTop { g with pc := g.pc + len₂, stack := v.toList ++ g.stack })
    rw [← hs₂]
    exact hsteps
  · obtain ⟨e2, q2, q3, q4, q5, q6⟩ := id hsm
    have e3 : s₂ = ({ (U.calling g mk a).setFrames s₂.frames with heap := s₂.heap, slotsUsed := s₂.slotsUsed } : State).setVm s₂.vm := by
      have : s₂ = ({ s₂ with vm := (U.calling g mk a).vm } : State).setVm s₂.vm := rfl
      rw [e2] at this
      exact this
    have hf₂ : s₂.frames = .throwing q :: .java g :: U.frames.tail := hend
    have hW' : U.WarmedH s₂.vm := hW₂
    have hs₂ : s₂ = ((({ U with heap := s₂.heap, slotsUsed := s₂.slotsUsed } : State).setVm s₂.vm).setTop g).pushFrame (.throwing q) := by
      refine e3.trans ?_
      rw [hf₂, State.calling_eq h.top, State.setFrames_setFrames, State.pushFrame, State.frames_setTop _ hr', State.setTop_of_frames _ hr', State.setFrames_setFrames, hr]
      rfl
    have hsame : U.sameButNew ({ U with heap := s₂.heap, slotsUsed := s₂.slotsUsed } : State) L mc ms := by
      refine ⟨?_, q2, q3, q4, q5, q6⟩
      obtain ⟨t, ht, -⟩ := State.frames_cons hr
      show ({ U with heap := s₂.heap, slotsUsed := s₂.slotsUsed } : State) = { U.setFrames U.frames with heap := s₂.heap, slotsUsed := s₂.slotsUsed }
      rw [State.setFrames_self ht]
    subst hg
    refine Or.inr ⟨q, ⟨(({ U with heap := s₂.heap, slotsUsed := s₂.slotsUsed } : State).setVm s₂.vm), Ls ++ L, c0 + mc, s0 + ms⟩,
      ⟨X.admits, X.cas, X.clock, X.frames, X.room, X.hears, X.method, X.code, (X.here.setHeapUsed s₂.heap s₂.slotsUsed).setVm hW'.alike, X.tail, State.WarmedH.trans X.warmed hW', X.limits, X.bytes, X.same.trans (hsame.setVm s.vm)⟩,
      ⟨g, mk, s₂, L, E, ce, rfl, rfl, hx, hce, hcv, hcl, rfl, hL, rfl, rfl⟩, ?_⟩
    show Steps p.tables e below _ (((({ U with heap := s₂.heap, slotsUsed := s₂.slotsUsed } : State).setVm s₂.vm).setTop g).pushFrame (.throwing q))
    rw [← hs₂]
    exact hsteps
end
variable {p : Program} {l : Launch} {e : Env} {R : Room} {s : State} {m : MethodId} {args : Array Value} {below : List Frame} {meth : Method} {c : Code} {T : State} {H : Heap} {locs : List Loc} {cells slots : Nat}
theorem vx_callVX (X : Stand p l e R s m args below meth c T locs cells slots) (hexec : p.tables.exec = Jvm.exec) {own C : String} {index : Nat} {y : MethodName} {bytes : ByteArray} {maxL : Nat} {ret : Option FieldType} {hh : List (Nat × Nat × Nat × Nat)}
    (hown : s.vm.findClass own = some m.cls) (hlink : (Cond.methodLink own index y).before args s = true) (hinst : (Cond.instanceMethod y).before args s = true) (hsel : (Cond.selects C y y).before args s = true)
    (hcode : (Cond.codeWith y bytes maxL ret hh).before args s = true) (hy : y.cls ≠ "java/lang/invoke/MethodHandle" ∧ y.cls ≠ "java/lang/invoke/VarHandle")
    {W9 : Nat} {Pre : Pt → Array Value → Prop} {Post : Pt → Array Value → Option Value → Pt → Prop} {PostX : Pt → Array Value → Addr → Pt → Prop} (hK : vx_Back l R p e below s args y 3 W9 Pre Post PostX)
    {b : Addr} {cellB : Cell} (hcell : T.heap[b]? = some cellB) (hobj : cellB.vm.isStatics = false) (hcls : s.vm.findClass C = some cellB.cls)
    {g : JFrame} (hg : g.method = m) (hsize : g.locals.size = c.maxLocals) {argsL rest : List Value} (hlen : ∀ sig, parseMethodDescriptor y.desc = some sig → argsL.length = sig.parameters.length)
    (hstack : g.stack = argsL.reverse ++ .ref b :: rest) (hW : 2 * g.monitorRoom + (rest.map fun v => v.category).sum ≤ W9) (hdg : decode c.code g.pc = .ok (.invokevirtual index, 3))
    (hpre : ∀ vm₁, s.WarmedH vm₁ → Pre ⟨T.setVm vm₁, locs, cells, slots⟩ (Value.ref b :: argsL).toArray) :
    (∃ (v : Option Value) (vm₁ : Vm) (B : Pt), s.WarmedH vm₁ ∧ Stand p l e R s m args below meth c B.U B.locs B.cells B.slots ∧ Post ⟨T.setVm vm₁, locs, cells, slots⟩ (Value.ref b :: argsL).toArray v B ∧
      ∀ target, Steps p.tables e below (B.U.setTop { g with pc := g.pc + 3, stack := v.toList ++ rest }) target → Steps p.tables e below (T.setTop g) target) ∨
    (∃ (q : Addr) (vm₁ : Vm) (B : Pt), s.WarmedH vm₁ ∧ Stand p l e R s m args below meth c B.U B.locs B.cells B.slots ∧ PostX ⟨T.setVm vm₁, locs, cells, slots⟩ (Value.ref b :: argsL).toArray q B ∧
      Steps p.tables e below (T.setTop g) ((B.U.setTop { g with stack := rest }).pushFrame (.throwing q))) := by
  obtain ⟨mk, methM, hnamed, hmethM, hstM, habM⟩ := Cond.instanceMethod_spec hinst
  obtain ⟨m8, methM', cM, hn8, hmethM', -, -, -, -, -, -, hsigM⟩ := Cond.codeWith_spec hcode
  cases Option.some.inj (hn8.symm.trans hnamed)
  cases hmethM.symm.trans hmethM'
  obtain ⟨c2, r2, m2, q1, q2, q3, q4, kP, hkP, hkPi⟩ := Cond.selects_spec hsel
  cases hcls.symm.trans q1
  cases (State.methodFound?_of_named hnamed hy).symm.trans q2
  cases hnamed.symm.trans q3
  have hselP : selectMethod e.platform s.vm cellB.cls mk = .method mk := by rw [Launch.admits_selectMethod X.admits]; exact q4
  obtain ⟨vm₁, X₁, hstep₁⟩ := X.invokevirtual hexec hown hlink hnamed hmethM hstM hkP hkPi hy (a := b) (cell := cellB) hcell
    (fun z h => by rw [h] at hobj; cases hobj) hselP hmethM habM hkP hkPi (g := g) hg (argsL := argsL) (rest := rest) (hlen _ hsigM) hstack hdg
  rcases hK m meth c ⟨T.setVm vm₁, locs, cells, slots⟩ { g with stack := rest } (.invokevirtual index) mk (Value.ref b :: argsL).toArray X₁ hg hsize hdg hW (X₁.named hnamed) (hpre vm₁ X₁.warmed) with ⟨v, B, X', hpost, hsteps⟩ | ⟨q, B, X', hpost, hsteps⟩
  · exact Or.inl ⟨v, vm₁, B, X₁.warmed, X', hpost, fun target h => hstep₁ _ fun acts => by rw [doInvoke_state]; exact hsteps.trans h⟩
  · exact Or.inr ⟨q, vm₁, B, X₁.warmed, X', hpost, hstep₁ _ fun acts => by rw [doInvoke_state]; exact hsteps⟩
theorem vx_callSX (X : Stand p l e R s m args below meth c T locs cells slots) (hexec : p.tables.exec = Jvm.exec) {own : String} {index : Nat} {y : MethodName} {bytes : ByteArray} {maxL : Nat} {ret : Option FieldType} {hh : List (Nat × Nat × Nat × Nat)}
    (hown : s.vm.findClass own = some m.cls) (hlink : (Cond.methodLink own index y).before args s = true) (hstat : (Cond.static y).before args s = true) (hinit : (Cond.initialized y.cls).before args s = true)
    (hcode : (Cond.codeWith y bytes maxL ret hh).before args s = true) (hy : y.cls ≠ "java/lang/invoke/MethodHandle" ∧ y.cls ≠ "java/lang/invoke/VarHandle")
    {W9 : Nat} {Pre : Pt → Array Value → Prop} {Post : Pt → Array Value → Option Value → Pt → Prop} {PostX : Pt → Array Value → Addr → Pt → Prop} (hK : vx_Back l R p e below s args y 3 W9 Pre Post PostX)
    {g : JFrame} (hg : g.method = m) (hsize : g.locals.size = c.maxLocals) {argsL rest : List Value} (hlen : ∀ sig, parseMethodDescriptor y.desc = some sig → argsL.length = sig.parameters.length)
    (hstack : g.stack = argsL.reverse ++ rest) (hW : 2 * g.monitorRoom + (rest.map fun v => v.category).sum ≤ W9) (hdg : decode c.code g.pc = .ok (.invokestatic index, 3))
    (hpre : ∀ vm₁, s.WarmedH vm₁ → Pre ⟨T.setVm vm₁, locs, cells, slots⟩ argsL.toArray) :
    (∃ (v : Option Value) (vm₁ : Vm) (B : Pt), s.WarmedH vm₁ ∧ Stand p l e R s m args below meth c B.U B.locs B.cells B.slots ∧ Post ⟨T.setVm vm₁, locs, cells, slots⟩ argsL.toArray v B ∧
      ∀ target, Steps p.tables e below (B.U.setTop { g with pc := g.pc + 3, stack := v.toList ++ rest }) target → Steps p.tables e below (T.setTop g) target) ∨
    (∃ (q : Addr) (vm₁ : Vm) (B : Pt), s.WarmedH vm₁ ∧ Stand p l e R s m args below meth c B.U B.locs B.cells B.slots ∧ PostX ⟨T.setVm vm₁, locs, cells, slots⟩ argsL.toArray q B ∧
      Steps p.tables e below (T.setTop g) ((B.U.setTop { g with stack := rest }).pushFrame (.throwing q))) := by
  obtain ⟨mk, methM, cM, hnamed, hmethM, -, -, -, -, -, -, hsigM⟩ := Cond.codeWith_spec hcode
  have hstatic : methM.isStatic = true := Cond.static_spec hnamed hmethM hstat
  obtain ⟨kP, hkP, -⟩ := className_of_methodNamed hnamed
  have hinitP : kP.init = .initialized := Cond.initialized_spec (findClass_of_methodNamed hnamed) hkP hinit
  obtain ⟨vm₁, X₁, hstep₁⟩ := X.invokestatic hexec hown hlink hnamed hmethM hstatic hkP hinitP hy (g := g) hg (argsL := argsL) (rest := rest) (hlen _ hsigM) hstack hdg
  rcases hK m meth c ⟨T.setVm vm₁, locs, cells, slots⟩ { g with stack := rest } (.invokestatic index) mk argsL.toArray X₁ hg hsize hdg hW (X₁.named hnamed) (hpre vm₁ X₁.warmed) with ⟨v, B, X', hpost, hsteps⟩ | ⟨q, B, X', hpost, hsteps⟩
  · exact Or.inl ⟨v, vm₁, B, X₁.warmed, X', hpost, fun target h => hstep₁ _ fun acts => by rw [doInvoke_state]; exact hsteps.trans h⟩
  · exact Or.inr ⟨q, vm₁, B, X₁.warmed, X', hpost, hstep₁ _ fun acts => by rw [doInvoke_state]; exact hsteps⟩
theorem vx_callVW (X : Stand p l e R s m args below meth c T locs cells slots) (hexec : p.tables.exec = Jvm.exec) {own C : String} {index : Nat} {y : MethodName} {bytes : ByteArray} {maxL : Nat} {ret : Option FieldType} {hh : List (Nat × Nat × Nat × Nat)}
    (hown : s.vm.findClass own = some m.cls) (hlink : (Cond.methodLink own index y).before args s = true) (hinst : (Cond.instanceMethod y).before args s = true) (hsel : (Cond.selects C y y).before args s = true)
    (hcode : (Cond.codeWith y bytes maxL ret hh).before args s = true) (hy : y.cls ≠ "java/lang/invoke/MethodHandle" ∧ y.cls ≠ "java/lang/invoke/VarHandle")
    {W9 : Nat} {Pre : Pt → Array Value → Prop} {Post : Pt → Array Value → Option Value → Pt → Prop} (hK : Back l R p e below s args y 3 W9 Pre Post)
    {b : Addr} {cellB : Cell} (hcell : T.heap[b]? = some cellB) (hobj : cellB.vm.isStatics = false) (hcls : s.vm.findClass C = some cellB.cls)
    {g : JFrame} (hg : g.method = m) (hsize : g.locals.size = c.maxLocals) {argsL rest : List Value} (hlen : ∀ sig, parseMethodDescriptor y.desc = some sig → argsL.length = sig.parameters.length)
    (hstack : g.stack = argsL.reverse ++ .ref b :: rest) (hW : 2 * g.monitorRoom + (rest.map fun v => v.category).sum ≤ W9) (hdg : decode c.code g.pc = .ok (.invokevirtual index, 3))
    (hpre : ∀ vm₁, s.WarmedH vm₁ → Pre ⟨T.setVm vm₁, locs, cells, slots⟩ (Value.ref b :: argsL).toArray) :
    ∃ (v : Option Value) (vm₁ : Vm) (B : Pt), s.WarmedH vm₁ ∧ Stand p l e R s m args below meth c B.U B.locs B.cells B.slots ∧ Post ⟨T.setVm vm₁, locs, cells, slots⟩ (Value.ref b :: argsL).toArray v B ∧
      ∀ target, Steps p.tables e below (B.U.setTop { g with pc := g.pc + 3, stack := v.toList ++ rest }) target → Steps p.tables e below (T.setTop g) target := by
  obtain ⟨mk, methM, hnamed, hmethM, hstM, habM⟩ := Cond.instanceMethod_spec hinst
  obtain ⟨m8, methM', cM, hn8, hmethM', -, -, -, -, -, -, hsigM⟩ := Cond.codeWith_spec hcode
  cases Option.some.inj (hn8.symm.trans hnamed)
  cases hmethM.symm.trans hmethM'
  obtain ⟨c2, r2, m2, q1, q2, q3, q4, kP, hkP, hkPi⟩ := Cond.selects_spec hsel
  cases hcls.symm.trans q1
  cases (State.methodFound?_of_named hnamed hy).symm.trans q2
  cases hnamed.symm.trans q3
  have hselP : selectMethod e.platform s.vm cellB.cls mk = .method mk := by rw [Launch.admits_selectMethod X.admits]; exact q4
  obtain ⟨vm₁, X₁, hstep₁⟩ := X.invokevirtual hexec hown hlink hnamed hmethM hstM hkP hkPi hy (a := b) (cell := cellB) hcell
    (fun z h => by rw [h] at hobj; cases hobj) hselP hmethM habM hkP hkPi (g := g) hg (argsL := argsL) (rest := rest) (hlen _ hsigM) hstack hdg
  obtain ⟨v, B, X', hpost, hsteps⟩ := hK m meth c ⟨T.setVm vm₁, locs, cells, slots⟩ { g with stack := rest } (.invokevirtual index) mk (Value.ref b :: argsL).toArray X₁ hg hsize hdg hW (X₁.named hnamed) (hpre vm₁ X₁.warmed)
  exact ⟨v, vm₁, B, X₁.warmed, X', hpost, fun target h => hstep₁ _ fun acts => by rw [doInvoke_state]; exact hsteps.trans h⟩
abbrev vx_CVW (R : Room) (s : State) (args : Array Value) (own C : String) (index : Nat) (y : MethodName) (bytes : ByteArray) (maxL : Nat) (ret : Option FieldType) (hh : List (Nat × Nat × Nat × Nat)) (ws : List Cond) (rm : Room) (mc ms n : Nat) : Prop :=
  (rm.cells = mc ∧ rm.slots = ms ∧ rm.frames + 1 ≤ R.frames ∧ 8 + (maxL + 11) + rm.locals ≤ R.locals ∧ (∀ w ∈ ws, ∀ (a' : Array Value) (U : State), s.WarmedH U.vm → w.before a' U = true) ∧ Cond.codeWith y bytes maxL ret hh ∈ ws) ∧
  (Cond.codeWith y bytes maxL ret hh).before args s = true ∧ (Cond.initialized y.cls).before args s = true ∧ (y.cls ≠ "java/lang/invoke/MethodHandle" ∧ y.cls ≠ "java/lang/invoke/VarHandle") ∧
  (∀ sig, parseMethodDescriptor y.desc = some sig → n = sig.parameters.length) ∧ (Cond.methodLink own index y).before args s = true ∧ (Cond.instanceMethod y).before args s = true ∧ (Cond.selects C y y).before args s = true
theorem vx_cwVW {own C : String} {index maxL mc ms : Nat} {y : MethodName} {bytes : ByteArray} {ret : Option FieldType} {hh : List (Nat × Nat × Nat × Nat)} {Ts ws ws' : List Cond} {rm : Room} (n : Nat) (ht : ∀ w ∈ Ts, w.before args s = true) (hT : GoodIn Ts (wsV own index C y ws)) (hw : ws = Cond.codeWith y bytes maxL ret hh :: ws') (hrc : rm.cells = mc) (hrs : rm.slots = ms)
    (hd : y.cls = C ∧ y.cls ≠ "java/lang/invoke/MethodHandle" ∧ y.cls ≠ "java/lang/invoke/VarHandle" ∧ (parseMethodDescriptor y.desc).map (fun d => d.parameters.length) = some n) (hR : rm.frames + 1 ≤ R.frames ∧ 8 + (maxL + 11) + rm.locals ≤ R.locals) :
    vx_CVW R s args own C index y bytes maxL ret hh ws rm mc ms n := by
  obtain ⟨hC, hd⟩ := hd
  subst hC
  have ok : ∀ w ∈ wsV own index y.cls y ws, w.before args s = true := fun w h => ht w (hT w h).1
  have hG : GoodIn Ts ws := fun w h => hT w (by unfold wsV; exact List.mem_append_right _ h)
  have hc : Cond.codeWith y bytes maxL ret hh ∈ ws := by rw [hw]; exact List.mem_cons_self
  refine ⟨⟨hrc, hrs, hR.1, hR.2, pay_in ht hG, hc⟩, ht _ (hG _ hc).1, ok _ (by simp [wsV]), ⟨hd.1, hd.2.1⟩, fun sig h => ?_, ok _ (by simp [wsV]), ok _ (by simp [wsV]), ok _ (by simp [wsV])⟩
  have h2 := hd.2.2
  rw [h] at h2
  exact (Option.some.inj h2).symm
theorem vx_runVW {y : MethodName} {bytes cc : ByteArray} {maxL nL mc ms n index : Nat} {ret : Option FieldType} {hh : List (Nat × Nat × Nat × Nat)} {ws : List Cond} {rm : Room} {Pc : Array Value → State → Prop} {Qc : Array Value → State → Outcome → State → Prop} {free : Addr → Prop} {Ts : List Cond} {own C : String} {b : Addr} {As rest : List Value} {g : JFrame}
    (S : CallFix p m c cc nL s args Ts own) (hM : Met l y ws rm Pc Qc mc ms free) (cw : vx_CVW R s args own C index y bytes maxL ret hh ws rm mc ms n) (hp : PreV s H C b Pc As)
    (hg : g.method = m) (hn : As.length = n) (hsize : g.locals.size = nL) (hstack : g.stack = As.reverse ++ .ref b :: rest) (hW : 2 * g.monitorRoom + (rest.map fun v => v.category).sum ≤ 8) (hdg : decode cc g.pc = .ok (.invokevirtual index, 3)) (hf : cells + mc ≤ R.cells ∧ slots + ms ≤ R.slots) :
    va_Run p l e R s m args below meth c H locs cells slots mc ms g rest (Qc (Value.ref b :: As).toArray) free := by
  obtain ⟨⟨hrc, hrs, hfr, hlo, hws, hcw⟩, hcode, hini, hy, hlen, hl, hin, hse⟩ := cw
  have hK : Back l R p e below s args y 3 8 (PreOf R mc ms Pc) (PostOf Qc mc ms free) := va_backW (hh := hh) (bytes := bytes) (maxL := maxL) (ret := ret) hM hp.1 hrc hrs hfr hlo hws hcw (fun a' U hW => word_at hW (Or.inl (by first | rfl | simp [Cond.onTables, Cond.keeps, Cond.steady])) hini)
  obtain ⟨hx, hb, hml, ho, -⟩ := S
  obtain ⟨-, ⟨cellB, hcB, hoB, hclB⟩, hPc⟩ := hp
  intro T hT X
  obtain ⟨v, vm₁, ⟨U', l2, c2, s2⟩, hW₁, X', ⟨g', mk, t, L, e1, e2, hq, h1, hL, h2, h3⟩, st⟩ := vx_callVW X hx (C := C) (hh := hh) (bytes := bytes) (maxL := maxL) (ret := ret) ho hl hin hse hcode hy hK (by rw [hT]; exact hcB) hoB hclB hg (hsize.trans hml.symm) (argsL := As) (rest := rest) (fun sig h => hn.trans (hlen sig h)) hstack hW (by rw [hb]; exact hdg)
    (fun vm₁ hW₁ => ⟨hf.1, hf.2, hPc (T.setVm vm₁) hT hW₁⟩)
  dsimp only [Pt.U, Pt.locs, Pt.cells, Pt.slots] at X' e1 e2 h1 h2 h3 st
  subst h1; subst h2; subst h3
  exact ⟨v, (T.setVm vm₁).calling g' mk (Value.ref b :: As).toArray, t, U', L, hT, X', hL, e1, e2, hq, st⟩
section
variable {y : MethodName} {bytes cc : ByteArray} {maxL nL mc ms n index : Nat} {ret : Option FieldType} {ws : List Cond} {rm : Room} {Pc : Array Value → State → Prop} {Qc : Array Value → State → Outcome → State → Prop} {XC : String → State → State → Prop} {free : Addr → Prop} {Ts : List Cond} {own C : String} {b : Addr} {As rest : List Value} {g : JFrame}
theorem vx_runVX {hh : List (Nat × Nat × Nat × Nat)} (S : CallFix p m c cc nL s args Ts own) (hM : vx_Met l y ws rm Pc Qc XC mc ms free) (cw : vx_CVW R s args own C index y bytes maxL ret hh ws rm mc ms n) (hp : PreV s H C b Pc As)
    (hg : g.method = m) (hn : As.length = n) (hsize : g.locals.size = nL) (hstack : g.stack = As.reverse ++ .ref b :: rest) (hW : 2 * g.monitorRoom + (rest.map fun v => v.category).sum ≤ 8) (hdg : decode cc g.pc = .ok (.invokevirtual index, 3)) (hf : cells + mc ≤ R.cells ∧ slots + ms ≤ R.slots) :
    vx_Run p l e R s m args below meth c H locs cells slots mc ms g rest (Qc (Value.ref b :: As).toArray) XC free := by
  obtain ⟨⟨hrc, hrs, hfr, hlo, hws, hcw⟩, hcode, hini, hy, hlen, hl, hin, hse⟩ := cw
  have hK : vx_Back l R p e below s args y 3 8 (PreOf R mc ms Pc) (PostOf Qc mc ms free) (vx_Post XC mc ms free) := vx_backW (hh := hh) (bytes := bytes) (maxL := maxL) (ret := ret) hM hp.1 hrc hrs hfr hlo hws hcw (fun a' U hW => word_at hW (Or.inl (by first | rfl | simp [Cond.onTables, Cond.keeps, Cond.steady])) hini)
  obtain ⟨hx, hb, hml, ho, -⟩ := S
  obtain ⟨-, ⟨cellB, hcB, hoB, hclB⟩, hPc⟩ := hp
  intro T hT X
  rcases vx_callVX X hx (C := C) (hh := hh) (bytes := bytes) (maxL := maxL) (ret := ret) ho hl hin hse hcode hy hK (by rw [hT]; exact hcB) hoB hclB hg (hsize.trans hml.symm) (argsL := As) (rest := rest) (fun sig h => hn.trans (hlen sig h)) hstack hW (by rw [hb]; exact hdg)
    (fun vm₁ hW₁ => ⟨hf.1, hf.2, hPc (T.setVm vm₁) hT hW₁⟩) with ⟨v, vm₁, ⟨U', l2, c2, s2⟩, hW₁, X', ⟨g', mk, t, L, e1, e2, hq, h1, hL, h2, h3⟩, st⟩ | ⟨q, vm₁, ⟨U', l2, c2, s2⟩, hW₁, X', ⟨g', mk, t, L, E, ce, e1, e2, hq, hce, hcv, hcl, h1, hL, h2, h3⟩, st⟩
  · dsimp only [Pt.U, Pt.locs, Pt.cells, Pt.slots] at X' e1 e2 h1 h2 h3 st
    subst h1; subst h2; subst h3
    exact Or.inl ⟨v, (T.setVm vm₁).calling g' mk (Value.ref b :: As).toArray, t, U', L, hT, X', hL, e1, e2, hq, st⟩
  · dsimp only [Pt.U, Pt.locs, Pt.cells, Pt.slots] at X' e1 e2 h1 h2 h3 st hcl
    subst h1; subst h2; subst h3
    exact Or.inr ⟨q, (T.setVm vm₁).calling g' mk (Value.ref b :: As).toArray, t, U', L, E, ce, hT, X', hL, e1, e2, hq, hce, hcv, vx_cls hW₁ hcl, st⟩
theorem vx_runSX {hh : List (Nat × Nat × Nat × Nat)} (S : CallFix p m c cc nL s args Ts own) (hM : vx_Met l y ws rm Pc Qc XC mc ms free) (cw : vx_CSW R s args own index y bytes maxL ret hh ws rm mc ms n) (hp : PreS s H Pc As)
    (hg : g.method = m) (hn : As.length = n) (hsize : g.locals.size = nL) (hstack : g.stack = As.reverse ++ rest) (hW : 2 * g.monitorRoom + (rest.map fun v => v.category).sum ≤ 8) (hdg : decode cc g.pc = .ok (.invokestatic index, 3)) (hf : cells + mc ≤ R.cells ∧ slots + ms ≤ R.slots) :
    vx_Run p l e R s m args below meth c H locs cells slots mc ms g rest (Qc As.toArray) XC free := by
  obtain ⟨⟨hrc, hrs, hfr, hlo, hws, hcw⟩, hcode, hini, hy, hlen, hl, hstt⟩ := cw
  have hK : vx_Back l R p e below s args y 3 8 (PreOf R mc ms Pc) (PostOf Qc mc ms free) (vx_Post XC mc ms free) := vx_backW (hh := hh) (bytes := bytes) (maxL := maxL) (ret := ret) hM hp.1 hrc hrs hfr hlo hws hcw (fun a' U hW => word_at hW (Or.inl (by first | rfl | simp [Cond.onTables, Cond.keeps, Cond.steady])) hini)
  obtain ⟨hx, hb, hml, ho, -⟩ := S
  intro T hT X
  rcases vx_callSX X hx (hh := hh) (bytes := bytes) (maxL := maxL) (ret := ret) ho hl hstt hini hcode hy hK hg (hsize.trans hml.symm) (argsL := As) (rest := rest) (fun sig h => hn.trans (hlen sig h)) hstack hW (by rw [hb]; exact hdg)
    (fun vm₁ hW₁ => ⟨hf.1, hf.2, hp.2 (T.setVm vm₁) hT hW₁⟩) with ⟨v, vm₁, ⟨U', l2, c2, s2⟩, hW₁, X', ⟨g', mk, t, L, e1, e2, hq, h1, hL, h2, h3⟩, st⟩ | ⟨q, vm₁, ⟨U', l2, c2, s2⟩, hW₁, X', ⟨g', mk, t, L, E, ce, e1, e2, hq, hce, hcv, hcl, h1, hL, h2, h3⟩, st⟩
  · dsimp only [Pt.U, Pt.locs, Pt.cells, Pt.slots] at X' e1 e2 h1 h2 h3 st
    subst h1; subst h2; subst h3
    exact Or.inl ⟨v, (T.setVm vm₁).calling g' mk As.toArray, t, U', L, hT, X', hL, e1, e2, hq, st⟩
  · dsimp only [Pt.U, Pt.locs, Pt.cells, Pt.slots] at X' e1 e2 h1 h2 h3 st hcl
    subst h1; subst h2; subst h3
    exact Or.inr ⟨q, (T.setVm vm₁).calling g' mk As.toArray, t, U', L, E, ce, hT, X', hL, e1, e2, hq, hce, hcv, vx_cls hW₁ hcl, st⟩
end
end VXH
theorem vx_ofWH {l : Launch} {y : MethodName} {ws ws' : List Cond} {rm : Room} {Pc : Array Value → State → Prop} {Qc : Array Value → State → Outcome → State → Prop} {XC : String → State → State → Prop} {mc ms : Nat} {free : Addr → Prop} {cc : ByteArray} {maxL : Nat} {ret : Option FieldType} {hh : List (Nat × Nat × Nat × Nat)}
    (hy : plainName y.cls = true) (hw : ws = Cond.codeWith y cc maxL ret hh :: ws')
    (body : ∀ p e s m args below meth c s₁, BodyLoose p l y (headSpec ws rm) cc maxL ret e s m args below meth c s₁ → c.maxLocals = maxL → Pc args s →
      W p l e (headSpec ws rm).room s m args below meth c s.heap [] 0 0 (vx_MQ below Qc XC args s mc ms free) (entryFrame m args maxL)) : vx_Met l y ws rm Pc Qc XC mc ms free := by
  refine MetFree.of_bodyS (code := cc) (maxLocals := maxL) (ret := ret) hy ?_ ?_
  · intro args s m h hn
    obtain ⟨m9, meth, c, hn9, h1, h2, h3, h4, -, h5, h6, -⟩ := Cond.codeWith_spec (atoms_spec (ws := ws) h _ (by rw [hw]; exact List.mem_cons_self))
    cases hn.symm.trans hn9
    exact ⟨meth, c, h1, h2, h3, h4, h5, h6⟩
  · intro p e s m args below meth c s₁ B hml hP _
    have hh0 : s₁.heap = s.heap := by rw [B.state]; rfl
    obtain ⟨t, a1, o, b1, b2, b3⟩ := body p e s m args below meth c s₁ B hml hP s₁ hh0 (Stand.of_body B)
    exact ⟨t, o, a1, b1, b2, b3⟩
/-! ===== END ===== -/

/-! ===== BEGIN printed: names, fields, word lists, decode rows ===== -/
def RX0 : String := "WireLoom$Machine"
def TX0 : u_T := fun k => match k with
  | 0 => ("WireLoom$Machine", "cells", "[I", true)
  | 1 => ("WireLoom$Machine", "latest", "[I", true)
  | 2 => ("WireLoom$Machine", "place", "I", false)
  | 3 => ("WireLoom$Machine", "count", "I", false)
  | 4 => ("WireLoom$Machine", "running", "Z", false)
  | 5 => ("WireLoom$Machine", "steps", "I", false)
  | _ => ("WireLoom$Machine", "tellings", "I", false)
def tyX0 : Nat → FieldType := fun k => match k with
  | 0 => .array .int
  | 1 => .array .int
  | 2 => .int
  | 3 => .int
  | 4 => .boolean
  | 5 => .int
  | _ => .int
abbrev wsX00 : List Cond := u_ws RX0 TX0 7
theorem nmX0 : ∀ a, a < 7 → ∀ b, b < 7 → a ≠ b → (TX0 a).2.1 ≠ (TX0 b).2.1 := by decide +kernel
theorem tyX0_ok : ∀ k, k < 7 → parseFieldDescriptor (TX0 k).2.2.1 = some (tyX0 k) := by decide +kernel
abbrev cX0_init : ByteArray := prog_2_method_1_code
def yX0_init : MethodName := ⟨RX0, "<init>", "()V"⟩
abbrev cX0_begin : ByteArray := prog_2_method_2_code
def yX0_begin : MethodName := ⟨RX0, "begin", "()V"⟩
abbrev cX0_becomeLike : ByteArray := prog_2_method_3_code
def yX0_becomeLike : MethodName := ⟨RX0, "becomeLike", "(LWireLoom$Machine;)V"⟩
abbrev cX0_obey : ByteArray := prog_2_method_4_code
def yX0_obey : MethodName := ⟨RX0, "obey", "(I)V"⟩
abbrev cX0_tellCount : ByteArray := prog_2_method_5_code
def yX0_tellCount : MethodName := ⟨RX0, "tellCount", "()V"⟩
def RX1 : String := "WireLoom$Past"
def TX1 : u_T := fun k => match k with
  | 0 => ("WireLoom$Past", "saved", "[LWireLoom$State;", true)
  | 1 => ("WireLoom$Past", "oldest", "I", false)
  | _ => ("WireLoom$Past", "size", "I", false)
def tyX1 : Nat → FieldType := fun k => match k with
  | 0 => .array (.object "WireLoom$State")
  | 1 => .int
  | _ => .int
abbrev wsX10 : List Cond := u_ws RX1 TX1 3
theorem nmX1 : ∀ a, a < 3 → ∀ b, b < 3 → a ≠ b → (TX1 a).2.1 ≠ (TX1 b).2.1 := by decide +kernel
theorem tyX1_ok : ∀ k, k < 3 → parseFieldDescriptor (TX1 k).2.2.1 = some (tyX1 k) := by decide +kernel
abbrev cX1_init : ByteArray := prog_3_method_1_code
def yX1_init : MethodName := ⟨RX1, "<init>", "()V"⟩
abbrev cX1_push : ByteArray := prog_3_method_2_code
def yX1_push : MethodName := ⟨RX1, "push", "(LWireLoom$State;)V"⟩
abbrev cX1_popInto : ByteArray := prog_3_method_3_code
def yX1_popInto : MethodName := ⟨RX1, "popInto", "(LWireLoom$State;)V"⟩
def RX2 : String := "WireLoom$State"
def TX2 : u_T := fun k => match k with
  | 0 => ("WireLoom$State", "rings", "[I", true)
  | 1 => ("WireLoom$State", "readings", "[I", true)
  | 2 => ("WireLoom$State", "wear", "[I", true)
  | 3 => ("WireLoom$State", "settings", "[I", true)
  | 4 => ("WireLoom$State", "machine", "LWireLoom$Machine;", true)
  | 5 => ("WireLoom$State", "guarded", "I", false)
  | 6 => ("WireLoom$State", "crossingsChanged", "I", false)
  | _ => ("WireLoom$State", "readingsDone", "I", false)
def tyX2 : Nat → FieldType := fun k => match k with
  | 0 => .array .int
  | 1 => .array .int
  | 2 => .array .int
  | 3 => .array .int
  | 4 => .object "WireLoom$Machine"
  | 5 => .int
  | 6 => .int
  | _ => .int
abbrev wsX20 : List Cond := u_ws RX2 TX2 8
theorem nmX2 : ∀ a, a < 8 → ∀ b, b < 8 → a ≠ b → (TX2 a).2.1 ≠ (TX2 b).2.1 := by decide +kernel
theorem tyX2_ok : ∀ k, k < 8 → parseFieldDescriptor (TX2 k).2.2.1 = some (tyX2 k) := by decide +kernel
abbrev cX2_init : ByteArray := prog_4_method_1_code
def yX2_init : MethodName := ⟨RX2, "<init>", "()V"⟩
abbrev cX2_become : ByteArray := prog_4_method_2_code
def yX2_become : MethodName := ⟨RX2, "become", "(LWireLoom$State;)V"⟩
abbrev cX2_asWord : ByteArray := prog_4_method_3_code
def yX2_asWord : MethodName := ⟨RX2, "asWord", "(I)I"⟩
abbrev cX2_means : ByteArray := prog_4_method_4_code
def yX2_means : MethodName := ⟨RX2, "means", "(I)I"⟩
abbrev cX2_tells : ByteArray := prog_4_method_5_code
def yX2_tells : MethodName := ⟨RX2, "tells", "(I)I"⟩
abbrev cX2_layThrough : ByteArray := prog_4_method_6_code
def yX2_layThrough : MethodName := ⟨RX2, "layThrough", "(II)I"⟩
abbrev cX2_renewRing : ByteArray := prog_4_method_7_code
def yX2_renewRing : MethodName := ⟨RX2, "renewRing", "(I)I"⟩
abbrev cX2_wearRings : ByteArray := prog_4_method_8_code
def yX2_wearRings : MethodName := ⟨RX2, "wearRings", "(II)V"⟩
abbrev cX2_takeReading : ByteArray := prog_4_method_9_code
def yX2_takeReading : MethodName := ⟨RX2, "takeReading", "(I)I"⟩
abbrev cX2_run : ByteArray := prog_4_method_10_code
def yX2_run : MethodName := ⟨RX2, "run", "(I)I"⟩
abbrev cX2_oneThreadOn : ByteArray := prog_4_method_11_code
def yX2_oneThreadOn : MethodName := ⟨RX2, "oneThreadOn", "(II)I"⟩
abbrev cX2_hops : ByteArray := prog_4_method_12_code
def yX2_hops : MethodName := ⟨RX2, "hops", "(II)I"⟩
abbrev cX2_strengthAt : ByteArray := prog_4_method_13_code
def yX2_strengthAt : MethodName := ⟨RX2, "strengthAt", "(II)I"⟩
abbrev cX2_answering : ByteArray := prog_4_method_14_code
def yX2_answering : MethodName := ⟨RX2, "answering", "(I)I"⟩
abbrev cX2_readingsUntilChange : ByteArray := prog_4_method_15_code
def yX2_readingsUntilChange : MethodName := ⟨RX2, "readingsUntilChange", "(I)I"⟩
abbrev cX2_threadsThrough : ByteArray := prog_4_method_16_code
def yX2_threadsThrough : MethodName := ⟨RX2, "threadsThrough", "(I)I"⟩
abbrev cX2_threadsAnswered : ByteArray := prog_4_method_17_code
def yX2_threadsAnswered : MethodName := ⟨RX2, "threadsAnswered", "(I)I"⟩
abbrev cX2_isWornOut : ByteArray := prog_4_method_18_code
def yX2_isWornOut : MethodName := ⟨RX2, "isWornOut", "(I)Z"⟩
abbrev cX2_threadsRight : ByteArray := prog_4_method_19_code
def yX2_threadsRight : MethodName := ⟨RX2, "threadsRight", "()I"⟩
abbrev cX2_crossingsByThreads : ByteArray := prog_4_method_20_code
def yX2_crossingsByThreads : MethodName := ⟨RX2, "crossingsByThreads", "()I"⟩
abbrev cX2_crossingsByRings : ByteArray := prog_4_method_21_code
def yX2_crossingsByRings : MethodName := ⟨RX2, "crossingsByRings", "()I"⟩
abbrev cX2_greatestWear : ByteArray := prog_4_method_22_code
def yX2_greatestWear : MethodName := ⟨RX2, "greatestWear", "()I"⟩
abbrev cX2_fewestUnlikeBits : ByteArray := prog_4_method_24_code
def yX2_fewestUnlikeBits : MethodName := ⟨RX2, "fewestUnlikeBits", "()I"⟩
def RX3 : String := "WireLoom$Text"
def TX3 : u_T := fun k => match k with
  | 0 => ("WireLoom$Text", "codes", "[I", true)
  | 1 => ("WireLoom$Text", "words", "[I", true)
  | 2 => ("WireLoom$Text", "length", "I", false)
  | 3 => ("WireLoom$Text", "wordCount", "I", false)
  | _ => ("WireLoom$Text", "phase", "I", false)
def tyX3 : Nat → FieldType := fun k => match k with
  | 0 => .array .int
  | 1 => .array .int
  | 2 => .int
  | 3 => .int
  | _ => .int
abbrev wsX30 : List Cond := u_ws RX3 TX3 5
theorem nmX3 : ∀ a, a < 5 → ∀ b, b < 5 → a ≠ b → (TX3 a).2.1 ≠ (TX3 b).2.1 := by decide +kernel
theorem tyX3_ok : ∀ k, k < 5 → parseFieldDescriptor (TX3 k).2.2.1 = some (tyX3 k) := by decide +kernel
abbrev cX3_init : ByteArray := prog_5_method_1_code
def yX3_init : MethodName := ⟨RX3, "<init>", "()V"⟩
def RX4 : String := "WireLoom"
def TX4 : u_T := fun k => match k with
  | 0 => ("WireLoom", "now", "LWireLoom$State;", true)
  | 1 => ("WireLoom", "trial", "LWireLoom$State;", true)
  | 2 => ("WireLoom", "past", "LWireLoom$Past;", true)
  | 3 => ("WireLoom", "snapshots", "[LWireLoom$State;", true)
  | 4 => ("WireLoom", "kept", "[Z", true)
  | 5 => ("WireLoom", "buffer", "LWireLoom$Text;", true)
  | _ => ("WireLoom", "wordsTold", "[I", true)
def tyX4 : Nat → FieldType := fun k => match k with
  | 0 => .object "WireLoom$State"
  | 1 => .object "WireLoom$State"
  | 2 => .object "WireLoom$Past"
  | 3 => .array (.object "WireLoom$State")
  | 4 => .array .boolean
  | 5 => .object "WireLoom$Text"
  | _ => .array .int
abbrev wsX40 : List Cond := u_ws RX4 TX4 7
theorem nmX4 : ∀ a, a < 7 → ∀ b, b < 7 → a ≠ b → (TX4 a).2.1 ≠ (TX4 b).2.1 := by decide +kernel
theorem tyX4_ok : ∀ k, k < 7 → parseFieldDescriptor (TX4 k).2.2.1 = some (tyX4 k) := by decide +kernel
abbrev cX4_init : ByteArray := prog_1_method_1_code
def yX4_init : MethodName := ⟨RX4, "<init>", "()V"⟩
abbrev cX4_cross : ByteArray := prog_1_method_2_code
def yX4_cross : MethodName := ⟨RX4, "cross", "(II)I"⟩
abbrev cX4_lay : ByteArray := prog_1_method_3_code
def yX4_lay : MethodName := ⟨RX4, "lay", "(II)I"⟩
abbrev cX4_guard : ByteArray := prog_1_method_4_code
def yX4_guard : MethodName := ⟨RX4, "guard", "(I)I"⟩
abbrev cX4_change : ByteArray := prog_1_method_5_code
def yX4_change : MethodName := ⟨RX4, "change", "(I)I"⟩
abbrev cX4_set : ByteArray := prog_1_method_6_code
def yX4_set : MethodName := ⟨RX4, "set", "(II)I"⟩
abbrev cX4_read : ByteArray := prog_1_method_7_code
def yX4_read : MethodName := ⟨RX4, "read", "(I)I"⟩
abbrev cX4_start : ByteArray := prog_1_method_8_code
def yX4_start : MethodName := ⟨RX4, "start", "()I"⟩
abbrev cX4_go : ByteArray := prog_1_method_9_code
def yX4_go : MethodName := ⟨RX4, "go", "(I)I"⟩
abbrev cX4_keep : ByteArray := prog_1_method_15_code
def yX4_keep : MethodName := ⟨RX4, "keep", "(I)I"⟩
abbrev cX4_goBack : ByteArray := prog_1_method_16_code
def yX4_goBack : MethodName := ⟨RX4, "goBack", "(I)I"⟩
abbrev cX4_undo : ByteArray := prog_1_method_17_code
def yX4_undo : MethodName := ⟨RX4, "undo", "()I"⟩
abbrev cX4_threadOf : ByteArray := prog_1_method_18_code
def yX4_threadOf : MethodName := ⟨RX4, "threadOf", "(II)I"⟩
abbrev cX4_ringOf : ByteArray := prog_1_method_19_code
def yX4_ringOf : MethodName := ⟨RX4, "ringOf", "(II)I"⟩
abbrev cX4_strength : ByteArray := prog_1_method_20_code
def yX4_strength : MethodName := ⟨RX4, "strength", "(III)I"⟩
abbrev cX4_machine : ByteArray := prog_1_method_21_code
def yX4_machine : MethodName := ⟨RX4, "machine", "(I)I"⟩
abbrev cX4_told : ByteArray := prog_1_method_22_code
def yX4_told : MethodName := ⟨RX4, "told", "(I)I"⟩
abbrev cX4_count : ByteArray := prog_1_method_23_code
def yX4_count : MethodName := ⟨RX4, "count", "(I)I"⟩
abbrev cX4_setting : ByteArray := prog_1_method_24_code
def yX4_setting : MethodName := ⟨RX4, "setting", "(I)I"⟩
abbrev cX4_bestGuard : ByteArray := prog_1_method_27_code
def yX4_bestGuard : MethodName := ⟨RX4, "bestGuard", "()I"⟩
abbrev cX4_lastsFor : ByteArray := prog_1_method_28_code
def yX4_lastsFor : MethodName := ⟨RX4, "lastsFor", "(I)I"⟩
abbrev cX4_ifGone : ByteArray := prog_1_method_29_code
def yX4_ifGone : MethodName := ⟨RX4, "ifGone", "(II)I"⟩
abbrev cX4_rightShare : ByteArray := prog_1_method_30_code
def yX4_rightShare : MethodName := ⟨RX4, "rightShare", "()D"⟩
abbrev cX4_pairsTellingTheSame : ByteArray := prog_1_method_39_code
def yX4_pairsTellingTheSame : MethodName := ⟨RX4, "pairsTellingTheSame", "()I"⟩
abbrev cX4_isWithin : ByteArray := prog_1_method_40_code
def yX4_isWithin : MethodName := ⟨RX4, "isWithin", "(III)Z"⟩
abbrev cX4_isThread : ByteArray := prog_1_method_41_code
def yX4_isThread : MethodName := ⟨RX4, "isThread", "(I)Z"⟩
abbrev cX4_isRing : ByteArray := prog_1_method_42_code
def yX4_isRing : MethodName := ⟨RX4, "isRing", "(I)Z"⟩
abbrev cX4_isSetting : ByteArray := prog_1_method_43_code
def yX4_isSetting : MethodName := ⟨RX4, "isSetting", "(I)Z"⟩
abbrev cX4_isSlot : ByteArray := prog_1_method_44_code
def yX4_isSlot : MethodName := ⟨RX4, "isSlot", "(I)Z"⟩
abbrev cX4_bit : ByteArray := prog_1_method_45_code
def yX4_bit : MethodName := ⟨RX4, "bit", "(II)I"⟩
def RX5 : String := "WireLoomModel"
def TX5 : u_T := fun k => match k with
  | _ => ("", "", "", false)
def tyX5 : Nat → FieldType := fun k => match k with
  | _ => .int
abbrev wsX50 : List Cond := u_ws RX5 TX5 0
theorem nmX5 : ∀ a, a < 0 → ∀ b, b < 0 → a ≠ b → (TX5 a).2.1 ≠ (TX5 b).2.1 := by decide +kernel
theorem tyX5_ok : ∀ k, k < 0 → parseFieldDescriptor (TX5 k).2.2.1 = some (tyX5 k) := by decide +kernel
def RJ6 : String := "java/lang/Integer"
def TJ6 : u_T := fun k => match k with
  | _ => ("", "", "", false)
def tyJ6 : Nat → FieldType := fun k => match k with
  | _ => .int
abbrev wsJ60 : List Cond := u_ws RJ6 TJ6 0
theorem nmJ6 : ∀ a, a < 0 → ∀ b, b < 0 → a ≠ b → (TJ6 a).2.1 ≠ (TJ6 b).2.1 := by decide +kernel
theorem tyJ6_ok : ∀ k, k < 0 → parseFieldDescriptor (TJ6 k).2.2.1 = some (tyJ6 k) := by decide +kernel
abbrev cJ6_bitCount_0f7a4 : ByteArray := prog_12_method_49_code
def yJ6_bitCount_0f7a4 : MethodName := ⟨RJ6, "bitCount", "(I)I"⟩
def RJ9 : String := "java/lang/Math"
def TJ9 : u_T := fun k => match k with
  | _ => ("", "", "", false)
def tyJ9 : Nat → FieldType := fun k => match k with
  | _ => .int
abbrev wsJ90 : List Cond := u_ws RJ9 TJ9 0
theorem nmJ9 : ∀ a, a < 0 → ∀ b, b < 0 → a ≠ b → (TJ9 a).2.1 ≠ (TJ9 b).2.1 := by decide +kernel
theorem tyJ9_ok : ∀ k, k < 0 → parseFieldDescriptor (TJ9 k).2.2.1 = some (tyJ9 k) := by decide +kernel
abbrev cJ9_max_7cf53 : ByteArray := prog_13_method_65_code
def yJ9_max_7cf53 : MethodName := ⟨RJ9, "max", "(II)I"⟩
abbrev cJ9_min_7cf53 : ByteArray := prog_13_method_69_code
def yJ9_min_7cf53 : MethodName := ⟨RJ9, "min", "(II)I"⟩
def RJ0 : String := "java/lang/String"
def TJ0 : u_T := fun k => match k with
  | _ => ("", "", "", false)
def tyJ0 : Nat → FieldType := fun k => match k with
  | _ => .int
abbrev wsJ00 : List Cond := u_ws RJ0 TJ0 0
theorem nmJ0 : ∀ a, a < 0 → ∀ b, b < 0 → a ≠ b → (TJ0 a).2.1 ≠ (TJ0 b).2.1 := by decide +kernel
theorem tyJ0_ok : ∀ k, k < 0 → parseFieldDescriptor (TJ0 k).2.2.1 = some (tyJ0 k) := by decide +kernel
def RJ10 : String := "java/lang/System"
def TJ10 : u_T := fun k => match k with
  | _ => ("", "", "", false)
def tyJ10 : Nat → FieldType := fun k => match k with
  | _ => .int
abbrev wsJ100 : List Cond := u_ws RJ10 TJ10 0
theorem nmJ10 : ∀ a, a < 0 → ∀ b, b < 0 → a ≠ b → (TJ10 a).2.1 ≠ (TJ10 b).2.1 := by decide +kernel
theorem tyJ10_ok : ∀ k, k < 0 → parseFieldDescriptor (TJ10 k).2.2.1 = some (tyJ10 k) := by decide +kernel
def RL : String := "WireLoomLaw"
abbrev cL_cell : ByteArray := method_2_code
def yL_cell : MethodName := ⟨RL, "cell", "([II)I"⟩
abbrev cL_up : ByteArray := method_3_code
def yL_up : MethodName := ⟨RL, "up", "(II)I"⟩
abbrev cL_bits : ByteArray := method_4_code
def yL_bits : MethodName := ⟨RL, "bits", "(I)I"⟩
abbrev cL_looks : ByteArray := method_5_code
def yL_looks : MethodName := ⟨RL, "looks", "(LWireLoom;)J"⟩
abbrev cL_act : ByteArray := method_6_code
def yL_act : MethodName := ⟨RL, "act", "(LWireLoom;II)I"⟩
abbrev cL_isStrong : ByteArray := method_7_code
def yL_isStrong : MethodName := ⟨RL, "isStrong", "(LWireLoom;I)Z"⟩
abbrev cL_holds : ByteArray := method_8_code
def yL_holds : MethodName := ⟨RL, "holds", "(LWireLoom;)Z"⟩
abbrev cL_isAhead : ByteArray := method_9_code
def yL_isAhead : MethodName := ⟨RL, "isAhead", "(LWireLoom;II)Z"⟩
abbrev cL_law : ByteArray := code
def yL_law : MethodName := ⟨RL, "law", "([I)Z"⟩
def wsX0_begin : List Cond := .code yX0_begin cX0_begin 2 none :: ([.fieldLink RX0 11 "WireLoom$Machine" "cells" "[I", .fieldLink RX0 15 "WireLoom$Machine" "latest" "[I", .fieldLink RX0 21 "WireLoom$Machine" "place" "I", .fieldLink RX0 25 "WireLoom$Machine" "count" "I", .fieldLink RX0 28 "WireLoom$Machine" "running" "Z", .fieldLink RX0 32 "WireLoom$Machine" "steps" "I", .fieldLink RX0 35 "WireLoom$Machine" "tellings" "I"] ++ wsX00)
def wsX0_init : List Cond := .code yX0_init cX0_init 1 none :: ([.methodLink RX0 3 objectInit, .instanceMethod objectInit, .code objectInit ⟨#[0xb1]⟩ 1 none, .arrayClass .int, .fieldLink RX0 11 "WireLoom$Machine" "cells" "[I", .fieldLink RX0 15 "WireLoom$Machine" "latest" "[I", .methodLink RX0 18 yX0_begin, .instanceMethod yX0_begin, .selects RX0 yX0_begin yX0_begin, .initialized RX0, .code yX0_begin cX0_begin 2 none, .fieldLink RX0 21 "WireLoom$Machine" "place" "I", .fieldLink RX0 25 "WireLoom$Machine" "count" "I", .fieldLink RX0 28 "WireLoom$Machine" "running" "Z", .fieldLink RX0 32 "WireLoom$Machine" "steps" "I", .fieldLink RX0 35 "WireLoom$Machine" "tellings" "I"] ++ wsX00)
def wsX0_becomeLike : List Cond := .code yX0_becomeLike cX0_becomeLike 2 none :: ([.fieldLink RX0 11 "WireLoom$Machine" "cells" "[I", .methodLink RX0 38 arraycopyName, .native arraycopyName, .static arraycopyName, .initialized "java/lang/System", .fieldLink RX0 15 "WireLoom$Machine" "latest" "[I", .fieldLink RX0 21 "WireLoom$Machine" "place" "I", .fieldLink RX0 25 "WireLoom$Machine" "count" "I", .fieldLink RX0 28 "WireLoom$Machine" "running" "Z", .fieldLink RX0 32 "WireLoom$Machine" "steps" "I", .fieldLink RX0 35 "WireLoom$Machine" "tellings" "I"] ++ wsX00)
def wsX0_tellCount : List Cond := .code yX0_tellCount cX0_tellCount 2 none :: ([.fieldLink RX0 15 "WireLoom$Machine" "latest" "[I", .fieldLink RX0 25 "WireLoom$Machine" "count" "I", .fieldLink RX0 35 "WireLoom$Machine" "tellings" "I"] ++ wsX00)
def wsX0_obey : List Cond := .code yX0_obey cX0_obey 4 none :: ([.fieldLink RX0 32 "WireLoom$Machine" "steps" "I", .fieldLink RX0 21 "WireLoom$Machine" "place" "I", .fieldLink RX0 28 "WireLoom$Machine" "running" "Z", .fieldLink RX0 25 "WireLoom$Machine" "count" "I", .fieldLink RX0 11 "WireLoom$Machine" "cells" "[I", .methodLink RX0 44 yX0_tellCount, .instanceMethod yX0_tellCount, .selects RX0 yX0_tellCount yX0_tellCount, .initialized RX0, .code yX0_tellCount cX0_tellCount 2 none, .fieldLink RX0 15 "WireLoom$Machine" "latest" "[I", .fieldLink RX0 35 "WireLoom$Machine" "tellings" "I"] ++ wsX00)
def wsX2_init_r1 : List Cond := [Cond.methodLink RX2 3 objectInit, Cond.instanceMethod objectInit, Cond.code objectInit ⟨#[0xb1]⟩ 1 none, Cond.arrayClass .int, Cond.fieldLink RX2 9 "WireLoom$State" "rings" "[I", Cond.fieldLink RX2 15 "WireLoom$State" "readings" "[I", Cond.fieldLink RX2 18 "WireLoom$State" "wear" "[I", Cond.fieldLink RX2 21 "WireLoom$State" "settings" "[I", Cond.classLink RX2 24 RX0, Cond.instantiable RX0 7, Cond.initialized RX0, Cond.fieldLink RX2 27 "WireLoom$State" "machine" "LWireLoom$Machine;", Cond.methodLink RX2 26 yX0_init, Cond.instanceMethod yX0_init, Cond.code yX0_init cX0_init 1 none, Cond.methodLink RX0 3 objectInit, Cond.fieldLink RX0 11 "WireLoom$Machine" "cells" "[I", Cond.fieldLink RX0 15 "WireLoom$Machine" "latest" "[I", Cond.methodLink RX0 18 yX0_begin, Cond.instanceMethod yX0_begin, Cond.selects RX0 yX0_begin yX0_begin, Cond.code yX0_begin cX0_begin 2 none, Cond.fieldLink RX0 21 "WireLoom$Machine" "place" "I", Cond.fieldLink RX0 25 "WireLoom$Machine" "count" "I"]
def wsX2_init_r2 : List Cond := [Cond.fieldLink RX0 28 "WireLoom$Machine" "running" "Z", Cond.fieldLink RX0 32 "WireLoom$Machine" "steps" "I", Cond.fieldLink RX0 35 "WireLoom$Machine" "tellings" "I"]
def wsX2_init : List Cond := .code yX2_init cX2_init 1 none :: ((wsX2_init_r1 ++ wsX2_init_r2) ++ wsX20 ++ wsX00)
def wsX1_init_r1 : List Cond := [Cond.methodLink RX1 1 objectInit, Cond.instanceMethod objectInit, Cond.code objectInit ⟨#[0xb1]⟩ 1 none, Cond.classLink RX1 9 RX2, Cond.fieldLink RX1 11 "WireLoom$Past" "saved" "[LWireLoom$State;", Cond.instantiable RX2 8, Cond.initialized RX2, Cond.methodLink RX1 15 yX2_init, Cond.instanceMethod yX2_init, Cond.code yX2_init cX2_init 1 none, Cond.methodLink RX2 3 objectInit, Cond.arrayClass .int, Cond.fieldLink RX2 9 "WireLoom$State" "rings" "[I", Cond.fieldLink RX2 15 "WireLoom$State" "readings" "[I", Cond.fieldLink RX2 18 "WireLoom$State" "wear" "[I", Cond.fieldLink RX2 21 "WireLoom$State" "settings" "[I", Cond.classLink RX2 24 RX0, Cond.instantiable RX0 7, Cond.initialized RX0, Cond.fieldLink RX2 27 "WireLoom$State" "machine" "LWireLoom$Machine;", Cond.methodLink RX2 26 yX0_init, Cond.instanceMethod yX0_init, Cond.code yX0_init cX0_init 1 none, Cond.methodLink RX0 3 objectInit]
def wsX1_init_r2 : List Cond := [Cond.fieldLink RX0 11 "WireLoom$Machine" "cells" "[I", Cond.fieldLink RX0 15 "WireLoom$Machine" "latest" "[I", Cond.methodLink RX0 18 yX0_begin, Cond.instanceMethod yX0_begin, Cond.selects RX0 yX0_begin yX0_begin, Cond.code yX0_begin cX0_begin 2 none, Cond.fieldLink RX0 21 "WireLoom$Machine" "place" "I", Cond.fieldLink RX0 25 "WireLoom$Machine" "count" "I", Cond.fieldLink RX0 28 "WireLoom$Machine" "running" "Z", Cond.fieldLink RX0 32 "WireLoom$Machine" "steps" "I", Cond.fieldLink RX0 35 "WireLoom$Machine" "tellings" "I"]
def wsX1_init : List Cond := .code yX1_init cX1_init 2 none :: ((wsX1_init_r1 ++ wsX1_init_r2) ++ wsX10 ++ wsX20 ++ wsX00)
def wsX2_become_r1 : List Cond := [Cond.fieldLink RX2 9 "WireLoom$State" "rings" "[I", Cond.methodLink RX2 31 arraycopyName, Cond.native arraycopyName, Cond.static arraycopyName, Cond.initialized "java/lang/System", Cond.fieldLink RX2 15 "WireLoom$State" "readings" "[I", Cond.fieldLink RX2 18 "WireLoom$State" "wear" "[I", Cond.fieldLink RX2 21 "WireLoom$State" "settings" "[I", Cond.fieldLink RX2 27 "WireLoom$State" "machine" "LWireLoom$Machine;", Cond.fieldLink RX2 41 "WireLoom$State" "guarded" "I", Cond.fieldLink RX2 45 "WireLoom$State" "crossingsChanged" "I", Cond.fieldLink RX2 48 "WireLoom$State" "readingsDone" "I", Cond.methodLink RX2 37 yX0_becomeLike, Cond.instanceMethod yX0_becomeLike, Cond.selects RX0 yX0_becomeLike yX0_becomeLike, Cond.initialized RX0, Cond.code yX0_becomeLike cX0_becomeLike 2 none, Cond.fieldLink RX0 11 "WireLoom$Machine" "cells" "[I", Cond.methodLink RX0 38 arraycopyName, Cond.fieldLink RX0 15 "WireLoom$Machine" "latest" "[I", Cond.fieldLink RX0 21 "WireLoom$Machine" "place" "I", Cond.fieldLink RX0 25 "WireLoom$Machine" "count" "I", Cond.fieldLink RX0 28 "WireLoom$Machine" "running" "Z", Cond.fieldLink RX0 32 "WireLoom$Machine" "steps" "I"]
def wsX2_become_r2 : List Cond := [Cond.fieldLink RX0 35 "WireLoom$Machine" "tellings" "I"]
def wsX2_become : List Cond := .code yX2_become cX2_become 2 none :: ((wsX2_become_r1 ++ wsX2_become_r2) ++ wsX20 ++ wsX00)
def wsX1_push_r1 : List Cond := [Cond.fieldLink RX1 11 "WireLoom$Past" "saved" "[LWireLoom$State;", Cond.fieldLink RX1 16 "WireLoom$Past" "oldest" "I", Cond.fieldLink RX1 20 "WireLoom$Past" "size" "I", Cond.methodLink RX1 23 yX2_become, Cond.instanceMethod yX2_become, Cond.selects RX2 yX2_become yX2_become, Cond.initialized RX2, Cond.code yX2_become cX2_become 2 none, Cond.fieldLink RX2 9 "WireLoom$State" "rings" "[I", Cond.methodLink RX2 31 arraycopyName, Cond.native arraycopyName, Cond.static arraycopyName, Cond.initialized "java/lang/System", Cond.fieldLink RX2 15 "WireLoom$State" "readings" "[I", Cond.fieldLink RX2 18 "WireLoom$State" "wear" "[I", Cond.fieldLink RX2 21 "WireLoom$State" "settings" "[I", Cond.fieldLink RX2 27 "WireLoom$State" "machine" "LWireLoom$Machine;", Cond.fieldLink RX2 41 "WireLoom$State" "guarded" "I", Cond.fieldLink RX2 45 "WireLoom$State" "crossingsChanged" "I", Cond.fieldLink RX2 48 "WireLoom$State" "readingsDone" "I", Cond.methodLink RX2 37 yX0_becomeLike, Cond.instanceMethod yX0_becomeLike, Cond.selects RX0 yX0_becomeLike yX0_becomeLike, Cond.initialized RX0]
def wsX1_push_r2 : List Cond := [Cond.code yX0_becomeLike cX0_becomeLike 2 none, Cond.fieldLink RX0 11 "WireLoom$Machine" "cells" "[I", Cond.methodLink RX0 38 arraycopyName, Cond.fieldLink RX0 15 "WireLoom$Machine" "latest" "[I", Cond.fieldLink RX0 21 "WireLoom$Machine" "place" "I", Cond.fieldLink RX0 25 "WireLoom$Machine" "count" "I", Cond.fieldLink RX0 28 "WireLoom$Machine" "running" "Z", Cond.fieldLink RX0 32 "WireLoom$Machine" "steps" "I", Cond.fieldLink RX0 35 "WireLoom$Machine" "tellings" "I"]
def wsX1_push : List Cond := .code yX1_push cX1_push 2 none :: ((wsX1_push_r1 ++ wsX1_push_r2) ++ wsX10 ++ wsX20 ++ wsX00)
def wsX1_popInto_r1 : List Cond := [Cond.fieldLink RX1 20 "WireLoom$Past" "size" "I", Cond.fieldLink RX1 11 "WireLoom$Past" "saved" "[LWireLoom$State;", Cond.fieldLink RX1 16 "WireLoom$Past" "oldest" "I", Cond.methodLink RX1 23 yX2_become, Cond.instanceMethod yX2_become, Cond.selects RX2 yX2_become yX2_become, Cond.initialized RX2, Cond.code yX2_become cX2_become 2 none, Cond.fieldLink RX2 9 "WireLoom$State" "rings" "[I", Cond.methodLink RX2 31 arraycopyName, Cond.native arraycopyName, Cond.static arraycopyName, Cond.initialized "java/lang/System", Cond.fieldLink RX2 15 "WireLoom$State" "readings" "[I", Cond.fieldLink RX2 18 "WireLoom$State" "wear" "[I", Cond.fieldLink RX2 21 "WireLoom$State" "settings" "[I", Cond.fieldLink RX2 27 "WireLoom$State" "machine" "LWireLoom$Machine;", Cond.fieldLink RX2 41 "WireLoom$State" "guarded" "I", Cond.fieldLink RX2 45 "WireLoom$State" "crossingsChanged" "I", Cond.fieldLink RX2 48 "WireLoom$State" "readingsDone" "I", Cond.methodLink RX2 37 yX0_becomeLike, Cond.instanceMethod yX0_becomeLike, Cond.selects RX0 yX0_becomeLike yX0_becomeLike, Cond.initialized RX0]
def wsX1_popInto_r2 : List Cond := [Cond.code yX0_becomeLike cX0_becomeLike 2 none, Cond.fieldLink RX0 11 "WireLoom$Machine" "cells" "[I", Cond.methodLink RX0 38 arraycopyName, Cond.fieldLink RX0 15 "WireLoom$Machine" "latest" "[I", Cond.fieldLink RX0 21 "WireLoom$Machine" "place" "I", Cond.fieldLink RX0 25 "WireLoom$Machine" "count" "I", Cond.fieldLink RX0 28 "WireLoom$Machine" "running" "Z", Cond.fieldLink RX0 32 "WireLoom$Machine" "steps" "I", Cond.fieldLink RX0 35 "WireLoom$Machine" "tellings" "I"]
def wsX1_popInto : List Cond := .code yX1_popInto cX1_popInto 2 none :: ((wsX1_popInto_r1 ++ wsX1_popInto_r2) ++ wsX10 ++ wsX20 ++ wsX00)
def wsX2_asWord : List Cond := .code yX2_asWord cX2_asWord 2 (some .int) :: ([.fieldLink RX2 21 "WireLoom$State" "settings" "[I"] ++ wsX20)
def wsX2_means : List Cond := .code yX2_means cX2_means 2 (some .int) :: ([.fieldLink RX2 9 "WireLoom$State" "rings" "[I", .methodLink RX2 51 yX2_asWord, .instanceMethod yX2_asWord, .selects RX2 yX2_asWord yX2_asWord, .initialized RX2, .code yX2_asWord cX2_asWord 2 (some .int), .fieldLink RX2 21 "WireLoom$State" "settings" "[I"] ++ wsX20)
def wsX4_bit : List Cond := .code yX4_bit cX4_bit 2 (some .int) :: ([])
def wsX2_strengthAt : List Cond := .code yX2_strengthAt cX2_strengthAt 4 (some .int) :: ([.methodLink RX2 99 Lib.Math.max.name, .static Lib.Math.max.name, .initialized "java/lang/Math", .code Lib.Math.max.name Lib.Math.max.code 2 (some .int), .fieldLink RX2 18 "WireLoom$State" "wear" "[I"] ++ wsX20)
def wsX2_oneThreadOn : List Cond := .code yX2_oneThreadOn cX2_oneThreadOn 6 (some .int) :: ([.fieldLink RX2 9 "WireLoom$State" "rings" "[I", .fieldLink RX2 41 "WireLoom$State" "guarded" "I", .static yX4_bit, .initialized RX4, .code yX4_bit cX4_bit 2 (some .int)] ++ wsX20)
def wsX2_answering : List Cond := .code yX2_answering cX2_answering 8 (some .int) :: ([.fieldLink RX2 9 "WireLoom$State" "rings" "[I", .fieldLink RX2 21 "WireLoom$State" "settings" "[I", .static yX4_bit, .initialized RX4, .code yX4_bit cX4_bit 2 (some .int), .methodLink RX2 102 yX2_strengthAt, .instanceMethod yX2_strengthAt, .selects RX2 yX2_strengthAt yX2_strengthAt, .initialized RX2, .code yX2_strengthAt cX2_strengthAt 4 (some .int), .methodLink RX2 99 Lib.Math.max.name, .static Lib.Math.max.name, .initialized "java/lang/Math", .code Lib.Math.max.name Lib.Math.max.code 2 (some .int), .fieldLink RX2 18 "WireLoom$State" "wear" "[I", .methodLink RX2 96 yX2_oneThreadOn, .instanceMethod yX2_oneThreadOn, .selects RX2 yX2_oneThreadOn yX2_oneThreadOn, .code yX2_oneThreadOn cX2_oneThreadOn 6 (some .int), .fieldLink RX2 41 "WireLoom$State" "guarded" "I"] ++ wsX20)
def wsX2_tells_r1 : List Cond := [Cond.methodLink RX2 55 yX2_answering, Cond.instanceMethod yX2_answering, Cond.selects RX2 yX2_answering yX2_answering, Cond.initialized RX2, Cond.code yX2_answering cX2_answering 8 (some .int), Cond.fieldLink RX2 9 "WireLoom$State" "rings" "[I", Cond.fieldLink RX2 21 "WireLoom$State" "settings" "[I", Cond.static yX4_bit, Cond.initialized RX4, Cond.code yX4_bit cX4_bit 2 (some .int), Cond.methodLink RX2 102 yX2_strengthAt, Cond.instanceMethod yX2_strengthAt, Cond.selects RX2 yX2_strengthAt yX2_strengthAt, Cond.code yX2_strengthAt cX2_strengthAt 4 (some .int), Cond.methodLink RX2 99 Lib.Math.max.name, Cond.static Lib.Math.max.name, Cond.initialized "java/lang/Math", Cond.code Lib.Math.max.name Lib.Math.max.code 2 (some .int), Cond.fieldLink RX2 18 "WireLoom$State" "wear" "[I", Cond.methodLink RX2 96 yX2_oneThreadOn, Cond.instanceMethod yX2_oneThreadOn, Cond.selects RX2 yX2_oneThreadOn yX2_oneThreadOn, Cond.code yX2_oneThreadOn cX2_oneThreadOn 6 (some .int), Cond.fieldLink RX2 41 "WireLoom$State" "guarded" "I"]
def wsX2_tells_r2 : List Cond := [Cond.methodLink RX2 51 yX2_asWord, Cond.instanceMethod yX2_asWord, Cond.selects RX2 yX2_asWord yX2_asWord, Cond.code yX2_asWord cX2_asWord 2 (some .int)]
def wsX2_tells : List Cond := .code yX2_tells cX2_tells 2 (some .int) :: ((wsX2_tells_r1 ++ wsX2_tells_r2) ++ wsX20)
def wsX2_wearRings : List Cond := .code yX2_wearRings cX2_wearRings 4 none :: ([.fieldLink RX2 18 "WireLoom$State" "wear" "[I", .methodLink RX2 74 Lib.Math.min.name, .static Lib.Math.min.name, .initialized "java/lang/Math", .code Lib.Math.min.name Lib.Math.min.code 2 (some .int), .static yX4_bit, .initialized RX4, .code yX4_bit cX4_bit 2 (some .int)] ++ wsX20)
def wsJ6_bitCount_0f7a4 : List Cond := .code yJ6_bitCount_0f7a4 cJ6_bitCount_0f7a4 1 (some .int) :: ([.constant RJ6 265 (1431655765), .constant RJ6 266 (858993459), .constant RJ6 267 (252645135)])
def wsX2_layThrough : List Cond := .code yX2_layThrough cX2_layThrough 5 (some .int) :: ([.fieldLink RX2 9 "WireLoom$State" "rings" "[I", .fieldLink RX2 45 "WireLoom$State" "crossingsChanged" "I", .methodLink RX2 58 yX2_wearRings, .instanceMethod yX2_wearRings, .selects RX2 yX2_wearRings yX2_wearRings, .initialized RX2, .code yX2_wearRings cX2_wearRings 4 none, .fieldLink RX2 18 "WireLoom$State" "wear" "[I", .methodLink RX2 74 Lib.Math.min.name, .static Lib.Math.min.name, .initialized "java/lang/Math", .code Lib.Math.min.name Lib.Math.min.code 2 (some .int), .static yX4_bit, .initialized RX4, .code yX4_bit cX4_bit 2 (some .int), .methodLink RX2 62 yJ6_bitCount_0f7a4, .static yJ6_bitCount_0f7a4, .initialized RJ6, .code yJ6_bitCount_0f7a4 cJ6_bitCount_0f7a4 1 (some .int), .constant RJ6 265 (1431655765), .constant RJ6 266 (858993459), .constant RJ6 267 (252645135)] ++ wsX20)
def wsX2_threadsThrough : List Cond := .code yX2_threadsThrough cX2_threadsThrough 4 (some .int) :: ([.fieldLink RX2 9 "WireLoom$State" "rings" "[I", .static yX4_bit, .initialized RX4, .code yX4_bit cX4_bit 2 (some .int)] ++ wsX20)
def wsX2_renewRing : List Cond := .code yX2_renewRing cX2_renewRing 4 (some .int) :: ([.fieldLink RX2 9 "WireLoom$State" "rings" "[I", .fieldLink RX2 18 "WireLoom$State" "wear" "[I", .methodLink RX2 67 yX2_threadsThrough, .instanceMethod yX2_threadsThrough, .selects RX2 yX2_threadsThrough yX2_threadsThrough, .initialized RX2, .code yX2_threadsThrough cX2_threadsThrough 4 (some .int), .static yX4_bit, .initialized RX4, .code yX4_bit cX4_bit 2 (some .int), .methodLink RX2 62 yJ6_bitCount_0f7a4, .static yJ6_bitCount_0f7a4, .initialized RJ6, .code yJ6_bitCount_0f7a4 cJ6_bitCount_0f7a4 1 (some .int), .constant RJ6 265 (1431655765), .constant RJ6 266 (858993459), .constant RJ6 267 (252645135)] ++ wsX20)
def wsX2_takeReading_r1 : List Cond := [Cond.fieldLink RX2 9 "WireLoom$State" "rings" "[I", Cond.fieldLink RX2 15 "WireLoom$State" "readings" "[I", Cond.fieldLink RX2 48 "WireLoom$State" "readingsDone" "I", Cond.methodLink RX2 79 yX2_tells, Cond.instanceMethod yX2_tells, Cond.selects RX2 yX2_tells yX2_tells, Cond.initialized RX2, Cond.code yX2_tells cX2_tells 2 (some .int), Cond.methodLink RX2 55 yX2_answering, Cond.instanceMethod yX2_answering, Cond.selects RX2 yX2_answering yX2_answering, Cond.code yX2_answering cX2_answering 8 (some .int), Cond.fieldLink RX2 21 "WireLoom$State" "settings" "[I", Cond.static yX4_bit, Cond.initialized RX4, Cond.code yX4_bit cX4_bit 2 (some .int), Cond.methodLink RX2 102 yX2_strengthAt, Cond.instanceMethod yX2_strengthAt, Cond.selects RX2 yX2_strengthAt yX2_strengthAt, Cond.code yX2_strengthAt cX2_strengthAt 4 (some .int), Cond.methodLink RX2 99 Lib.Math.max.name, Cond.static Lib.Math.max.name, Cond.initialized "java/lang/Math", Cond.code Lib.Math.max.name Lib.Math.max.code 2 (some .int)]
def wsX2_takeReading_r2 : List Cond := [Cond.fieldLink RX2 18 "WireLoom$State" "wear" "[I", Cond.methodLink RX2 96 yX2_oneThreadOn, Cond.instanceMethod yX2_oneThreadOn, Cond.selects RX2 yX2_oneThreadOn yX2_oneThreadOn, Cond.code yX2_oneThreadOn cX2_oneThreadOn 6 (some .int), Cond.fieldLink RX2 41 "WireLoom$State" "guarded" "I", Cond.methodLink RX2 51 yX2_asWord, Cond.instanceMethod yX2_asWord, Cond.selects RX2 yX2_asWord yX2_asWord, Cond.code yX2_asWord cX2_asWord 2 (some .int), Cond.methodLink RX2 58 yX2_wearRings, Cond.instanceMethod yX2_wearRings, Cond.selects RX2 yX2_wearRings yX2_wearRings, Cond.code yX2_wearRings cX2_wearRings 4 none, Cond.methodLink RX2 74 Lib.Math.min.name, Cond.static Lib.Math.min.name, Cond.code Lib.Math.min.name Lib.Math.min.code 2 (some .int)]
def wsX2_takeReading : List Cond := .code yX2_takeReading cX2_takeReading 3 (some .int) :: ((wsX2_takeReading_r1 ++ wsX2_takeReading_r2) ++ wsX20)
def wsX2_run_r1 : List Cond := [Cond.fieldLink RX2 27 "WireLoom$State" "machine" "LWireLoom$Machine;", Cond.fieldLink RX2 82 "WireLoom$Machine" "running" "Z", Cond.fieldLink RX2 86 "WireLoom$Machine" "place" "I", Cond.methodLink RX2 89 yX2_takeReading, Cond.instanceMethod yX2_takeReading, Cond.selects RX2 yX2_takeReading yX2_takeReading, Cond.initialized RX2, Cond.code yX2_takeReading cX2_takeReading 3 (some .int), Cond.fieldLink RX2 9 "WireLoom$State" "rings" "[I", Cond.fieldLink RX2 15 "WireLoom$State" "readings" "[I", Cond.fieldLink RX2 48 "WireLoom$State" "readingsDone" "I", Cond.methodLink RX2 79 yX2_tells, Cond.instanceMethod yX2_tells, Cond.selects RX2 yX2_tells yX2_tells, Cond.code yX2_tells cX2_tells 2 (some .int), Cond.methodLink RX2 55 yX2_answering, Cond.instanceMethod yX2_answering, Cond.selects RX2 yX2_answering yX2_answering, Cond.code yX2_answering cX2_answering 8 (some .int), Cond.fieldLink RX2 21 "WireLoom$State" "settings" "[I", Cond.static yX4_bit, Cond.initialized RX4, Cond.code yX4_bit cX4_bit 2 (some .int), Cond.methodLink RX2 102 yX2_strengthAt]
def wsX2_run_r2 : List Cond := [Cond.instanceMethod yX2_strengthAt, Cond.selects RX2 yX2_strengthAt yX2_strengthAt, Cond.code yX2_strengthAt cX2_strengthAt 4 (some .int), Cond.methodLink RX2 99 Lib.Math.max.name, Cond.static Lib.Math.max.name, Cond.initialized "java/lang/Math", Cond.code Lib.Math.max.name Lib.Math.max.code 2 (some .int), Cond.fieldLink RX2 18 "WireLoom$State" "wear" "[I", Cond.methodLink RX2 96 yX2_oneThreadOn, Cond.instanceMethod yX2_oneThreadOn, Cond.selects RX2 yX2_oneThreadOn yX2_oneThreadOn, Cond.code yX2_oneThreadOn cX2_oneThreadOn 6 (some .int), Cond.fieldLink RX2 41 "WireLoom$State" "guarded" "I", Cond.methodLink RX2 51 yX2_asWord, Cond.instanceMethod yX2_asWord, Cond.selects RX2 yX2_asWord yX2_asWord, Cond.code yX2_asWord cX2_asWord 2 (some .int), Cond.methodLink RX2 58 yX2_wearRings, Cond.instanceMethod yX2_wearRings, Cond.selects RX2 yX2_wearRings yX2_wearRings, Cond.code yX2_wearRings cX2_wearRings 4 none, Cond.methodLink RX2 74 Lib.Math.min.name, Cond.static Lib.Math.min.name, Cond.code Lib.Math.min.name Lib.Math.min.code 2 (some .int)]
def wsX2_run_r3 : List Cond := [Cond.methodLink RX2 92 yX0_obey, Cond.instanceMethod yX0_obey, Cond.selects RX0 yX0_obey yX0_obey, Cond.initialized RX0, Cond.code yX0_obey cX0_obey 4 none, Cond.fieldLink RX0 32 "WireLoom$Machine" "steps" "I", Cond.fieldLink RX0 21 "WireLoom$Machine" "place" "I", Cond.fieldLink RX0 28 "WireLoom$Machine" "running" "Z", Cond.fieldLink RX0 25 "WireLoom$Machine" "count" "I", Cond.fieldLink RX0 11 "WireLoom$Machine" "cells" "[I", Cond.methodLink RX0 44 yX0_tellCount, Cond.instanceMethod yX0_tellCount, Cond.selects RX0 yX0_tellCount yX0_tellCount, Cond.code yX0_tellCount cX0_tellCount 2 none, Cond.fieldLink RX0 15 "WireLoom$Machine" "latest" "[I", Cond.fieldLink RX0 35 "WireLoom$Machine" "tellings" "I"]
def wsX2_run : List Cond := .code yX2_run cX2_run 4 (some .int) :: ((wsX2_run_r1 ++ (wsX2_run_r2 ++ wsX2_run_r3)) ++ wsX20 ++ wsX00)
def wsX2_hops : List Cond := .code yX2_hops cX2_hops 5 (some .int) :: ([.fieldLink RX2 9 "WireLoom$State" "rings" "[I", .static yX4_bit, .initialized RX4, .code yX4_bit cX4_bit 2 (some .int), .methodLink RX2 96 yX2_oneThreadOn, .instanceMethod yX2_oneThreadOn, .selects RX2 yX2_oneThreadOn yX2_oneThreadOn, .initialized RX2, .code yX2_oneThreadOn cX2_oneThreadOn 6 (some .int), .fieldLink RX2 41 "WireLoom$State" "guarded" "I"] ++ wsX20)
def wsX2_readingsUntilChange : List Cond := .code yX2_readingsUntilChange cX2_readingsUntilChange 6 (some .int) :: ([.fieldLink RX2 21 "WireLoom$State" "settings" "[I", .fieldLink RX2 18 "WireLoom$State" "wear" "[I", .fieldLink RX2 9 "WireLoom$State" "rings" "[I", .static yX4_bit, .initialized RX4, .code yX4_bit cX4_bit 2 (some .int)] ++ wsX20)
def wsX2_threadsAnswered : List Cond := .code yX2_threadsAnswered cX2_threadsAnswered 4 (some .int) :: ([.methodLink RX2 55 yX2_answering, .instanceMethod yX2_answering, .selects RX2 yX2_answering yX2_answering, .initialized RX2, .code yX2_answering cX2_answering 8 (some .int), .fieldLink RX2 9 "WireLoom$State" "rings" "[I", .fieldLink RX2 21 "WireLoom$State" "settings" "[I", .static yX4_bit, .initialized RX4, .code yX4_bit cX4_bit 2 (some .int), .methodLink RX2 102 yX2_strengthAt, .instanceMethod yX2_strengthAt, .selects RX2 yX2_strengthAt yX2_strengthAt, .code yX2_strengthAt cX2_strengthAt 4 (some .int), .methodLink RX2 99 Lib.Math.max.name, .static Lib.Math.max.name, .initialized "java/lang/Math", .code Lib.Math.max.name Lib.Math.max.code 2 (some .int), .fieldLink RX2 18 "WireLoom$State" "wear" "[I", .methodLink RX2 96 yX2_oneThreadOn, .instanceMethod yX2_oneThreadOn, .selects RX2 yX2_oneThreadOn yX2_oneThreadOn, .code yX2_oneThreadOn cX2_oneThreadOn 6 (some .int), .fieldLink RX2 41 "WireLoom$State" "guarded" "I"] ++ wsX20)
def wsX2_isWornOut : List Cond := .code yX2_isWornOut cX2_isWornOut 2 (some .boolean) :: ([.fieldLink RX2 21 "WireLoom$State" "settings" "[I", .methodLink RX2 67 yX2_threadsThrough, .instanceMethod yX2_threadsThrough, .selects RX2 yX2_threadsThrough yX2_threadsThrough, .initialized RX2, .code yX2_threadsThrough cX2_threadsThrough 4 (some .int), .fieldLink RX2 9 "WireLoom$State" "rings" "[I", .static yX4_bit, .initialized RX4, .code yX4_bit cX4_bit 2 (some .int), .methodLink RX2 102 yX2_strengthAt, .instanceMethod yX2_strengthAt, .selects RX2 yX2_strengthAt yX2_strengthAt, .code yX2_strengthAt cX2_strengthAt 4 (some .int), .methodLink RX2 99 Lib.Math.max.name, .static Lib.Math.max.name, .initialized "java/lang/Math", .code Lib.Math.max.name Lib.Math.max.code 2 (some .int), .fieldLink RX2 18 "WireLoom$State" "wear" "[I"] ++ wsX20)
def wsX2_threadsRight : List Cond := .code yX2_threadsRight cX2_threadsRight 3 (some .int) :: ([.fieldLink RX2 9 "WireLoom$State" "rings" "[I", .methodLink RX2 55 yX2_answering, .instanceMethod yX2_answering, .selects RX2 yX2_answering yX2_answering, .initialized RX2, .code yX2_answering cX2_answering 8 (some .int), .fieldLink RX2 21 "WireLoom$State" "settings" "[I", .static yX4_bit, .initialized RX4, .code yX4_bit cX4_bit 2 (some .int), .methodLink RX2 102 yX2_strengthAt, .instanceMethod yX2_strengthAt, .selects RX2 yX2_strengthAt yX2_strengthAt, .code yX2_strengthAt cX2_strengthAt 4 (some .int), .methodLink RX2 99 Lib.Math.max.name, .static Lib.Math.max.name, .initialized "java/lang/Math", .code Lib.Math.max.name Lib.Math.max.code 2 (some .int), .fieldLink RX2 18 "WireLoom$State" "wear" "[I", .methodLink RX2 96 yX2_oneThreadOn, .instanceMethod yX2_oneThreadOn, .selects RX2 yX2_oneThreadOn yX2_oneThreadOn, .code yX2_oneThreadOn cX2_oneThreadOn 6 (some .int), .fieldLink RX2 41 "WireLoom$State" "guarded" "I"] ++ wsX20)
def wsX2_crossingsByThreads : List Cond := .code yX2_crossingsByThreads cX2_crossingsByThreads 3 (some .int) :: ([.fieldLink RX2 9 "WireLoom$State" "rings" "[I", .methodLink RX2 62 yJ6_bitCount_0f7a4, .static yJ6_bitCount_0f7a4, .initialized RJ6, .code yJ6_bitCount_0f7a4 cJ6_bitCount_0f7a4 1 (some .int), .constant RJ6 265 (1431655765), .constant RJ6 266 (858993459), .constant RJ6 267 (252645135)] ++ wsX20)
def wsX2_crossingsByRings : List Cond := .code yX2_crossingsByRings cX2_crossingsByRings 3 (some .int) :: ([.methodLink RX2 67 yX2_threadsThrough, .instanceMethod yX2_threadsThrough, .selects RX2 yX2_threadsThrough yX2_threadsThrough, .initialized RX2, .code yX2_threadsThrough cX2_threadsThrough 4 (some .int), .fieldLink RX2 9 "WireLoom$State" "rings" "[I", .static yX4_bit, .initialized RX4, .code yX4_bit cX4_bit 2 (some .int), .methodLink RX2 62 yJ6_bitCount_0f7a4, .static yJ6_bitCount_0f7a4, .initialized RJ6, .code yJ6_bitCount_0f7a4 cJ6_bitCount_0f7a4 1 (some .int), .constant RJ6 265 (1431655765), .constant RJ6 266 (858993459), .constant RJ6 267 (252645135)] ++ wsX20)
def wsX2_greatestWear : List Cond := .code yX2_greatestWear cX2_greatestWear 3 (some .int) :: ([.fieldLink RX2 18 "WireLoom$State" "wear" "[I", .methodLink RX2 99 Lib.Math.max.name, .static Lib.Math.max.name, .initialized "java/lang/Math", .code Lib.Math.max.name Lib.Math.max.code 2 (some .int)] ++ wsX20)
def wsX2_fewestUnlikeBits : List Cond := .code yX2_fewestUnlikeBits cX2_fewestUnlikeBits 4 (some .int) :: ([.fieldLink RX2 9 "WireLoom$State" "rings" "[I", .methodLink RX2 74 Lib.Math.min.name, .static Lib.Math.min.name, .initialized "java/lang/Math", .code Lib.Math.min.name Lib.Math.min.code 2 (some .int), .methodLink RX2 62 yJ6_bitCount_0f7a4, .static yJ6_bitCount_0f7a4, .initialized RJ6, .code yJ6_bitCount_0f7a4 cJ6_bitCount_0f7a4 1 (some .int), .constant RJ6 265 (1431655765), .constant RJ6 266 (858993459), .constant RJ6 267 (252645135)] ++ wsX20)
def wsX3_init : List Cond := .code yX3_init cX3_init 1 none :: ([.methodLink RX3 3 objectInit, .instanceMethod objectInit, .code objectInit ⟨#[0xb1]⟩ 1 none, .arrayClass .int, .fieldLink RX3 11 "WireLoom$Text" "codes" "[I", .fieldLink RX3 15 "WireLoom$Text" "words" "[I"] ++ wsX30)
def wsX4_init_r1 : List Cond := [Cond.methodLink RX4 1 objectInit, Cond.instanceMethod objectInit, Cond.code objectInit ⟨#[0xb1]⟩ 1 none, Cond.classLink RX4 7 RX2, Cond.instantiable RX2 8, Cond.initialized RX2, Cond.fieldLink RX4 10 "WireLoom" "now" "LWireLoom$State;", Cond.fieldLink RX4 16 "WireLoom" "trial" "LWireLoom$State;", Cond.classLink RX4 19 RX1, Cond.instantiable RX1 3, Cond.initialized RX1, Cond.fieldLink RX4 22 "WireLoom" "past" "LWireLoom$Past;", Cond.fieldLink RX4 26 "WireLoom" "snapshots" "[LWireLoom$State;", Cond.arrayClass .boolean, Cond.fieldLink RX4 30 "WireLoom" "kept" "[Z", Cond.classLink RX4 34 RX3, Cond.instantiable RX3 5, Cond.initialized RX3, Cond.fieldLink RX4 37 "WireLoom" "buffer" "LWireLoom$Text;", Cond.arrayClass .int, Cond.fieldLink RX4 41 "WireLoom" "wordsTold" "[I", Cond.methodLink RX4 9 yX2_init, Cond.instanceMethod yX2_init, Cond.code yX2_init cX2_init 1 none]
def wsX4_init_r2 : List Cond := [Cond.methodLink RX2 3 objectInit, Cond.fieldLink RX2 9 "WireLoom$State" "rings" "[I", Cond.fieldLink RX2 15 "WireLoom$State" "readings" "[I", Cond.fieldLink RX2 18 "WireLoom$State" "wear" "[I", Cond.fieldLink RX2 21 "WireLoom$State" "settings" "[I", Cond.classLink RX2 24 RX0, Cond.instantiable RX0 7, Cond.initialized RX0, Cond.fieldLink RX2 27 "WireLoom$State" "machine" "LWireLoom$Machine;", Cond.methodLink RX2 26 yX0_init, Cond.instanceMethod yX0_init, Cond.code yX0_init cX0_init 1 none, Cond.methodLink RX0 3 objectInit, Cond.fieldLink RX0 11 "WireLoom$Machine" "cells" "[I", Cond.fieldLink RX0 15 "WireLoom$Machine" "latest" "[I", Cond.methodLink RX0 18 yX0_begin, Cond.instanceMethod yX0_begin, Cond.selects RX0 yX0_begin yX0_begin, Cond.code yX0_begin cX0_begin 2 none, Cond.fieldLink RX0 21 "WireLoom$Machine" "place" "I", Cond.fieldLink RX0 25 "WireLoom$Machine" "count" "I", Cond.fieldLink RX0 28 "WireLoom$Machine" "running" "Z", Cond.fieldLink RX0 32 "WireLoom$Machine" "steps" "I", Cond.fieldLink RX0 35 "WireLoom$Machine" "tellings" "I"]
def wsX4_init_r3 : List Cond := [Cond.methodLink RX4 21 yX1_init, Cond.instanceMethod yX1_init, Cond.code yX1_init cX1_init 2 none, Cond.methodLink RX1 1 objectInit, Cond.classLink RX1 9 RX2, Cond.fieldLink RX1 11 "WireLoom$Past" "saved" "[LWireLoom$State;", Cond.methodLink RX1 15 yX2_init, Cond.instanceMethod yX3_init, Cond.code yX3_init cX3_init 1 none, Cond.methodLink RX3 3 objectInit, Cond.fieldLink RX3 11 "WireLoom$Text" "codes" "[I", Cond.fieldLink RX3 15 "WireLoom$Text" "words" "[I"]
def wsX4_init : List Cond := .code yX4_init cX4_init 2 none :: ((wsX4_init_r1 ++ (wsX4_init_r2 ++ wsX4_init_r3)) ++ wsX20 ++ wsX40 ++ wsX10 ++ wsX30 ++ wsX00)
def wsX4_isWithin : List Cond := .code yX4_isWithin cX4_isWithin 3 (some .boolean) :: ([])
def wsX4_isThread : List Cond := .code yX4_isThread cX4_isThread 1 (some .boolean) :: ([.methodLink RX4 75 yX4_isWithin, .static yX4_isWithin, .initialized RX4, .code yX4_isWithin cX4_isWithin 3 (some .boolean)])
def wsX4_isRing : List Cond := .code yX4_isRing cX4_isRing 1 (some .boolean) :: ([.methodLink RX4 75 yX4_isWithin, .static yX4_isWithin, .initialized RX4, .code yX4_isWithin cX4_isWithin 3 (some .boolean)])
def wsX4_cross_r1 : List Cond := [Cond.classLink RX4 52 "java/lang/IndexOutOfBoundsException", Cond.initialized "java/lang/IndexOutOfBoundsException", Cond.fieldLink RX4 22 "WireLoom" "past" "LWireLoom$Past;", Cond.fieldLink RX4 10 "WireLoom" "now" "LWireLoom$State;", Cond.fieldLink RX4 63 "WireLoom$State" "rings" "[I", Cond.methodLink RX4 45 yX4_isThread, Cond.static yX4_isThread, Cond.initialized RX4, Cond.code yX4_isThread cX4_isThread 1 (some .boolean), Cond.methodLink RX4 75 yX4_isWithin, Cond.static yX4_isWithin, Cond.code yX4_isWithin cX4_isWithin 3 (some .boolean), Cond.methodLink RX4 49 yX4_isRing, Cond.static yX4_isRing, Cond.code yX4_isRing cX4_isRing 1 (some .boolean), Cond.methodLink RX4 59 yX1_push, Cond.instanceMethod yX1_push, Cond.selects RX1 yX1_push yX1_push, Cond.initialized RX1, Cond.code yX1_push cX1_push 2 none, Cond.fieldLink RX1 11 "WireLoom$Past" "saved" "[LWireLoom$State;", Cond.fieldLink RX1 16 "WireLoom$Past" "oldest" "I", Cond.fieldLink RX1 20 "WireLoom$Past" "size" "I", Cond.methodLink RX1 23 yX2_become]
def wsX4_cross_r2 : List Cond := [Cond.instanceMethod yX2_become, Cond.selects RX2 yX2_become yX2_become, Cond.initialized RX2, Cond.code yX2_become cX2_become 2 none, Cond.fieldLink RX2 9 "WireLoom$State" "rings" "[I", Cond.methodLink RX2 31 arraycopyName, Cond.native arraycopyName, Cond.static arraycopyName, Cond.initialized "java/lang/System", Cond.fieldLink RX2 15 "WireLoom$State" "readings" "[I", Cond.fieldLink RX2 18 "WireLoom$State" "wear" "[I", Cond.fieldLink RX2 21 "WireLoom$State" "settings" "[I", Cond.fieldLink RX2 27 "WireLoom$State" "machine" "LWireLoom$Machine;", Cond.fieldLink RX2 41 "WireLoom$State" "guarded" "I", Cond.fieldLink RX2 45 "WireLoom$State" "crossingsChanged" "I", Cond.fieldLink RX2 48 "WireLoom$State" "readingsDone" "I", Cond.methodLink RX2 37 yX0_becomeLike, Cond.instanceMethod yX0_becomeLike, Cond.selects RX0 yX0_becomeLike yX0_becomeLike, Cond.initialized RX0, Cond.code yX0_becomeLike cX0_becomeLike 2 none, Cond.fieldLink RX0 11 "WireLoom$Machine" "cells" "[I", Cond.methodLink RX0 38 arraycopyName, Cond.fieldLink RX0 15 "WireLoom$Machine" "latest" "[I"]
def wsX4_cross_r3 : List Cond := [Cond.fieldLink RX0 21 "WireLoom$Machine" "place" "I", Cond.fieldLink RX0 25 "WireLoom$Machine" "count" "I", Cond.fieldLink RX0 28 "WireLoom$Machine" "running" "Z", Cond.fieldLink RX0 32 "WireLoom$Machine" "steps" "I", Cond.fieldLink RX0 35 "WireLoom$Machine" "tellings" "I", Cond.methodLink RX4 66 yX2_layThrough, Cond.instanceMethod yX2_layThrough, Cond.selects RX2 yX2_layThrough yX2_layThrough, Cond.code yX2_layThrough cX2_layThrough 5 (some .int), Cond.methodLink RX2 58 yX2_wearRings, Cond.instanceMethod yX2_wearRings, Cond.selects RX2 yX2_wearRings yX2_wearRings, Cond.code yX2_wearRings cX2_wearRings 4 none, Cond.methodLink RX2 74 Lib.Math.min.name, Cond.static Lib.Math.min.name, Cond.initialized "java/lang/Math", Cond.code Lib.Math.min.name Lib.Math.min.code 2 (some .int), Cond.static yX4_bit, Cond.code yX4_bit cX4_bit 2 (some .int), Cond.methodLink RX2 62 yJ6_bitCount_0f7a4, Cond.static yJ6_bitCount_0f7a4, Cond.initialized RJ6, Cond.code yJ6_bitCount_0f7a4 cJ6_bitCount_0f7a4 1 (some .int), Cond.constant RJ6 265 (1431655765)]
def wsX4_cross_r4 : List Cond := [Cond.constant RJ6 266 (858993459), Cond.constant RJ6 267 (252645135), Cond.methodLink RX4 70 yX4_bit]
def wsX4_cross : List Cond := .code yX4_cross cX4_cross 3 (some .int) :: ((wsX4_cross_r1 ++ (wsX4_cross_r2 ++ (wsX4_cross_r3 ++ wsX4_cross_r4))) ++ wsX40 ++ wsX20 ++ wsX10 ++ wsX00 ++ (vx_atS RX4 56 "java/lang/IndexOutOfBoundsException" ["java/lang/RuntimeException", "java/lang/Exception"]).filter goodWord)
def wsX4_lay_r1 : List Cond := [Cond.classLink RX4 52 "java/lang/IndexOutOfBoundsException", Cond.initialized "java/lang/IndexOutOfBoundsException", Cond.classLink RX4 79 "java/lang/IllegalArgumentException", Cond.initialized "java/lang/IllegalArgumentException", Cond.fieldLink RX4 22 "WireLoom" "past" "LWireLoom$Past;", Cond.fieldLink RX4 10 "WireLoom" "now" "LWireLoom$State;", Cond.methodLink RX4 45 yX4_isThread, Cond.static yX4_isThread, Cond.initialized RX4, Cond.code yX4_isThread cX4_isThread 1 (some .boolean), Cond.methodLink RX4 75 yX4_isWithin, Cond.static yX4_isWithin, Cond.code yX4_isWithin cX4_isWithin 3 (some .boolean), Cond.methodLink RX4 59 yX1_push, Cond.instanceMethod yX1_push, Cond.selects RX1 yX1_push yX1_push, Cond.initialized RX1, Cond.code yX1_push cX1_push 2 none, Cond.fieldLink RX1 11 "WireLoom$Past" "saved" "[LWireLoom$State;", Cond.fieldLink RX1 16 "WireLoom$Past" "oldest" "I", Cond.fieldLink RX1 20 "WireLoom$Past" "size" "I", Cond.methodLink RX1 23 yX2_become, Cond.instanceMethod yX2_become, Cond.selects RX2 yX2_become yX2_become]
def wsX4_lay_r2 : List Cond := [Cond.initialized RX2, Cond.code yX2_become cX2_become 2 none, Cond.fieldLink RX2 9 "WireLoom$State" "rings" "[I", Cond.methodLink RX2 31 arraycopyName, Cond.native arraycopyName, Cond.static arraycopyName, Cond.initialized "java/lang/System", Cond.fieldLink RX2 15 "WireLoom$State" "readings" "[I", Cond.fieldLink RX2 18 "WireLoom$State" "wear" "[I", Cond.fieldLink RX2 21 "WireLoom$State" "settings" "[I", Cond.fieldLink RX2 27 "WireLoom$State" "machine" "LWireLoom$Machine;", Cond.fieldLink RX2 41 "WireLoom$State" "guarded" "I", Cond.fieldLink RX2 45 "WireLoom$State" "crossingsChanged" "I", Cond.fieldLink RX2 48 "WireLoom$State" "readingsDone" "I", Cond.methodLink RX2 37 yX0_becomeLike, Cond.instanceMethod yX0_becomeLike, Cond.selects RX0 yX0_becomeLike yX0_becomeLike, Cond.initialized RX0, Cond.code yX0_becomeLike cX0_becomeLike 2 none, Cond.fieldLink RX0 11 "WireLoom$Machine" "cells" "[I", Cond.methodLink RX0 38 arraycopyName, Cond.fieldLink RX0 15 "WireLoom$Machine" "latest" "[I", Cond.fieldLink RX0 21 "WireLoom$Machine" "place" "I", Cond.fieldLink RX0 25 "WireLoom$Machine" "count" "I"]
def wsX4_lay_r3 : List Cond := [Cond.fieldLink RX0 28 "WireLoom$Machine" "running" "Z", Cond.fieldLink RX0 32 "WireLoom$Machine" "steps" "I", Cond.fieldLink RX0 35 "WireLoom$Machine" "tellings" "I", Cond.methodLink RX4 84 yX2_asWord, Cond.instanceMethod yX2_asWord, Cond.selects RX2 yX2_asWord yX2_asWord, Cond.code yX2_asWord cX2_asWord 2 (some .int), Cond.methodLink RX4 66 yX2_layThrough, Cond.instanceMethod yX2_layThrough, Cond.selects RX2 yX2_layThrough yX2_layThrough, Cond.code yX2_layThrough cX2_layThrough 5 (some .int), Cond.methodLink RX2 58 yX2_wearRings, Cond.instanceMethod yX2_wearRings, Cond.selects RX2 yX2_wearRings yX2_wearRings, Cond.code yX2_wearRings cX2_wearRings 4 none, Cond.methodLink RX2 74 Lib.Math.min.name, Cond.static Lib.Math.min.name, Cond.initialized "java/lang/Math", Cond.code Lib.Math.min.name Lib.Math.min.code 2 (some .int), Cond.static yX4_bit, Cond.code yX4_bit cX4_bit 2 (some .int), Cond.methodLink RX2 62 yJ6_bitCount_0f7a4, Cond.static yJ6_bitCount_0f7a4, Cond.initialized RJ6]
def wsX4_lay_r4 : List Cond := [Cond.code yJ6_bitCount_0f7a4 cJ6_bitCount_0f7a4 1 (some .int), Cond.constant RJ6 265 (1431655765), Cond.constant RJ6 266 (858993459), Cond.constant RJ6 267 (252645135)]
def wsX4_lay : List Cond := .code yX4_lay cX4_lay 3 (some .int) :: ((wsX4_lay_r1 ++ (wsX4_lay_r2 ++ (wsX4_lay_r3 ++ wsX4_lay_r4))) ++ wsX40 ++ wsX10 ++ wsX20 ++ wsX00 ++ (vx_atS RX4 56 "java/lang/IndexOutOfBoundsException" ["java/lang/RuntimeException", "java/lang/Exception"]).filter goodWord ++ (vx_atS RX4 83 "java/lang/IllegalArgumentException" ["java/lang/RuntimeException", "java/lang/Exception"]).filter goodWord)
def wsX4_guard_r1 : List Cond := [Cond.classLink RX4 52 "java/lang/IndexOutOfBoundsException", Cond.initialized "java/lang/IndexOutOfBoundsException", Cond.fieldLink RX4 22 "WireLoom" "past" "LWireLoom$Past;", Cond.fieldLink RX4 10 "WireLoom" "now" "LWireLoom$State;", Cond.fieldLink RX4 88 "WireLoom$State" "guarded" "I", Cond.methodLink RX4 45 yX4_isThread, Cond.static yX4_isThread, Cond.initialized RX4, Cond.code yX4_isThread cX4_isThread 1 (some .boolean), Cond.methodLink RX4 75 yX4_isWithin, Cond.static yX4_isWithin, Cond.code yX4_isWithin cX4_isWithin 3 (some .boolean), Cond.methodLink RX4 59 yX1_push, Cond.instanceMethod yX1_push, Cond.selects RX1 yX1_push yX1_push, Cond.initialized RX1, Cond.code yX1_push cX1_push 2 none, Cond.fieldLink RX1 11 "WireLoom$Past" "saved" "[LWireLoom$State;", Cond.fieldLink RX1 16 "WireLoom$Past" "oldest" "I", Cond.fieldLink RX1 20 "WireLoom$Past" "size" "I", Cond.methodLink RX1 23 yX2_become, Cond.instanceMethod yX2_become, Cond.selects RX2 yX2_become yX2_become, Cond.initialized RX2]
def wsX4_guard_r2 : List Cond := [Cond.code yX2_become cX2_become 2 none, Cond.fieldLink RX2 9 "WireLoom$State" "rings" "[I", Cond.methodLink RX2 31 arraycopyName, Cond.native arraycopyName, Cond.static arraycopyName, Cond.initialized "java/lang/System", Cond.fieldLink RX2 15 "WireLoom$State" "readings" "[I", Cond.fieldLink RX2 18 "WireLoom$State" "wear" "[I", Cond.fieldLink RX2 21 "WireLoom$State" "settings" "[I", Cond.fieldLink RX2 27 "WireLoom$State" "machine" "LWireLoom$Machine;", Cond.fieldLink RX2 41 "WireLoom$State" "guarded" "I", Cond.fieldLink RX2 45 "WireLoom$State" "crossingsChanged" "I", Cond.fieldLink RX2 48 "WireLoom$State" "readingsDone" "I", Cond.methodLink RX2 37 yX0_becomeLike, Cond.instanceMethod yX0_becomeLike, Cond.selects RX0 yX0_becomeLike yX0_becomeLike, Cond.initialized RX0, Cond.code yX0_becomeLike cX0_becomeLike 2 none, Cond.fieldLink RX0 11 "WireLoom$Machine" "cells" "[I", Cond.methodLink RX0 38 arraycopyName, Cond.fieldLink RX0 15 "WireLoom$Machine" "latest" "[I", Cond.fieldLink RX0 21 "WireLoom$Machine" "place" "I", Cond.fieldLink RX0 25 "WireLoom$Machine" "count" "I", Cond.fieldLink RX0 28 "WireLoom$Machine" "running" "Z"]
def wsX4_guard_r3 : List Cond := [Cond.fieldLink RX0 32 "WireLoom$Machine" "steps" "I", Cond.fieldLink RX0 35 "WireLoom$Machine" "tellings" "I", Cond.methodLink RX4 70 yX4_bit, Cond.static yX4_bit, Cond.code yX4_bit cX4_bit 2 (some .int)]
def wsX4_guard : List Cond := .code yX4_guard cX4_guard 2 (some .int) :: ((wsX4_guard_r1 ++ (wsX4_guard_r2 ++ wsX4_guard_r3)) ++ wsX40 ++ wsX20 ++ wsX10 ++ wsX00 ++ (vx_atS RX4 56 "java/lang/IndexOutOfBoundsException" ["java/lang/RuntimeException", "java/lang/Exception"]).filter goodWord)
def wsX4_change_r1 : List Cond := [Cond.classLink RX4 52 "java/lang/IndexOutOfBoundsException", Cond.initialized "java/lang/IndexOutOfBoundsException", Cond.fieldLink RX4 22 "WireLoom" "past" "LWireLoom$Past;", Cond.fieldLink RX4 10 "WireLoom" "now" "LWireLoom$State;", Cond.methodLink RX4 49 yX4_isRing, Cond.static yX4_isRing, Cond.initialized RX4, Cond.code yX4_isRing cX4_isRing 1 (some .boolean), Cond.methodLink RX4 75 yX4_isWithin, Cond.static yX4_isWithin, Cond.code yX4_isWithin cX4_isWithin 3 (some .boolean), Cond.methodLink RX4 59 yX1_push, Cond.instanceMethod yX1_push, Cond.selects RX1 yX1_push yX1_push, Cond.initialized RX1, Cond.code yX1_push cX1_push 2 none, Cond.fieldLink RX1 11 "WireLoom$Past" "saved" "[LWireLoom$State;", Cond.fieldLink RX1 16 "WireLoom$Past" "oldest" "I", Cond.fieldLink RX1 20 "WireLoom$Past" "size" "I", Cond.methodLink RX1 23 yX2_become, Cond.instanceMethod yX2_become, Cond.selects RX2 yX2_become yX2_become, Cond.initialized RX2, Cond.code yX2_become cX2_become 2 none]
def wsX4_change_r2 : List Cond := [Cond.fieldLink RX2 9 "WireLoom$State" "rings" "[I", Cond.methodLink RX2 31 arraycopyName, Cond.native arraycopyName, Cond.static arraycopyName, Cond.initialized "java/lang/System", Cond.fieldLink RX2 15 "WireLoom$State" "readings" "[I", Cond.fieldLink RX2 18 "WireLoom$State" "wear" "[I", Cond.fieldLink RX2 21 "WireLoom$State" "settings" "[I", Cond.fieldLink RX2 27 "WireLoom$State" "machine" "LWireLoom$Machine;", Cond.fieldLink RX2 41 "WireLoom$State" "guarded" "I", Cond.fieldLink RX2 45 "WireLoom$State" "crossingsChanged" "I", Cond.fieldLink RX2 48 "WireLoom$State" "readingsDone" "I", Cond.methodLink RX2 37 yX0_becomeLike, Cond.instanceMethod yX0_becomeLike, Cond.selects RX0 yX0_becomeLike yX0_becomeLike, Cond.initialized RX0, Cond.code yX0_becomeLike cX0_becomeLike 2 none, Cond.fieldLink RX0 11 "WireLoom$Machine" "cells" "[I", Cond.methodLink RX0 38 arraycopyName, Cond.fieldLink RX0 15 "WireLoom$Machine" "latest" "[I", Cond.fieldLink RX0 21 "WireLoom$Machine" "place" "I", Cond.fieldLink RX0 25 "WireLoom$Machine" "count" "I", Cond.fieldLink RX0 28 "WireLoom$Machine" "running" "Z", Cond.fieldLink RX0 32 "WireLoom$Machine" "steps" "I"]
def wsX4_change_r3 : List Cond := [Cond.fieldLink RX0 35 "WireLoom$Machine" "tellings" "I", Cond.methodLink RX4 94 yX2_renewRing, Cond.instanceMethod yX2_renewRing, Cond.selects RX2 yX2_renewRing yX2_renewRing, Cond.code yX2_renewRing cX2_renewRing 4 (some .int), Cond.methodLink RX2 67 yX2_threadsThrough, Cond.instanceMethod yX2_threadsThrough, Cond.selects RX2 yX2_threadsThrough yX2_threadsThrough, Cond.code yX2_threadsThrough cX2_threadsThrough 4 (some .int), Cond.static yX4_bit, Cond.code yX4_bit cX4_bit 2 (some .int), Cond.methodLink RX2 62 yJ6_bitCount_0f7a4, Cond.static yJ6_bitCount_0f7a4, Cond.initialized RJ6, Cond.code yJ6_bitCount_0f7a4 cJ6_bitCount_0f7a4 1 (some .int), Cond.constant RJ6 265 (1431655765), Cond.constant RJ6 266 (858993459), Cond.constant RJ6 267 (252645135)]
def wsX4_change : List Cond := .code yX4_change cX4_change 2 (some .int) :: ((wsX4_change_r1 ++ (wsX4_change_r2 ++ wsX4_change_r3)) ++ wsX40 ++ wsX10 ++ wsX20 ++ wsX00 ++ (vx_atS RX4 56 "java/lang/IndexOutOfBoundsException" ["java/lang/RuntimeException", "java/lang/Exception"]).filter goodWord)
def wsX4_isSetting : List Cond := .code yX4_isSetting cX4_isSetting 1 (some .boolean) :: ([.methodLink RX4 75 yX4_isWithin, .static yX4_isWithin, .initialized RX4, .code yX4_isWithin cX4_isWithin 3 (some .boolean)])
def wsX4_set_r1 : List Cond := [Cond.classLink RX4 52 "java/lang/IndexOutOfBoundsException", Cond.initialized "java/lang/IndexOutOfBoundsException", Cond.classLink RX4 79 "java/lang/IllegalArgumentException", Cond.initialized "java/lang/IllegalArgumentException", Cond.fieldLink RX4 22 "WireLoom" "past" "LWireLoom$Past;", Cond.fieldLink RX4 10 "WireLoom" "now" "LWireLoom$State;", Cond.fieldLink RX4 104 "WireLoom$State" "settings" "[I", Cond.methodLink RX4 97 yX4_isSetting, Cond.static yX4_isSetting, Cond.initialized RX4, Cond.code yX4_isSetting cX4_isSetting 1 (some .boolean), Cond.methodLink RX4 75 yX4_isWithin, Cond.static yX4_isWithin, Cond.code yX4_isWithin cX4_isWithin 3 (some .boolean), Cond.methodLink RX4 59 yX1_push, Cond.instanceMethod yX1_push, Cond.selects RX1 yX1_push yX1_push, Cond.initialized RX1, Cond.code yX1_push cX1_push 2 none, Cond.fieldLink RX1 11 "WireLoom$Past" "saved" "[LWireLoom$State;", Cond.fieldLink RX1 16 "WireLoom$Past" "oldest" "I", Cond.fieldLink RX1 20 "WireLoom$Past" "size" "I", Cond.methodLink RX1 23 yX2_become, Cond.instanceMethod yX2_become]
def wsX4_set_r2 : List Cond := [Cond.selects RX2 yX2_become yX2_become, Cond.initialized RX2, Cond.code yX2_become cX2_become 2 none, Cond.fieldLink RX2 9 "WireLoom$State" "rings" "[I", Cond.methodLink RX2 31 arraycopyName, Cond.native arraycopyName, Cond.static arraycopyName, Cond.initialized "java/lang/System", Cond.fieldLink RX2 15 "WireLoom$State" "readings" "[I", Cond.fieldLink RX2 18 "WireLoom$State" "wear" "[I", Cond.fieldLink RX2 21 "WireLoom$State" "settings" "[I", Cond.fieldLink RX2 27 "WireLoom$State" "machine" "LWireLoom$Machine;", Cond.fieldLink RX2 41 "WireLoom$State" "guarded" "I", Cond.fieldLink RX2 45 "WireLoom$State" "crossingsChanged" "I", Cond.fieldLink RX2 48 "WireLoom$State" "readingsDone" "I", Cond.methodLink RX2 37 yX0_becomeLike, Cond.instanceMethod yX0_becomeLike, Cond.selects RX0 yX0_becomeLike yX0_becomeLike, Cond.initialized RX0, Cond.code yX0_becomeLike cX0_becomeLike 2 none, Cond.fieldLink RX0 11 "WireLoom$Machine" "cells" "[I", Cond.methodLink RX0 38 arraycopyName, Cond.fieldLink RX0 15 "WireLoom$Machine" "latest" "[I", Cond.fieldLink RX0 21 "WireLoom$Machine" "place" "I"]
def wsX4_set_r3 : List Cond := [Cond.fieldLink RX0 25 "WireLoom$Machine" "count" "I", Cond.fieldLink RX0 28 "WireLoom$Machine" "running" "Z", Cond.fieldLink RX0 32 "WireLoom$Machine" "steps" "I", Cond.fieldLink RX0 35 "WireLoom$Machine" "tellings" "I"]
def wsX4_set : List Cond := .code yX4_set cX4_set 4 (some .int) :: ((wsX4_set_r1 ++ (wsX4_set_r2 ++ wsX4_set_r3)) ++ wsX40 ++ wsX20 ++ wsX10 ++ wsX00 ++ (vx_atS RX4 56 "java/lang/IndexOutOfBoundsException" ["java/lang/RuntimeException", "java/lang/Exception"]).filter goodWord ++ (vx_atS RX4 83 "java/lang/IllegalArgumentException" ["java/lang/RuntimeException", "java/lang/Exception"]).filter goodWord)
def wsX4_read_r1 : List Cond := [Cond.classLink RX4 52 "java/lang/IndexOutOfBoundsException", Cond.initialized "java/lang/IndexOutOfBoundsException", Cond.fieldLink RX4 22 "WireLoom" "past" "LWireLoom$Past;", Cond.fieldLink RX4 10 "WireLoom" "now" "LWireLoom$State;", Cond.methodLink RX4 45 yX4_isThread, Cond.static yX4_isThread, Cond.initialized RX4, Cond.code yX4_isThread cX4_isThread 1 (some .boolean), Cond.methodLink RX4 75 yX4_isWithin, Cond.static yX4_isWithin, Cond.code yX4_isWithin cX4_isWithin 3 (some .boolean), Cond.methodLink RX4 59 yX1_push, Cond.instanceMethod yX1_push, Cond.selects RX1 yX1_push yX1_push, Cond.initialized RX1, Cond.code yX1_push cX1_push 2 none, Cond.fieldLink RX1 11 "WireLoom$Past" "saved" "[LWireLoom$State;", Cond.fieldLink RX1 16 "WireLoom$Past" "oldest" "I", Cond.fieldLink RX1 20 "WireLoom$Past" "size" "I", Cond.methodLink RX1 23 yX2_become, Cond.instanceMethod yX2_become, Cond.selects RX2 yX2_become yX2_become, Cond.initialized RX2, Cond.code yX2_become cX2_become 2 none]
def wsX4_read_r2 : List Cond := [Cond.fieldLink RX2 9 "WireLoom$State" "rings" "[I", Cond.methodLink RX2 31 arraycopyName, Cond.native arraycopyName, Cond.static arraycopyName, Cond.initialized "java/lang/System", Cond.fieldLink RX2 15 "WireLoom$State" "readings" "[I", Cond.fieldLink RX2 18 "WireLoom$State" "wear" "[I", Cond.fieldLink RX2 21 "WireLoom$State" "settings" "[I", Cond.fieldLink RX2 27 "WireLoom$State" "machine" "LWireLoom$Machine;", Cond.fieldLink RX2 41 "WireLoom$State" "guarded" "I", Cond.fieldLink RX2 45 "WireLoom$State" "crossingsChanged" "I", Cond.fieldLink RX2 48 "WireLoom$State" "readingsDone" "I", Cond.methodLink RX2 37 yX0_becomeLike, Cond.instanceMethod yX0_becomeLike, Cond.selects RX0 yX0_becomeLike yX0_becomeLike, Cond.initialized RX0, Cond.code yX0_becomeLike cX0_becomeLike 2 none, Cond.fieldLink RX0 11 "WireLoom$Machine" "cells" "[I", Cond.methodLink RX0 38 arraycopyName, Cond.fieldLink RX0 15 "WireLoom$Machine" "latest" "[I", Cond.fieldLink RX0 21 "WireLoom$Machine" "place" "I", Cond.fieldLink RX0 25 "WireLoom$Machine" "count" "I", Cond.fieldLink RX0 28 "WireLoom$Machine" "running" "Z", Cond.fieldLink RX0 32 "WireLoom$Machine" "steps" "I"]
def wsX4_read_r3 : List Cond := [Cond.fieldLink RX0 35 "WireLoom$Machine" "tellings" "I", Cond.methodLink RX4 107 yX2_takeReading, Cond.instanceMethod yX2_takeReading, Cond.selects RX2 yX2_takeReading yX2_takeReading, Cond.code yX2_takeReading cX2_takeReading 3 (some .int), Cond.methodLink RX2 79 yX2_tells, Cond.instanceMethod yX2_tells, Cond.selects RX2 yX2_tells yX2_tells, Cond.code yX2_tells cX2_tells 2 (some .int), Cond.methodLink RX2 55 yX2_answering, Cond.instanceMethod yX2_answering, Cond.selects RX2 yX2_answering yX2_answering, Cond.code yX2_answering cX2_answering 8 (some .int), Cond.static yX4_bit, Cond.code yX4_bit cX4_bit 2 (some .int), Cond.methodLink RX2 102 yX2_strengthAt, Cond.instanceMethod yX2_strengthAt, Cond.selects RX2 yX2_strengthAt yX2_strengthAt, Cond.code yX2_strengthAt cX2_strengthAt 4 (some .int), Cond.methodLink RX2 99 Lib.Math.max.name, Cond.static Lib.Math.max.name, Cond.initialized "java/lang/Math", Cond.code Lib.Math.max.name Lib.Math.max.code 2 (some .int), Cond.methodLink RX2 96 yX2_oneThreadOn]
def wsX4_read_r4 : List Cond := [Cond.instanceMethod yX2_oneThreadOn, Cond.selects RX2 yX2_oneThreadOn yX2_oneThreadOn, Cond.code yX2_oneThreadOn cX2_oneThreadOn 6 (some .int), Cond.methodLink RX2 51 yX2_asWord, Cond.instanceMethod yX2_asWord, Cond.selects RX2 yX2_asWord yX2_asWord, Cond.code yX2_asWord cX2_asWord 2 (some .int), Cond.methodLink RX2 58 yX2_wearRings, Cond.instanceMethod yX2_wearRings, Cond.selects RX2 yX2_wearRings yX2_wearRings, Cond.code yX2_wearRings cX2_wearRings 4 none, Cond.methodLink RX2 74 Lib.Math.min.name, Cond.static Lib.Math.min.name, Cond.code Lib.Math.min.name Lib.Math.min.code 2 (some .int)]
def wsX4_read : List Cond := .code yX4_read cX4_read 2 (some .int) :: ((wsX4_read_r1 ++ (wsX4_read_r2 ++ (wsX4_read_r3 ++ wsX4_read_r4))) ++ wsX40 ++ wsX10 ++ wsX20 ++ wsX00 ++ (vx_atS RX4 56 "java/lang/IndexOutOfBoundsException" ["java/lang/RuntimeException", "java/lang/Exception"]).filter goodWord)
def wsX4_start_r1 : List Cond := [Cond.fieldLink RX4 22 "WireLoom" "past" "LWireLoom$Past;", Cond.fieldLink RX4 10 "WireLoom" "now" "LWireLoom$State;", Cond.fieldLink RX4 110 "WireLoom$State" "machine" "LWireLoom$Machine;", Cond.fieldLink RX4 114 "WireLoom$Machine" "steps" "I", Cond.methodLink RX4 59 yX1_push, Cond.instanceMethod yX1_push, Cond.selects RX1 yX1_push yX1_push, Cond.initialized RX1, Cond.code yX1_push cX1_push 2 none, Cond.fieldLink RX1 11 "WireLoom$Past" "saved" "[LWireLoom$State;", Cond.fieldLink RX1 16 "WireLoom$Past" "oldest" "I", Cond.fieldLink RX1 20 "WireLoom$Past" "size" "I", Cond.methodLink RX1 23 yX2_become, Cond.instanceMethod yX2_become, Cond.selects RX2 yX2_become yX2_become, Cond.initialized RX2, Cond.code yX2_become cX2_become 2 none, Cond.fieldLink RX2 9 "WireLoom$State" "rings" "[I", Cond.methodLink RX2 31 arraycopyName, Cond.native arraycopyName, Cond.static arraycopyName, Cond.initialized "java/lang/System", Cond.fieldLink RX2 15 "WireLoom$State" "readings" "[I", Cond.fieldLink RX2 18 "WireLoom$State" "wear" "[I"]
def wsX4_start_r2 : List Cond := [Cond.fieldLink RX2 21 "WireLoom$State" "settings" "[I", Cond.fieldLink RX2 27 "WireLoom$State" "machine" "LWireLoom$Machine;", Cond.fieldLink RX2 41 "WireLoom$State" "guarded" "I", Cond.fieldLink RX2 45 "WireLoom$State" "crossingsChanged" "I", Cond.fieldLink RX2 48 "WireLoom$State" "readingsDone" "I", Cond.methodLink RX2 37 yX0_becomeLike, Cond.instanceMethod yX0_becomeLike, Cond.selects RX0 yX0_becomeLike yX0_becomeLike, Cond.initialized RX0, Cond.code yX0_becomeLike cX0_becomeLike 2 none, Cond.fieldLink RX0 11 "WireLoom$Machine" "cells" "[I", Cond.methodLink RX0 38 arraycopyName, Cond.fieldLink RX0 15 "WireLoom$Machine" "latest" "[I", Cond.fieldLink RX0 21 "WireLoom$Machine" "place" "I", Cond.fieldLink RX0 25 "WireLoom$Machine" "count" "I", Cond.fieldLink RX0 28 "WireLoom$Machine" "running" "Z", Cond.fieldLink RX0 32 "WireLoom$Machine" "steps" "I", Cond.fieldLink RX0 35 "WireLoom$Machine" "tellings" "I", Cond.methodLink RX4 119 yX0_begin, Cond.instanceMethod yX0_begin, Cond.selects RX0 yX0_begin yX0_begin, Cond.code yX0_begin cX0_begin 2 none]
def wsX4_start : List Cond := .code yX4_start cX4_start 2 (some .int) :: ((wsX4_start_r1 ++ wsX4_start_r2) ++ wsX40 ++ wsX20 ++ wsX00 ++ wsX10)
def wsX4_go_r1 : List Cond := [Cond.classLink RX4 79 "java/lang/IllegalArgumentException", Cond.initialized "java/lang/IllegalArgumentException", Cond.fieldLink RX4 22 "WireLoom" "past" "LWireLoom$Past;", Cond.fieldLink RX4 10 "WireLoom" "now" "LWireLoom$State;", Cond.methodLink RX4 75 yX4_isWithin, Cond.static yX4_isWithin, Cond.initialized RX4, Cond.code yX4_isWithin cX4_isWithin 3 (some .boolean), Cond.methodLink RX4 59 yX1_push, Cond.instanceMethod yX1_push, Cond.selects RX1 yX1_push yX1_push, Cond.initialized RX1, Cond.code yX1_push cX1_push 2 none, Cond.fieldLink RX1 11 "WireLoom$Past" "saved" "[LWireLoom$State;", Cond.fieldLink RX1 16 "WireLoom$Past" "oldest" "I", Cond.fieldLink RX1 20 "WireLoom$Past" "size" "I", Cond.methodLink RX1 23 yX2_become, Cond.instanceMethod yX2_become, Cond.selects RX2 yX2_become yX2_become, Cond.initialized RX2, Cond.code yX2_become cX2_become 2 none, Cond.fieldLink RX2 9 "WireLoom$State" "rings" "[I", Cond.methodLink RX2 31 arraycopyName, Cond.native arraycopyName]
def wsX4_go_r2 : List Cond := [Cond.static arraycopyName, Cond.initialized "java/lang/System", Cond.fieldLink RX2 15 "WireLoom$State" "readings" "[I", Cond.fieldLink RX2 18 "WireLoom$State" "wear" "[I", Cond.fieldLink RX2 21 "WireLoom$State" "settings" "[I", Cond.fieldLink RX2 27 "WireLoom$State" "machine" "LWireLoom$Machine;", Cond.fieldLink RX2 41 "WireLoom$State" "guarded" "I", Cond.fieldLink RX2 45 "WireLoom$State" "crossingsChanged" "I", Cond.fieldLink RX2 48 "WireLoom$State" "readingsDone" "I", Cond.methodLink RX2 37 yX0_becomeLike, Cond.instanceMethod yX0_becomeLike, Cond.selects RX0 yX0_becomeLike yX0_becomeLike, Cond.initialized RX0, Cond.code yX0_becomeLike cX0_becomeLike 2 none, Cond.fieldLink RX0 11 "WireLoom$Machine" "cells" "[I", Cond.methodLink RX0 38 arraycopyName, Cond.fieldLink RX0 15 "WireLoom$Machine" "latest" "[I", Cond.fieldLink RX0 21 "WireLoom$Machine" "place" "I", Cond.fieldLink RX0 25 "WireLoom$Machine" "count" "I", Cond.fieldLink RX0 28 "WireLoom$Machine" "running" "Z", Cond.fieldLink RX0 32 "WireLoom$Machine" "steps" "I", Cond.fieldLink RX0 35 "WireLoom$Machine" "tellings" "I", Cond.methodLink RX4 124 yX2_run, Cond.instanceMethod yX2_run]
def wsX4_go_r3 : List Cond := [Cond.selects RX2 yX2_run yX2_run, Cond.code yX2_run cX2_run 4 (some .int), Cond.fieldLink RX2 82 "WireLoom$Machine" "running" "Z", Cond.fieldLink RX2 86 "WireLoom$Machine" "place" "I", Cond.methodLink RX2 89 yX2_takeReading, Cond.instanceMethod yX2_takeReading, Cond.selects RX2 yX2_takeReading yX2_takeReading, Cond.code yX2_takeReading cX2_takeReading 3 (some .int), Cond.methodLink RX2 79 yX2_tells, Cond.instanceMethod yX2_tells, Cond.selects RX2 yX2_tells yX2_tells, Cond.code yX2_tells cX2_tells 2 (some .int), Cond.methodLink RX2 55 yX2_answering, Cond.instanceMethod yX2_answering, Cond.selects RX2 yX2_answering yX2_answering, Cond.code yX2_answering cX2_answering 8 (some .int), Cond.static yX4_bit, Cond.code yX4_bit cX4_bit 2 (some .int), Cond.methodLink RX2 102 yX2_strengthAt, Cond.instanceMethod yX2_strengthAt, Cond.selects RX2 yX2_strengthAt yX2_strengthAt, Cond.code yX2_strengthAt cX2_strengthAt 4 (some .int), Cond.methodLink RX2 99 Lib.Math.max.name, Cond.static Lib.Math.max.name]
def wsX4_go_r4 : List Cond := [Cond.initialized "java/lang/Math", Cond.code Lib.Math.max.name Lib.Math.max.code 2 (some .int), Cond.methodLink RX2 96 yX2_oneThreadOn, Cond.instanceMethod yX2_oneThreadOn, Cond.selects RX2 yX2_oneThreadOn yX2_oneThreadOn, Cond.code yX2_oneThreadOn cX2_oneThreadOn 6 (some .int), Cond.methodLink RX2 51 yX2_asWord, Cond.instanceMethod yX2_asWord, Cond.selects RX2 yX2_asWord yX2_asWord, Cond.code yX2_asWord cX2_asWord 2 (some .int), Cond.methodLink RX2 58 yX2_wearRings, Cond.instanceMethod yX2_wearRings, Cond.selects RX2 yX2_wearRings yX2_wearRings, Cond.code yX2_wearRings cX2_wearRings 4 none, Cond.methodLink RX2 74 Lib.Math.min.name, Cond.static Lib.Math.min.name, Cond.code Lib.Math.min.name Lib.Math.min.code 2 (some .int), Cond.methodLink RX2 92 yX0_obey, Cond.instanceMethod yX0_obey, Cond.selects RX0 yX0_obey yX0_obey, Cond.code yX0_obey cX0_obey 4 none, Cond.methodLink RX0 44 yX0_tellCount, Cond.instanceMethod yX0_tellCount, Cond.selects RX0 yX0_tellCount yX0_tellCount]
def wsX4_go_r5 : List Cond := [Cond.code yX0_tellCount cX0_tellCount 2 none]
def wsX4_go : List Cond := .code yX4_go cX4_go 2 (some .int) :: ((wsX4_go_r1 ++ (wsX4_go_r2 ++ (wsX4_go_r3 ++ (wsX4_go_r4 ++ wsX4_go_r5)))) ++ wsX40 ++ wsX10 ++ wsX20 ++ wsX00 ++ (vx_atS RX4 83 "java/lang/IllegalArgumentException" ["java/lang/RuntimeException", "java/lang/Exception"]).filter goodWord)
def wsX4_isSlot : List Cond := .code yX4_isSlot cX4_isSlot 1 (some .boolean) :: ([.methodLink RX4 75 yX4_isWithin, .static yX4_isWithin, .initialized RX4, .code yX4_isWithin cX4_isWithin 3 (some .boolean)])
def wsX4_keep_r1 : List Cond := [Cond.classLink RX4 79 "java/lang/IllegalArgumentException", Cond.initialized "java/lang/IllegalArgumentException", Cond.fieldLink RX4 26 "WireLoom" "snapshots" "[LWireLoom$State;", Cond.fieldLink RX4 10 "WireLoom" "now" "LWireLoom$State;", Cond.fieldLink RX4 30 "WireLoom" "kept" "[Z", Cond.methodLink RX4 165 yX4_isSlot, Cond.static yX4_isSlot, Cond.initialized RX4, Cond.code yX4_isSlot cX4_isSlot 1 (some .boolean), Cond.methodLink RX4 75 yX4_isWithin, Cond.static yX4_isWithin, Cond.code yX4_isWithin cX4_isWithin 3 (some .boolean), Cond.methodLink RX4 170 yX2_become, Cond.instanceMethod yX2_become, Cond.selects RX2 yX2_become yX2_become, Cond.initialized RX2, Cond.code yX2_become cX2_become 2 none, Cond.fieldLink RX2 9 "WireLoom$State" "rings" "[I", Cond.methodLink RX2 31 arraycopyName, Cond.native arraycopyName, Cond.static arraycopyName, Cond.initialized "java/lang/System", Cond.fieldLink RX2 15 "WireLoom$State" "readings" "[I", Cond.fieldLink RX2 18 "WireLoom$State" "wear" "[I"]
def wsX4_keep_r2 : List Cond := [Cond.fieldLink RX2 21 "WireLoom$State" "settings" "[I", Cond.fieldLink RX2 27 "WireLoom$State" "machine" "LWireLoom$Machine;", Cond.fieldLink RX2 41 "WireLoom$State" "guarded" "I", Cond.fieldLink RX2 45 "WireLoom$State" "crossingsChanged" "I", Cond.fieldLink RX2 48 "WireLoom$State" "readingsDone" "I", Cond.methodLink RX2 37 yX0_becomeLike, Cond.instanceMethod yX0_becomeLike, Cond.selects RX0 yX0_becomeLike yX0_becomeLike, Cond.initialized RX0, Cond.code yX0_becomeLike cX0_becomeLike 2 none, Cond.fieldLink RX0 11 "WireLoom$Machine" "cells" "[I", Cond.methodLink RX0 38 arraycopyName, Cond.fieldLink RX0 15 "WireLoom$Machine" "latest" "[I", Cond.fieldLink RX0 21 "WireLoom$Machine" "place" "I", Cond.fieldLink RX0 25 "WireLoom$Machine" "count" "I", Cond.fieldLink RX0 28 "WireLoom$Machine" "running" "Z", Cond.fieldLink RX0 32 "WireLoom$Machine" "steps" "I", Cond.fieldLink RX0 35 "WireLoom$Machine" "tellings" "I", Cond.methodLink RX4 173 yX2_crossingsByThreads, Cond.instanceMethod yX2_crossingsByThreads, Cond.selects RX2 yX2_crossingsByThreads yX2_crossingsByThreads, Cond.code yX2_crossingsByThreads cX2_crossingsByThreads 3 (some .int), Cond.methodLink RX2 62 yJ6_bitCount_0f7a4, Cond.static yJ6_bitCount_0f7a4]
def wsX4_keep_r3 : List Cond := [Cond.initialized RJ6, Cond.code yJ6_bitCount_0f7a4 cJ6_bitCount_0f7a4 1 (some .int), Cond.constant RJ6 265 (1431655765), Cond.constant RJ6 266 (858993459), Cond.constant RJ6 267 (252645135)]
def wsX4_keep : List Cond := .code yX4_keep cX4_keep 2 (some .int) :: ((wsX4_keep_r1 ++ (wsX4_keep_r2 ++ wsX4_keep_r3)) ++ wsX40 ++ wsX20 ++ wsX00 ++ (vx_atS RX4 83 "java/lang/IllegalArgumentException" ["java/lang/RuntimeException", "java/lang/Exception"]).filter goodWord)
def wsX4_goBack_r1 : List Cond := [Cond.classLink RX4 79 "java/lang/IllegalArgumentException", Cond.initialized "java/lang/IllegalArgumentException", Cond.classLink RX4 132 "java/lang/IllegalStateException", Cond.initialized "java/lang/IllegalStateException", Cond.fieldLink RX4 30 "WireLoom" "kept" "[Z", Cond.fieldLink RX4 22 "WireLoom" "past" "LWireLoom$Past;", Cond.fieldLink RX4 10 "WireLoom" "now" "LWireLoom$State;", Cond.fieldLink RX4 26 "WireLoom" "snapshots" "[LWireLoom$State;", Cond.methodLink RX4 165 yX4_isSlot, Cond.static yX4_isSlot, Cond.initialized RX4, Cond.code yX4_isSlot cX4_isSlot 1 (some .boolean), Cond.methodLink RX4 75 yX4_isWithin, Cond.static yX4_isWithin, Cond.code yX4_isWithin cX4_isWithin 3 (some .boolean), Cond.methodLink RX4 59 yX1_push, Cond.instanceMethod yX1_push, Cond.selects RX1 yX1_push yX1_push, Cond.initialized RX1, Cond.code yX1_push cX1_push 2 none, Cond.fieldLink RX1 11 "WireLoom$Past" "saved" "[LWireLoom$State;", Cond.fieldLink RX1 16 "WireLoom$Past" "oldest" "I", Cond.fieldLink RX1 20 "WireLoom$Past" "size" "I", Cond.methodLink RX1 23 yX2_become]
def wsX4_goBack_r2 : List Cond := [Cond.instanceMethod yX2_become, Cond.selects RX2 yX2_become yX2_become, Cond.initialized RX2, Cond.code yX2_become cX2_become 2 none, Cond.fieldLink RX2 9 "WireLoom$State" "rings" "[I", Cond.methodLink RX2 31 arraycopyName, Cond.native arraycopyName, Cond.static arraycopyName, Cond.initialized "java/lang/System", Cond.fieldLink RX2 15 "WireLoom$State" "readings" "[I", Cond.fieldLink RX2 18 "WireLoom$State" "wear" "[I", Cond.fieldLink RX2 21 "WireLoom$State" "settings" "[I", Cond.fieldLink RX2 27 "WireLoom$State" "machine" "LWireLoom$Machine;", Cond.fieldLink RX2 41 "WireLoom$State" "guarded" "I", Cond.fieldLink RX2 45 "WireLoom$State" "crossingsChanged" "I", Cond.fieldLink RX2 48 "WireLoom$State" "readingsDone" "I", Cond.methodLink RX2 37 yX0_becomeLike, Cond.instanceMethod yX0_becomeLike, Cond.selects RX0 yX0_becomeLike yX0_becomeLike, Cond.initialized RX0, Cond.code yX0_becomeLike cX0_becomeLike 2 none, Cond.fieldLink RX0 11 "WireLoom$Machine" "cells" "[I", Cond.methodLink RX0 38 arraycopyName, Cond.fieldLink RX0 15 "WireLoom$Machine" "latest" "[I"]
def wsX4_goBack_r3 : List Cond := [Cond.fieldLink RX0 21 "WireLoom$Machine" "place" "I", Cond.fieldLink RX0 25 "WireLoom$Machine" "count" "I", Cond.fieldLink RX0 28 "WireLoom$Machine" "running" "Z", Cond.fieldLink RX0 32 "WireLoom$Machine" "steps" "I", Cond.fieldLink RX0 35 "WireLoom$Machine" "tellings" "I", Cond.methodLink RX4 170 yX2_become, Cond.methodLink RX4 173 yX2_crossingsByThreads, Cond.instanceMethod yX2_crossingsByThreads, Cond.selects RX2 yX2_crossingsByThreads yX2_crossingsByThreads, Cond.code yX2_crossingsByThreads cX2_crossingsByThreads 3 (some .int), Cond.methodLink RX2 62 yJ6_bitCount_0f7a4, Cond.static yJ6_bitCount_0f7a4, Cond.initialized RJ6, Cond.code yJ6_bitCount_0f7a4 cJ6_bitCount_0f7a4 1 (some .int), Cond.constant RJ6 265 (1431655765), Cond.constant RJ6 266 (858993459), Cond.constant RJ6 267 (252645135)]
def wsX4_goBack : List Cond := .code yX4_goBack cX4_goBack 2 (some .int) :: ((wsX4_goBack_r1 ++ (wsX4_goBack_r2 ++ wsX4_goBack_r3)) ++ wsX40 ++ wsX10 ++ wsX20 ++ wsX00 ++ (vx_atS RX4 83 "java/lang/IllegalArgumentException" ["java/lang/RuntimeException", "java/lang/Exception"]).filter goodWord ++ (vx_atS RX4 136 "java/lang/IllegalStateException" ["java/lang/RuntimeException", "java/lang/Exception"]).filter goodWord)
def wsX4_undo_r1 : List Cond := [Cond.classLink RX4 132 "java/lang/IllegalStateException", Cond.initialized "java/lang/IllegalStateException", Cond.fieldLink RX4 22 "WireLoom" "past" "LWireLoom$Past;", Cond.fieldLink RX4 178 "WireLoom$Past" "size" "I", Cond.fieldLink RX4 10 "WireLoom" "now" "LWireLoom$State;", Cond.methodLink RX4 183 yX1_popInto, Cond.instanceMethod yX1_popInto, Cond.selects RX1 yX1_popInto yX1_popInto, Cond.initialized RX1, Cond.code yX1_popInto cX1_popInto 2 none, Cond.fieldLink RX1 20 "WireLoom$Past" "size" "I", Cond.fieldLink RX1 11 "WireLoom$Past" "saved" "[LWireLoom$State;", Cond.fieldLink RX1 16 "WireLoom$Past" "oldest" "I", Cond.methodLink RX1 23 yX2_become, Cond.instanceMethod yX2_become, Cond.selects RX2 yX2_become yX2_become, Cond.initialized RX2, Cond.code yX2_become cX2_become 2 none, Cond.fieldLink RX2 9 "WireLoom$State" "rings" "[I", Cond.methodLink RX2 31 arraycopyName, Cond.native arraycopyName, Cond.static arraycopyName, Cond.initialized "java/lang/System", Cond.fieldLink RX2 15 "WireLoom$State" "readings" "[I"]
def wsX4_undo_r2 : List Cond := [Cond.fieldLink RX2 18 "WireLoom$State" "wear" "[I", Cond.fieldLink RX2 21 "WireLoom$State" "settings" "[I", Cond.fieldLink RX2 27 "WireLoom$State" "machine" "LWireLoom$Machine;", Cond.fieldLink RX2 41 "WireLoom$State" "guarded" "I", Cond.fieldLink RX2 45 "WireLoom$State" "crossingsChanged" "I", Cond.fieldLink RX2 48 "WireLoom$State" "readingsDone" "I", Cond.methodLink RX2 37 yX0_becomeLike, Cond.instanceMethod yX0_becomeLike, Cond.selects RX0 yX0_becomeLike yX0_becomeLike, Cond.initialized RX0, Cond.code yX0_becomeLike cX0_becomeLike 2 none, Cond.fieldLink RX0 11 "WireLoom$Machine" "cells" "[I", Cond.methodLink RX0 38 arraycopyName, Cond.fieldLink RX0 15 "WireLoom$Machine" "latest" "[I", Cond.fieldLink RX0 21 "WireLoom$Machine" "place" "I", Cond.fieldLink RX0 25 "WireLoom$Machine" "count" "I", Cond.fieldLink RX0 28 "WireLoom$Machine" "running" "Z", Cond.fieldLink RX0 32 "WireLoom$Machine" "steps" "I", Cond.fieldLink RX0 35 "WireLoom$Machine" "tellings" "I"]
def wsX4_undo : List Cond := .code yX4_undo cX4_undo 1 (some .int) :: ((wsX4_undo_r1 ++ wsX4_undo_r2) ++ wsX40 ++ wsX10 ++ wsX20 ++ wsX00 ++ (vx_atS RX4 136 "java/lang/IllegalStateException" ["java/lang/RuntimeException", "java/lang/Exception"]).filter goodWord)
def wsX4_threadOf_r1 : List Cond := [Cond.classLink RX4 52 "java/lang/IndexOutOfBoundsException", Cond.initialized "java/lang/IndexOutOfBoundsException", Cond.classLink RX4 79 "java/lang/IllegalArgumentException", Cond.initialized "java/lang/IllegalArgumentException", Cond.fieldLink RX4 10 "WireLoom" "now" "LWireLoom$State;", Cond.fieldLink RX4 63 "WireLoom$State" "rings" "[I", Cond.fieldLink RX4 88 "WireLoom$State" "guarded" "I", Cond.fieldLink RX4 197 "WireLoom$State" "readings" "[I", Cond.methodLink RX4 45 yX4_isThread, Cond.static yX4_isThread, Cond.initialized RX4, Cond.code yX4_isThread cX4_isThread 1 (some .boolean), Cond.methodLink RX4 75 yX4_isWithin, Cond.static yX4_isWithin, Cond.code yX4_isWithin cX4_isWithin 3 (some .boolean), Cond.methodLink RX4 70 yX4_bit, Cond.static yX4_bit, Cond.code yX4_bit cX4_bit 2 (some .int), Cond.methodLink RX4 186 yX2_means, Cond.instanceMethod yX2_means, Cond.selects RX2 yX2_means yX2_means, Cond.initialized RX2, Cond.code yX2_means cX2_means 2 (some .int), Cond.fieldLink RX2 9 "WireLoom$State" "rings" "[I"]
def wsX4_threadOf_r2 : List Cond := [Cond.methodLink RX2 51 yX2_asWord, Cond.instanceMethod yX2_asWord, Cond.selects RX2 yX2_asWord yX2_asWord, Cond.code yX2_asWord cX2_asWord 2 (some .int), Cond.fieldLink RX2 21 "WireLoom$State" "settings" "[I", Cond.methodLink RX4 159 yX2_tells, Cond.instanceMethod yX2_tells, Cond.selects RX2 yX2_tells yX2_tells, Cond.code yX2_tells cX2_tells 2 (some .int), Cond.methodLink RX2 55 yX2_answering, Cond.instanceMethod yX2_answering, Cond.selects RX2 yX2_answering yX2_answering, Cond.code yX2_answering cX2_answering 8 (some .int), Cond.methodLink RX2 102 yX2_strengthAt, Cond.instanceMethod yX2_strengthAt, Cond.selects RX2 yX2_strengthAt yX2_strengthAt, Cond.code yX2_strengthAt cX2_strengthAt 4 (some .int), Cond.methodLink RX2 99 Lib.Math.max.name, Cond.static Lib.Math.max.name, Cond.initialized "java/lang/Math", Cond.code Lib.Math.max.name Lib.Math.max.code 2 (some .int), Cond.fieldLink RX2 18 "WireLoom$State" "wear" "[I", Cond.methodLink RX2 96 yX2_oneThreadOn, Cond.instanceMethod yX2_oneThreadOn]
def wsX4_threadOf_r3 : List Cond := [Cond.selects RX2 yX2_oneThreadOn yX2_oneThreadOn, Cond.code yX2_oneThreadOn cX2_oneThreadOn 6 (some .int), Cond.fieldLink RX2 41 "WireLoom$State" "guarded" "I", Cond.methodLink RX4 189 yJ6_bitCount_0f7a4, Cond.static yJ6_bitCount_0f7a4, Cond.initialized RJ6, Cond.code yJ6_bitCount_0f7a4 cJ6_bitCount_0f7a4 1 (some .int), Cond.constant RJ6 265 (1431655765), Cond.constant RJ6 266 (858993459), Cond.constant RJ6 267 (252645135), Cond.methodLink RX4 194 yX2_answering]
def wsX4_threadOf : List Cond := .code yX4_threadOf cX4_threadOf 3 (some .int) :: ((wsX4_threadOf_r1 ++ (wsX4_threadOf_r2 ++ wsX4_threadOf_r3)) ++ wsX40 ++ wsX20 ++ (vx_atS RX4 56 "java/lang/IndexOutOfBoundsException" ["java/lang/RuntimeException", "java/lang/Exception"]).filter goodWord ++ (vx_atS RX4 83 "java/lang/IllegalArgumentException" ["java/lang/RuntimeException", "java/lang/Exception"]).filter goodWord)
def wsX4_ringOf_r1 : List Cond := [Cond.classLink RX4 52 "java/lang/IndexOutOfBoundsException", Cond.initialized "java/lang/IndexOutOfBoundsException", Cond.classLink RX4 79 "java/lang/IllegalArgumentException", Cond.initialized "java/lang/IllegalArgumentException", Cond.fieldLink RX4 10 "WireLoom" "now" "LWireLoom$State;", Cond.fieldLink RX4 202 "WireLoom$State" "wear" "[I", Cond.methodLink RX4 49 yX4_isRing, Cond.static yX4_isRing, Cond.initialized RX4, Cond.code yX4_isRing cX4_isRing 1 (some .boolean), Cond.methodLink RX4 75 yX4_isWithin, Cond.static yX4_isWithin, Cond.code yX4_isWithin cX4_isWithin 3 (some .boolean), Cond.methodLink RX4 205 yX2_threadsThrough, Cond.instanceMethod yX2_threadsThrough, Cond.selects RX2 yX2_threadsThrough yX2_threadsThrough, Cond.initialized RX2, Cond.code yX2_threadsThrough cX2_threadsThrough 4 (some .int), Cond.fieldLink RX2 9 "WireLoom$State" "rings" "[I", Cond.static yX4_bit, Cond.code yX4_bit cX4_bit 2 (some .int), Cond.methodLink RX4 189 yJ6_bitCount_0f7a4, Cond.static yJ6_bitCount_0f7a4, Cond.initialized RJ6]
def wsX4_ringOf_r2 : List Cond := [Cond.code yJ6_bitCount_0f7a4 cJ6_bitCount_0f7a4 1 (some .int), Cond.constant RJ6 265 (1431655765), Cond.constant RJ6 266 (858993459), Cond.constant RJ6 267 (252645135), Cond.methodLink RX4 208 yX2_threadsAnswered, Cond.instanceMethod yX2_threadsAnswered, Cond.selects RX2 yX2_threadsAnswered yX2_threadsAnswered, Cond.code yX2_threadsAnswered cX2_threadsAnswered 4 (some .int), Cond.methodLink RX2 55 yX2_answering, Cond.instanceMethod yX2_answering, Cond.selects RX2 yX2_answering yX2_answering, Cond.code yX2_answering cX2_answering 8 (some .int), Cond.fieldLink RX2 21 "WireLoom$State" "settings" "[I", Cond.methodLink RX2 102 yX2_strengthAt, Cond.instanceMethod yX2_strengthAt, Cond.selects RX2 yX2_strengthAt yX2_strengthAt, Cond.code yX2_strengthAt cX2_strengthAt 4 (some .int), Cond.methodLink RX2 99 Lib.Math.max.name, Cond.static Lib.Math.max.name, Cond.initialized "java/lang/Math", Cond.code Lib.Math.max.name Lib.Math.max.code 2 (some .int), Cond.fieldLink RX2 18 "WireLoom$State" "wear" "[I", Cond.methodLink RX2 96 yX2_oneThreadOn, Cond.instanceMethod yX2_oneThreadOn]
def wsX4_ringOf_r3 : List Cond := [Cond.selects RX2 yX2_oneThreadOn yX2_oneThreadOn, Cond.code yX2_oneThreadOn cX2_oneThreadOn 6 (some .int), Cond.fieldLink RX2 41 "WireLoom$State" "guarded" "I", Cond.methodLink RX4 211 yX2_isWornOut, Cond.instanceMethod yX2_isWornOut, Cond.selects RX2 yX2_isWornOut yX2_isWornOut, Cond.code yX2_isWornOut cX2_isWornOut 2 (some .boolean), Cond.methodLink RX2 67 yX2_threadsThrough]
def wsX4_ringOf : List Cond := .code yX4_ringOf cX4_ringOf 3 (some .int) :: ((wsX4_ringOf_r1 ++ (wsX4_ringOf_r2 ++ wsX4_ringOf_r3)) ++ wsX40 ++ wsX20 ++ (vx_atS RX4 56 "java/lang/IndexOutOfBoundsException" ["java/lang/RuntimeException", "java/lang/Exception"]).filter goodWord ++ (vx_atS RX4 83 "java/lang/IllegalArgumentException" ["java/lang/RuntimeException", "java/lang/Exception"]).filter goodWord)
def wsX4_strength_r1 : List Cond := [Cond.classLink RX4 52 "java/lang/IndexOutOfBoundsException", Cond.initialized "java/lang/IndexOutOfBoundsException", Cond.classLink RX4 79 "java/lang/IllegalArgumentException", Cond.initialized "java/lang/IllegalArgumentException", Cond.fieldLink RX4 10 "WireLoom" "now" "LWireLoom$State;", Cond.methodLink RX4 45 yX4_isThread, Cond.static yX4_isThread, Cond.initialized RX4, Cond.code yX4_isThread cX4_isThread 1 (some .boolean), Cond.methodLink RX4 75 yX4_isWithin, Cond.static yX4_isWithin, Cond.code yX4_isWithin cX4_isWithin 3 (some .boolean), Cond.methodLink RX4 49 yX4_isRing, Cond.static yX4_isRing, Cond.code yX4_isRing cX4_isRing 1 (some .boolean), Cond.methodLink RX4 216 yX2_hops, Cond.instanceMethod yX2_hops, Cond.selects RX2 yX2_hops yX2_hops, Cond.initialized RX2, Cond.code yX2_hops cX2_hops 5 (some .int), Cond.fieldLink RX2 9 "WireLoom$State" "rings" "[I", Cond.static yX4_bit, Cond.code yX4_bit cX4_bit 2 (some .int), Cond.methodLink RX2 96 yX2_oneThreadOn]
def wsX4_strength_r2 : List Cond := [Cond.instanceMethod yX2_oneThreadOn, Cond.selects RX2 yX2_oneThreadOn yX2_oneThreadOn, Cond.code yX2_oneThreadOn cX2_oneThreadOn 6 (some .int), Cond.fieldLink RX2 41 "WireLoom$State" "guarded" "I", Cond.methodLink RX4 219 yX2_strengthAt, Cond.instanceMethod yX2_strengthAt, Cond.selects RX2 yX2_strengthAt yX2_strengthAt, Cond.code yX2_strengthAt cX2_strengthAt 4 (some .int), Cond.methodLink RX2 99 Lib.Math.max.name, Cond.static Lib.Math.max.name, Cond.initialized "java/lang/Math", Cond.code Lib.Math.max.name Lib.Math.max.code 2 (some .int), Cond.fieldLink RX2 18 "WireLoom$State" "wear" "[I"]
def wsX4_strength : List Cond := .code yX4_strength cX4_strength 4 (some .int) :: ((wsX4_strength_r1 ++ wsX4_strength_r2) ++ wsX40 ++ wsX20 ++ (vx_atS RX4 56 "java/lang/IndexOutOfBoundsException" ["java/lang/RuntimeException", "java/lang/Exception"]).filter goodWord ++ (vx_atS RX4 83 "java/lang/IllegalArgumentException" ["java/lang/RuntimeException", "java/lang/Exception"]).filter goodWord)
def wsX4_machine : List Cond := .code yX4_machine cX4_machine 2 (some .int) :: ([.classLink RX4 79 "java/lang/IllegalArgumentException", .initialized "java/lang/IllegalArgumentException", .fieldLink RX4 10 "WireLoom" "now" "LWireLoom$State;", .fieldLink RX4 110 "WireLoom$State" "machine" "LWireLoom$Machine;", .fieldLink RX4 224 "WireLoom$Machine" "place" "I", .fieldLink RX4 227 "WireLoom$Machine" "count" "I", .fieldLink RX4 230 "WireLoom$Machine" "cells" "[I", .fieldLink RX4 233 "WireLoom$Machine" "running" "Z", .fieldLink RX4 114 "WireLoom$Machine" "steps" "I", .fieldLink RX4 237 "WireLoom$Machine" "tellings" "I"] ++ wsX40 ++ wsX20 ++ wsX00 ++ (vx_atS RX4 83 "java/lang/IllegalArgumentException" ["java/lang/RuntimeException", "java/lang/Exception"]).filter goodWord)
def wsX4_told : List Cond := .code yX4_told cX4_told 2 (some .int) :: ([.classLink RX4 79 "java/lang/IllegalArgumentException", .initialized "java/lang/IllegalArgumentException", .fieldLink RX4 10 "WireLoom" "now" "LWireLoom$State;", .fieldLink RX4 110 "WireLoom$State" "machine" "LWireLoom$Machine;", .fieldLink RX4 244 "WireLoom$Machine" "latest" "[I", .methodLink RX4 75 yX4_isWithin, .static yX4_isWithin, .initialized RX4, .code yX4_isWithin cX4_isWithin 3 (some .boolean)] ++ wsX40 ++ wsX20 ++ wsX00 ++ (vx_atS RX4 83 "java/lang/IllegalArgumentException" ["java/lang/RuntimeException", "java/lang/Exception"]).filter goodWord)
def wsX4_pairsTellingTheSame_r1 : List Cond := [Cond.fieldLink RX4 41 "WireLoom" "wordsTold" "[I", Cond.fieldLink RX4 10 "WireLoom" "now" "LWireLoom$State;", Cond.methodLink RX4 159 yX2_tells, Cond.instanceMethod yX2_tells, Cond.selects RX2 yX2_tells yX2_tells, Cond.initialized RX2, Cond.code yX2_tells cX2_tells 2 (some .int), Cond.methodLink RX2 55 yX2_answering, Cond.instanceMethod yX2_answering, Cond.selects RX2 yX2_answering yX2_answering, Cond.code yX2_answering cX2_answering 8 (some .int), Cond.fieldLink RX2 9 "WireLoom$State" "rings" "[I", Cond.fieldLink RX2 21 "WireLoom$State" "settings" "[I", Cond.static yX4_bit, Cond.initialized RX4, Cond.code yX4_bit cX4_bit 2 (some .int), Cond.methodLink RX2 102 yX2_strengthAt, Cond.instanceMethod yX2_strengthAt, Cond.selects RX2 yX2_strengthAt yX2_strengthAt, Cond.code yX2_strengthAt cX2_strengthAt 4 (some .int), Cond.methodLink RX2 99 Lib.Math.max.name, Cond.static Lib.Math.max.name, Cond.initialized "java/lang/Math", Cond.code Lib.Math.max.name Lib.Math.max.code 2 (some .int)]
def wsX4_pairsTellingTheSame_r2 : List Cond := [Cond.fieldLink RX2 18 "WireLoom$State" "wear" "[I", Cond.methodLink RX2 96 yX2_oneThreadOn, Cond.instanceMethod yX2_oneThreadOn, Cond.selects RX2 yX2_oneThreadOn yX2_oneThreadOn, Cond.code yX2_oneThreadOn cX2_oneThreadOn 6 (some .int), Cond.fieldLink RX2 41 "WireLoom$State" "guarded" "I", Cond.methodLink RX2 51 yX2_asWord, Cond.instanceMethod yX2_asWord, Cond.selects RX2 yX2_asWord yX2_asWord, Cond.code yX2_asWord cX2_asWord 2 (some .int)]
def wsX4_pairsTellingTheSame : List Cond := .code yX4_pairsTellingTheSame cX4_pairsTellingTheSame 4 (some .int) :: ((wsX4_pairsTellingTheSame_r1 ++ wsX4_pairsTellingTheSame_r2) ++ wsX40 ++ wsX20)
def wsX4_count_r1 : List Cond := [Cond.classLink RX4 79 "java/lang/IllegalArgumentException", Cond.initialized "java/lang/IllegalArgumentException", Cond.fieldLink RX4 10 "WireLoom" "now" "LWireLoom$State;", Cond.fieldLink RX4 250 "WireLoom$State" "crossingsChanged" "I", Cond.fieldLink RX4 253 "WireLoom$State" "readingsDone" "I", Cond.fieldLink RX4 88 "WireLoom$State" "guarded" "I", Cond.fieldLink RX4 22 "WireLoom" "past" "LWireLoom$Past;", Cond.fieldLink RX4 178 "WireLoom$Past" "size" "I", Cond.methodLink RX4 173 yX2_crossingsByThreads, Cond.instanceMethod yX2_crossingsByThreads, Cond.selects RX2 yX2_crossingsByThreads yX2_crossingsByThreads, Cond.initialized RX2, Cond.code yX2_crossingsByThreads cX2_crossingsByThreads 3 (some .int), Cond.fieldLink RX2 9 "WireLoom$State" "rings" "[I", Cond.methodLink RX2 62 yJ6_bitCount_0f7a4, Cond.static yJ6_bitCount_0f7a4, Cond.initialized RJ6, Cond.code yJ6_bitCount_0f7a4 cJ6_bitCount_0f7a4 1 (some .int), Cond.constant RJ6 265 (1431655765), Cond.constant RJ6 266 (858993459), Cond.constant RJ6 267 (252645135), Cond.methodLink RX4 247 yX2_crossingsByRings, Cond.instanceMethod yX2_crossingsByRings, Cond.selects RX2 yX2_crossingsByRings yX2_crossingsByRings]
def wsX4_count_r2 : List Cond := [Cond.code yX2_crossingsByRings cX2_crossingsByRings 3 (some .int), Cond.methodLink RX2 67 yX2_threadsThrough, Cond.instanceMethod yX2_threadsThrough, Cond.selects RX2 yX2_threadsThrough yX2_threadsThrough, Cond.code yX2_threadsThrough cX2_threadsThrough 4 (some .int), Cond.static yX4_bit, Cond.initialized RX4, Cond.code yX4_bit cX4_bit 2 (some .int), Cond.methodLink RX4 256 yX2_threadsRight, Cond.instanceMethod yX2_threadsRight, Cond.selects RX2 yX2_threadsRight yX2_threadsRight, Cond.code yX2_threadsRight cX2_threadsRight 3 (some .int), Cond.methodLink RX2 55 yX2_answering, Cond.instanceMethod yX2_answering, Cond.selects RX2 yX2_answering yX2_answering, Cond.code yX2_answering cX2_answering 8 (some .int), Cond.fieldLink RX2 21 "WireLoom$State" "settings" "[I", Cond.methodLink RX2 102 yX2_strengthAt, Cond.instanceMethod yX2_strengthAt, Cond.selects RX2 yX2_strengthAt yX2_strengthAt, Cond.code yX2_strengthAt cX2_strengthAt 4 (some .int), Cond.methodLink RX2 99 Lib.Math.max.name, Cond.static Lib.Math.max.name, Cond.initialized "java/lang/Math"]
def wsX4_count_r3 : List Cond := [Cond.code Lib.Math.max.name Lib.Math.max.code 2 (some .int), Cond.fieldLink RX2 18 "WireLoom$State" "wear" "[I", Cond.methodLink RX2 96 yX2_oneThreadOn, Cond.instanceMethod yX2_oneThreadOn, Cond.selects RX2 yX2_oneThreadOn yX2_oneThreadOn, Cond.code yX2_oneThreadOn cX2_oneThreadOn 6 (some .int), Cond.fieldLink RX2 41 "WireLoom$State" "guarded" "I", Cond.methodLink RX4 189 yJ6_bitCount_0f7a4, Cond.methodLink RX4 259 yX2_greatestWear, Cond.instanceMethod yX2_greatestWear, Cond.selects RX2 yX2_greatestWear yX2_greatestWear, Cond.code yX2_greatestWear cX2_greatestWear 3 (some .int), Cond.methodLink RX4 262 yX4_pairsTellingTheSame, Cond.instanceMethod yX4_pairsTellingTheSame, Cond.selects RX4 yX4_pairsTellingTheSame yX4_pairsTellingTheSame, Cond.code yX4_pairsTellingTheSame cX4_pairsTellingTheSame 4 (some .int), Cond.fieldLink RX4 41 "WireLoom" "wordsTold" "[I", Cond.methodLink RX4 159 yX2_tells, Cond.instanceMethod yX2_tells, Cond.selects RX2 yX2_tells yX2_tells, Cond.code yX2_tells cX2_tells 2 (some .int), Cond.methodLink RX2 51 yX2_asWord, Cond.instanceMethod yX2_asWord, Cond.selects RX2 yX2_asWord yX2_asWord]
def wsX4_count_r4 : List Cond := [Cond.code yX2_asWord cX2_asWord 2 (some .int), Cond.methodLink RX4 265 yX2_fewestUnlikeBits, Cond.instanceMethod yX2_fewestUnlikeBits, Cond.selects RX2 yX2_fewestUnlikeBits yX2_fewestUnlikeBits, Cond.code yX2_fewestUnlikeBits cX2_fewestUnlikeBits 4 (some .int), Cond.methodLink RX2 74 Lib.Math.min.name, Cond.static Lib.Math.min.name, Cond.code Lib.Math.min.name Lib.Math.min.code 2 (some .int)]
def wsX4_count : List Cond := .code yX4_count cX4_count 2 (some .int) :: ((wsX4_count_r1 ++ (wsX4_count_r2 ++ (wsX4_count_r3 ++ wsX4_count_r4))) ++ wsX40 ++ wsX20 ++ wsX10 ++ (vx_atS RX4 83 "java/lang/IllegalArgumentException" ["java/lang/RuntimeException", "java/lang/Exception"]).filter goodWord)
def wsX4_setting : List Cond := .code yX4_setting cX4_setting 2 (some .int) :: ([.classLink RX4 52 "java/lang/IndexOutOfBoundsException", .initialized "java/lang/IndexOutOfBoundsException", .fieldLink RX4 10 "WireLoom" "now" "LWireLoom$State;", .fieldLink RX4 104 "WireLoom$State" "settings" "[I", .methodLink RX4 97 yX4_isSetting, .static yX4_isSetting, .initialized RX4, .code yX4_isSetting cX4_isSetting 1 (some .boolean), .methodLink RX4 75 yX4_isWithin, .static yX4_isWithin, .code yX4_isWithin cX4_isWithin 3 (some .boolean)] ++ wsX40 ++ wsX20 ++ (vx_atS RX4 56 "java/lang/IndexOutOfBoundsException" ["java/lang/RuntimeException", "java/lang/Exception"]).filter goodWord)
def wsX4_bestGuard_r1 : List Cond := [Cond.fieldLink RX4 16 "WireLoom" "trial" "LWireLoom$State;", Cond.fieldLink RX4 10 "WireLoom" "now" "LWireLoom$State;", Cond.fieldLink RX4 88 "WireLoom$State" "guarded" "I", Cond.methodLink RX4 170 yX2_become, Cond.instanceMethod yX2_become, Cond.selects RX2 yX2_become yX2_become, Cond.initialized RX2, Cond.code yX2_become cX2_become 2 none, Cond.fieldLink RX2 9 "WireLoom$State" "rings" "[I", Cond.methodLink RX2 31 arraycopyName, Cond.native arraycopyName, Cond.static arraycopyName, Cond.initialized "java/lang/System", Cond.fieldLink RX2 15 "WireLoom$State" "readings" "[I", Cond.fieldLink RX2 18 "WireLoom$State" "wear" "[I", Cond.fieldLink RX2 21 "WireLoom$State" "settings" "[I", Cond.fieldLink RX2 27 "WireLoom$State" "machine" "LWireLoom$Machine;", Cond.fieldLink RX2 41 "WireLoom$State" "guarded" "I", Cond.fieldLink RX2 45 "WireLoom$State" "crossingsChanged" "I", Cond.fieldLink RX2 48 "WireLoom$State" "readingsDone" "I", Cond.methodLink RX2 37 yX0_becomeLike, Cond.instanceMethod yX0_becomeLike, Cond.selects RX0 yX0_becomeLike yX0_becomeLike, Cond.initialized RX0]
def wsX4_bestGuard_r2 : List Cond := [Cond.code yX0_becomeLike cX0_becomeLike 2 none, Cond.fieldLink RX0 11 "WireLoom$Machine" "cells" "[I", Cond.methodLink RX0 38 arraycopyName, Cond.fieldLink RX0 15 "WireLoom$Machine" "latest" "[I", Cond.fieldLink RX0 21 "WireLoom$Machine" "place" "I", Cond.fieldLink RX0 25 "WireLoom$Machine" "count" "I", Cond.fieldLink RX0 28 "WireLoom$Machine" "running" "Z", Cond.fieldLink RX0 32 "WireLoom$Machine" "steps" "I", Cond.fieldLink RX0 35 "WireLoom$Machine" "tellings" "I", Cond.methodLink RX4 70 yX4_bit, Cond.static yX4_bit, Cond.initialized RX4, Cond.code yX4_bit cX4_bit 2 (some .int), Cond.methodLink RX4 256 yX2_threadsRight, Cond.instanceMethod yX2_threadsRight, Cond.selects RX2 yX2_threadsRight yX2_threadsRight, Cond.code yX2_threadsRight cX2_threadsRight 3 (some .int), Cond.methodLink RX2 55 yX2_answering, Cond.instanceMethod yX2_answering, Cond.selects RX2 yX2_answering yX2_answering, Cond.code yX2_answering cX2_answering 8 (some .int), Cond.methodLink RX2 102 yX2_strengthAt, Cond.instanceMethod yX2_strengthAt, Cond.selects RX2 yX2_strengthAt yX2_strengthAt]
def wsX4_bestGuard_r3 : List Cond := [Cond.code yX2_strengthAt cX2_strengthAt 4 (some .int), Cond.methodLink RX2 99 Lib.Math.max.name, Cond.static Lib.Math.max.name, Cond.initialized "java/lang/Math", Cond.code Lib.Math.max.name Lib.Math.max.code 2 (some .int), Cond.methodLink RX2 96 yX2_oneThreadOn, Cond.instanceMethod yX2_oneThreadOn, Cond.selects RX2 yX2_oneThreadOn yX2_oneThreadOn, Cond.code yX2_oneThreadOn cX2_oneThreadOn 6 (some .int)]
def wsX4_bestGuard : List Cond := .code yX4_bestGuard cX4_bestGuard 5 (some .int) :: ((wsX4_bestGuard_r1 ++ (wsX4_bestGuard_r2 ++ wsX4_bestGuard_r3)) ++ wsX40 ++ wsX20 ++ wsX00)
def wsX4_lastsFor : List Cond := .code yX4_lastsFor cX4_lastsFor 2 (some .int) :: ([.classLink RX4 52 "java/lang/IndexOutOfBoundsException", .initialized "java/lang/IndexOutOfBoundsException", .fieldLink RX4 10 "WireLoom" "now" "LWireLoom$State;", .methodLink RX4 45 yX4_isThread, .static yX4_isThread, .initialized RX4, .code yX4_isThread cX4_isThread 1 (some .boolean), .methodLink RX4 75 yX4_isWithin, .static yX4_isWithin, .code yX4_isWithin cX4_isWithin 3 (some .boolean), .methodLink RX4 273 yX2_readingsUntilChange, .instanceMethod yX2_readingsUntilChange, .selects RX2 yX2_readingsUntilChange yX2_readingsUntilChange, .initialized RX2, .code yX2_readingsUntilChange cX2_readingsUntilChange 6 (some .int), .fieldLink RX2 21 "WireLoom$State" "settings" "[I", .fieldLink RX2 18 "WireLoom$State" "wear" "[I", .fieldLink RX2 9 "WireLoom$State" "rings" "[I", .static yX4_bit, .code yX4_bit cX4_bit 2 (some .int)] ++ wsX40 ++ wsX20 ++ (vx_atS RX4 56 "java/lang/IndexOutOfBoundsException" ["java/lang/RuntimeException", "java/lang/Exception"]).filter goodWord)
def wsX4_ifGone_r1 : List Cond := [Cond.classLink RX4 79 "java/lang/IllegalArgumentException", Cond.initialized "java/lang/IllegalArgumentException", Cond.fieldLink RX4 16 "WireLoom" "trial" "LWireLoom$State;", Cond.fieldLink RX4 10 "WireLoom" "now" "LWireLoom$State;", Cond.fieldLink RX4 110 "WireLoom$State" "machine" "LWireLoom$Machine;", Cond.fieldLink RX4 227 "WireLoom$Machine" "count" "I", Cond.fieldLink RX4 224 "WireLoom$Machine" "place" "I", Cond.fieldLink RX4 237 "WireLoom$Machine" "tellings" "I", Cond.methodLink RX4 75 yX4_isWithin, Cond.static yX4_isWithin, Cond.initialized RX4, Cond.code yX4_isWithin cX4_isWithin 3 (some .boolean), Cond.methodLink RX4 170 yX2_become, Cond.instanceMethod yX2_become, Cond.selects RX2 yX2_become yX2_become, Cond.initialized RX2, Cond.code yX2_become cX2_become 2 none, Cond.fieldLink RX2 9 "WireLoom$State" "rings" "[I", Cond.methodLink RX2 31 arraycopyName, Cond.native arraycopyName, Cond.static arraycopyName, Cond.initialized "java/lang/System", Cond.fieldLink RX2 15 "WireLoom$State" "readings" "[I", Cond.fieldLink RX2 18 "WireLoom$State" "wear" "[I"]
def wsX4_ifGone_r2 : List Cond := [Cond.fieldLink RX2 21 "WireLoom$State" "settings" "[I", Cond.fieldLink RX2 27 "WireLoom$State" "machine" "LWireLoom$Machine;", Cond.fieldLink RX2 41 "WireLoom$State" "guarded" "I", Cond.fieldLink RX2 45 "WireLoom$State" "crossingsChanged" "I", Cond.fieldLink RX2 48 "WireLoom$State" "readingsDone" "I", Cond.methodLink RX2 37 yX0_becomeLike, Cond.instanceMethod yX0_becomeLike, Cond.selects RX0 yX0_becomeLike yX0_becomeLike, Cond.initialized RX0, Cond.code yX0_becomeLike cX0_becomeLike 2 none, Cond.fieldLink RX0 11 "WireLoom$Machine" "cells" "[I", Cond.methodLink RX0 38 arraycopyName, Cond.fieldLink RX0 15 "WireLoom$Machine" "latest" "[I", Cond.fieldLink RX0 21 "WireLoom$Machine" "place" "I", Cond.fieldLink RX0 25 "WireLoom$Machine" "count" "I", Cond.fieldLink RX0 28 "WireLoom$Machine" "running" "Z", Cond.fieldLink RX0 32 "WireLoom$Machine" "steps" "I", Cond.fieldLink RX0 35 "WireLoom$Machine" "tellings" "I", Cond.methodLink RX4 124 yX2_run, Cond.instanceMethod yX2_run, Cond.selects RX2 yX2_run yX2_run, Cond.code yX2_run cX2_run 4 (some .int), Cond.fieldLink RX2 82 "WireLoom$Machine" "running" "Z", Cond.fieldLink RX2 86 "WireLoom$Machine" "place" "I"]
def wsX4_ifGone_r3 : List Cond := [Cond.methodLink RX2 89 yX2_takeReading, Cond.instanceMethod yX2_takeReading, Cond.selects RX2 yX2_takeReading yX2_takeReading, Cond.code yX2_takeReading cX2_takeReading 3 (some .int), Cond.methodLink RX2 79 yX2_tells, Cond.instanceMethod yX2_tells, Cond.selects RX2 yX2_tells yX2_tells, Cond.code yX2_tells cX2_tells 2 (some .int), Cond.methodLink RX2 55 yX2_answering, Cond.instanceMethod yX2_answering, Cond.selects RX2 yX2_answering yX2_answering, Cond.code yX2_answering cX2_answering 8 (some .int), Cond.static yX4_bit, Cond.code yX4_bit cX4_bit 2 (some .int), Cond.methodLink RX2 102 yX2_strengthAt, Cond.instanceMethod yX2_strengthAt, Cond.selects RX2 yX2_strengthAt yX2_strengthAt, Cond.code yX2_strengthAt cX2_strengthAt 4 (some .int), Cond.methodLink RX2 99 Lib.Math.max.name, Cond.static Lib.Math.max.name, Cond.initialized "java/lang/Math", Cond.code Lib.Math.max.name Lib.Math.max.code 2 (some .int), Cond.methodLink RX2 96 yX2_oneThreadOn, Cond.instanceMethod yX2_oneThreadOn]
def wsX4_ifGone_r4 : List Cond := [Cond.selects RX2 yX2_oneThreadOn yX2_oneThreadOn, Cond.code yX2_oneThreadOn cX2_oneThreadOn 6 (some .int), Cond.methodLink RX2 51 yX2_asWord, Cond.instanceMethod yX2_asWord, Cond.selects RX2 yX2_asWord yX2_asWord, Cond.code yX2_asWord cX2_asWord 2 (some .int), Cond.methodLink RX2 58 yX2_wearRings, Cond.instanceMethod yX2_wearRings, Cond.selects RX2 yX2_wearRings yX2_wearRings, Cond.code yX2_wearRings cX2_wearRings 4 none, Cond.methodLink RX2 74 Lib.Math.min.name, Cond.static Lib.Math.min.name, Cond.code Lib.Math.min.name Lib.Math.min.code 2 (some .int), Cond.methodLink RX2 92 yX0_obey, Cond.instanceMethod yX0_obey, Cond.selects RX0 yX0_obey yX0_obey, Cond.code yX0_obey cX0_obey 4 none, Cond.methodLink RX0 44 yX0_tellCount, Cond.instanceMethod yX0_tellCount, Cond.selects RX0 yX0_tellCount yX0_tellCount, Cond.code yX0_tellCount cX0_tellCount 2 none]
def wsX4_ifGone : List Cond := .code yX4_ifGone cX4_ifGone 4 (some .int) :: ((wsX4_ifGone_r1 ++ (wsX4_ifGone_r2 ++ (wsX4_ifGone_r3 ++ wsX4_ifGone_r4))) ++ wsX40 ++ wsX20 ++ wsX00 ++ (vx_atS RX4 83 "java/lang/IllegalArgumentException" ["java/lang/RuntimeException", "java/lang/Exception"]).filter goodWord)
def wsX4_rightShare_r1 : List Cond := [Cond.fieldLink RX4 10 "WireLoom" "now" "LWireLoom$State;", Cond.constantDouble RX4 278 (4625196817309499392), Cond.methodLink RX4 256 yX2_threadsRight, Cond.instanceMethod yX2_threadsRight, Cond.selects RX2 yX2_threadsRight yX2_threadsRight, Cond.initialized RX2, Cond.code yX2_threadsRight cX2_threadsRight 3 (some .int), Cond.fieldLink RX2 9 "WireLoom$State" "rings" "[I", Cond.methodLink RX2 55 yX2_answering, Cond.instanceMethod yX2_answering, Cond.selects RX2 yX2_answering yX2_answering, Cond.code yX2_answering cX2_answering 8 (some .int), Cond.fieldLink RX2 21 "WireLoom$State" "settings" "[I", Cond.static yX4_bit, Cond.initialized RX4, Cond.code yX4_bit cX4_bit 2 (some .int), Cond.methodLink RX2 102 yX2_strengthAt, Cond.instanceMethod yX2_strengthAt, Cond.selects RX2 yX2_strengthAt yX2_strengthAt, Cond.code yX2_strengthAt cX2_strengthAt 4 (some .int), Cond.methodLink RX2 99 Lib.Math.max.name, Cond.static Lib.Math.max.name, Cond.initialized "java/lang/Math", Cond.code Lib.Math.max.name Lib.Math.max.code 2 (some .int)]
def wsX4_rightShare_r2 : List Cond := [Cond.fieldLink RX2 18 "WireLoom$State" "wear" "[I", Cond.methodLink RX2 96 yX2_oneThreadOn, Cond.instanceMethod yX2_oneThreadOn, Cond.selects RX2 yX2_oneThreadOn yX2_oneThreadOn, Cond.code yX2_oneThreadOn cX2_oneThreadOn 6 (some .int), Cond.fieldLink RX2 41 "WireLoom$State" "guarded" "I"]
def wsX4_rightShare : List Cond := .code yX4_rightShare cX4_rightShare 1 (some .double) :: ((wsX4_rightShare_r1 ++ wsX4_rightShare_r2) ++ wsX40 ++ wsX20)
def wsJ9_max_7cf53 : List Cond := .code yJ9_max_7cf53 cJ9_max_7cf53 2 (some .int) :: ([])
def wsJ9_min_7cf53 : List Cond := .code yJ9_min_7cf53 cJ9_min_7cf53 2 (some .int) :: ([])
def wsL_cell : List Cond := .code yL_cell cL_cell 2 (some .int) :: ([.constant RL 7 (1812433253)])
def wsL_up : List Cond := .code yL_up cL_up 2 (some .int) :: ([.constant RL 8 (2147483647)])
def wsL_bits : List Cond := .code yL_bits cL_bits 3 (some .int) :: ([])
def wsL_looks_r1 : List Cond := [Cond.constantLong RL 9 (13), Cond.constantLong RL 11 (31), Cond.methodLink RL 13 yX4_count, Cond.instanceMethod yX4_count, Cond.selects RX4 yX4_count yX4_count, Cond.initialized RX4, Cond.code yX4_count cX4_count 2 (some .int), Cond.classLink RX4 79 "java/lang/IllegalArgumentException", Cond.initialized "java/lang/IllegalArgumentException", Cond.fieldLink RX4 10 "WireLoom" "now" "LWireLoom$State;", Cond.fieldLink RX4 250 "WireLoom$State" "crossingsChanged" "I", Cond.fieldLink RX4 253 "WireLoom$State" "readingsDone" "I", Cond.fieldLink RX4 88 "WireLoom$State" "guarded" "I", Cond.fieldLink RX4 22 "WireLoom" "past" "LWireLoom$Past;", Cond.fieldLink RX4 178 "WireLoom$Past" "size" "I", Cond.methodLink RX4 173 yX2_crossingsByThreads, Cond.instanceMethod yX2_crossingsByThreads, Cond.selects RX2 yX2_crossingsByThreads yX2_crossingsByThreads, Cond.initialized RX2, Cond.code yX2_crossingsByThreads cX2_crossingsByThreads 3 (some .int), Cond.fieldLink RX2 9 "WireLoom$State" "rings" "[I", Cond.methodLink RX2 62 yJ6_bitCount_0f7a4, Cond.static yJ6_bitCount_0f7a4, Cond.initialized RJ6]
def wsL_looks_r2 : List Cond := [Cond.code yJ6_bitCount_0f7a4 cJ6_bitCount_0f7a4 1 (some .int), Cond.constant RJ6 265 (1431655765), Cond.constant RJ6 266 (858993459), Cond.constant RJ6 267 (252645135), Cond.methodLink RX4 247 yX2_crossingsByRings, Cond.instanceMethod yX2_crossingsByRings, Cond.selects RX2 yX2_crossingsByRings yX2_crossingsByRings, Cond.code yX2_crossingsByRings cX2_crossingsByRings 3 (some .int), Cond.methodLink RX2 67 yX2_threadsThrough, Cond.instanceMethod yX2_threadsThrough, Cond.selects RX2 yX2_threadsThrough yX2_threadsThrough, Cond.code yX2_threadsThrough cX2_threadsThrough 4 (some .int), Cond.static yX4_bit, Cond.code yX4_bit cX4_bit 2 (some .int), Cond.methodLink RX4 256 yX2_threadsRight, Cond.instanceMethod yX2_threadsRight, Cond.selects RX2 yX2_threadsRight yX2_threadsRight, Cond.code yX2_threadsRight cX2_threadsRight 3 (some .int), Cond.methodLink RX2 55 yX2_answering, Cond.instanceMethod yX2_answering, Cond.selects RX2 yX2_answering yX2_answering, Cond.code yX2_answering cX2_answering 8 (some .int), Cond.fieldLink RX2 21 "WireLoom$State" "settings" "[I", Cond.methodLink RX2 102 yX2_strengthAt]
def wsL_looks_r3 : List Cond := [Cond.instanceMethod yX2_strengthAt, Cond.selects RX2 yX2_strengthAt yX2_strengthAt, Cond.code yX2_strengthAt cX2_strengthAt 4 (some .int), Cond.methodLink RX2 99 Lib.Math.max.name, Cond.static Lib.Math.max.name, Cond.initialized "java/lang/Math", Cond.code Lib.Math.max.name Lib.Math.max.code 2 (some .int), Cond.fieldLink RX2 18 "WireLoom$State" "wear" "[I", Cond.methodLink RX2 96 yX2_oneThreadOn, Cond.instanceMethod yX2_oneThreadOn, Cond.selects RX2 yX2_oneThreadOn yX2_oneThreadOn, Cond.code yX2_oneThreadOn cX2_oneThreadOn 6 (some .int), Cond.fieldLink RX2 41 "WireLoom$State" "guarded" "I", Cond.methodLink RX4 189 yJ6_bitCount_0f7a4, Cond.methodLink RX4 259 yX2_greatestWear, Cond.instanceMethod yX2_greatestWear, Cond.selects RX2 yX2_greatestWear yX2_greatestWear, Cond.code yX2_greatestWear cX2_greatestWear 3 (some .int), Cond.methodLink RX4 262 yX4_pairsTellingTheSame, Cond.instanceMethod yX4_pairsTellingTheSame, Cond.selects RX4 yX4_pairsTellingTheSame yX4_pairsTellingTheSame, Cond.code yX4_pairsTellingTheSame cX4_pairsTellingTheSame 4 (some .int), Cond.fieldLink RX4 41 "WireLoom" "wordsTold" "[I", Cond.methodLink RX4 159 yX2_tells]
def wsL_looks_r4 : List Cond := [Cond.instanceMethod yX2_tells, Cond.selects RX2 yX2_tells yX2_tells, Cond.code yX2_tells cX2_tells 2 (some .int), Cond.methodLink RX2 51 yX2_asWord, Cond.instanceMethod yX2_asWord, Cond.selects RX2 yX2_asWord yX2_asWord, Cond.code yX2_asWord cX2_asWord 2 (some .int), Cond.methodLink RX4 265 yX2_fewestUnlikeBits, Cond.instanceMethod yX2_fewestUnlikeBits, Cond.selects RX2 yX2_fewestUnlikeBits yX2_fewestUnlikeBits, Cond.code yX2_fewestUnlikeBits cX2_fewestUnlikeBits 4 (some .int), Cond.methodLink RX2 74 Lib.Math.min.name, Cond.static Lib.Math.min.name, Cond.code Lib.Math.min.name Lib.Math.min.code 2 (some .int), Cond.methodLink RL 19 yX4_machine, Cond.instanceMethod yX4_machine, Cond.selects RX4 yX4_machine yX4_machine, Cond.code yX4_machine cX4_machine 2 (some .int), Cond.fieldLink RX4 110 "WireLoom$State" "machine" "LWireLoom$Machine;", Cond.fieldLink RX4 224 "WireLoom$Machine" "place" "I", Cond.fieldLink RX4 227 "WireLoom$Machine" "count" "I", Cond.fieldLink RX4 230 "WireLoom$Machine" "cells" "[I", Cond.fieldLink RX4 233 "WireLoom$Machine" "running" "Z", Cond.fieldLink RX4 114 "WireLoom$Machine" "steps" "I"]
def wsL_looks_r5 : List Cond := [Cond.fieldLink RX4 237 "WireLoom$Machine" "tellings" "I", Cond.methodLink RL 22 yX4_threadOf, Cond.instanceMethod yX4_threadOf, Cond.selects RX4 yX4_threadOf yX4_threadOf, Cond.code yX4_threadOf cX4_threadOf 3 (some .int), Cond.classLink RX4 52 "java/lang/IndexOutOfBoundsException", Cond.initialized "java/lang/IndexOutOfBoundsException", Cond.fieldLink RX4 63 "WireLoom$State" "rings" "[I", Cond.fieldLink RX4 197 "WireLoom$State" "readings" "[I", Cond.methodLink RX4 45 yX4_isThread, Cond.static yX4_isThread, Cond.code yX4_isThread cX4_isThread 1 (some .boolean), Cond.methodLink RX4 75 yX4_isWithin, Cond.static yX4_isWithin, Cond.code yX4_isWithin cX4_isWithin 3 (some .boolean), Cond.methodLink RX4 70 yX4_bit, Cond.methodLink RX4 186 yX2_means, Cond.instanceMethod yX2_means, Cond.selects RX2 yX2_means yX2_means, Cond.code yX2_means cX2_means 2 (some .int), Cond.methodLink RX4 194 yX2_answering, Cond.methodLink RL 26 yX4_ringOf, Cond.instanceMethod yX4_ringOf, Cond.selects RX4 yX4_ringOf yX4_ringOf]
def wsL_looks_r6 : List Cond := [Cond.code yX4_ringOf cX4_ringOf 3 (some .int), Cond.fieldLink RX4 202 "WireLoom$State" "wear" "[I", Cond.methodLink RX4 49 yX4_isRing, Cond.static yX4_isRing, Cond.code yX4_isRing cX4_isRing 1 (some .boolean), Cond.methodLink RX4 205 yX2_threadsThrough, Cond.methodLink RX4 208 yX2_threadsAnswered, Cond.instanceMethod yX2_threadsAnswered, Cond.selects RX2 yX2_threadsAnswered yX2_threadsAnswered, Cond.code yX2_threadsAnswered cX2_threadsAnswered 4 (some .int), Cond.methodLink RX4 211 yX2_isWornOut, Cond.instanceMethod yX2_isWornOut, Cond.selects RX2 yX2_isWornOut yX2_isWornOut, Cond.code yX2_isWornOut cX2_isWornOut 2 (some .boolean), Cond.methodLink RL 29 yX4_told, Cond.instanceMethod yX4_told, Cond.selects RX4 yX4_told yX4_told, Cond.code yX4_told cX4_told 2 (some .int), Cond.fieldLink RX4 244 "WireLoom$Machine" "latest" "[I", Cond.methodLink RL 32 yX4_setting, Cond.instanceMethod yX4_setting, Cond.selects RX4 yX4_setting yX4_setting, Cond.code yX4_setting cX4_setting 2 (some .int), Cond.fieldLink RX4 104 "WireLoom$State" "settings" "[I"]
def wsL_looks_r7 : List Cond := [Cond.methodLink RX4 97 yX4_isSetting, Cond.static yX4_isSetting, Cond.code yX4_isSetting cX4_isSetting 1 (some .boolean)]
def wsL_looks : List Cond := .code yL_looks cL_looks 4 (some .long) :: ((wsL_looks_r1 ++ (wsL_looks_r2 ++ (wsL_looks_r3 ++ (wsL_looks_r4 ++ (wsL_looks_r5 ++ (wsL_looks_r6 ++ wsL_looks_r7)))))) ++ wsX40 ++ wsX20 ++ wsX10 ++ wsX00 ++ (vx_atS RX4 83 "java/lang/IllegalArgumentException" ["java/lang/RuntimeException", "java/lang/Exception"]).filter goodWord ++ (vx_atS RX4 56 "java/lang/IndexOutOfBoundsException" ["java/lang/RuntimeException", "java/lang/Exception"]).filter goodWord)
def wsL_act_r1 : List Cond := [Cond.methodLink RL 35 yL_up, Cond.static yL_up, Cond.initialized RL, Cond.code yL_up cL_up 2 (some .int), Cond.constant RL 8 (2147483647), Cond.methodLink RL 40 yX4_cross, Cond.instanceMethod yX4_cross, Cond.selects RX4 yX4_cross yX4_cross, Cond.initialized RX4, Cond.code yX4_cross cX4_cross 3 (some .int), Cond.classLink RX4 52 "java/lang/IndexOutOfBoundsException", Cond.initialized "java/lang/IndexOutOfBoundsException", Cond.fieldLink RX4 22 "WireLoom" "past" "LWireLoom$Past;", Cond.fieldLink RX4 10 "WireLoom" "now" "LWireLoom$State;", Cond.fieldLink RX4 63 "WireLoom$State" "rings" "[I", Cond.methodLink RX4 45 yX4_isThread, Cond.static yX4_isThread, Cond.code yX4_isThread cX4_isThread 1 (some .boolean), Cond.methodLink RX4 75 yX4_isWithin, Cond.static yX4_isWithin, Cond.code yX4_isWithin cX4_isWithin 3 (some .boolean), Cond.methodLink RX4 49 yX4_isRing, Cond.static yX4_isRing, Cond.code yX4_isRing cX4_isRing 1 (some .boolean)]
def wsL_act_r2 : List Cond := [Cond.methodLink RX4 59 yX1_push, Cond.instanceMethod yX1_push, Cond.selects RX1 yX1_push yX1_push, Cond.initialized RX1, Cond.code yX1_push cX1_push 2 none, Cond.fieldLink RX1 11 "WireLoom$Past" "saved" "[LWireLoom$State;", Cond.fieldLink RX1 16 "WireLoom$Past" "oldest" "I", Cond.fieldLink RX1 20 "WireLoom$Past" "size" "I", Cond.methodLink RX1 23 yX2_become, Cond.instanceMethod yX2_become, Cond.selects RX2 yX2_become yX2_become, Cond.initialized RX2, Cond.code yX2_become cX2_become 2 none, Cond.fieldLink RX2 9 "WireLoom$State" "rings" "[I", Cond.methodLink RX2 31 arraycopyName, Cond.native arraycopyName, Cond.static arraycopyName, Cond.initialized "java/lang/System", Cond.fieldLink RX2 15 "WireLoom$State" "readings" "[I", Cond.fieldLink RX2 18 "WireLoom$State" "wear" "[I", Cond.fieldLink RX2 21 "WireLoom$State" "settings" "[I", Cond.fieldLink RX2 27 "WireLoom$State" "machine" "LWireLoom$Machine;", Cond.fieldLink RX2 41 "WireLoom$State" "guarded" "I", Cond.fieldLink RX2 45 "WireLoom$State" "crossingsChanged" "I"]
def wsL_act_r3 : List Cond := [Cond.fieldLink RX2 48 "WireLoom$State" "readingsDone" "I", Cond.methodLink RX2 37 yX0_becomeLike, Cond.instanceMethod yX0_becomeLike, Cond.selects RX0 yX0_becomeLike yX0_becomeLike, Cond.initialized RX0, Cond.code yX0_becomeLike cX0_becomeLike 2 none, Cond.fieldLink RX0 11 "WireLoom$Machine" "cells" "[I", Cond.methodLink RX0 38 arraycopyName, Cond.fieldLink RX0 15 "WireLoom$Machine" "latest" "[I", Cond.fieldLink RX0 21 "WireLoom$Machine" "place" "I", Cond.fieldLink RX0 25 "WireLoom$Machine" "count" "I", Cond.fieldLink RX0 28 "WireLoom$Machine" "running" "Z", Cond.fieldLink RX0 32 "WireLoom$Machine" "steps" "I", Cond.fieldLink RX0 35 "WireLoom$Machine" "tellings" "I", Cond.methodLink RX4 66 yX2_layThrough, Cond.instanceMethod yX2_layThrough, Cond.selects RX2 yX2_layThrough yX2_layThrough, Cond.code yX2_layThrough cX2_layThrough 5 (some .int), Cond.methodLink RX2 58 yX2_wearRings, Cond.instanceMethod yX2_wearRings, Cond.selects RX2 yX2_wearRings yX2_wearRings, Cond.code yX2_wearRings cX2_wearRings 4 none, Cond.methodLink RX2 74 Lib.Math.min.name, Cond.static Lib.Math.min.name]
def wsL_act_r4 : List Cond := [Cond.initialized "java/lang/Math", Cond.code Lib.Math.min.name Lib.Math.min.code 2 (some .int), Cond.static yX4_bit, Cond.code yX4_bit cX4_bit 2 (some .int), Cond.methodLink RX2 62 yJ6_bitCount_0f7a4, Cond.static yJ6_bitCount_0f7a4, Cond.initialized RJ6, Cond.code yJ6_bitCount_0f7a4 cJ6_bitCount_0f7a4 1 (some .int), Cond.constant RJ6 265 (1431655765), Cond.constant RJ6 266 (858993459), Cond.constant RJ6 267 (252645135), Cond.methodLink RX4 70 yX4_bit, Cond.methodLink RL 43 yX4_lay, Cond.instanceMethod yX4_lay, Cond.selects RX4 yX4_lay yX4_lay, Cond.code yX4_lay cX4_lay 3 (some .int), Cond.classLink RX4 79 "java/lang/IllegalArgumentException", Cond.initialized "java/lang/IllegalArgumentException", Cond.methodLink RX4 84 yX2_asWord, Cond.instanceMethod yX2_asWord, Cond.selects RX2 yX2_asWord yX2_asWord, Cond.code yX2_asWord cX2_asWord 2 (some .int), Cond.methodLink RL 46 yX4_guard, Cond.instanceMethod yX4_guard]
def wsL_act_r5 : List Cond := [Cond.selects RX4 yX4_guard yX4_guard, Cond.code yX4_guard cX4_guard 2 (some .int), Cond.fieldLink RX4 88 "WireLoom$State" "guarded" "I", Cond.methodLink RL 49 yX4_set, Cond.instanceMethod yX4_set, Cond.selects RX4 yX4_set yX4_set, Cond.code yX4_set cX4_set 4 (some .int), Cond.fieldLink RX4 104 "WireLoom$State" "settings" "[I", Cond.methodLink RX4 97 yX4_isSetting, Cond.static yX4_isSetting, Cond.code yX4_isSetting cX4_isSetting 1 (some .boolean), Cond.methodLink RL 52 yX4_change, Cond.instanceMethod yX4_change, Cond.selects RX4 yX4_change yX4_change, Cond.code yX4_change cX4_change 2 (some .int), Cond.methodLink RX4 94 yX2_renewRing, Cond.instanceMethod yX2_renewRing, Cond.selects RX2 yX2_renewRing yX2_renewRing, Cond.code yX2_renewRing cX2_renewRing 4 (some .int), Cond.methodLink RX2 67 yX2_threadsThrough, Cond.instanceMethod yX2_threadsThrough, Cond.selects RX2 yX2_threadsThrough yX2_threadsThrough, Cond.code yX2_threadsThrough cX2_threadsThrough 4 (some .int), Cond.methodLink RL 55 yX4_read]
def wsL_act_r6 : List Cond := [Cond.instanceMethod yX4_read, Cond.selects RX4 yX4_read yX4_read, Cond.code yX4_read cX4_read 2 (some .int), Cond.methodLink RX4 107 yX2_takeReading, Cond.instanceMethod yX2_takeReading, Cond.selects RX2 yX2_takeReading yX2_takeReading, Cond.code yX2_takeReading cX2_takeReading 3 (some .int), Cond.methodLink RX2 79 yX2_tells, Cond.instanceMethod yX2_tells, Cond.selects RX2 yX2_tells yX2_tells, Cond.code yX2_tells cX2_tells 2 (some .int), Cond.methodLink RX2 55 yX2_answering, Cond.instanceMethod yX2_answering, Cond.selects RX2 yX2_answering yX2_answering, Cond.code yX2_answering cX2_answering 8 (some .int), Cond.methodLink RX2 102 yX2_strengthAt, Cond.instanceMethod yX2_strengthAt, Cond.selects RX2 yX2_strengthAt yX2_strengthAt, Cond.code yX2_strengthAt cX2_strengthAt 4 (some .int), Cond.methodLink RX2 99 Lib.Math.max.name, Cond.static Lib.Math.max.name, Cond.code Lib.Math.max.name Lib.Math.max.code 2 (some .int), Cond.methodLink RX2 96 yX2_oneThreadOn, Cond.instanceMethod yX2_oneThreadOn]
def wsL_act_r7 : List Cond := [Cond.selects RX2 yX2_oneThreadOn yX2_oneThreadOn, Cond.code yX2_oneThreadOn cX2_oneThreadOn 6 (some .int), Cond.methodLink RX2 51 yX2_asWord, Cond.methodLink RL 58 yX4_start, Cond.instanceMethod yX4_start, Cond.selects RX4 yX4_start yX4_start, Cond.code yX4_start cX4_start 2 (some .int), Cond.fieldLink RX4 110 "WireLoom$State" "machine" "LWireLoom$Machine;", Cond.fieldLink RX4 114 "WireLoom$Machine" "steps" "I", Cond.methodLink RX4 119 yX0_begin, Cond.instanceMethod yX0_begin, Cond.selects RX0 yX0_begin yX0_begin, Cond.code yX0_begin cX0_begin 2 none, Cond.methodLink RL 62 yX4_go, Cond.instanceMethod yX4_go, Cond.selects RX4 yX4_go yX4_go, Cond.code yX4_go cX4_go 2 (some .int), Cond.methodLink RX4 124 yX2_run, Cond.instanceMethod yX2_run, Cond.selects RX2 yX2_run yX2_run, Cond.code yX2_run cX2_run 4 (some .int), Cond.fieldLink RX2 82 "WireLoom$Machine" "running" "Z", Cond.fieldLink RX2 86 "WireLoom$Machine" "place" "I", Cond.methodLink RX2 89 yX2_takeReading]
def wsL_act_r8 : List Cond := [Cond.methodLink RX2 92 yX0_obey, Cond.instanceMethod yX0_obey, Cond.selects RX0 yX0_obey yX0_obey, Cond.code yX0_obey cX0_obey 4 none, Cond.methodLink RX0 44 yX0_tellCount, Cond.instanceMethod yX0_tellCount, Cond.selects RX0 yX0_tellCount yX0_tellCount, Cond.code yX0_tellCount cX0_tellCount 2 none, Cond.methodLink RL 65 yX4_goBack, Cond.instanceMethod yX4_goBack, Cond.selects RX4 yX4_goBack yX4_goBack, Cond.code yX4_goBack cX4_goBack 2 (some .int), Cond.classLink RX4 132 "java/lang/IllegalStateException", Cond.initialized "java/lang/IllegalStateException", Cond.fieldLink RX4 30 "WireLoom" "kept" "[Z", Cond.fieldLink RX4 26 "WireLoom" "snapshots" "[LWireLoom$State;", Cond.methodLink RX4 165 yX4_isSlot, Cond.static yX4_isSlot, Cond.code yX4_isSlot cX4_isSlot 1 (some .boolean), Cond.methodLink RX4 170 yX2_become, Cond.methodLink RX4 173 yX2_crossingsByThreads, Cond.instanceMethod yX2_crossingsByThreads, Cond.selects RX2 yX2_crossingsByThreads yX2_crossingsByThreads, Cond.code yX2_crossingsByThreads cX2_crossingsByThreads 3 (some .int)]
def wsL_act : List Cond := .code yL_act cL_act 4 (some .int) :: ((wsL_act_r1 ++ (wsL_act_r2 ++ (wsL_act_r3 ++ (wsL_act_r4 ++ (wsL_act_r5 ++ (wsL_act_r6 ++ (wsL_act_r7 ++ wsL_act_r8))))))) ++ wsX40 ++ wsX20 ++ wsX10 ++ wsX00 ++ (vx_atS RX4 56 "java/lang/IndexOutOfBoundsException" ["java/lang/RuntimeException", "java/lang/Exception"]).filter goodWord ++ (vx_atS RX4 83 "java/lang/IllegalArgumentException" ["java/lang/RuntimeException", "java/lang/Exception"]).filter goodWord ++ (vx_atS RX4 136 "java/lang/IllegalStateException" ["java/lang/RuntimeException", "java/lang/Exception"]).filter goodWord)
def wsL_isStrong_r1 : List Cond := [Cond.methodLink RL 22 yX4_threadOf, Cond.instanceMethod yX4_threadOf, Cond.selects RX4 yX4_threadOf yX4_threadOf, Cond.initialized RX4, Cond.code yX4_threadOf cX4_threadOf 3 (some .int), Cond.classLink RX4 52 "java/lang/IndexOutOfBoundsException", Cond.initialized "java/lang/IndexOutOfBoundsException", Cond.classLink RX4 79 "java/lang/IllegalArgumentException", Cond.initialized "java/lang/IllegalArgumentException", Cond.fieldLink RX4 10 "WireLoom" "now" "LWireLoom$State;", Cond.fieldLink RX4 63 "WireLoom$State" "rings" "[I", Cond.fieldLink RX4 88 "WireLoom$State" "guarded" "I", Cond.fieldLink RX4 197 "WireLoom$State" "readings" "[I", Cond.methodLink RX4 45 yX4_isThread, Cond.static yX4_isThread, Cond.code yX4_isThread cX4_isThread 1 (some .boolean), Cond.methodLink RX4 75 yX4_isWithin, Cond.static yX4_isWithin, Cond.code yX4_isWithin cX4_isWithin 3 (some .boolean), Cond.methodLink RX4 70 yX4_bit, Cond.static yX4_bit, Cond.code yX4_bit cX4_bit 2 (some .int), Cond.methodLink RX4 186 yX2_means, Cond.instanceMethod yX2_means]
def wsL_isStrong_r2 : List Cond := [Cond.selects RX2 yX2_means yX2_means, Cond.initialized RX2, Cond.code yX2_means cX2_means 2 (some .int), Cond.fieldLink RX2 9 "WireLoom$State" "rings" "[I", Cond.methodLink RX2 51 yX2_asWord, Cond.instanceMethod yX2_asWord, Cond.selects RX2 yX2_asWord yX2_asWord, Cond.code yX2_asWord cX2_asWord 2 (some .int), Cond.fieldLink RX2 21 "WireLoom$State" "settings" "[I", Cond.methodLink RX4 159 yX2_tells, Cond.instanceMethod yX2_tells, Cond.selects RX2 yX2_tells yX2_tells, Cond.code yX2_tells cX2_tells 2 (some .int), Cond.methodLink RX2 55 yX2_answering, Cond.instanceMethod yX2_answering, Cond.selects RX2 yX2_answering yX2_answering, Cond.code yX2_answering cX2_answering 8 (some .int), Cond.methodLink RX2 102 yX2_strengthAt, Cond.instanceMethod yX2_strengthAt, Cond.selects RX2 yX2_strengthAt yX2_strengthAt, Cond.code yX2_strengthAt cX2_strengthAt 4 (some .int), Cond.methodLink RX2 99 Lib.Math.max.name, Cond.static Lib.Math.max.name, Cond.initialized "java/lang/Math"]
def wsL_isStrong_r3 : List Cond := [Cond.code Lib.Math.max.name Lib.Math.max.code 2 (some .int), Cond.fieldLink RX2 18 "WireLoom$State" "wear" "[I", Cond.methodLink RX2 96 yX2_oneThreadOn, Cond.instanceMethod yX2_oneThreadOn, Cond.selects RX2 yX2_oneThreadOn yX2_oneThreadOn, Cond.code yX2_oneThreadOn cX2_oneThreadOn 6 (some .int), Cond.fieldLink RX2 41 "WireLoom$State" "guarded" "I", Cond.methodLink RX4 189 yJ6_bitCount_0f7a4, Cond.static yJ6_bitCount_0f7a4, Cond.initialized RJ6, Cond.code yJ6_bitCount_0f7a4 cJ6_bitCount_0f7a4 1 (some .int), Cond.constant RJ6 265 (1431655765), Cond.constant RJ6 266 (858993459), Cond.constant RJ6 267 (252645135), Cond.methodLink RX4 194 yX2_answering, Cond.methodLink RL 68 yX4_strength, Cond.instanceMethod yX4_strength, Cond.selects RX4 yX4_strength yX4_strength, Cond.code yX4_strength cX4_strength 4 (some .int), Cond.methodLink RX4 49 yX4_isRing, Cond.static yX4_isRing, Cond.code yX4_isRing cX4_isRing 1 (some .boolean), Cond.methodLink RX4 216 yX2_hops, Cond.instanceMethod yX2_hops]
def wsL_isStrong_r4 : List Cond := [Cond.selects RX2 yX2_hops yX2_hops, Cond.code yX2_hops cX2_hops 5 (some .int), Cond.methodLink RX4 219 yX2_strengthAt, Cond.methodLink RL 26 yX4_ringOf, Cond.instanceMethod yX4_ringOf, Cond.selects RX4 yX4_ringOf yX4_ringOf, Cond.code yX4_ringOf cX4_ringOf 3 (some .int), Cond.fieldLink RX4 202 "WireLoom$State" "wear" "[I", Cond.methodLink RX4 205 yX2_threadsThrough, Cond.instanceMethod yX2_threadsThrough, Cond.selects RX2 yX2_threadsThrough yX2_threadsThrough, Cond.code yX2_threadsThrough cX2_threadsThrough 4 (some .int), Cond.methodLink RX4 208 yX2_threadsAnswered, Cond.instanceMethod yX2_threadsAnswered, Cond.selects RX2 yX2_threadsAnswered yX2_threadsAnswered, Cond.code yX2_threadsAnswered cX2_threadsAnswered 4 (some .int), Cond.methodLink RX4 211 yX2_isWornOut, Cond.instanceMethod yX2_isWornOut, Cond.selects RX2 yX2_isWornOut yX2_isWornOut, Cond.code yX2_isWornOut cX2_isWornOut 2 (some .boolean), Cond.methodLink RX2 67 yX2_threadsThrough, Cond.methodLink RL 32 yX4_setting, Cond.instanceMethod yX4_setting, Cond.selects RX4 yX4_setting yX4_setting]
def wsL_isStrong_r5 : List Cond := [Cond.code yX4_setting cX4_setting 2 (some .int), Cond.fieldLink RX4 104 "WireLoom$State" "settings" "[I", Cond.methodLink RX4 97 yX4_isSetting, Cond.static yX4_isSetting, Cond.code yX4_isSetting cX4_isSetting 1 (some .boolean), Cond.methodLink RL 72 yL_bits, Cond.static yL_bits, Cond.initialized RL, Cond.code yL_bits cL_bits 3 (some .int)]
def wsL_isStrong : List Cond := .code yL_isStrong cL_isStrong 11 (some .boolean) :: ((wsL_isStrong_r1 ++ (wsL_isStrong_r2 ++ (wsL_isStrong_r3 ++ (wsL_isStrong_r4 ++ wsL_isStrong_r5)))) ++ wsX40 ++ wsX20 ++ (vx_atS RX4 56 "java/lang/IndexOutOfBoundsException" ["java/lang/RuntimeException", "java/lang/Exception"]).filter goodWord ++ (vx_atS RX4 83 "java/lang/IllegalArgumentException" ["java/lang/RuntimeException", "java/lang/Exception"]).filter goodWord)
def wsL_holds_r1 : List Cond := [Cond.constantDouble RL 79 (4625196817309499392), Cond.methodLink RL 22 yX4_threadOf, Cond.instanceMethod yX4_threadOf, Cond.selects RX4 yX4_threadOf yX4_threadOf, Cond.initialized RX4, Cond.code yX4_threadOf cX4_threadOf 3 (some .int), Cond.classLink RX4 52 "java/lang/IndexOutOfBoundsException", Cond.initialized "java/lang/IndexOutOfBoundsException", Cond.classLink RX4 79 "java/lang/IllegalArgumentException", Cond.initialized "java/lang/IllegalArgumentException", Cond.fieldLink RX4 10 "WireLoom" "now" "LWireLoom$State;", Cond.fieldLink RX4 63 "WireLoom$State" "rings" "[I", Cond.fieldLink RX4 88 "WireLoom$State" "guarded" "I", Cond.fieldLink RX4 197 "WireLoom$State" "readings" "[I", Cond.methodLink RX4 45 yX4_isThread, Cond.static yX4_isThread, Cond.code yX4_isThread cX4_isThread 1 (some .boolean), Cond.methodLink RX4 75 yX4_isWithin, Cond.static yX4_isWithin, Cond.code yX4_isWithin cX4_isWithin 3 (some .boolean), Cond.methodLink RX4 70 yX4_bit, Cond.static yX4_bit, Cond.code yX4_bit cX4_bit 2 (some .int), Cond.methodLink RX4 186 yX2_means]
def wsL_holds_r2 : List Cond := [Cond.instanceMethod yX2_means, Cond.selects RX2 yX2_means yX2_means, Cond.initialized RX2, Cond.code yX2_means cX2_means 2 (some .int), Cond.fieldLink RX2 9 "WireLoom$State" "rings" "[I", Cond.methodLink RX2 51 yX2_asWord, Cond.instanceMethod yX2_asWord, Cond.selects RX2 yX2_asWord yX2_asWord, Cond.code yX2_asWord cX2_asWord 2 (some .int), Cond.fieldLink RX2 21 "WireLoom$State" "settings" "[I", Cond.methodLink RX4 159 yX2_tells, Cond.instanceMethod yX2_tells, Cond.selects RX2 yX2_tells yX2_tells, Cond.code yX2_tells cX2_tells 2 (some .int), Cond.methodLink RX2 55 yX2_answering, Cond.instanceMethod yX2_answering, Cond.selects RX2 yX2_answering yX2_answering, Cond.code yX2_answering cX2_answering 8 (some .int), Cond.methodLink RX2 102 yX2_strengthAt, Cond.instanceMethod yX2_strengthAt, Cond.selects RX2 yX2_strengthAt yX2_strengthAt, Cond.code yX2_strengthAt cX2_strengthAt 4 (some .int), Cond.methodLink RX2 99 Lib.Math.max.name, Cond.static Lib.Math.max.name]
def wsL_holds_r3 : List Cond := [Cond.initialized "java/lang/Math", Cond.code Lib.Math.max.name Lib.Math.max.code 2 (some .int), Cond.fieldLink RX2 18 "WireLoom$State" "wear" "[I", Cond.methodLink RX2 96 yX2_oneThreadOn, Cond.instanceMethod yX2_oneThreadOn, Cond.selects RX2 yX2_oneThreadOn yX2_oneThreadOn, Cond.code yX2_oneThreadOn cX2_oneThreadOn 6 (some .int), Cond.fieldLink RX2 41 "WireLoom$State" "guarded" "I", Cond.methodLink RX4 189 yJ6_bitCount_0f7a4, Cond.static yJ6_bitCount_0f7a4, Cond.initialized RJ6, Cond.code yJ6_bitCount_0f7a4 cJ6_bitCount_0f7a4 1 (some .int), Cond.constant RJ6 265 (1431655765), Cond.constant RJ6 266 (858993459), Cond.constant RJ6 267 (252645135), Cond.methodLink RX4 194 yX2_answering, Cond.methodLink RL 72 yL_bits, Cond.static yL_bits, Cond.initialized RL, Cond.code yL_bits cL_bits 3 (some .int), Cond.methodLink RL 26 yX4_ringOf, Cond.instanceMethod yX4_ringOf, Cond.selects RX4 yX4_ringOf yX4_ringOf, Cond.code yX4_ringOf cX4_ringOf 3 (some .int)]
def wsL_holds_r4 : List Cond := [Cond.fieldLink RX4 202 "WireLoom$State" "wear" "[I", Cond.methodLink RX4 49 yX4_isRing, Cond.static yX4_isRing, Cond.code yX4_isRing cX4_isRing 1 (some .boolean), Cond.methodLink RX4 205 yX2_threadsThrough, Cond.instanceMethod yX2_threadsThrough, Cond.selects RX2 yX2_threadsThrough yX2_threadsThrough, Cond.code yX2_threadsThrough cX2_threadsThrough 4 (some .int), Cond.methodLink RX4 208 yX2_threadsAnswered, Cond.instanceMethod yX2_threadsAnswered, Cond.selects RX2 yX2_threadsAnswered yX2_threadsAnswered, Cond.code yX2_threadsAnswered cX2_threadsAnswered 4 (some .int), Cond.methodLink RX4 211 yX2_isWornOut, Cond.instanceMethod yX2_isWornOut, Cond.selects RX2 yX2_isWornOut yX2_isWornOut, Cond.code yX2_isWornOut cX2_isWornOut 2 (some .boolean), Cond.methodLink RX2 67 yX2_threadsThrough, Cond.methodLink RL 13 yX4_count, Cond.instanceMethod yX4_count, Cond.selects RX4 yX4_count yX4_count, Cond.code yX4_count cX4_count 2 (some .int), Cond.fieldLink RX4 250 "WireLoom$State" "crossingsChanged" "I", Cond.fieldLink RX4 253 "WireLoom$State" "readingsDone" "I", Cond.fieldLink RX4 22 "WireLoom" "past" "LWireLoom$Past;"]
def wsL_holds_r5 : List Cond := [Cond.fieldLink RX4 178 "WireLoom$Past" "size" "I", Cond.methodLink RX4 173 yX2_crossingsByThreads, Cond.instanceMethod yX2_crossingsByThreads, Cond.selects RX2 yX2_crossingsByThreads yX2_crossingsByThreads, Cond.code yX2_crossingsByThreads cX2_crossingsByThreads 3 (some .int), Cond.methodLink RX2 62 yJ6_bitCount_0f7a4, Cond.methodLink RX4 247 yX2_crossingsByRings, Cond.instanceMethod yX2_crossingsByRings, Cond.selects RX2 yX2_crossingsByRings yX2_crossingsByRings, Cond.code yX2_crossingsByRings cX2_crossingsByRings 3 (some .int), Cond.methodLink RX4 256 yX2_threadsRight, Cond.instanceMethod yX2_threadsRight, Cond.selects RX2 yX2_threadsRight yX2_threadsRight, Cond.code yX2_threadsRight cX2_threadsRight 3 (some .int), Cond.methodLink RX4 259 yX2_greatestWear, Cond.instanceMethod yX2_greatestWear, Cond.selects RX2 yX2_greatestWear yX2_greatestWear, Cond.code yX2_greatestWear cX2_greatestWear 3 (some .int), Cond.methodLink RX4 262 yX4_pairsTellingTheSame, Cond.instanceMethod yX4_pairsTellingTheSame, Cond.selects RX4 yX4_pairsTellingTheSame yX4_pairsTellingTheSame, Cond.code yX4_pairsTellingTheSame cX4_pairsTellingTheSame 4 (some .int), Cond.fieldLink RX4 41 "WireLoom" "wordsTold" "[I", Cond.methodLink RX4 265 yX2_fewestUnlikeBits]
def wsL_holds_r6 : List Cond := [Cond.instanceMethod yX2_fewestUnlikeBits, Cond.selects RX2 yX2_fewestUnlikeBits yX2_fewestUnlikeBits, Cond.code yX2_fewestUnlikeBits cX2_fewestUnlikeBits 4 (some .int), Cond.methodLink RX2 74 Lib.Math.min.name, Cond.static Lib.Math.min.name, Cond.code Lib.Math.min.name Lib.Math.min.code 2 (some .int), Cond.methodLink RL 19 yX4_machine, Cond.instanceMethod yX4_machine, Cond.selects RX4 yX4_machine yX4_machine, Cond.code yX4_machine cX4_machine 2 (some .int), Cond.fieldLink RX4 110 "WireLoom$State" "machine" "LWireLoom$Machine;", Cond.fieldLink RX4 224 "WireLoom$Machine" "place" "I", Cond.fieldLink RX4 227 "WireLoom$Machine" "count" "I", Cond.fieldLink RX4 230 "WireLoom$Machine" "cells" "[I", Cond.fieldLink RX4 233 "WireLoom$Machine" "running" "Z", Cond.fieldLink RX4 114 "WireLoom$Machine" "steps" "I", Cond.fieldLink RX4 237 "WireLoom$Machine" "tellings" "I", Cond.methodLink RL 32 yX4_setting, Cond.instanceMethod yX4_setting, Cond.selects RX4 yX4_setting yX4_setting, Cond.code yX4_setting cX4_setting 2 (some .int), Cond.fieldLink RX4 104 "WireLoom$State" "settings" "[I", Cond.methodLink RX4 97 yX4_isSetting, Cond.static yX4_isSetting]
def wsL_holds_r7 : List Cond := [Cond.code yX4_isSetting cX4_isSetting 1 (some .boolean), Cond.methodLink RL 75 yX4_rightShare, Cond.instanceMethod yX4_rightShare, Cond.selects RX4 yX4_rightShare yX4_rightShare, Cond.code yX4_rightShare cX4_rightShare 1 (some .double), Cond.constantDouble RX4 278 (4625196817309499392), Cond.methodLink RL 29 yX4_told, Cond.instanceMethod yX4_told, Cond.selects RX4 yX4_told yX4_told, Cond.code yX4_told cX4_told 2 (some .int), Cond.fieldLink RX4 244 "WireLoom$Machine" "latest" "[I"]
def wsL_holds : List Cond := .code yL_holds cL_holds 10 (some .boolean) :: ((wsL_holds_r1 ++ (wsL_holds_r2 ++ (wsL_holds_r3 ++ (wsL_holds_r4 ++ (wsL_holds_r5 ++ (wsL_holds_r6 ++ wsL_holds_r7)))))) ++ wsX40 ++ wsX20 ++ wsX10 ++ wsX00 ++ (vx_atS RX4 56 "java/lang/IndexOutOfBoundsException" ["java/lang/RuntimeException", "java/lang/Exception"]).filter goodWord ++ (vx_atS RX4 83 "java/lang/IllegalArgumentException" ["java/lang/RuntimeException", "java/lang/Exception"]).filter goodWord)
def wsL_isAhead_r1 : List Cond := [Cond.methodLink RL 81 yL_looks, Cond.static yL_looks, Cond.initialized RL, Cond.code yL_looks cL_looks 4 (some .long), Cond.constantLong RL 9 (13), Cond.constantLong RL 11 (31), Cond.methodLink RL 13 yX4_count, Cond.instanceMethod yX4_count, Cond.selects RX4 yX4_count yX4_count, Cond.initialized RX4, Cond.code yX4_count cX4_count 2 (some .int), Cond.classLink RX4 79 "java/lang/IllegalArgumentException", Cond.initialized "java/lang/IllegalArgumentException", Cond.fieldLink RX4 10 "WireLoom" "now" "LWireLoom$State;", Cond.fieldLink RX4 250 "WireLoom$State" "crossingsChanged" "I", Cond.fieldLink RX4 253 "WireLoom$State" "readingsDone" "I", Cond.fieldLink RX4 88 "WireLoom$State" "guarded" "I", Cond.fieldLink RX4 22 "WireLoom" "past" "LWireLoom$Past;", Cond.fieldLink RX4 178 "WireLoom$Past" "size" "I", Cond.methodLink RX4 173 yX2_crossingsByThreads, Cond.instanceMethod yX2_crossingsByThreads, Cond.selects RX2 yX2_crossingsByThreads yX2_crossingsByThreads, Cond.initialized RX2, Cond.code yX2_crossingsByThreads cX2_crossingsByThreads 3 (some .int)]
def wsL_isAhead_r2 : List Cond := [Cond.fieldLink RX2 9 "WireLoom$State" "rings" "[I", Cond.methodLink RX2 62 yJ6_bitCount_0f7a4, Cond.static yJ6_bitCount_0f7a4, Cond.initialized RJ6, Cond.code yJ6_bitCount_0f7a4 cJ6_bitCount_0f7a4 1 (some .int), Cond.constant RJ6 265 (1431655765), Cond.constant RJ6 266 (858993459), Cond.constant RJ6 267 (252645135), Cond.methodLink RX4 247 yX2_crossingsByRings, Cond.instanceMethod yX2_crossingsByRings, Cond.selects RX2 yX2_crossingsByRings yX2_crossingsByRings, Cond.code yX2_crossingsByRings cX2_crossingsByRings 3 (some .int), Cond.methodLink RX2 67 yX2_threadsThrough, Cond.instanceMethod yX2_threadsThrough, Cond.selects RX2 yX2_threadsThrough yX2_threadsThrough, Cond.code yX2_threadsThrough cX2_threadsThrough 4 (some .int), Cond.static yX4_bit, Cond.code yX4_bit cX4_bit 2 (some .int), Cond.methodLink RX4 256 yX2_threadsRight, Cond.instanceMethod yX2_threadsRight, Cond.selects RX2 yX2_threadsRight yX2_threadsRight, Cond.code yX2_threadsRight cX2_threadsRight 3 (some .int), Cond.methodLink RX2 55 yX2_answering, Cond.instanceMethod yX2_answering]
def wsL_isAhead_r3 : List Cond := [Cond.selects RX2 yX2_answering yX2_answering, Cond.code yX2_answering cX2_answering 8 (some .int), Cond.fieldLink RX2 21 "WireLoom$State" "settings" "[I", Cond.methodLink RX2 102 yX2_strengthAt, Cond.instanceMethod yX2_strengthAt, Cond.selects RX2 yX2_strengthAt yX2_strengthAt, Cond.code yX2_strengthAt cX2_strengthAt 4 (some .int), Cond.methodLink RX2 99 Lib.Math.max.name, Cond.static Lib.Math.max.name, Cond.initialized "java/lang/Math", Cond.code Lib.Math.max.name Lib.Math.max.code 2 (some .int), Cond.fieldLink RX2 18 "WireLoom$State" "wear" "[I", Cond.methodLink RX2 96 yX2_oneThreadOn, Cond.instanceMethod yX2_oneThreadOn, Cond.selects RX2 yX2_oneThreadOn yX2_oneThreadOn, Cond.code yX2_oneThreadOn cX2_oneThreadOn 6 (some .int), Cond.fieldLink RX2 41 "WireLoom$State" "guarded" "I", Cond.methodLink RX4 189 yJ6_bitCount_0f7a4, Cond.methodLink RX4 259 yX2_greatestWear, Cond.instanceMethod yX2_greatestWear, Cond.selects RX2 yX2_greatestWear yX2_greatestWear, Cond.code yX2_greatestWear cX2_greatestWear 3 (some .int), Cond.methodLink RX4 262 yX4_pairsTellingTheSame, Cond.instanceMethod yX4_pairsTellingTheSame]
def wsL_isAhead_r4 : List Cond := [Cond.selects RX4 yX4_pairsTellingTheSame yX4_pairsTellingTheSame, Cond.code yX4_pairsTellingTheSame cX4_pairsTellingTheSame 4 (some .int), Cond.fieldLink RX4 41 "WireLoom" "wordsTold" "[I", Cond.methodLink RX4 159 yX2_tells, Cond.instanceMethod yX2_tells, Cond.selects RX2 yX2_tells yX2_tells, Cond.code yX2_tells cX2_tells 2 (some .int), Cond.methodLink RX2 51 yX2_asWord, Cond.instanceMethod yX2_asWord, Cond.selects RX2 yX2_asWord yX2_asWord, Cond.code yX2_asWord cX2_asWord 2 (some .int), Cond.methodLink RX4 265 yX2_fewestUnlikeBits, Cond.instanceMethod yX2_fewestUnlikeBits, Cond.selects RX2 yX2_fewestUnlikeBits yX2_fewestUnlikeBits, Cond.code yX2_fewestUnlikeBits cX2_fewestUnlikeBits 4 (some .int), Cond.methodLink RX2 74 Lib.Math.min.name, Cond.static Lib.Math.min.name, Cond.code Lib.Math.min.name Lib.Math.min.code 2 (some .int), Cond.methodLink RL 19 yX4_machine, Cond.instanceMethod yX4_machine, Cond.selects RX4 yX4_machine yX4_machine, Cond.code yX4_machine cX4_machine 2 (some .int), Cond.fieldLink RX4 110 "WireLoom$State" "machine" "LWireLoom$Machine;", Cond.fieldLink RX4 224 "WireLoom$Machine" "place" "I"]
def wsL_isAhead_r5 : List Cond := [Cond.fieldLink RX4 227 "WireLoom$Machine" "count" "I", Cond.fieldLink RX4 230 "WireLoom$Machine" "cells" "[I", Cond.fieldLink RX4 233 "WireLoom$Machine" "running" "Z", Cond.fieldLink RX4 114 "WireLoom$Machine" "steps" "I", Cond.fieldLink RX4 237 "WireLoom$Machine" "tellings" "I", Cond.methodLink RL 22 yX4_threadOf, Cond.instanceMethod yX4_threadOf, Cond.selects RX4 yX4_threadOf yX4_threadOf, Cond.code yX4_threadOf cX4_threadOf 3 (some .int), Cond.classLink RX4 52 "java/lang/IndexOutOfBoundsException", Cond.initialized "java/lang/IndexOutOfBoundsException", Cond.fieldLink RX4 63 "WireLoom$State" "rings" "[I", Cond.fieldLink RX4 197 "WireLoom$State" "readings" "[I", Cond.methodLink RX4 45 yX4_isThread, Cond.static yX4_isThread, Cond.code yX4_isThread cX4_isThread 1 (some .boolean), Cond.methodLink RX4 75 yX4_isWithin, Cond.static yX4_isWithin, Cond.code yX4_isWithin cX4_isWithin 3 (some .boolean), Cond.methodLink RX4 70 yX4_bit, Cond.methodLink RX4 186 yX2_means, Cond.instanceMethod yX2_means, Cond.selects RX2 yX2_means yX2_means, Cond.code yX2_means cX2_means 2 (some .int)]
def wsL_isAhead_r6 : List Cond := [Cond.methodLink RX4 194 yX2_answering, Cond.methodLink RL 26 yX4_ringOf, Cond.instanceMethod yX4_ringOf, Cond.selects RX4 yX4_ringOf yX4_ringOf, Cond.code yX4_ringOf cX4_ringOf 3 (some .int), Cond.fieldLink RX4 202 "WireLoom$State" "wear" "[I", Cond.methodLink RX4 49 yX4_isRing, Cond.static yX4_isRing, Cond.code yX4_isRing cX4_isRing 1 (some .boolean), Cond.methodLink RX4 205 yX2_threadsThrough, Cond.methodLink RX4 208 yX2_threadsAnswered, Cond.instanceMethod yX2_threadsAnswered, Cond.selects RX2 yX2_threadsAnswered yX2_threadsAnswered, Cond.code yX2_threadsAnswered cX2_threadsAnswered 4 (some .int), Cond.methodLink RX4 211 yX2_isWornOut, Cond.instanceMethod yX2_isWornOut, Cond.selects RX2 yX2_isWornOut yX2_isWornOut, Cond.code yX2_isWornOut cX2_isWornOut 2 (some .boolean), Cond.methodLink RL 29 yX4_told, Cond.instanceMethod yX4_told, Cond.selects RX4 yX4_told yX4_told, Cond.code yX4_told cX4_told 2 (some .int), Cond.fieldLink RX4 244 "WireLoom$Machine" "latest" "[I", Cond.methodLink RL 32 yX4_setting]
def wsL_isAhead_r7 : List Cond := [Cond.instanceMethod yX4_setting, Cond.selects RX4 yX4_setting yX4_setting, Cond.code yX4_setting cX4_setting 2 (some .int), Cond.fieldLink RX4 104 "WireLoom$State" "settings" "[I", Cond.methodLink RX4 97 yX4_isSetting, Cond.static yX4_isSetting, Cond.code yX4_isSetting cX4_isSetting 1 (some .boolean), Cond.methodLink RL 85 yX4_keep, Cond.instanceMethod yX4_keep, Cond.selects RX4 yX4_keep yX4_keep, Cond.code yX4_keep cX4_keep 2 (some .int), Cond.fieldLink RX4 26 "WireLoom" "snapshots" "[LWireLoom$State;", Cond.fieldLink RX4 30 "WireLoom" "kept" "[Z", Cond.methodLink RX4 165 yX4_isSlot, Cond.static yX4_isSlot, Cond.code yX4_isSlot cX4_isSlot 1 (some .boolean), Cond.methodLink RX4 170 yX2_become, Cond.instanceMethod yX2_become, Cond.selects RX2 yX2_become yX2_become, Cond.code yX2_become cX2_become 2 none, Cond.methodLink RX2 31 arraycopyName, Cond.native arraycopyName, Cond.static arraycopyName, Cond.initialized "java/lang/System"]
def wsL_isAhead_r8 : List Cond := [Cond.fieldLink RX2 15 "WireLoom$State" "readings" "[I", Cond.fieldLink RX2 27 "WireLoom$State" "machine" "LWireLoom$Machine;", Cond.fieldLink RX2 45 "WireLoom$State" "crossingsChanged" "I", Cond.fieldLink RX2 48 "WireLoom$State" "readingsDone" "I", Cond.methodLink RX2 37 yX0_becomeLike, Cond.instanceMethod yX0_becomeLike, Cond.selects RX0 yX0_becomeLike yX0_becomeLike, Cond.initialized RX0, Cond.code yX0_becomeLike cX0_becomeLike 2 none, Cond.fieldLink RX0 11 "WireLoom$Machine" "cells" "[I", Cond.methodLink RX0 38 arraycopyName, Cond.fieldLink RX0 15 "WireLoom$Machine" "latest" "[I", Cond.fieldLink RX0 21 "WireLoom$Machine" "place" "I", Cond.fieldLink RX0 25 "WireLoom$Machine" "count" "I", Cond.fieldLink RX0 28 "WireLoom$Machine" "running" "Z", Cond.fieldLink RX0 32 "WireLoom$Machine" "steps" "I", Cond.fieldLink RX0 35 "WireLoom$Machine" "tellings" "I", Cond.methodLink RL 88 yX4_lastsFor, Cond.instanceMethod yX4_lastsFor, Cond.selects RX4 yX4_lastsFor yX4_lastsFor, Cond.code yX4_lastsFor cX4_lastsFor 2 (some .int), Cond.methodLink RX4 273 yX2_readingsUntilChange, Cond.instanceMethod yX2_readingsUntilChange, Cond.selects RX2 yX2_readingsUntilChange yX2_readingsUntilChange]
def wsL_isAhead_r9 : List Cond := [Cond.code yX2_readingsUntilChange cX2_readingsUntilChange 6 (some .int), Cond.methodLink RL 55 yX4_read, Cond.instanceMethod yX4_read, Cond.selects RX4 yX4_read yX4_read, Cond.code yX4_read cX4_read 2 (some .int), Cond.methodLink RX4 59 yX1_push, Cond.instanceMethod yX1_push, Cond.selects RX1 yX1_push yX1_push, Cond.initialized RX1, Cond.code yX1_push cX1_push 2 none, Cond.fieldLink RX1 11 "WireLoom$Past" "saved" "[LWireLoom$State;", Cond.fieldLink RX1 16 "WireLoom$Past" "oldest" "I", Cond.fieldLink RX1 20 "WireLoom$Past" "size" "I", Cond.methodLink RX1 23 yX2_become, Cond.methodLink RX4 107 yX2_takeReading, Cond.instanceMethod yX2_takeReading, Cond.selects RX2 yX2_takeReading yX2_takeReading, Cond.code yX2_takeReading cX2_takeReading 3 (some .int), Cond.methodLink RX2 79 yX2_tells, Cond.methodLink RX2 58 yX2_wearRings, Cond.instanceMethod yX2_wearRings, Cond.selects RX2 yX2_wearRings yX2_wearRings, Cond.code yX2_wearRings cX2_wearRings 4 none, Cond.methodLink RL 65 yX4_goBack]
def wsL_isAhead_r10 : List Cond := [Cond.instanceMethod yX4_goBack, Cond.selects RX4 yX4_goBack yX4_goBack, Cond.code yX4_goBack cX4_goBack 2 (some .int), Cond.classLink RX4 132 "java/lang/IllegalStateException", Cond.initialized "java/lang/IllegalStateException", Cond.methodLink RL 91 yX4_bestGuard, Cond.instanceMethod yX4_bestGuard, Cond.selects RX4 yX4_bestGuard yX4_bestGuard, Cond.code yX4_bestGuard cX4_bestGuard 5 (some .int), Cond.fieldLink RX4 16 "WireLoom" "trial" "LWireLoom$State;", Cond.methodLink RL 46 yX4_guard, Cond.instanceMethod yX4_guard, Cond.selects RX4 yX4_guard yX4_guard, Cond.code yX4_guard cX4_guard 2 (some .int), Cond.methodLink RL 94 yX4_ifGone, Cond.instanceMethod yX4_ifGone, Cond.selects RX4 yX4_ifGone yX4_ifGone, Cond.code yX4_ifGone cX4_ifGone 4 (some .int), Cond.methodLink RX4 124 yX2_run, Cond.instanceMethod yX2_run, Cond.selects RX2 yX2_run yX2_run, Cond.code yX2_run cX2_run 4 (some .int), Cond.fieldLink RX2 82 "WireLoom$Machine" "running" "Z", Cond.fieldLink RX2 86 "WireLoom$Machine" "place" "I"]
def wsL_isAhead_r11 : List Cond := [Cond.methodLink RX2 89 yX2_takeReading, Cond.methodLink RX2 92 yX0_obey, Cond.instanceMethod yX0_obey, Cond.selects RX0 yX0_obey yX0_obey, Cond.code yX0_obey cX0_obey 4 none, Cond.methodLink RX0 44 yX0_tellCount, Cond.instanceMethod yX0_tellCount, Cond.selects RX0 yX0_tellCount yX0_tellCount, Cond.code yX0_tellCount cX0_tellCount 2 none, Cond.methodLink RL 62 yX4_go, Cond.instanceMethod yX4_go, Cond.selects RX4 yX4_go yX4_go, Cond.code yX4_go cX4_go 2 (some .int), Cond.methodLink RL 97 yX4_undo, Cond.instanceMethod yX4_undo, Cond.selects RX4 yX4_undo yX4_undo, Cond.code yX4_undo cX4_undo 1 (some .int), Cond.methodLink RX4 183 yX1_popInto, Cond.instanceMethod yX1_popInto, Cond.selects RX1 yX1_popInto yX1_popInto, Cond.code yX1_popInto cX1_popInto 2 none]
def wsL_isAhead : List Cond := .code yL_isAhead cL_isAhead 16 (some .boolean) :: ((wsL_isAhead_r1 ++ (wsL_isAhead_r2 ++ (wsL_isAhead_r3 ++ (wsL_isAhead_r4 ++ (wsL_isAhead_r5 ++ (wsL_isAhead_r6 ++ (wsL_isAhead_r7 ++ (wsL_isAhead_r8 ++ (wsL_isAhead_r9 ++ (wsL_isAhead_r10 ++ wsL_isAhead_r11)))))))))) ++ wsX40 ++ wsX20 ++ wsX10 ++ wsX00 ++ (vx_atS RX4 83 "java/lang/IllegalArgumentException" ["java/lang/RuntimeException", "java/lang/Exception"]).filter goodWord ++ (vx_atS RX4 56 "java/lang/IndexOutOfBoundsException" ["java/lang/RuntimeException", "java/lang/Exception"]).filter goodWord ++ (vx_atS RX4 136 "java/lang/IllegalStateException" ["java/lang/RuntimeException", "java/lang/Exception"]).filter goodWord)
def wsL_law0_r1 : List Cond := [Cond.classLink RL 14 RX4, Cond.instantiable RX4 7, Cond.initialized RX4, Cond.methodLink RL 100 yX4_init, Cond.instanceMethod yX4_init, Cond.code yX4_init cX4_init 2 none, Cond.methodLink RX4 1 objectInit, Cond.instanceMethod objectInit, Cond.code objectInit ⟨#[0xb1]⟩ 1 none, Cond.classLink RX4 7 RX2, Cond.instantiable RX2 8, Cond.initialized RX2, Cond.fieldLink RX4 10 "WireLoom" "now" "LWireLoom$State;", Cond.fieldLink RX4 16 "WireLoom" "trial" "LWireLoom$State;", Cond.classLink RX4 19 RX1, Cond.instantiable RX1 3, Cond.initialized RX1, Cond.fieldLink RX4 22 "WireLoom" "past" "LWireLoom$Past;", Cond.fieldLink RX4 26 "WireLoom" "snapshots" "[LWireLoom$State;", Cond.arrayClass .boolean, Cond.fieldLink RX4 30 "WireLoom" "kept" "[Z", Cond.classLink RX4 34 RX3, Cond.instantiable RX3 5, Cond.initialized RX3]
def wsL_law0_r2 : List Cond := [Cond.fieldLink RX4 37 "WireLoom" "buffer" "LWireLoom$Text;", Cond.arrayClass .int, Cond.fieldLink RX4 41 "WireLoom" "wordsTold" "[I", Cond.methodLink RX4 9 yX2_init, Cond.instanceMethod yX2_init, Cond.code yX2_init cX2_init 1 none, Cond.methodLink RX2 3 objectInit, Cond.fieldLink RX2 9 "WireLoom$State" "rings" "[I", Cond.fieldLink RX2 15 "WireLoom$State" "readings" "[I", Cond.fieldLink RX2 18 "WireLoom$State" "wear" "[I", Cond.fieldLink RX2 21 "WireLoom$State" "settings" "[I", Cond.classLink RX2 24 RX0, Cond.instantiable RX0 7, Cond.initialized RX0, Cond.fieldLink RX2 27 "WireLoom$State" "machine" "LWireLoom$Machine;", Cond.methodLink RX2 26 yX0_init, Cond.instanceMethod yX0_init, Cond.code yX0_init cX0_init 1 none, Cond.methodLink RX0 3 objectInit, Cond.fieldLink RX0 11 "WireLoom$Machine" "cells" "[I", Cond.fieldLink RX0 15 "WireLoom$Machine" "latest" "[I", Cond.methodLink RX0 18 yX0_begin, Cond.instanceMethod yX0_begin, Cond.selects RX0 yX0_begin yX0_begin]
def wsL_law0_r3 : List Cond := [Cond.code yX0_begin cX0_begin 2 none, Cond.fieldLink RX0 21 "WireLoom$Machine" "place" "I", Cond.fieldLink RX0 25 "WireLoom$Machine" "count" "I", Cond.fieldLink RX0 28 "WireLoom$Machine" "running" "Z", Cond.fieldLink RX0 32 "WireLoom$Machine" "steps" "I", Cond.fieldLink RX0 35 "WireLoom$Machine" "tellings" "I", Cond.methodLink RX4 21 yX1_init, Cond.instanceMethod yX1_init, Cond.code yX1_init cX1_init 2 none, Cond.methodLink RX1 1 objectInit, Cond.classLink RX1 9 RX2, Cond.fieldLink RX1 11 "WireLoom$Past" "saved" "[LWireLoom$State;", Cond.methodLink RX1 15 yX2_init, Cond.instanceMethod yX3_init, Cond.code yX3_init cX3_init 1 none, Cond.methodLink RX3 3 objectInit, Cond.fieldLink RX3 11 "WireLoom$Text" "codes" "[I", Cond.fieldLink RX3 15 "WireLoom$Text" "words" "[I", Cond.methodLink RL 85 yX4_keep, Cond.instanceMethod yX4_keep, Cond.selects RX4 yX4_keep yX4_keep, Cond.code yX4_keep cX4_keep 2 (some .int), Cond.classLink RX4 79 "java/lang/IllegalArgumentException", Cond.initialized "java/lang/IllegalArgumentException"]
def wsL_law0_r4 : List Cond := [Cond.methodLink RX4 165 yX4_isSlot, Cond.static yX4_isSlot, Cond.code yX4_isSlot cX4_isSlot 1 (some .boolean), Cond.methodLink RX4 75 yX4_isWithin, Cond.static yX4_isWithin, Cond.code yX4_isWithin cX4_isWithin 3 (some .boolean), Cond.methodLink RX4 170 yX2_become, Cond.instanceMethod yX2_become, Cond.selects RX2 yX2_become yX2_become, Cond.code yX2_become cX2_become 2 none, Cond.methodLink RX2 31 arraycopyName, Cond.native arraycopyName, Cond.static arraycopyName, Cond.initialized "java/lang/System", Cond.fieldLink RX2 41 "WireLoom$State" "guarded" "I", Cond.fieldLink RX2 45 "WireLoom$State" "crossingsChanged" "I", Cond.fieldLink RX2 48 "WireLoom$State" "readingsDone" "I", Cond.methodLink RX2 37 yX0_becomeLike, Cond.instanceMethod yX0_becomeLike, Cond.selects RX0 yX0_becomeLike yX0_becomeLike, Cond.code yX0_becomeLike cX0_becomeLike 2 none, Cond.methodLink RX0 38 arraycopyName, Cond.methodLink RX4 173 yX2_crossingsByThreads, Cond.instanceMethod yX2_crossingsByThreads]
def wsL_law0_r5 : List Cond := [Cond.selects RX2 yX2_crossingsByThreads yX2_crossingsByThreads, Cond.code yX2_crossingsByThreads cX2_crossingsByThreads 3 (some .int), Cond.methodLink RX2 62 yJ6_bitCount_0f7a4, Cond.static yJ6_bitCount_0f7a4, Cond.initialized RJ6, Cond.code yJ6_bitCount_0f7a4 cJ6_bitCount_0f7a4 1 (some .int), Cond.constant RJ6 265 (1431655765), Cond.constant RJ6 266 (858993459), Cond.constant RJ6 267 (252645135), Cond.methodLink RL 101 yL_holds, Cond.static yL_holds, Cond.initialized RL, Cond.code yL_holds cL_holds 10 (some .boolean), Cond.constantDouble RL 79 (4625196817309499392), Cond.methodLink RL 22 yX4_threadOf, Cond.instanceMethod yX4_threadOf, Cond.selects RX4 yX4_threadOf yX4_threadOf, Cond.code yX4_threadOf cX4_threadOf 3 (some .int), Cond.classLink RX4 52 "java/lang/IndexOutOfBoundsException", Cond.initialized "java/lang/IndexOutOfBoundsException", Cond.fieldLink RX4 63 "WireLoom$State" "rings" "[I", Cond.fieldLink RX4 88 "WireLoom$State" "guarded" "I", Cond.fieldLink RX4 197 "WireLoom$State" "readings" "[I", Cond.methodLink RX4 45 yX4_isThread]
def wsL_law0_r6 : List Cond := [Cond.static yX4_isThread, Cond.code yX4_isThread cX4_isThread 1 (some .boolean), Cond.methodLink RX4 70 yX4_bit, Cond.static yX4_bit, Cond.code yX4_bit cX4_bit 2 (some .int), Cond.methodLink RX4 186 yX2_means, Cond.instanceMethod yX2_means, Cond.selects RX2 yX2_means yX2_means, Cond.code yX2_means cX2_means 2 (some .int), Cond.methodLink RX2 51 yX2_asWord, Cond.instanceMethod yX2_asWord, Cond.selects RX2 yX2_asWord yX2_asWord, Cond.code yX2_asWord cX2_asWord 2 (some .int), Cond.methodLink RX4 159 yX2_tells, Cond.instanceMethod yX2_tells, Cond.selects RX2 yX2_tells yX2_tells, Cond.code yX2_tells cX2_tells 2 (some .int), Cond.methodLink RX2 55 yX2_answering, Cond.instanceMethod yX2_answering, Cond.selects RX2 yX2_answering yX2_answering, Cond.code yX2_answering cX2_answering 8 (some .int), Cond.methodLink RX2 102 yX2_strengthAt, Cond.instanceMethod yX2_strengthAt, Cond.selects RX2 yX2_strengthAt yX2_strengthAt]
def wsL_law0_r7 : List Cond := [Cond.code yX2_strengthAt cX2_strengthAt 4 (some .int), Cond.methodLink RX2 99 Lib.Math.max.name, Cond.static Lib.Math.max.name, Cond.initialized "java/lang/Math", Cond.code Lib.Math.max.name Lib.Math.max.code 2 (some .int), Cond.methodLink RX2 96 yX2_oneThreadOn, Cond.instanceMethod yX2_oneThreadOn, Cond.selects RX2 yX2_oneThreadOn yX2_oneThreadOn, Cond.code yX2_oneThreadOn cX2_oneThreadOn 6 (some .int), Cond.methodLink RX4 189 yJ6_bitCount_0f7a4, Cond.methodLink RX4 194 yX2_answering, Cond.methodLink RL 72 yL_bits, Cond.static yL_bits, Cond.code yL_bits cL_bits 3 (some .int), Cond.methodLink RL 26 yX4_ringOf, Cond.instanceMethod yX4_ringOf, Cond.selects RX4 yX4_ringOf yX4_ringOf, Cond.code yX4_ringOf cX4_ringOf 3 (some .int), Cond.fieldLink RX4 202 "WireLoom$State" "wear" "[I", Cond.methodLink RX4 49 yX4_isRing, Cond.static yX4_isRing, Cond.code yX4_isRing cX4_isRing 1 (some .boolean), Cond.methodLink RX4 205 yX2_threadsThrough, Cond.instanceMethod yX2_threadsThrough]
def wsL_law0_r8 : List Cond := [Cond.selects RX2 yX2_threadsThrough yX2_threadsThrough, Cond.code yX2_threadsThrough cX2_threadsThrough 4 (some .int), Cond.methodLink RX4 208 yX2_threadsAnswered, Cond.instanceMethod yX2_threadsAnswered, Cond.selects RX2 yX2_threadsAnswered yX2_threadsAnswered, Cond.code yX2_threadsAnswered cX2_threadsAnswered 4 (some .int), Cond.methodLink RX4 211 yX2_isWornOut, Cond.instanceMethod yX2_isWornOut, Cond.selects RX2 yX2_isWornOut yX2_isWornOut, Cond.code yX2_isWornOut cX2_isWornOut 2 (some .boolean), Cond.methodLink RX2 67 yX2_threadsThrough, Cond.methodLink RL 13 yX4_count, Cond.instanceMethod yX4_count, Cond.selects RX4 yX4_count yX4_count, Cond.code yX4_count cX4_count 2 (some .int), Cond.fieldLink RX4 250 "WireLoom$State" "crossingsChanged" "I", Cond.fieldLink RX4 253 "WireLoom$State" "readingsDone" "I", Cond.fieldLink RX4 178 "WireLoom$Past" "size" "I", Cond.methodLink RX4 247 yX2_crossingsByRings, Cond.instanceMethod yX2_crossingsByRings, Cond.selects RX2 yX2_crossingsByRings yX2_crossingsByRings, Cond.code yX2_crossingsByRings cX2_crossingsByRings 3 (some .int), Cond.methodLink RX4 256 yX2_threadsRight, Cond.instanceMethod yX2_threadsRight]
def wsL_law0_r9 : List Cond := [Cond.selects RX2 yX2_threadsRight yX2_threadsRight, Cond.code yX2_threadsRight cX2_threadsRight 3 (some .int), Cond.methodLink RX4 259 yX2_greatestWear, Cond.instanceMethod yX2_greatestWear, Cond.selects RX2 yX2_greatestWear yX2_greatestWear, Cond.code yX2_greatestWear cX2_greatestWear 3 (some .int), Cond.methodLink RX4 262 yX4_pairsTellingTheSame, Cond.instanceMethod yX4_pairsTellingTheSame, Cond.selects RX4 yX4_pairsTellingTheSame yX4_pairsTellingTheSame, Cond.code yX4_pairsTellingTheSame cX4_pairsTellingTheSame 4 (some .int), Cond.methodLink RX4 265 yX2_fewestUnlikeBits, Cond.instanceMethod yX2_fewestUnlikeBits, Cond.selects RX2 yX2_fewestUnlikeBits yX2_fewestUnlikeBits, Cond.code yX2_fewestUnlikeBits cX2_fewestUnlikeBits 4 (some .int), Cond.methodLink RX2 74 Lib.Math.min.name, Cond.static Lib.Math.min.name, Cond.code Lib.Math.min.name Lib.Math.min.code 2 (some .int), Cond.methodLink RL 19 yX4_machine, Cond.instanceMethod yX4_machine, Cond.selects RX4 yX4_machine yX4_machine, Cond.code yX4_machine cX4_machine 2 (some .int), Cond.fieldLink RX4 110 "WireLoom$State" "machine" "LWireLoom$Machine;", Cond.fieldLink RX4 224 "WireLoom$Machine" "place" "I", Cond.fieldLink RX4 227 "WireLoom$Machine" "count" "I"]
def wsL_law0_r10 : List Cond := [Cond.fieldLink RX4 230 "WireLoom$Machine" "cells" "[I", Cond.fieldLink RX4 233 "WireLoom$Machine" "running" "Z", Cond.fieldLink RX4 114 "WireLoom$Machine" "steps" "I", Cond.fieldLink RX4 237 "WireLoom$Machine" "tellings" "I", Cond.methodLink RL 32 yX4_setting, Cond.instanceMethod yX4_setting, Cond.selects RX4 yX4_setting yX4_setting, Cond.code yX4_setting cX4_setting 2 (some .int), Cond.fieldLink RX4 104 "WireLoom$State" "settings" "[I", Cond.methodLink RX4 97 yX4_isSetting, Cond.static yX4_isSetting, Cond.code yX4_isSetting cX4_isSetting 1 (some .boolean), Cond.methodLink RL 75 yX4_rightShare, Cond.instanceMethod yX4_rightShare, Cond.selects RX4 yX4_rightShare yX4_rightShare, Cond.code yX4_rightShare cX4_rightShare 1 (some .double), Cond.constantDouble RX4 278 (4625196817309499392), Cond.methodLink RL 29 yX4_told, Cond.instanceMethod yX4_told, Cond.selects RX4 yX4_told yX4_told, Cond.code yX4_told cX4_told 2 (some .int), Cond.fieldLink RX4 244 "WireLoom$Machine" "latest" "[I", Cond.methodLink RL 105 yL_cell, Cond.static yL_cell]
def wsL_law0_r11 : List Cond := [Cond.code yL_cell cL_cell 2 (some .int), Cond.constant RL 7 (1812433253), Cond.methodLink RL 81 yL_looks, Cond.static yL_looks, Cond.code yL_looks cL_looks 4 (some .long), Cond.constantLong RL 9 (13), Cond.constantLong RL 11 (31), Cond.methodLink RL 109 yL_act, Cond.static yL_act, Cond.code yL_act cL_act 4 (some .int), Cond.methodLink RL 35 yL_up, Cond.static yL_up, Cond.code yL_up cL_up 2 (some .int), Cond.constant RL 8 (2147483647), Cond.methodLink RL 40 yX4_cross, Cond.instanceMethod yX4_cross, Cond.selects RX4 yX4_cross yX4_cross, Cond.code yX4_cross cX4_cross 3 (some .int), Cond.methodLink RX4 59 yX1_push, Cond.instanceMethod yX1_push, Cond.selects RX1 yX1_push yX1_push, Cond.code yX1_push cX1_push 2 none, Cond.fieldLink RX1 16 "WireLoom$Past" "oldest" "I", Cond.fieldLink RX1 20 "WireLoom$Past" "size" "I"]
def wsL_law0_r12 : List Cond := [Cond.methodLink RX1 23 yX2_become, Cond.methodLink RX4 66 yX2_layThrough, Cond.instanceMethod yX2_layThrough, Cond.selects RX2 yX2_layThrough yX2_layThrough, Cond.code yX2_layThrough cX2_layThrough 5 (some .int), Cond.methodLink RX2 58 yX2_wearRings, Cond.instanceMethod yX2_wearRings, Cond.selects RX2 yX2_wearRings yX2_wearRings, Cond.code yX2_wearRings cX2_wearRings 4 none, Cond.methodLink RL 43 yX4_lay, Cond.instanceMethod yX4_lay, Cond.selects RX4 yX4_lay yX4_lay, Cond.code yX4_lay cX4_lay 3 (some .int), Cond.methodLink RX4 84 yX2_asWord, Cond.methodLink RL 46 yX4_guard, Cond.instanceMethod yX4_guard, Cond.selects RX4 yX4_guard yX4_guard, Cond.code yX4_guard cX4_guard 2 (some .int), Cond.methodLink RL 49 yX4_set, Cond.instanceMethod yX4_set, Cond.selects RX4 yX4_set yX4_set, Cond.code yX4_set cX4_set 4 (some .int), Cond.methodLink RL 52 yX4_change, Cond.instanceMethod yX4_change]
def wsL_law0_r13 : List Cond := [Cond.selects RX4 yX4_change yX4_change, Cond.code yX4_change cX4_change 2 (some .int), Cond.methodLink RX4 94 yX2_renewRing, Cond.instanceMethod yX2_renewRing, Cond.selects RX2 yX2_renewRing yX2_renewRing, Cond.code yX2_renewRing cX2_renewRing 4 (some .int), Cond.methodLink RL 55 yX4_read, Cond.instanceMethod yX4_read, Cond.selects RX4 yX4_read yX4_read, Cond.code yX4_read cX4_read 2 (some .int), Cond.methodLink RX4 107 yX2_takeReading, Cond.instanceMethod yX2_takeReading, Cond.selects RX2 yX2_takeReading yX2_takeReading, Cond.code yX2_takeReading cX2_takeReading 3 (some .int), Cond.methodLink RX2 79 yX2_tells, Cond.methodLink RL 58 yX4_start, Cond.instanceMethod yX4_start, Cond.selects RX4 yX4_start yX4_start, Cond.code yX4_start cX4_start 2 (some .int), Cond.methodLink RX4 119 yX0_begin, Cond.methodLink RL 62 yX4_go, Cond.instanceMethod yX4_go, Cond.selects RX4 yX4_go yX4_go, Cond.code yX4_go cX4_go 2 (some .int)]
def wsL_law0_r14 : List Cond := [Cond.methodLink RX4 124 yX2_run, Cond.instanceMethod yX2_run, Cond.selects RX2 yX2_run yX2_run, Cond.code yX2_run cX2_run 4 (some .int), Cond.fieldLink RX2 82 "WireLoom$Machine" "running" "Z", Cond.fieldLink RX2 86 "WireLoom$Machine" "place" "I", Cond.methodLink RX2 89 yX2_takeReading, Cond.methodLink RX2 92 yX0_obey, Cond.instanceMethod yX0_obey, Cond.selects RX0 yX0_obey yX0_obey, Cond.code yX0_obey cX0_obey 4 none, Cond.methodLink RX0 44 yX0_tellCount, Cond.instanceMethod yX0_tellCount, Cond.selects RX0 yX0_tellCount yX0_tellCount, Cond.code yX0_tellCount cX0_tellCount 2 none, Cond.methodLink RL 65 yX4_goBack, Cond.instanceMethod yX4_goBack, Cond.selects RX4 yX4_goBack yX4_goBack, Cond.code yX4_goBack cX4_goBack 2 (some .int), Cond.classLink RX4 132 "java/lang/IllegalStateException", Cond.initialized "java/lang/IllegalStateException", Cond.methodLink RL 97 yX4_undo, Cond.instanceMethod yX4_undo, Cond.selects RX4 yX4_undo yX4_undo]
def wsL_law0_r15 : List Cond := [Cond.code yX4_undo cX4_undo 1 (some .int), Cond.methodLink RX4 183 yX1_popInto, Cond.instanceMethod yX1_popInto, Cond.selects RX1 yX1_popInto yX1_popInto, Cond.code yX1_popInto cX1_popInto 2 none, Cond.methodLink RL 113 yL_isStrong, Cond.static yL_isStrong, Cond.code yL_isStrong cL_isStrong 11 (some .boolean), Cond.methodLink RL 68 yX4_strength, Cond.instanceMethod yX4_strength, Cond.selects RX4 yX4_strength yX4_strength, Cond.code yX4_strength cX4_strength 4 (some .int), Cond.methodLink RX4 216 yX2_hops, Cond.instanceMethod yX2_hops, Cond.selects RX2 yX2_hops yX2_hops, Cond.code yX2_hops cX2_hops 5 (some .int), Cond.methodLink RX4 219 yX2_strengthAt, Cond.methodLink RL 117 yL_isAhead, Cond.static yL_isAhead, Cond.code yL_isAhead cL_isAhead 16 (some .boolean), Cond.methodLink RL 88 yX4_lastsFor, Cond.instanceMethod yX4_lastsFor, Cond.selects RX4 yX4_lastsFor yX4_lastsFor, Cond.code yX4_lastsFor cX4_lastsFor 2 (some .int)]
def wsL_law0_r16 : List Cond := [Cond.methodLink RX4 273 yX2_readingsUntilChange, Cond.instanceMethod yX2_readingsUntilChange, Cond.selects RX2 yX2_readingsUntilChange yX2_readingsUntilChange, Cond.code yX2_readingsUntilChange cX2_readingsUntilChange 6 (some .int), Cond.methodLink RL 91 yX4_bestGuard, Cond.instanceMethod yX4_bestGuard, Cond.selects RX4 yX4_bestGuard yX4_bestGuard, Cond.code yX4_bestGuard cX4_bestGuard 5 (some .int), Cond.methodLink RL 94 yX4_ifGone, Cond.instanceMethod yX4_ifGone, Cond.selects RX4 yX4_ifGone yX4_ifGone, Cond.code yX4_ifGone cX4_ifGone 4 (some .int)]
def wsL_law0 : List Cond := (wsL_law0_r1 ++ (wsL_law0_r2 ++ (wsL_law0_r3 ++ (wsL_law0_r4 ++ (wsL_law0_r5 ++ (wsL_law0_r6 ++ (wsL_law0_r7 ++ (wsL_law0_r8 ++ (wsL_law0_r9 ++ (wsL_law0_r10 ++ (wsL_law0_r11 ++ (wsL_law0_r12 ++ (wsL_law0_r13 ++ (wsL_law0_r14 ++ (wsL_law0_r15 ++ wsL_law0_r16))))))))))))))) ++ wsX40 ++ wsX20 ++ wsX10 ++ wsX30 ++ wsX00 ++ ([] : List Cond)
def wsL_law : List Cond := wsL_law0 ++ (vx_atS RX4 83 "java/lang/IllegalArgumentException" ["java/lang/RuntimeException", "java/lang/Exception"]).filter goodWord ++ (vx_atS RX4 56 "java/lang/IndexOutOfBoundsException" ["java/lang/RuntimeException", "java/lang/Exception"]).filter goodWord ++ (vx_atS RX4 136 "java/lang/IllegalStateException" ["java/lang/RuntimeException", "java/lang/Exception"]).filter goodWord
abbrev vwCl : List vw_C := [(RX0, TX0, 7), (RX1, TX1, 3), (RX2, TX2, 8), (RX3, TX3, 5), (RX4, TX4, 7)]
