-- the constructors
def KC (U : State) : Prop := va_AO "WireLoom$State" U ∧ va_Nw (.methodLinkNest RX4 36 yX3_init "WireLoom") U
theorem KC.moved {s U : State} (hW : s.WarmedH U.vm) (h : KC s) : KC U := ⟨va_AO.moved hW.alike h.1, va_Nw.warmM hW h.2⟩
def preK (D : va_G) (cA : Nat → ClassId) (av : List Value) (H : Heap) : Array Value → State → Prop := va_Pc av (fun U => U.heap = H ∧ KN D cA U ∧ KC U)
theorem preK_blind {D : va_G} {cA : Nat → ClassId} {av : List Value} {H : Heap} : FrameBlind (preK D cA av H) := by
  intro a U g mk q
  obtain ⟨q0, q1, q2, q3⟩ := q
  exact ⟨q0, q1, ⟨va_K.moved (u := U) (U := U.calling g mk a) (Vm.Alike.refl U.vm) q2.1, va_Nw.same rfl rfl q2.2⟩, va_AO.moved (u := U) (U := U.calling g mk a) (Vm.Alike.refl U.vm) q3.1, va_Nw.same rfl rfl q3.2⟩
def mkQ {X : Type} (D : va_G) (H : Heap) (w0 : va_W) (px : X → Prop) (w1 : X → va_W) : Array Value → State → Outcome → State → Prop := fun _ _ o t => o = .returned none ∧ (∃ x, px x ∧ va_P D vwCl (w1 x) t.heap ∧ va_D (va_A w0 H.size) (w1 x)) ∧ H.size ≤ t.heap.size ∧ ∀ q : Nat, q < H.size → ¬ va_A w0 H.size q → t.heap[q]? = H[q]?
def MK {X : Type} (l : Launch) (y : MethodName) (ws : List Cond) (rm : Room) (D : va_G) (cA : Nat → ClassId) (av : List Value) (H : Heap) (w0 : va_W) (px : X → Prop) (w1 : X → va_W) (mc ms : Nat) : Prop := Met l y ws rm (preK D cA av H) (mkQ D H w0 px w1) mc ms (va_A w0 H.size)
def initS : SV := (fun _ => 0, fun _ => 0, fun _ => 0, upd (fun _ => 0) 0 6, 0, 0, 0, fun _ => 0, fun _ => -1, 0, 0, 1, 0, 0)
section CTOR
variable {p : Program} {l : Launch} {e : Env} {R : Room} {s : State} {m : MethodId} {args : Array Value} {below : List Frame} {meth : Method} {c : Code} {H : Heap} {locs : List Loc} {cells slots : Nat} {Q : State → Prop}
variable {y : MethodName} {bytes cc : ByteArray} {maxL nL n index mc ms : Nat} {ret : Option FieldType} {ws : List Cond} {rm : Room} {Ts : List Cond} {own C : String} {b : Addr} {As rest st0 : List Value} {pc : Nat} {ls : Array Slot} {D : va_G} {cA : Nat → ClassId}
theorem va_P_comm {a b : va_W} (h : va_P D vwCl (a ++ b) H) : va_P D vwCl (b ++ a) H := va_P_perm List.perm_append_comm h
theorem va_D_comm {A : Nat → Prop} {a b : va_W} (h : va_D A (a ++ b)) : va_D A (b ++ a) := va_D_perm List.perm_append_comm h
theorem perm_rot (h b x : va_W) : ((h ++ b) ++ x).Perm ((h ++ x) ++ b) := by
  rw [List.append_assoc, List.append_assoc]
  exact List.Perm.append_left h List.perm_append_comm
theorem perm_sink (x h b : va_W) : (x ++ (h ++ b)).Perm (h ++ (x ++ b)) := by
  rw [← List.append_assoc, ← List.append_assoc]
  exact List.Perm.append_right b List.perm_append_comm
theorem KT_int {cX : ClassId} (hK : va_K D vwCl (KT cA) s) (hX : va_K D vwCl (KT cA ++ [(cX, .int)]) s) : cX = cA 0 := by
  have h1 := (hK.2 0 (cA 0, .int) rfl).2
  have h2 := (hX.2 3 (cX, .int) rfl).2
  exact Option.some.inj (h2.symm.trans h1)
theorem KT_bool {cX : ClassId} (hK : va_K D vwCl (KT cA) s) (hX : va_K D vwCl (KT cA ++ [(cX, .boolean)]) s) : cX = cA 1 := by
  have h1 := (hK.2 1 (cA 1, .boolean) rfl).2
  have h2 := (hX.2 3 (cX, .boolean) rfl).2
  exact Option.some.inj (h2.symm.trans h1)
theorem KT_st {cX : ClassId} (hK : va_K D vwCl (KT cA) s) (hX : va_K D vwCl (KT cA ++ [(cX, .object "WireLoom$State")]) s) : cX = cA 2 := by
  obtain ⟨_, _, _, _, _, h1⟩ := (hK.2 2 (cA 2, .object "WireLoom$State") rfl).2
  obtain ⟨_, _, _, _, _, h2⟩ := (hX.2 3 (cX, .object "WireLoom$State") rfl).2
  exact Option.some.inj (h2.symm.trans h1)
theorem mk_newi {A : Nat → Prop} {H0 : Heap} {wsW : va_W} (N : Nat) (hexec : p.tables.exec = Jvm.exec) (hb : c.code = cc) (harr : (Cond.arrayClass .int).before args s = true) (hK : va_K D vwCl (KT cA) s) (hP : va_P D vwCl wsW H) (hD : va_D A wsW) (hS : va_S A H0 H locs) (hA : ∀ q, H0.size ≤ q → A q)
    {n : Int32} (hn : ¬ n < 0) (hN : n.toNatClampNeg = N) (hbytes : N * 4 ≤ 536870912) (hcells : cells + 1 ≤ R.cells) (hslots : slots + N ≤ R.slots) (hdg : decode cc pc = .ok (.newarray .int, 2))
    (kk : ∀ (q : Nat) (H1 : Heap), va_P D vwCl (wsW ++ [(q, .inl (cA 0, N, .inl (fun _ => 0)))]) H1 → va_D A (wsW ++ [(q, .inl (cA 0, N, .inl (fun _ => 0)))]) → va_S A H0 H1 locs → W p l e R s m args below meth c H1 locs (cells + 1) (slots + N) Q (F0 m (pc + 2) ls (.ref q :: rest))) : W p l e R s m args below meth c H locs cells slots Q (F0 m pc ls (.int n :: rest)) := by
  refine va_newa (atype := .int) (ty := .int) (a0 := (N, .inl (fun _ => 0))) hexec hb harr rfl hK hP hD hS hA (fun cX => rfl) hn hN hbytes hcells hslots hdg (fun q cX H1 hK1 hP1 hD1 hS1 => ?_)
  obtain rfl := KT_int hK hK1
  exact kk q H1 hP1 hD1 hS1
theorem mk_newz {A : Nat → Prop} {H0 : Heap} {wsW : va_W} (N : Nat) (hexec : p.tables.exec = Jvm.exec) (hb : c.code = cc) (harr : (Cond.arrayClass .boolean).before args s = true) (hK : va_K D vwCl (KT cA) s) (hP : va_P D vwCl wsW H) (hD : va_D A wsW) (hS : va_S A H0 H locs) (hA : ∀ q, H0.size ≤ q → A q)
    {n : Int32} (hn : ¬ n < 0) (hN : n.toNatClampNeg = N) (hbytes : N * 1 ≤ 536870912) (hcells : cells + 1 ≤ R.cells) (hslots : slots + N ≤ R.slots) (hdg : decode cc pc = .ok (.newarray .boolean, 2))
    (kk : ∀ (q : Nat) (H1 : Heap), va_P D vwCl (wsW ++ [(q, .inl (cA 1, N, .inl (fun _ => 0)))]) H1 → va_D A (wsW ++ [(q, .inl (cA 1, N, .inl (fun _ => 0)))]) → va_S A H0 H1 locs → W p l e R s m args below meth c H1 locs (cells + 1) (slots + N) Q (F0 m (pc + 2) ls (.ref q :: rest))) : W p l e R s m args below meth c H locs cells slots Q (F0 m pc ls (.int n :: rest)) := by
  refine va_newa (atype := .boolean) (ty := .boolean) (a0 := (N, .inl (fun _ => 0))) hexec hb harr rfl hK hP hD hS hA (fun cX => rfl) hn hN hbytes hcells hslots hdg (fun q cX H1 hK1 hP1 hD1 hS1 => ?_)
  obtain rfl := KT_bool hK hK1
  exact kk q H1 hP1 hD1 hS1
theorem mk_newq {A : Nat → Prop} {H0 : Heap} {wsW : va_W} (N : Nat) (hexec : p.tables.exec = Jvm.exec) (hb : c.code = cc) (hown : s.vm.findClass own = some m.cls) (hclink : (Cond.classLink own index "WireLoom$State").before args s = true) (hover : va_AO "WireLoom$State" s) (hK : va_K D vwCl (KT cA) s) (hP : va_P D vwCl wsW H) (hD : va_D A wsW) (hS : va_S A H0 H locs) (hA : ∀ q, H0.size ≤ q → A q)
    {n : Int32} (hn : ¬ n < 0) (hN : n.toNatClampNeg = N) (hbytes : N * 4 ≤ 536870912) (hcells : cells + 1 ≤ R.cells) (hslots : slots + N ≤ R.slots) (hdg : decode cc pc = .ok (.anewarray index, 3))
    (kk : ∀ (q : Nat) (H1 : Heap), va_P D vwCl (wsW ++ [(q, .inl (cA 2, N, .inr (.inr (.inr (.inr (fun _ => none))))))]) H1 → va_D A (wsW ++ [(q, .inl (cA 2, N, .inr (.inr (.inr (.inr (fun _ => none))))))]) → va_S A H0 H1 locs → W p l e R s m args below meth c H1 locs (cells + 1) (slots + N) Q (F0 m (pc + 3) ls (.ref q :: rest))) : W p l e R s m args below meth c H locs cells slots Q (F0 m pc ls (.int n :: rest)) := by
  refine va_newq hexec hb hown hclink hover hK hP hD hS hA hn hN hbytes hcells hslots hdg (fun q cX H1 hK1 hP1 hD1 hS1 => ?_)
  obtain rfl := KT_st hK hK1
  exact kk q H1 hP1 hD1 hS1
theorem mk_run {X : Type} {px : X → Prop} {w1 : X → va_W} {A0 : Nat → Prop} {H0 : Heap} {wc wo : va_W} {Qa : Array Value} (hr : va_Run p l e R s m args below meth c H locs cells slots mc ms (F0 m pc ls st0) rest (mkQ D H wc px w1 Qa) (va_A wc H.size))
    (hP : va_P D vwCl (wc ++ wo) H) (hD : va_D A0 (wc ++ wo)) (hS : va_S A0 H0 H locs) (hA : ∀ q, H0.size ≤ q → A0 q)
    (kk : ∀ (x : X) (H1 : Heap) (locs1 : List Loc), px x → va_P D vwCl (w1 x ++ wo) H1 → va_D A0 (w1 x ++ wo) → va_S A0 H0 H1 locs1 → W p l e R s m args below meth c H1 locs1 (cells + mc) (slots + ms) Q (F0 m (pc + 3) ls rest)) : W p l e R s m args below meth c H locs cells slots Q (F0 m pc ls st0) := by
  intro T hT Xs
  obtain ⟨v', st₀, t, T', L, h0, X', hL, e1, e2, ⟨hv, ⟨x, hpx, hp1, hd1⟩, hz, hk⟩, st⟩ := hr T hT Xs
  cases hv
  have hF : ∀ q, va_A wc H.size q → A0 q := by
    intro q h
    rcases h with ⟨k, e9, h⟩ | h
    · exact hD.2 k (q, e9) (by rw [List.getElem?_append_left (List.getElem?_eq_some_iff.mp h).1]; exact h)
    · exact hA q (Nat.le_trans hS.1 h)
  have hwo : ∀ (k : Nat) (q : Nat × va_E), wo[k]? = some q → (wc ++ wo)[wc.length + k]? = some q := by
    intro k q hq
    rw [List.getElem?_append_right (Nat.le_add_right _ _), Nat.add_sub_cancel_left]
    exact hq
  have hout : ∀ (k : Nat) (q : Nat × va_E), wo[k]? = some q → q.1 < H.size ∧ ¬ va_A wc H.size q.1 := by
    intro k q hq
    have hq2 := hwo k q hq
    have hl := (hP _ q hq2).lt
    refine ⟨hl, fun h => ?_⟩
    rcases h with ⟨j, e9, h⟩ | h
    · have hj := (List.getElem?_eq_some_iff.mp h).1
      have := hD.1 j (wc.length + k) (q.1, e9) q (by rw [List.getElem?_append_left hj]; exact h) hq2 rfl
      omega
    · omega
  have hP2 : va_P D vwCl (w1 x ++ wo) t.heap := va_P.app hp1 (fun k q hq => (hP _ q (hwo k q hq)).kept (hk q.1 (hout k q hq).1 (hout k q hq).2))
  have hDo : va_D A0 wo := by
    rw [va_D_iff] at hD ⊢
    rw [List.map_append] at hD
    exact ⟨hD.1.sublist (List.sublist_append_right _ _), fun q hq => hD.2 q (List.mem_append_right _ hq)⟩
  have hD2 : va_D A0 (w1 x ++ wo) := va_D.app (hd1.weaken (fun k q _ h => hF q.1 h)) hDo (fun i j u w hu hw he => (hout j w hw).2 (by rw [← he]; exact hd1.2 i u hu))
  have hS2 : va_S A0 H0 t.heap (locs ++ L) := ⟨Nat.le_trans hS.1 hz, fun q h1 h2 => by rw [hk q (Nat.lt_of_lt_of_le h1 hS.1) (fun z => h2 (hF q z))]; exact hS.2.1 q h1 h2, fun q hq => by
    rcases List.mem_append.mp hq with h | h
    · exact hS.2.2 q h
    · exact hF _ (hL q h)⟩
  obtain ⟨t2, a1, b1⟩ := kk x t.heap (locs ++ L) hpx hP2 hD2 hS2 T' e1 X'
  exact ⟨t2, st t2 a1, b1⟩
theorem mk_I {X : Type} {px : X → Prop} {w1 : X → va_W} {A0 : Nat → Prop} {H0 : Heap} {wc wo : va_W} (S : CallFix p m c cc nL s args Ts own) (hM : MK l y ws rm D cA (.ref b :: As) H wc px w1 mc ms) (cw : CallB R s args own index y bytes maxL none ws rm mc ms n ∧ y.name = "<init>" ∧ (Cond.instanceMethod y).before args s = true) (hKN : KN D cA s) (hKC : KC s)
    (hP : va_P D vwCl (wc ++ wo) H) (hD : va_D A0 (wc ++ wo)) (hS : va_S A0 H0 H locs) (hA : ∀ q, H0.size ≤ q → A0 q)
    (hn : As.length = n) (hsize : ls.size = nL) (hst : st0 = As.reverse ++ .ref b :: rest) (hW : 2 * (F0 m pc ls st0).monitorRoom + (rest.map fun v => v.category).sum ≤ 8) (hdg : decode cc pc = .ok (.invokespecial index, 3)) (hf : cells + mc ≤ R.cells ∧ slots + ms ≤ R.slots)
    (kk : ∀ (x : X) (H1 : Heap) (locs1 : List Loc), px x → va_P D vwCl (w1 x ++ wo) H1 → va_D A0 (w1 x ++ wo) → va_S A0 H0 H1 locs1 → W p l e R s m args below meth c H1 locs1 (cells + mc) (slots + ms) Q (F0 m (pc + 3) ls rest)) : W p l e R s m args below meth c H locs cells slots Q (F0 m pc ls st0) :=
  mk_run (va_runI S hM cw ⟨preK_blind, fun U hU hW => ⟨rfl, hU, hKN.moved hW, hKC.moved hW⟩⟩ rfl hn hsize hst hW hdg hf) hP hD hS hA kk
theorem mk_IN {X : Type} {px : X → Prop} {w1 : X → va_W} {A0 : Nat → Prop} {H0 : Heap} {wc wo : va_W} {host : String} (S : CallFix p m c cc nL s args Ts own) (hM : MK l y ws rm D cA (.ref b :: As) H wc px w1 mc ms) (cw : va_CN R s args own index y host bytes maxL none ws rm mc ms n ∧ y.name = "<init>" ∧ (Cond.instanceMethod y).before args s = true) (hKN : KN D cA s) (hKC : KC s)
    (hP : va_P D vwCl (wc ++ wo) H) (hD : va_D A0 (wc ++ wo)) (hS : va_S A0 H0 H locs) (hA : ∀ q, H0.size ≤ q → A0 q)
    (hn : As.length = n) (hsize : ls.size = nL) (hst : st0 = As.reverse ++ .ref b :: rest) (hW : 2 * (F0 m pc ls st0).monitorRoom + (rest.map fun v => v.category).sum ≤ 8) (hdg : decode cc pc = .ok (.invokespecial index, 3)) (hf : cells + mc ≤ R.cells ∧ slots + ms ≤ R.slots)
    (kk : ∀ (x : X) (H1 : Heap) (locs1 : List Loc), px x → va_P D vwCl (w1 x ++ wo) H1 → va_D A0 (w1 x ++ wo) → va_S A0 H0 H1 locs1 → W p l e R s m args below meth c H1 locs1 (cells + mc) (slots + ms) Q (F0 m (pc + 3) ls rest)) : W p l e R s m args below meth c H locs cells slots Q (F0 m pc ls st0) :=
  mk_run (va_runIN S hM cw ⟨preK_blind, fun U hU hW => ⟨rfl, hU, hKN.moved hW, hKC.moved hW⟩⟩ rfl hn hsize hst hW hdg hf) hP hD hS hA kk
theorem mk_vret {X : Type} {px : X → Prop} {w1 : X → va_W} {A : Nat → Prop} {w0 : va_W} (x : X) (hexec : p.tables.exec = Jvm.exec) (hb : c.code = cc) (hr : meth.sig.returnType = none) (hlocks : meth.locks = false) (hdg : decode cc pc = .ok (.return_, 1)) (hAe : va_A w0 s.heap.size = A) (hS : va_S A s.heap H locs) (hx : px x) (hP : va_P D vwCl (w1 x) H) (hD : va_D A (w1 x)) :
    W p l e R s m args below meth c H locs cells slots (MQ below (mkQ D s.heap w0 px w1) args s cells slots A) (F0 m pc ls []) := by
  subst hAe
  exact W.vret hexec hb hr (fun t ht _ => ⟨rfl, ⟨x, hx, by rw [ht]; exact hP, hD⟩, by rw [ht]; exact hS.1, fun q h1 h2 => by rw [ht]; exact hS.2.1 q h1 h2⟩) hS.2.2 hdg hlocks
end CTOR
