-- the law's large helpers: a world that is told by what it keeps (ME); a state named anew behind each call
def meQ (D : va_G) (cA : Nat → ClassId) (Ad : Nat → Nat → Nat) (H : Heap) (w0 : va_W) (P : LV → Prop) (v : Option Value) : Array Value → State → Outcome → State → Prop := fun _ _ o t => o = .returned v ∧ (∃ S, P S ∧ va_P D vwCl (all cA Ad S) t.heap) ∧ H.size ≤ t.heap.size ∧ ∀ q : Nat, q < H.size → ¬ va_A w0 H.size q → t.heap[q]? = H[q]?
def ME (l : Launch) (y : MethodName) (ws : List Cond) (rm : Room) (D : va_G) (cA : Nat → ClassId) (Ad : Nat → Nat → Nat) (av : List Value) (H : Heap) (w0 : va_W) (P : LV → Prop) (v : Option Value) : Prop := Met l y ws rm (preC D cA av H) (meQ D cA Ad H w0 P v) 0 0 (va_A w0 H.size)
/-- what the law keeps of a loom: the state now, snapshot 0 and whether it is kept -/
def LKp (u s2 : SV) (tx : TV) (k0 : Int32) (S : LV) : Prop := ∃ (f : Nat → SV) (o z : Nat) (rt : (Nat → Int32) × (Nat → Int32)), S = (f, (nI o, nI z), tx, rt) ∧ f 0 = u ∧ f 2 = s2 ∧ o < 6 ∧ z ≤ 6 ∧ rt.1 0 = k0
section PLIB
variable {p : Program} {l : Launch} {e : Env} {R : Room} {s : State} {m : MethodId} {args : Array Value} {below : List Frame} {meth : Method} {c : Code} {H : Heap} {locs : List Loc} {cells slots : Nat} {Q : State → Prop}
variable {y : MethodName} {bytes cc : ByteArray} {maxL nL n index : Nat} {ret : Option FieldType} {ws : List Cond} {rm : Room} {Ts : List Cond} {own C : String} {b : Addr} {As rest st0 : List Value} {pc : Nat} {ls : Array Slot} {D : va_G} {cA : Nat → ClassId} {Ad : Nat → Nat → Nat} {v : Option Value}
theorem me_zret {A : Nat → Prop} {w0 : va_W} {P : LV → Prop} {S : LV} {x z : Int32} (hexec : p.tables.exec = Jvm.exec) (hb : c.code = cc) (hr : meth.sig.returnType = some .boolean) (hlocks : meth.locks = false) (hdg : decode cc pc = .ok (.ireturn, 1)) (hAe : va_A w0 s.heap.size = A) (hS : va_S A s.heap H locs) (hP : va_P D vwCl (all cA Ad S) H) (hPS : P S) (hn : narrow .boolean (.int x) = .int x) (hv : x = z) :
    W p l e R s m args below meth c H locs 0 0 (MQ below (meQ D cA Ad s.heap w0 P (some (.int z))) args s 0 0 A) (F0 m pc ls [.int x]) := by
  subst hv
  subst hAe
  exact W.zret hexec hb hr hn (fun t ht _ => ⟨rfl, ⟨S, hPS, by rw [ht]; exact hP⟩, by rw [ht]; exact hS.1, fun q h1 h2 => by rw [ht]; exact hS.2.1 q h1 h2⟩) hS.2.2 hdg hlocks
/-- a static method that writes its own cells, which are the whole world -/
theorem mu_Sw {A0 : Nat → Prop} {H0 : Heap} {wc w1 : va_W} (S : CallFix p m c cc nL s args Ts own) (hM : MU l y ws rm D cA As H wc w1 v) (cw : CallB R s args own index y bytes maxL ret ws rm 0 0 n ∧ (Cond.static y).before args s = true) (hKN : KN D cA s)
    (hP : va_P D vwCl wc H) (hD : va_D A0 wc) (hS : va_S A0 H0 H locs) (hA : ∀ q, H0.size ≤ q → A0 q) (hfx : w1.map Prod.fst = wc.map Prod.fst)
    (hn : As.length = n) (hsize : ls.size = nL) (hst : st0 = As.reverse ++ rest) (hW : 2 * (F0 m pc ls st0).monitorRoom + (rest.map fun v => v.category).sum ≤ 8) (hdg : decode cc pc = .ok (.invokestatic index, 3)) (hf : cells ≤ R.cells ∧ slots ≤ R.slots)
    (kk : ∀ (H1 : Heap) (locs1 : List Loc), va_P D vwCl w1 H1 → va_D A0 w1 → va_S A0 H0 H1 locs1 → W p l e R s m args below meth c H1 locs1 cells slots Q (F0 m (pc + 3) ls (v.toList ++ rest))) : W p l e R s m args below meth c H locs cells slots Q (F0 m pc ls st0) := by
  have e0 : wc ++ [] = wc := List.append_nil wc
  have e1 : w1 ++ [] = w1 := List.append_nil w1
  refine mu_runa (va_runS S hM cw (preS_of hKN As) rfl hn hsize hst hW hdg hf) (wo := []) (by rw [e0]; exact hP) (by rw [e0]; exact hD) hS hA hfx (fun H1 locs1 h1 h2 h3 => ?_)
  rw [e1] at h1 h2
  exact kk H1 locs1 h1 h2 h3
theorem me_S {A0 : Nat → Prop} {H0 : Heap} {S0 : LV} {P : LV → Prop} (S : CallFix p m c cc nL s args Ts own) (hM : ME l y ws rm D cA Ad As H (all cA Ad S0) P v) (cw : CallB R s args own index y bytes maxL ret ws rm 0 0 n ∧ (Cond.static y).before args s = true) (hKN : KN D cA s)
    (hD : va_D A0 (all cA Ad S0)) (hS : va_S A0 H0 H locs) (hA : ∀ q, H0.size ≤ q → A0 q)
    (hn : As.length = n) (hsize : ls.size = nL) (hst : st0 = As.reverse ++ rest) (hW : 2 * (F0 m pc ls st0).monitorRoom + (rest.map fun v => v.category).sum ≤ 8) (hdg : decode cc pc = .ok (.invokestatic index, 3)) (hf : cells ≤ R.cells ∧ slots ≤ R.slots)
    (kk : ∀ (S1 : LV) (H1 : Heap) (locs1 : List Loc), P S1 → va_P D vwCl (all cA Ad S1) H1 → va_D A0 (all cA Ad S1) → va_S A0 H0 H1 locs1 → W p l e R s m args below meth c H1 locs1 cells slots Q (F0 m (pc + 3) ls (v.toList ++ rest))) : W p l e R s m args below meth c H locs cells slots Q (F0 m pc ls st0) := by
  have hr := va_runS (locs := locs) (cells := cells) (slots := slots) (meth := meth) (below := below) (e := e) S hM cw (preS_of hKN As) (g := F0 m pc ls st0) (rest := rest) rfl hn hsize hst hW hdg hf
  intro T hT X
  obtain ⟨v', st₀, t, T', L, h0, X', hL, e1, e2, ⟨hv, ⟨S1, hp1, hp2⟩, hz, hk⟩, st⟩ := hr T hT X
  cases hv
  have hF : ∀ q, va_A (all cA Ad S0) H.size q → A0 q := by
    intro q h
    rcases h with ⟨k, e9, h⟩ | h
    · exact hD.2 k (q, e9) h
    · exact hA q (Nat.le_trans hS.1 h)
  have hS2 : va_S A0 H0 t.heap (locs ++ L) := ⟨Nat.le_trans hS.1 hz, fun q h1 h2 => by rw [hk q (Nat.lt_of_lt_of_le h1 hS.1) (fun z => h2 (hF q z))]; exact hS.2.1 q h1 h2, fun q hq => by
    rcases List.mem_append.mp hq with h | h
    · exact hS.2.2 q h
    · exact hF _ (hL q h)⟩
  obtain ⟨t2, a1, b1⟩ := kk S1 t.heap (locs ++ L) hp1 hp2 (va_D_fst hD (all_fst cA Ad S0 S1)) hS2 T' e1 X'
  exact ⟨t2, st t2 a1, b1⟩
theorem lz_topL {x v : Int64} (h : x = v) (k : W p l e R s m args below meth c H locs cells slots Q (F0 m pc ls (.long v :: rest))) : W p l e R s m args below meth c H locs cells slots Q (F0 m pc ls (.long x :: rest)) := by
  subst h
  exact k
theorem lg_cmp_self (x : Int64) : lg_cmp x x = 0 := by simp [lg_cmp]
end PLIB
/-! a state behind a call, by a name of its own -/
theorem gpush (f : Nat → SV) {o z : Nat} (ho : o < 6) (hz : z ≤ 6) (X : SV) : ∃ (f1 : Nat → SV) (o1 z1 : Nat), upS (pushF f ((o + z) % 6)) 0 X = f1 ∧ (if z < 6 then o else (o + 1) % 6) = o1 ∧ (if z < 6 then z + 1 else z) = z1 ∧ f1 0 = X ∧ f1 2 = f 2 ∧ f1 3 = f 3 ∧ o1 < 6 ∧ z1 ≤ 6 ∧ 1 ≤ z1 ∧ f1 (4 + (o1 + (z1 - 1)) % 6) = f 0 ∧ z1 = (if z < 6 then z + 1 else 6) := by
  refine ⟨_, _, _, rfl, rfl, rfl, rfl, rfl, rfl, ?_, ?_, ?_, ?_, ?_⟩
  · split <;> omega
  · split <;> omega
  · split <;> omega
  · have hi : 4 + ((if z < 6 then o else (o + 1) % 6) + ((if z < 6 then z + 1 else z) - 1)) % 6 = 4 + (o + z) % 6 := by split <;> omega
    rw [hi]
    unfold upS pushF
    rw [if_neg (by omega), if_neg (by omega), if_pos rfl]
  · split
    · rfl
    · omega
theorem gS1 (f : Nat → SV) (X : SV) : ∃ f1 : Nat → SV, upS f 1 X = f1 ∧ f1 0 = f 0 ∧ f1 2 = f 2 ∧ f1 3 = f 3 := ⟨_, rfl, rfl, rfl, rfl⟩
theorem gS2 (f : Nat → SV) : ∃ f1 : Nat → SV, upS f 2 (f 0) = f1 ∧ f1 0 = f 0 ∧ f1 2 = f 0 := ⟨_, rfl, rfl, rfl⟩
theorem gS3 (f : Nat → SV) : ∃ f1 : Nat → SV, upS f 3 (f 0) = f1 ∧ f1 0 = f 0 ∧ f1 2 = f 2 ∧ f1 3 = f 0 := ⟨_, rfl, rfl, rfl, rfl⟩
theorem gU (f : Nat → SV) (i : Nat) : ∃ f1 : Nat → SV, upS f 0 (f i) = f1 ∧ f1 0 = f i ∧ f1 2 = f 2 ∧ f1 3 = f 3 := ⟨_, rfl, rfl, rfl, rfl⟩
theorem gR (rt : (Nat → Int32) × (Nat → Int32)) (w : Nat → Int32) : ∃ r1 : (Nat → Int32) × (Nat → Int32), (rt.1, w) = r1 ∧ r1.1 = rt.1 := ⟨_, rfl, rfl⟩
theorem gK (rt : (Nat → Int32) × (Nat → Int32)) (i : Nat) : ∃ r1 : (Nat → Int32) × (Nat → Int32), (upd rt.1 i 1, rt.2) = r1 ∧ r1.1 i = 1 ∧ ∀ j, j ≠ i → r1.1 j = rt.1 j := ⟨_, rfl, pk_us, fun j h => pk_un h⟩
/-! where the readings stop -/
theorem ahead_stop {K : Nat} {u : SV} (h : GD K u) {t : Nat} (ht : t < 16) : ∃ nS, nS ≤ 99 ∧ (∀ n, n < nS → tellsS (readN u t n) t = tellsS u t) ∧ ((nS = 99 ∧ rucS u t = -1 ∧ tellsS (readN u t 99) t = tellsS u t) ∨ (nS < 99 ∧ rucS u t = nI nS ∧ ¬ tellsS (readN u t nS) t = tellsS u t)) := by
  rcases ruc_all h ht with ⟨a1, a2⟩ | ⟨L, a1, a2, a3, a4, a5⟩
  · exact ⟨99, Nat.le_refl _, fun n hn => a2 n (by omega), Or.inl ⟨rfl, a1, a2 99 (by omega)⟩⟩
  · exact ⟨L, by omega, a4, Or.inr ⟨by omega, a3, a5⟩⟩
/-! the best guard, at 16 -/
theorem ahead_guard {u : SV} (hg : M16 (gdS u)) : ((bgT u 16).1 = -1 ∧ bcF (gdS u) = 16) ∨ ∃ b, b < 16 ∧ (bgT u 16).1 = nI b ∧ bt (gdS u) b = false ∧ ¬ bcF (gdS u) = 16 ∧ ∀ j, j < 16 → bt (gdS u) j = false → rhoS u j ≤ rhoS u b ∧ (j < b → rhoS u j < rhoS u b) := by
  rcases bg_spec u 16 (Nat.le_refl _) with ⟨a1, a2, a3⟩ | ⟨b, b1, b2, b3, b4, b5⟩
  · exact Or.inl ⟨a1, (bg_none hg).mp a3⟩
  · refine Or.inr ⟨b, b1, b3, b2, fun z => ?_, b5⟩
    have := (bg_none hg).mpr z b b1
    rw [b2] at this
    cases this
theorem guard_1 {g : Int32} {j : Nat} (hj : j < 32) (h : bt g j = false) : bitF (g ^^^ ((1 : Int32) <<< (nI j &&& 31))) (nI j) = 1 := by
  rw [bF1 _ hj, b_xor, b_1shl hj hj, h, decide_eq_true rfl]
  rfl
theorem guard_rho {u : SV} {j : Nat} (hj : j < 32) (h : bt (gdS u) j = false) : rightT (setGd u (u.2.2.2.2.1 ^^^ ((1 : Int32) <<< (nI j &&& 31)))) 16 = rhoS u j := by
  rw [xor_or hj h]
theorem run_ne {N : Nat} {u : SV} (hN : N ≤ 99) (c : ¬ nI (runS N u).1 = nI N) : machS (runS N u).2 6 = 0 := by
  rcases run_end N u with h | h
  · exact absurd (by rw [h]) c
  · show (if (runS N u).2.2.2.2.2.2.2.2.2.2.2.2.1 = 0 then (0 : Int32) else 1) = 0
    rw [if_pos h]
theorem nlt_of_le {x y : Int32} (h : x ≤ y) : ¬ y < x := by rw [Int32.lt_iff_toInt_lt]; rw [Int32.le_iff_toInt_le] at h; omega
theorem nle_of_lt {x y : Int32} (h : x < y) : ¬ y ≤ x := by rw [Int32.le_iff_toInt_le]; rw [Int32.lt_iff_toInt_lt] at h; omega
theorem ahead_a {u : SV} {t nS : Nat} (h : (nS = 99 ∧ rucS u t = -1 ∧ tellsS (readN u t 99) t = tellsS u t) ∨ (nS < 99 ∧ rucS u t = nI nS ∧ ¬ tellsS (readN u t nS) t = tellsS u t)) (c : tellsS (readN u t nS) t = tellsS u t) : rucS u t = -1 := h.elim (fun q => q.2.1) (fun q => absurd c q.2.2)
theorem ahead_b {u : SV} {t nS : Nat} (h : (nS = 99 ∧ rucS u t = -1 ∧ tellsS (readN u t 99) t = tellsS u t) ∨ (nS < 99 ∧ rucS u t = nI nS ∧ ¬ tellsS (readN u t nS) t = tellsS u t)) (c : ¬ tellsS (readN u t nS) t = tellsS u t) : rucS u t = nI nS := h.elim (fun q => absurd (by rw [q.1]; exact q.2.2) c) (fun q => q.2.1)
