-- Past and Text: the saved states, and the buffer (what a new object's calls need of it)
abbrev TV : Type := (Nat → Int32) × (Nat → Int32) × Int32 × Int32 × Int32
def wTx (cA : Nat → ClassId) (t : Nat → Nat) (u : TV) : va_W := [(t 0, .inr (3, [.ref (t 1), .ref (t 2), .int u.2.2.1, .int u.2.2.2.1, .int u.2.2.2.2])), (t 1, .inl (cA 0, 60, .inl u.1)), (t 2, .inl (cA 0, 16, .inl u.2.1))]
def wLm (cA : Nat → ClassId) (A : Nat → Nat → Nat) (u : (Nat → Int32) × (Nat → Int32)) : va_W := [(A 10 0, .inr (4, [.ref (A 0 0), .ref (A 1 0), .ref (A 11 0), .ref (A 10 1), .ref (A 10 2), .ref (A 12 0), .ref (A 10 3)])),
  (A 10 1, .inl (cA 2, 2, .inr (.inr (.inr (.inr (fun i => some (A (i + 2) 0))))))), (A 10 2, .inl (cA 1, 2, .inl u.1)), (A 10 3, .inl (cA 0, 16, .inl u.2))]
def wPa (cA : Nat → ClassId) (A : Nat → Nat → Nat) (u : Int32 × Int32) : va_W := [(A 11 0, .inr (1, [.ref (A 11 1), .int u.1, .int u.2])), (A 11 1, .inl (cA 2, 6, .inr (.inr (.inr (.inr (fun i => some (A (i + 4) 0)))))))]
theorem wTx_fst (cA : Nat → ClassId) (t : Nat → Nat) (u : TV) : (wTx cA t u).map Prod.fst = [t 0, t 1, t 2] := rfl
theorem wLm_fst (cA : Nat → ClassId) (A : Nat → Nat → Nat) (u : (Nat → Int32) × (Nat → Int32)) : (wLm cA A u).map Prod.fst = [A 10 0, A 10 1, A 10 2, A 10 3] := rfl
theorem wPa_fst (cA : Nat → ClassId) (A : Nat → Nat → Nat) (u : Int32 × Int32) : (wPa cA A u).map Prod.fst = [A 11 0, A 11 1] := rfl
def upS (f : Nat → SV) (j : Nat) (v : SV) : Nat → SV := fun i => if i = j then v else f i
section PAST
variable {p : Program} {l : Launch} {e : Env} {R : Room} {s : State} {m : MethodId} {args : Array Value} {below : List Frame} {meth : Method} {c : Code} {H : Heap} {locs : List Loc} {cells slots : Nat} {Q : State → Prop}
variable {cc : ByteArray} {rest : List Value} {pc : Nat} {ls : Array Slot} {D : va_G} {cA : Nat → ClassId}
theorem lz_aldr {wsW : va_W} {a : Nat} (k : Nat) {f : Nat → Option Nat} {q : Nat} (hexec : p.tables.exec = Jvm.exec) (hb : c.code = cc) (hK : va_K D vwCl (KT cA) s) (hP : va_P D vwCl wsW H) (q0 : Nat) {cX : ClassId} {n : Nat} (ha : wsW[q0]? = some (a, .inl (cX, n, .inr (.inr (.inr (.inr f)))))) (ht : (KT cA)[2]? = some (cX, .object "WireLoom$State")) (hf : f k = some q) (hk : k < n ∧ n < 2 ^ 31) (hdg : decode cc pc = .ok (.aaload, 1))
    (kk : W p l e R s m args below meth c H locs cells slots Q (F0 m (pc + 1) ls (.ref q :: rest))) : W p l e R s m args below meth c H locs cells slots Q (F0 m pc ls (.int (nI k) :: .ref a :: rest)) := by
  refine lz_aldq k hexec hb hK hP q0 ha ht hk hdg ?_
  rw [hf]
  exact kk
theorem mu_zret {A : Nat → Prop} {w0 w1 : va_W} {x z : Int32} (hexec : p.tables.exec = Jvm.exec) (hb : c.code = cc) (hr : meth.sig.returnType = some .boolean) (hlocks : meth.locks = false) (hdg : decode cc pc = .ok (.ireturn, 1)) (hAe : va_A w0 s.heap.size = A) (hS : va_S A s.heap H locs) (hP : va_P D vwCl w1 H) (hn : narrow .boolean (.int x) = .int x) (hv : x = z) :
    W p l e R s m args below meth c H locs 0 0 (MQ below (muQ D s.heap w0 w1 (some (.int z))) args s 0 0 A) (F0 m pc ls [.int x]) := by
  subst hv
  subst hAe
  exact W.zret hexec hb hr hn (fun t ht _ => ⟨rfl, by rw [ht]; exact hP, by rw [ht]; exact hS.1, fun q h1 h2 => by rw [ht]; exact hS.2.1 q h1 h2⟩) hS.2.2 hdg hlocks
end PAST
/-! the loom's world as blocks: 0 now, 1 trial, 2 and 3 the snapshots, 4 to 9 the saved states, 10 the root, 11 the past, 12 the text -/
abbrev LV : Type := (Nat → SV) × (Int32 × Int32) × TV × ((Nat → Int32) × (Nat → Int32))
def blk (cA : Nat → ClassId) (Ad : Nat → Nat → Nat) (S : LV) (i : Nat) : va_W := if i < 10 then wSt cA (Ad i) (S.1 i) else if i = 10 then wLm cA Ad S.2.2.2 else if i = 11 then wPa cA Ad S.2.1 else if i = 12 then wTx cA (Ad 12) S.2.2.1 else []
def all (cA : Nat → ClassId) (Ad : Nat → Nat → Nat) (S : LV) : va_W := (List.range 13).flatMap (blk cA Ad S)
def rst (cA : Nat → ClassId) (Ad : Nat → Nat → Nat) (S : LV) (i : Nat) : va_W := ((List.range 13).erase i).flatMap (blk cA Ad S)
def rst2 (cA : Nat → ClassId) (Ad : Nat → Nat → Nat) (S : LV) (i k : Nat) : va_W := (((List.range 13).erase i).erase k).flatMap (blk cA Ad S)
theorem va_P_perm {D : va_G} {w w' : va_W} {H : Heap} (h : w.Perm w') (hP : va_P D vwCl w H) : va_P D vwCl w' H := by
  intro k q hq
  obtain ⟨i, hi⟩ := List.getElem?_of_mem (h.mem_iff.mpr (List.mem_of_getElem? hq))
  exact hP i q hi
theorem va_D_iff {A : Nat → Prop} {w : va_W} : va_D A w ↔ (w.map Prod.fst).Nodup ∧ ∀ q ∈ w, A q.1 := by
  constructor
  · intro h
    refine ⟨List.pairwise_iff_getElem.mpr (fun i j hi hj hij he => ?_), fun q hq => ?_⟩
    · rw [List.length_map] at hi hj
      rw [List.getElem_map, List.getElem_map] at he
      have := h.1 i j _ _ (List.getElem?_eq_getElem hi) (List.getElem?_eq_getElem hj) he
      omega
    · obtain ⟨k, hk⟩ := List.getElem?_of_mem hq
      exact h.2 k q hk
  · intro h
    refine ⟨fun i j x y hi hj hxy => ?_, fun k q hk => h.2 q (List.mem_of_getElem? hk)⟩
    have h1 : (w.map Prod.fst)[i]? = some x.1 := by rw [List.getElem?_map, hi]; rfl
    have h2 : (w.map Prod.fst)[j]? = some x.1 := by rw [List.getElem?_map, hj, hxy]; rfl
    obtain ⟨l1, e1⟩ := List.getElem?_eq_some_iff.mp h1
    obtain ⟨l2, e2⟩ := List.getElem?_eq_some_iff.mp h2
    have hp := List.pairwise_iff_getElem.mp h.1
    rcases Nat.lt_trichotomy i j with hlt | heq | hgt
    · exact absurd (e1.trans e2.symm) (hp i j l1 l2 hlt)
    · exact heq
    · exact absurd (e2.trans e1.symm) (hp j i l2 l1 hgt)
theorem va_D_perm {A : Nat → Prop} {w w' : va_W} (h : w.Perm w') (hD : va_D A w) : va_D A w' := by
  rw [va_D_iff] at hD ⊢
  exact ⟨(h.map Prod.fst).nodup_iff.mp hD.1, fun q hq => hD.2 q (h.mem_iff.mpr hq)⟩
theorem va_P_l {D : va_G} {w w' : va_W} {H : Heap} (hP : va_P D vwCl (w ++ w') H) : va_P D vwCl w H := fun k q hq => hP k q (by rw [List.getElem?_append_left (List.getElem?_eq_some_iff.mp hq).1]; exact hq)
theorem va_D_l {A : Nat → Prop} {w w' : va_W} (hD : va_D A (w ++ w')) : va_D (fun _ => True) w := by
  rw [va_D_iff] at hD ⊢
  rw [List.map_append] at hD
  exact ⟨hD.1.sublist (List.sublist_append_left _ _), fun _ _ => trivial⟩
theorem all_perm (cA : Nat → ClassId) (Ad : Nat → Nat → Nat) (S : LV) (i : Nat) (hi : i < 13) : (all cA Ad S).Perm (blk cA Ad S i ++ rst cA Ad S i) :=
  List.Perm.flatMap_right (blk cA Ad S) (List.perm_cons_erase (List.mem_range.mpr hi))
theorem all_perm2 (cA : Nat → ClassId) (Ad : Nat → Nat → Nat) (S : LV) (i k : Nat) (hi : i < 13) (hk : k < 13) (hik : i ≠ k) : (all cA Ad S).Perm ((blk cA Ad S i ++ blk cA Ad S k) ++ rst2 cA Ad S i k) := by
  have h1 : k ∈ (List.range 13).erase i := (List.mem_erase_of_ne (Ne.symm hik)).mpr (List.mem_range.mpr hk)
  have h2 : (List.range 13).Perm (i :: k :: (((List.range 13).erase i).erase k)) := (List.perm_cons_erase (List.mem_range.mpr hi)).trans (List.Perm.cons i (List.perm_cons_erase h1))
  have h3 := List.Perm.flatMap_right (blk cA Ad S) h2
  rw [List.flatMap_cons, List.flatMap_cons, ← List.append_assoc] at h3
  exact h3
theorem flatMap_cong {f g : Nat → va_W} : ∀ {L : List Nat}, (∀ k ∈ L, f k = g k) → L.flatMap f = L.flatMap g
  | [], _ => rfl
  | a :: L, h => by
    rw [List.flatMap_cons, List.flatMap_cons, h a List.mem_cons_self, flatMap_cong (fun k hk => h k (List.mem_cons_of_mem _ hk))]
theorem rst_congr {cA : Nat → ClassId} {Ad : Nat → Nat → Nat} {S S' : LV} {i : Nat} (h : ∀ k, k ≠ i → blk cA Ad S' k = blk cA Ad S k) : rst cA Ad S i = rst cA Ad S' i := by
  unfold rst
  refine flatMap_cong (fun k hk => (h k ?_).symm)
  exact ((List.nodup_range.mem_erase_iff).mp hk).1
theorem rst2_congr {cA : Nat → ClassId} {Ad : Nat → Nat → Nat} {S S' : LV} {i j : Nat} (h : ∀ k, k ≠ i → blk cA Ad S' k = blk cA Ad S k) : rst2 cA Ad S i j = rst2 cA Ad S' i j := by
  unfold rst2
  refine flatMap_cong (fun k hk => (h k ?_).symm)
  exact ((List.nodup_range.mem_erase_iff).mp (List.mem_of_mem_erase hk)).1
theorem lw_fP {D : va_G} {cA : Nat → ClassId} {Ad : Nat → Nat → Nat} {S : LV} {H : Heap} (i : Nat) (hi : i < 13) (h : va_P D vwCl (all cA Ad S) H) : va_P D vwCl (blk cA Ad S i ++ rst cA Ad S i) H := va_P_perm (all_perm cA Ad S i hi) h
theorem lw_fD {A : Nat → Prop} {cA : Nat → ClassId} {Ad : Nat → Nat → Nat} {S : LV} (i : Nat) (hi : i < 13) (h : va_D A (all cA Ad S)) : va_D A (blk cA Ad S i ++ rst cA Ad S i) := va_D_perm (all_perm cA Ad S i hi) h
theorem lw_fP2 {D : va_G} {cA : Nat → ClassId} {Ad : Nat → Nat → Nat} {S : LV} {H : Heap} (i k : Nat) (hi : i < 13 ∧ k < 13 ∧ i ≠ k) (h : va_P D vwCl (all cA Ad S) H) : va_P D vwCl ((blk cA Ad S i ++ blk cA Ad S k) ++ rst2 cA Ad S i k) H := va_P_perm (all_perm2 cA Ad S i k hi.1 hi.2.1 hi.2.2) h
theorem lw_fD2 {A : Nat → Prop} {cA : Nat → ClassId} {Ad : Nat → Nat → Nat} {S : LV} (i k : Nat) (hi : i < 13 ∧ k < 13 ∧ i ≠ k) (h : va_D A (all cA Ad S)) : va_D A ((blk cA Ad S i ++ blk cA Ad S k) ++ rst2 cA Ad S i k) := va_D_perm (all_perm2 cA Ad S i k hi.1 hi.2.1 hi.2.2) h
theorem lw_uP {D : va_G} {cA : Nat → ClassId} {Ad : Nat → Nat → Nat} {S : LV} {H : Heap} (i : Nat) (S' : LV) (hi : i < 13) (hc : ∀ k, k ≠ i → blk cA Ad S' k = blk cA Ad S k) (h : va_P D vwCl (blk cA Ad S' i ++ rst cA Ad S i) H) : va_P D vwCl (all cA Ad S') H := by
  rw [rst_congr hc] at h
  exact va_P_perm (all_perm cA Ad S' i hi).symm h
theorem lw_uD {A : Nat → Prop} {cA : Nat → ClassId} {Ad : Nat → Nat → Nat} {S : LV} (i : Nat) (S' : LV) (hi : i < 13) (hc : ∀ k, k ≠ i → blk cA Ad S' k = blk cA Ad S k) (h : va_D A (blk cA Ad S' i ++ rst cA Ad S i)) : va_D A (all cA Ad S') := by
  rw [rst_congr hc] at h
  exact va_D_perm (all_perm cA Ad S' i hi).symm h
theorem lw_uP2 {D : va_G} {cA : Nat → ClassId} {Ad : Nat → Nat → Nat} {S : LV} {H : Heap} (i k : Nat) (S' : LV) (hi : i < 13 ∧ k < 13 ∧ i ≠ k) (hc : ∀ k, k ≠ i → blk cA Ad S' k = blk cA Ad S k) (h : va_P D vwCl ((blk cA Ad S' i ++ blk cA Ad S' k) ++ rst2 cA Ad S i k) H) : va_P D vwCl (all cA Ad S') H := by
  rw [rst2_congr hc] at h
  exact va_P_perm (all_perm2 cA Ad S' i k hi.1 hi.2.1 hi.2.2).symm h
theorem lw_uD2 {A : Nat → Prop} {cA : Nat → ClassId} {Ad : Nat → Nat → Nat} {S : LV} (i k : Nat) (S' : LV) (hi : i < 13 ∧ k < 13 ∧ i ≠ k) (hc : ∀ k, k ≠ i → blk cA Ad S' k = blk cA Ad S k) (h : va_D A ((blk cA Ad S' i ++ blk cA Ad S' k) ++ rst2 cA Ad S i k)) : va_D A (all cA Ad S') := by
  rw [rst2_congr hc] at h
  exact va_D_perm (all_perm2 cA Ad S' i k hi.1 hi.2.1 hi.2.2).symm h
theorem bc_st {cA : Nat → ClassId} {Ad : Nat → Nat → Nat} {f : Nat → SV} {r : (Int32 × Int32) × TV × ((Nat → Int32) × (Nat → Int32))} (i : Nat) (v : SV) (hi : i < 10) : ∀ k, k ≠ i → blk cA Ad (upS f i v, r) k = blk cA Ad (f, r) k := by
  intro k hk
  have e : upS f i v k = f k := if_neg hk
  unfold blk
  dsimp only
  rw [e]
theorem bc_rt {cA : Nat → ClassId} {Ad : Nat → Nat → Nat} {f : Nat → SV} {pa : Int32 × Int32} {tx : TV} {rt rt' : (Nat → Int32) × (Nat → Int32)} : ∀ k, k ≠ 10 → blk cA Ad (f, pa, tx, rt') k = blk cA Ad (f, pa, tx, rt) k := by
  intro k hk
  unfold blk
  rw [if_neg hk, if_neg hk]
theorem bc_pa {cA : Nat → ClassId} {Ad : Nat → Nat → Nat} {f : Nat → SV} {pa pa' : Int32 × Int32} {tx : TV} {rt : (Nat → Int32) × (Nat → Int32)} : ∀ k, k ≠ 11 → blk cA Ad (f, pa', tx, rt) k = blk cA Ad (f, pa, tx, rt) k := by
  intro k hk
  unfold blk
  rw [if_neg hk, if_neg hk]
theorem bc_tx {cA : Nat → ClassId} {Ad : Nat → Nat → Nat} {f : Nat → SV} {pa : Int32 × Int32} {tx tx' : TV} {rt : (Nat → Int32) × (Nat → Int32)} : ∀ k, k ≠ 12 → blk cA Ad (f, pa, tx', rt) k = blk cA Ad (f, pa, tx, rt) k := by
  intro k hk
  unfold blk
  rw [if_neg hk, if_neg hk]
theorem all_fst (cA : Nat → ClassId) (Ad : Nat → Nat → Nat) (S S' : LV) : (all cA Ad S').map Prod.fst = (all cA Ad S).map Prod.fst := by
  have key : ∀ k, (blk cA Ad S' k).map Prod.fst = (blk cA Ad S k).map Prod.fst := by
    intro k
    unfold blk
    split
    · rw [wSt_fst, wSt_fst]
    · split
      · rw [wLm_fst, wLm_fst]
      · split
        · rw [wPa_fst, wPa_fst]
        · split
          · rw [wTx_fst, wTx_fst]
          · rfl
  unfold all
  rw [List.map_flatMap, List.map_flatMap]
  exact congrArg (fun g => (List.range 13).flatMap g) (funext key)
section LWR
variable {p : Program} {l : Launch} {e : Env} {R : Room} {s : State} {m : MethodId} {args : Array Value} {below : List Frame} {meth : Method} {c : Code} {H : Heap} {locs : List Loc} {cells slots : Nat} {Q : State → Prop}
variable {y : MethodName} {bytes cc : ByteArray} {maxL nL n index : Nat} {ret : Option FieldType} {ws : List Cond} {rm : Room} {Ts : List Cond} {own C : String} {b : Addr} {As rest st0 : List Value} {pc : Nat} {ls : Array Slot} {D : va_G} {cA : Nat → ClassId} {v : Option Value}
theorem mu_join2 {A0 : Nat → Prop} {wc w1 wo : va_W} {H1 : Heap} (hP : va_P D vwCl (wc ++ wo) H) (hD : va_D A0 (wc ++ wo)) (hf : w1.map Prod.fst = wc.map Prod.fst)
    (hk : ∀ q : Nat, q < H.size → ¬ va_A wc H.size q → H1[q]? = H[q]?) (hP1 : va_P D vwCl w1 H1) : va_P D vwCl (w1 ++ wo) H1 ∧ va_D A0 (w1 ++ wo) := by
  refine ⟨va_P.app hP1 (fun k q hq => ?_), va_D_fst hD (fst_app hf rfl)⟩
  have hq2 : (wc ++ wo)[wc.length + k]? = some q := by
    rw [List.getElem?_append_right (Nat.le_add_right _ _), Nat.add_sub_cancel_left]
    exact hq
  refine (hP _ q hq2).kept (hk q.1 (hP _ q hq2).lt (fun h => ?_))
  rcases h with ⟨j, e9, h⟩ | h
  · have hj := (List.getElem?_eq_some_iff.mp h).1
    have := hD.1 j (wc.length + k) (q.1, e9) q (by rw [List.getElem?_append_left hj]; exact h) hq2 rfl
    omega
  · have := (hP _ q hq2).lt
    omega
theorem mu_runa {A0 : Nat → Prop} {H0 : Heap} {wc w1 wo : va_W} {Qa : Array Value} (hr : va_Run p l e R s m args below meth c H locs cells slots 0 0 (F0 m pc ls st0) rest (muQ D H wc w1 v Qa) (va_A wc H.size))
    (hP : va_P D vwCl (wc ++ wo) H) (hD : va_D A0 (wc ++ wo)) (hS : va_S A0 H0 H locs) (hA : ∀ q, H0.size ≤ q → A0 q) (hf : w1.map Prod.fst = wc.map Prod.fst)
    (kk : ∀ (H1 : Heap) (locs1 : List Loc), va_P D vwCl (w1 ++ wo) H1 → va_D A0 (w1 ++ wo) → va_S A0 H0 H1 locs1 → W p l e R s m args below meth c H1 locs1 cells slots Q (F0 m (pc + 3) ls (v.toList ++ rest))) : W p l e R s m args below meth c H locs cells slots Q (F0 m pc ls st0) := by
  intro T hT X
  obtain ⟨v', st₀, t, T', L, h0, X', hL, e1, e2, ⟨hv, hp1, hz, hk⟩, st⟩ := hr T hT X
  cases hv
  have hF : ∀ q, va_A wc H.size q → A0 q := by
    intro q h
    rcases h with ⟨k, e9, h⟩ | h
    · exact hD.2 k (q, e9) (by rw [List.getElem?_append_left (List.getElem?_eq_some_iff.mp h).1]; exact h)
    · exact hA q (Nat.le_trans hS.1 h)
  obtain ⟨hP2, hD2⟩ := mu_join2 (H1 := t.heap) hP hD hf hk hp1
  have hS2 : va_S A0 H0 t.heap (locs ++ L) := ⟨Nat.le_trans hS.1 hz, fun q h1 h2 => by rw [hk q (Nat.lt_of_lt_of_le h1 hS.1) (fun z => h2 (hF q z))]; exact hS.2.1 q h1 h2, fun q hq => by
    rcases List.mem_append.mp hq with h | h
    · exact hS.2.2 q h
    · exact hF _ (hL q h)⟩
  obtain ⟨t2, a1, b1⟩ := kk t.heap (locs ++ L) hP2 hD2 hS2 T' e1 X'
  exact ⟨t2, st t2 a1, b1⟩
/-- a call that writes a block, the rest of the world behind it -/
theorem mu_Va {A0 : Nat → Prop} {H0 : Heap} {wc w1 wo : va_W} {q0 ci : Nat} {q : vw_C} {fs : List Value} (S : CallFix p m c cc nL s args Ts own) (hM : MU l y ws rm D cA (.ref b :: As) H wc w1 v) (cw : CallW R s args own q.1 index y bytes maxL ret ws rm 0 0 n) (hKN : KN D cA s)
    (hP : va_P D vwCl (wc ++ wo) H) (hD : va_D A0 (wc ++ wo)) (hS : va_S A0 H0 H locs) (hA : ∀ q, H0.size ≤ q → A0 q) (hc : vwCl[ci]? = some q) (he : wc[q0]? = some (b, .inr (ci, fs))) (hfx : w1.map Prod.fst = wc.map Prod.fst)
    (hn : As.length = n) (hsize : ls.size = nL) (hst : st0 = As.reverse ++ .ref b :: rest) (hW : 2 * (F0 m pc ls st0).monitorRoom + (rest.map fun v => v.category).sum ≤ 8) (hdg : decode cc pc = .ok (.invokevirtual index, 3)) (hf : cells ≤ R.cells ∧ slots ≤ R.slots)
    (kk : ∀ (H1 : Heap) (locs1 : List Loc), va_P D vwCl (w1 ++ wo) H1 → va_D A0 (w1 ++ wo) → va_S A0 H0 H1 locs1 → W p l e R s m args below meth c H1 locs1 cells slots Q (F0 m (pc + 3) ls (v.toList ++ rest))) : W p l e R s m args below meth c H locs cells slots Q (F0 m pc ls st0) :=
  mu_runa (va_runV S hM cw ⟨preC_blind, va_recv hKN.1 (va_P_l hP) hc he, fun U hU hW => ⟨rfl, hU, hKN.moved hW⟩⟩ rfl hn hsize hst hW hdg hf) hP hD hS hA hfx kk
/-- a call that writes the whole world of its caller -/
theorem mu_Vw {A0 : Nat → Prop} {H0 : Heap} {wc w1 wf : va_W} {q0 ci : Nat} {q : vw_C} {fs : List Value} (S : CallFix p m c cc nL s args Ts own) (hM : MU l y ws rm D cA (.ref b :: As) H wc w1 v) (cw : CallW R s args own q.1 index y bytes maxL ret ws rm 0 0 n) (hKN : KN D cA s)
    (hP : va_P D vwCl wc H) (hD : va_D A0 wc) (hS : va_S A0 H0 H locs) (hA : ∀ q, H0.size ≤ q → A0 q) (hPf : va_P D vwCl wf H) (hc : vwCl[ci]? = some q) (he : wf[q0]? = some (b, .inr (ci, fs))) (hfx : w1.map Prod.fst = wc.map Prod.fst)
    (hn : As.length = n) (hsize : ls.size = nL) (hst : st0 = As.reverse ++ .ref b :: rest) (hW : 2 * (F0 m pc ls st0).monitorRoom + (rest.map fun v => v.category).sum ≤ 8) (hdg : decode cc pc = .ok (.invokevirtual index, 3)) (hf : cells ≤ R.cells ∧ slots ≤ R.slots)
    (kk : ∀ (H1 : Heap) (locs1 : List Loc), va_P D vwCl w1 H1 → va_D A0 w1 → va_S A0 H0 H1 locs1 → W p l e R s m args below meth c H1 locs1 cells slots Q (F0 m (pc + 3) ls (v.toList ++ rest))) : W p l e R s m args below meth c H locs cells slots Q (F0 m pc ls st0) := by
  have hr := fun (hh : _) => va_runV (p := p) (l := l) (R := R) (meth := meth) (locs := locs) (cells := cells) (slots := slots) (below := below) (e := e) S hM cw ⟨preC_blind, va_recv hKN.1 hPf hc he, fun U hU hW => ⟨rfl, hU, hKN.moved hW⟩⟩ (g := F0 m pc ls st0) (rest := rest) rfl hn hsize hst hW hdg hh
  have e0 : wc ++ [] = wc := List.append_nil wc
  have e1 : w1 ++ [] = w1 := List.append_nil w1
  refine mu_runa (wo := []) (hr hf) (by rw [e0]; exact hP) (by rw [e0]; exact hD) hS hA hfx (fun H1 locs1 h1 h2 h3 => kk H1 locs1 (by rw [e1] at h1; exact h1) (by rw [e1] at h2; exact h2) h3)
end LWR
def signF (d : Nat) : Int32 := if 10 ≤ nI d then nI (97 + d) - 10 else nI (48 + d)





