-- State and Machine: what a state is, what each method answers and does to it
abbrev SV : Type := (Nat → Int32) × (Nat → Int32) × (Nat → Int32) × (Nat → Int32) × Int32 × Int32 × Int32 × (Nat → Int32) × (Nat → Int32) × Int32 × Int32 × Int32 × Int32 × Int32
abbrev MV : Type := (Nat → Int32) × (Nat → Int32) × Int32 × Int32 × Int32 × Int32 × Int32
def wMc (cA : Nat → ClassId) (a : Nat → Nat) (u : MV) : va_W := [(a 5, .inr (0, [.ref (a 6), .ref (a 7), .int u.2.2.1, .int u.2.2.2.1, .int u.2.2.2.2.1, .int u.2.2.2.2.2.1, .int u.2.2.2.2.2.2])), (a 6, .inl (cA 0, 4, .inl u.1)), (a 7, .inl (cA 0, 8, .inl u.2.1))]
def wSt (cA : Nat → ClassId) (a : Nat → Nat) (u : SV) : va_W := [(a 0, .inr (2, [.ref (a 1), .ref (a 2), .ref (a 3), .ref (a 4), .ref (a 5), .int u.2.2.2.2.1, .int u.2.2.2.2.2.1, .int u.2.2.2.2.2.2.1])),
  (a 1, .inl (cA 0, 16, .inl u.1)), (a 2, .inl (cA 0, 16, .inl u.2.1)), (a 3, .inl (cA 0, 8, .inl u.2.2.1)), (a 4, .inl (cA 0, 2, .inl u.2.2.2.1)),
  (a 5, .inr (0, [.ref (a 6), .ref (a 7), .int u.2.2.2.2.2.2.2.2.2.1, .int u.2.2.2.2.2.2.2.2.2.2.1, .int u.2.2.2.2.2.2.2.2.2.2.2.1, .int u.2.2.2.2.2.2.2.2.2.2.2.2.1, .int u.2.2.2.2.2.2.2.2.2.2.2.2.2])),
  (a 6, .inl (cA 0, 4, .inl u.2.2.2.2.2.2.2.1)), (a 7, .inl (cA 0, 8, .inl u.2.2.2.2.2.2.2.2.1))]
theorem wMc_fst (cA : Nat → ClassId) (a : Nat → Nat) (u : MV) : (wMc cA a u).map Prod.fst = [a 5, a 6, a 7] := rfl
theorem wSt_fst (cA : Nat → ClassId) (a : Nat → Nat) (u : SV) : (wSt cA a u).map Prod.fst = [a 0, a 1, a 2, a 3, a 4, a 5, a 6, a 7] := rfl
theorem fst_app {a a' b b' : va_W} (h1 : a.map Prod.fst = a'.map Prod.fst) (h2 : b.map Prod.fst = b'.map Prod.fst) : (a ++ b).map Prod.fst = (a' ++ b').map Prod.fst := by rw [List.map_append, List.map_append, h1, h2]
def maxF (x y : Int32) : Int32 := if x < y then y else x
def minF (x y : Int32) : Int32 := if y < x then y else x
def ushrF (x k : Int32) : Int32 := (x.toUInt32 >>> (k.toUInt32 &&& Int32.toUInt32 31)).toInt32
def i2lF (x : Int32) : Int64 := x.toInt64
def bitF (x k : Int32) : Int32 := (x >>> (k &&& 31)) &&& 1
def bc1 (x : Int32) : Int32 := x - (ushrF x 1 &&& 1431655765)
def bc2 (a : Int32) : Int32 := (a &&& 858993459) + (ushrF a 2 &&& 858993459)
def bc3 (b : Int32) : Int32 := (b + ushrF b 4) &&& 252645135
def bc4 (c : Int32) : Int32 := c + ushrF c 8
def bc5 (d : Int32) : Int32 := d + ushrF d 16
def bcF (x : Int32) : Int32 := bc5 (bc4 (bc3 (bc2 (bc1 x)))) &&& 63
def wordF (se : Nat → Int32) (mask : Int32) : Int32 := if se 1 = 0 then mask else mask ^^^ 255
def oneT (rg : Nat → Int32) (gd reader reached : Int32) : Nat → Int32
  | 0 => reached
  | k + 1 => if (rg k &&& reached) = 0 then oneT rg gd reader reached k else if nI k = reader then oneT rg gd reader reached k else if bitF gd (nI k) = 0 then oneT rg gd reader reached k ||| rg k else oneT rg gd reader reached k
def strF (we : Nat → Int32) (r : Nat) (hops : Int32) : Int32 := if hops = -1 then 0 else maxF (maxF (8 - 3 * hops) 0 - we r / 10) 0
def reachF (rg : Nat → Int32) (gd : Int32) (t : Nat) : Nat → Int32
  | 0 => rg t
  | k + 1 => oneT rg gd (nI t) (reachF rg gd t k) 16
def hopsG (rg : Nat → Int32) (gd : Int32) (t : Nat) (ring : Int32) : Nat → Nat → Int32
  | 0, _ => -1
  | n + 1, k => if bitF (reachF rg gd t k) ring = 1 then nI k else hopsG rg gd t ring n (k + 1)
def hopsF (rg : Nat → Int32) (gd : Int32) (t : Nat) (ring : Int32) : Int32 := hopsG rg gd t ring 8 0
def ansI (we se : Nat → Int32) (come hops a0 : Int32) : Nat → Int32
  | 0 => a0
  | r + 1 => if bitF come (nI r) = 1 then (if strF we r hops < se 0 then ansI we se come hops a0 r else ansI we se come hops a0 r ||| ((1 : Int32) <<< (nI r &&& 31))) else ansI we se come hops a0 r
def ansF (rg we se : Nat → Int32) (gd : Int32) (t : Nat) : Int32 := ansI we se ((oneT rg gd (nI t) (oneT rg gd (nI t) (rg t) 16) 16) &&& ((oneT rg gd (nI t) (rg t) 16) ^^^ (-1))) 2 (ansI we se ((oneT rg gd (nI t) (rg t) 16) &&& ((rg t) ^^^ (-1))) 1 (ansI we se ((rg t) &&& (0 ^^^ (-1))) 0 0 8) 8) 8
def remF (x y : Int32) : Int32 := x - x / y * y
def ansS (u : SV) (t : Nat) : Int32 := ansF u.1 u.2.2.1 u.2.2.2.1 u.2.2.2.2.1 t
def meansS (u : SV) (t : Nat) : Int32 := wordF u.2.2.2.1 (u.1 t)
def tellsS (u : SV) (t : Nat) : Int32 := wordF u.2.2.2.1 (ansS u t)
def rucI (we : Nat → Int32) (m w : Int32) : Nat → Int32
  | 0 => -1
  | r + 1 => if bitF m (nI r) = 1 then (if w - we r ≤ 0 then rucI we m w r else if rucI we m w r = -1 then w - we r else if rucI we m w r ≤ w - we r then rucI we m w r else w - we r) else rucI we m w r
def rucS (u : SV) (t : Nat) : Int32 := rucI u.2.2.1 (u.1 t) (10 * ((8 - u.2.2.2.1 0) + 1)) 8
def thrT (rg : Nat → Int32) (ring : Int32) : Nat → Int32
  | 0 => 0
  | k + 1 => thrT rg ring k ||| (bitF (rg k) ring <<< (nI k &&& 31))
def thrS (u : SV) (ring : Int32) : Int32 := thrT u.1 ring 16
def tanT (u : SV) (ring : Int32) : Nat → Int32
  | 0 => 0
  | k + 1 => tanT u ring k + bitF (ansS u k) ring
def wornS (u : SV) (r : Nat) : Int32 := if thrS u (nI r) = 0 then 0 else if u.2.2.2.1 0 ≤ strF u.2.2.1 r 0 then 0 else 1
def rightT (u : SV) : Nat → Int32
  | 0 => 0
  | k + 1 => if ansS u k = u.1 k then rightT u k + 1 else rightT u k
def cbtT (u : SV) : Nat → Int32
  | 0 => 0
  | k + 1 => cbtT u k + bcF (u.1 k)
def cbrT (u : SV) : Nat → Int32
  | 0 => 0
  | k + 1 => cbrT u k + bcF (thrS u (nI k))
def gwT (u : SV) : Nat → Int32
  | 0 => 0
  | k + 1 => maxF (gwT u k) (u.2.2.1 k)
def woaT (u : SV) : Nat → Int32
  | 0 => 0
  | k + 1 => woaT u k + u.2.2.1 k
def fubI (rg : Nat → Int32) (t : Nat) (f0 : Int32) : Nat → Int32
  | 0 => f0
  | o + 1 => minF (fubI rg t f0 o) (bcF (rg t ^^^ rg o))
def fubT (rg : Nat → Int32) : Nat → Int32
  | 0 => 8
  | t + 1 => fubI rg t (fubT rg t) t
def wearT (we : Nat → Int32) (mask more : Int32) : Nat → Nat → Int32
  | 0 => we
  | r + 1 => if bitF mask (nI r) = 1 then upd (wearT we mask more r) r (minF (wearT we mask more r r + more) 99) else wearT we mask more r

theorem oneT_succ (rg : Nat → Int32) (gd reader reached : Int32) (k : Nat) : oneT rg gd reader reached (k + 1) = (if (rg k &&& reached) = 0 then oneT rg gd reader reached k else if nI k = reader then oneT rg gd reader reached k else if bitF gd (nI k) = 0 then oneT rg gd reader reached k ||| rg k else oneT rg gd reader reached k) := rfl
theorem oneT_zero (rg : Nat → Int32) (gd reader reached : Int32) : oneT rg gd reader reached 0 = reached := rfl
theorem reachF_succ (rg : Nat → Int32) (gd : Int32) (t : Nat) (k : Nat) : reachF rg gd t (k + 1) = (oneT rg gd (nI t) (reachF rg gd t k) 16) := rfl
theorem reachF_zero (rg : Nat → Int32) (gd : Int32) (t : Nat) : reachF rg gd t 0 = rg t := rfl
theorem ansI_succ (we se : Nat → Int32) (come hops a0 : Int32) (r : Nat) : ansI we se come hops a0 (r + 1) = (if bitF come (nI r) = 1 then (if strF we r hops < se 0 then ansI we se come hops a0 r else ansI we se come hops a0 r ||| ((1 : Int32) <<< (nI r &&& 31))) else ansI we se come hops a0 r) := rfl
theorem ansI_zero (we se : Nat → Int32) (come hops a0 : Int32) : ansI we se come hops a0 0 = a0 := rfl
theorem rucI_succ (we : Nat → Int32) (m w : Int32) (r : Nat) : rucI we m w (r + 1) = (if bitF m (nI r) = 1 then (if w - we r ≤ 0 then rucI we m w r else if rucI we m w r = -1 then w - we r else if rucI we m w r ≤ w - we r then rucI we m w r else w - we r) else rucI we m w r) := rfl
theorem rucI_zero (we : Nat → Int32) (m w : Int32) : rucI we m w 0 = -1 := rfl
theorem thrT_succ (rg : Nat → Int32) (ring : Int32) (k : Nat) : thrT rg ring (k + 1) = (thrT rg ring k ||| (bitF (rg k) ring <<< (nI k &&& 31))) := rfl
theorem thrT_zero (rg : Nat → Int32) (ring : Int32) : thrT rg ring 0 = 0 := rfl
theorem tanT_succ (u : SV) (ring : Int32) (k : Nat) : tanT u ring (k + 1) = (tanT u ring k + bitF (ansS u k) ring) := rfl
theorem tanT_zero (u : SV) (ring : Int32) : tanT u ring 0 = 0 := rfl
theorem rightT_succ (u : SV) (k : Nat) : rightT u (k + 1) = (if ansS u k = u.1 k then rightT u k + 1 else rightT u k) := rfl
theorem rightT_zero (u : SV) : rightT u 0 = 0 := rfl
theorem cbtT_succ (u : SV) (k : Nat) : cbtT u (k + 1) = (cbtT u k + bcF (u.1 k)) := rfl
theorem cbtT_zero (u : SV) : cbtT u 0 = 0 := rfl
theorem cbrT_succ (u : SV) (k : Nat) : cbrT u (k + 1) = (cbrT u k + bcF (thrS u (nI k))) := rfl
theorem cbrT_zero (u : SV) : cbrT u 0 = 0 := rfl
theorem gwT_succ (u : SV) (k : Nat) : gwT u (k + 1) = (maxF (gwT u k) (u.2.2.1 k)) := rfl
theorem gwT_zero (u : SV) : gwT u 0 = 0 := rfl
theorem woaT_succ (u : SV) (k : Nat) : woaT u (k + 1) = (woaT u k + u.2.2.1 k) := rfl
theorem woaT_zero (u : SV) : woaT u 0 = 0 := rfl
theorem fubI_succ (rg : Nat → Int32) (t : Nat) (f0 : Int32) (o : Nat) : fubI rg t f0 (o + 1) = (minF (fubI rg t f0 o) (bcF (rg t ^^^ rg o))) := rfl
theorem fubI_zero (rg : Nat → Int32) (t : Nat) (f0 : Int32) : fubI rg t f0 0 = f0 := rfl
theorem fubT_succ (rg : Nat → Int32) (t : Nat) : fubT rg (t + 1) = (fubI rg t (fubT rg t) t) := rfl
theorem fubT_zero (rg : Nat → Int32) : fubT rg 0 = 8 := rfl
theorem wearT_succ (we : Nat → Int32) (mask more : Int32) (r : Nat) : wearT we mask more (r + 1) = (if bitF mask (nI r) = 1 then upd (wearT we mask more r) r (minF (wearT we mask more r r + more) 99) else wearT we mask more r) := rfl
theorem wearT_zero (we : Nat → Int32) (mask more : Int32) : wearT we mask more 0 = we := rfl
theorem mJ6_bitCount_0f7a4_k265 : Cond.constant RJ6 265 (1431655765) ∈ wsJ6_bitCount_0f7a4 := by decide +kernel
theorem mJ6_bitCount_0f7a4_k266 : Cond.constant RJ6 266 (858993459) ∈ wsJ6_bitCount_0f7a4 := by decide +kernel
theorem mJ6_bitCount_0f7a4_k267 : Cond.constant RJ6 267 (252645135) ∈ wsJ6_bitCount_0f7a4 := by decide +kernel
set_option maxHeartbeats 4000000 in
set_option maxRecDepth 100000 in
theorem c_J6_bitCount_0f7a4 (l : Launch) (D : va_G) (cA : Nat → ClassId) (H : Heap) (x : Int32) : RO l yJ6_bitCount_0f7a4 wsJ6_bitCount_0f7a4 ({ frames := 0, cells := 0, slots := 0, locals := 0 } : Room) D cA [.int x] H (some (.int (bcF x))) := by
  refine Met.ofW (cc := cJ6_bitCount_0f7a4) (maxL := 1) (ret := (some .int)) (by decide) rfl ?_
  intro p e s m args below meth c s₁ B hml hv
  obtain ⟨rfl, hH, hKN⟩ := hv
  have hK := hKN.1
  have hx := B.exec
  have hb := B.bytes
  have hr := B.returns
  have hts := atoms_spec (ws := wsJ6_bitCount_0f7a4) B.pre
  have hown : s.vm.findClass RJ6 = some m.cls := findClass_of_methodNamed B.named
  have hlocks := B.notSynchronized
  subst hH
  have hH : s.heap = s.heap := rfl
  have hl := lv_entry ([.int x] : List Value) (n := 1) (Nat.le_of_ble_eq_true rfl)
  rw [lg_entry_eq]
  generalize (lg_sl ([.int x] : List Value) ++ List.replicate (1 - (lg_sl ([.int x] : List Value)).length) Slot.unset).toArray = ls at hl ⊢
  have hl : lv_has ls 1 [(0, .int x)] := hl
  refine lv_iload_n hx hb dJ6_bitCount_0f7a4_0 rfl (lv_at hl 0 rfl) ?_
  refine lv_iload_n hx hb dJ6_bitCount_0f7a4_1 rfl (lv_at hl 0 rfl) ?_
  refine lv_iconst (v := 1) hx hb dJ6_bitCount_0f7a4_2 (by decide) ?_
  refine lv_iushr (v := (ushrF x 1)) hx hb dJ6_bitCount_0f7a4_3 rfl ?_
  refine lv_ldcw (v := 1431655765) hx hb hown (hts _ mJ6_bitCount_0f7a4_k265) dJ6_bitCount_0f7a4_4 ?_
  refine lv_iand hx hb dJ6_bitCount_0f7a4_7 ?_
  refine lv_isub hx hb dJ6_bitCount_0f7a4_8 ?_
  refine lv_istore_n (lv' := [(0, .int (x - ((ushrF x 1) &&& 1431655765)))]) hx hb dJ6_bitCount_0f7a4_9 rfl hl (by decide) rfl (fun ls hl => ?_)
  refine lv_iload_n hx hb dJ6_bitCount_0f7a4_10 rfl (lv_at hl 0 rfl) ?_
  refine lv_ldcw (v := 858993459) hx hb hown (hts _ mJ6_bitCount_0f7a4_k266) dJ6_bitCount_0f7a4_11 ?_
  refine lv_iand hx hb dJ6_bitCount_0f7a4_14 ?_
  refine lv_iload_n hx hb dJ6_bitCount_0f7a4_15 rfl (lv_at hl 0 rfl) ?_
  refine lv_iconst (v := 2) hx hb dJ6_bitCount_0f7a4_16 (by decide) ?_
  refine lv_iushr (v := (ushrF (x - ((ushrF x 1) &&& 1431655765)) 2)) hx hb dJ6_bitCount_0f7a4_17 rfl ?_
  refine lv_ldcw (v := 858993459) hx hb hown (hts _ mJ6_bitCount_0f7a4_k266) dJ6_bitCount_0f7a4_18 ?_
  refine lv_iand hx hb dJ6_bitCount_0f7a4_21 ?_
  refine lv_iadd hx hb dJ6_bitCount_0f7a4_22 ?_
  refine lv_istore_n (lv' := [(0, .int (((x - ((ushrF x 1) &&& 1431655765)) &&& 858993459) + ((ushrF (x - ((ushrF x 1) &&& 1431655765)) 2) &&& 858993459)))]) hx hb dJ6_bitCount_0f7a4_23 rfl hl (by decide) rfl (fun ls hl => ?_)
  refine lv_iload_n hx hb dJ6_bitCount_0f7a4_24 rfl (lv_at hl 0 rfl) ?_
  refine lv_iload_n hx hb dJ6_bitCount_0f7a4_25 rfl (lv_at hl 0 rfl) ?_
  refine lv_iconst (v := 4) hx hb dJ6_bitCount_0f7a4_26 (by decide) ?_
  refine lv_iushr (v := (ushrF (((x - ((ushrF x 1) &&& 1431655765)) &&& 858993459) + ((ushrF (x - ((ushrF x 1) &&& 1431655765)) 2) &&& 858993459)) 4)) hx hb dJ6_bitCount_0f7a4_27 rfl ?_
  refine lv_iadd hx hb dJ6_bitCount_0f7a4_28 ?_
  refine lv_ldcw (v := 252645135) hx hb hown (hts _ mJ6_bitCount_0f7a4_k267) dJ6_bitCount_0f7a4_29 ?_
  refine lv_iand hx hb dJ6_bitCount_0f7a4_32 ?_
  refine lv_istore_n (lv' := [(0, .int (((((x - ((ushrF x 1) &&& 1431655765)) &&& 858993459) + ((ushrF (x - ((ushrF x 1) &&& 1431655765)) 2) &&& 858993459)) + (ushrF (((x - ((ushrF x 1) &&& 1431655765)) &&& 858993459) + ((ushrF (x - ((ushrF x 1) &&& 1431655765)) 2) &&& 858993459)) 4)) &&& 252645135))]) hx hb dJ6_bitCount_0f7a4_33 rfl hl (by decide) rfl (fun ls hl => ?_)
  refine lv_iload_n hx hb dJ6_bitCount_0f7a4_34 rfl (lv_at hl 0 rfl) ?_
  refine lv_iload_n hx hb dJ6_bitCount_0f7a4_35 rfl (lv_at hl 0 rfl) ?_
  refine lv_bipush (v := 8) hx hb dJ6_bitCount_0f7a4_36 (by decide) ?_
  refine lv_iushr (v := (ushrF (((((x - ((ushrF x 1) &&& 1431655765)) &&& 858993459) + ((ushrF (x - ((ushrF x 1) &&& 1431655765)) 2) &&& 858993459)) + (ushrF (((x - ((ushrF x 1) &&& 1431655765)) &&& 858993459) + ((ushrF (x - ((ushrF x 1) &&& 1431655765)) 2) &&& 858993459)) 4)) &&& 252645135) 8)) hx hb dJ6_bitCount_0f7a4_38 rfl ?_
  refine lv_iadd hx hb dJ6_bitCount_0f7a4_39 ?_
  refine lv_istore_n (lv' := [(0, .int ((((((x - ((ushrF x 1) &&& 1431655765)) &&& 858993459) + ((ushrF (x - ((ushrF x 1) &&& 1431655765)) 2) &&& 858993459)) + (ushrF (((x - ((ushrF x 1) &&& 1431655765)) &&& 858993459) + ((ushrF (x - ((ushrF x 1) &&& 1431655765)) 2) &&& 858993459)) 4)) &&& 252645135) + (ushrF (((((x - ((ushrF x 1) &&& 1431655765)) &&& 858993459) + ((ushrF (x - ((ushrF x 1) &&& 1431655765)) 2) &&& 858993459)) + (ushrF (((x - ((ushrF x 1) &&& 1431655765)) &&& 858993459) + ((ushrF (x - ((ushrF x 1) &&& 1431655765)) 2) &&& 858993459)) 4)) &&& 252645135) 8)))]) hx hb dJ6_bitCount_0f7a4_40 rfl hl (by decide) rfl (fun ls hl => ?_)
  refine lv_iload_n hx hb dJ6_bitCount_0f7a4_41 rfl (lv_at hl 0 rfl) ?_
  refine lv_iload_n hx hb dJ6_bitCount_0f7a4_42 rfl (lv_at hl 0 rfl) ?_
  refine lv_bipush (v := 16) hx hb dJ6_bitCount_0f7a4_43 (by decide) ?_
  refine lv_iushr (v := (ushrF ((((((x - ((ushrF x 1) &&& 1431655765)) &&& 858993459) + ((ushrF (x - ((ushrF x 1) &&& 1431655765)) 2) &&& 858993459)) + (ushrF (((x - ((ushrF x 1) &&& 1431655765)) &&& 858993459) + ((ushrF (x - ((ushrF x 1) &&& 1431655765)) 2) &&& 858993459)) 4)) &&& 252645135) + (ushrF (((((x - ((ushrF x 1) &&& 1431655765)) &&& 858993459) + ((ushrF (x - ((ushrF x 1) &&& 1431655765)) 2) &&& 858993459)) + (ushrF (((x - ((ushrF x 1) &&& 1431655765)) &&& 858993459) + ((ushrF (x - ((ushrF x 1) &&& 1431655765)) 2) &&& 858993459)) 4)) &&& 252645135) 8)) 16)) hx hb dJ6_bitCount_0f7a4_45 rfl ?_
  refine lv_iadd hx hb dJ6_bitCount_0f7a4_46 ?_
  refine lv_istore_n (lv' := [(0, .int (((((((x - ((ushrF x 1) &&& 1431655765)) &&& 858993459) + ((ushrF (x - ((ushrF x 1) &&& 1431655765)) 2) &&& 858993459)) + (ushrF (((x - ((ushrF x 1) &&& 1431655765)) &&& 858993459) + ((ushrF (x - ((ushrF x 1) &&& 1431655765)) 2) &&& 858993459)) 4)) &&& 252645135) + (ushrF (((((x - ((ushrF x 1) &&& 1431655765)) &&& 858993459) + ((ushrF (x - ((ushrF x 1) &&& 1431655765)) 2) &&& 858993459)) + (ushrF (((x - ((ushrF x 1) &&& 1431655765)) &&& 858993459) + ((ushrF (x - ((ushrF x 1) &&& 1431655765)) 2) &&& 858993459)) 4)) &&& 252645135) 8)) + (ushrF ((((((x - ((ushrF x 1) &&& 1431655765)) &&& 858993459) + ((ushrF (x - ((ushrF x 1) &&& 1431655765)) 2) &&& 858993459)) + (ushrF (((x - ((ushrF x 1) &&& 1431655765)) &&& 858993459) + ((ushrF (x - ((ushrF x 1) &&& 1431655765)) 2) &&& 858993459)) 4)) &&& 252645135) + (ushrF (((((x - ((ushrF x 1) &&& 1431655765)) &&& 858993459) + ((ushrF (x - ((ushrF x 1) &&& 1431655765)) 2) &&& 858993459)) + (ushrF (((x - ((ushrF x 1) &&& 1431655765)) &&& 858993459) + ((ushrF (x - ((ushrF x 1) &&& 1431655765)) 2) &&& 858993459)) 4)) &&& 252645135) 8)) 16)))]) hx hb dJ6_bitCount_0f7a4_47 rfl hl (by decide) rfl (fun ls hl => ?_)
  refine lv_iload_n hx hb dJ6_bitCount_0f7a4_48 rfl (lv_at hl 0 rfl) ?_
  refine lv_bipush (v := 63) hx hb dJ6_bitCount_0f7a4_49 (by decide) ?_
  refine lv_iand hx hb dJ6_bitCount_0f7a4_51 ?_
  exact ro_iret hx hb hr hlocks hH dJ6_bitCount_0f7a4_52 rfl
set_option maxHeartbeats 4000000 in
set_option maxRecDepth 100000 in
theorem c_X4_bit (l : Launch) (D : va_G) (cA : Nat → ClassId) (H : Heap) (x k : Int32) : RO l yX4_bit wsX4_bit ({ frames := 0, cells := 0, slots := 0, locals := 0 } : Room) D cA [.int x, .int k] H (some (.int (bitF x k))) := by
  refine Met.ofW (cc := cX4_bit) (maxL := 2) (ret := (some .int)) (by decide) rfl ?_
  intro p e s m args below meth c s₁ B hml hv
  obtain ⟨rfl, hH, hKN⟩ := hv
  have hK := hKN.1
  have hx := B.exec
  have hb := B.bytes
  have hr := B.returns
  have hts := atoms_spec (ws := wsX4_bit) B.pre
  have hown : s.vm.findClass RX4 = some m.cls := findClass_of_methodNamed B.named
  have hlocks := B.notSynchronized
  subst hH
  have hH : s.heap = s.heap := rfl
  have hl := lv_entry ([.int x, .int k] : List Value) (n := 2) (Nat.le_of_ble_eq_true rfl)
  rw [lg_entry_eq]
  generalize (lg_sl ([.int x, .int k] : List Value) ++ List.replicate (2 - (lg_sl ([.int x, .int k] : List Value)).length) Slot.unset).toArray = ls at hl ⊢
  have hl : lv_has ls 2 [(0, .int x), (1, .int k)] := hl
  refine lv_iload_n hx hb dX4_bit_0 rfl (lv_at hl 0 rfl) ?_
  refine lv_iload_n hx hb dX4_bit_1 rfl (lv_at hl 1 rfl) ?_
  refine lv_ishr hx hb dX4_bit_2 ?_
  refine lv_iconst (v := 1) hx hb dX4_bit_3 (by decide) ?_
  refine lv_iand hx hb dX4_bit_4 ?_
  exact ro_iret hx hb hr hlocks hH dX4_bit_5 rfl
theorem mX2_asWord_f21 : Cond.fieldLink RX2 21 "WireLoom$State" "settings" "[I" ∈ wsX2_asWord := by decide +kernel
set_option maxRecDepth 20000 in
theorem iX2_asWord_X2 : ∀ w ∈ wsX20, w ∈ wsX2_asWord := by decide +kernel
set_option maxHeartbeats 4000000 in
set_option maxRecDepth 100000 in
theorem c_X2_asWord (l : Launch) (D : va_G) (cA : Nat → ClassId) (H : Heap) (a : Nat → Nat) (u : SV) (mask : Int32) (hP0 : va_P D vwCl (wSt cA a u) H) : RO l yX2_asWord wsX2_asWord ({ frames := 0, cells := 0, slots := 0, locals := 0 } : Room) D cA [.ref (a 0), .int mask] H (some (.int (wordF u.2.2.2.1 mask))) := by
  refine Met.ofW (cc := cX2_asWord) (maxL := 2) (ret := (some .int)) (by decide) rfl ?_
  intro p e s m args below meth c s₁ B hml hv
  obtain ⟨rfl, hH, hKN⟩ := hv
  have hK := hKN.1
  have hx := B.exec
  have hb := B.bytes
  have hr := B.returns
  have hts := atoms_spec (ws := wsX2_asWord) B.pre
  have hown : s.vm.findClass RX2 = some m.cls := findClass_of_methodNamed B.named
  have hlocks := B.notSynchronized
  subst hH
  have hH : s.heap = s.heap := rfl
  have hP := hP0
  have hl := lv_entry ([.ref (a 0), .int mask] : List Value) (n := 2) (Nat.le_of_ble_eq_true rfl)
  rw [lg_entry_eq]
  generalize (lg_sl ([.ref (a 0), .int mask] : List Value) ++ List.replicate (2 - (lg_sl ([.ref (a 0), .int mask] : List Value)).length) Slot.unset).toArray = ls at hl ⊢
  have hl : lv_has ls 2 [(0, .ref (a 0)), (1, .int mask)] := hl
  refine lv_aload_n hx hb dX2_asWord_0 rfl (lv_at hl 0 rfl) ?_
  refine va_get (D := D) (ci := 2) (v := .ref (a 4)) (C := RX2) (T := TX2) (N := 8) hx hb hts iX2_asWord_X2 hown hK hP 0 rfl rfl 3 (by decide) (hts _ mX2_asWord_f21) (fun _ h9 => h9) rfl dX2_asWord_1 ?_
  refine lv_iconst (v := 1) hx hb dX2_asWord_4 (by decide) ?_
  refine lz_iald (k := 1) (f := u.2.2.2.1) hx hb hK hP 4 0 rfl rfl ⟨by decide, by decide⟩ dX2_asWord_5 ?_
  refine lv_if_ne (tgt := 13) hx hb dX2_asWord_6 (by decide) (fun c_6 => ?_) (fun c_6 => ?_)
  · refine lv_iload_n hx hb dX2_asWord_13 rfl (lv_at hl 1 rfl) ?_
    refine lv_sipush (v := 255) hx hb dX2_asWord_14 (by decide) ?_
    refine lv_ixor hx hb dX2_asWord_17 ?_
    exact ro_iret hx hb hr hlocks hH dX2_asWord_18 (by simp [wordF, c_6])
  · refine lv_iload_n hx hb dX2_asWord_9 rfl (lv_at hl 1 rfl) ?_
    refine lv_goto (tgt := 18) hx hb dX2_asWord_10 (by decide) ?_
    exact ro_iret hx hb hr hlocks hH dX2_asWord_18 (by simp [wordF, c_6])
theorem mX2_means_f9 : Cond.fieldLink RX2 9 "WireLoom$State" "rings" "[I" ∈ wsX2_means := by decide +kernel
set_option maxRecDepth 20000 in
theorem iX2_means_X2 : ∀ w ∈ wsX20, w ∈ wsX2_means := by decide +kernel
set_option maxHeartbeats 4000000 in
set_option maxRecDepth 100000 in
theorem c_X2_means (l : Launch) (D : va_G) (cA : Nat → ClassId) (H : Heap) (a : Nat → Nat) (u : SV) (t : Nat) (ht : t < 16) (hP0 : va_P D vwCl (wSt cA a u) H) : RO l yX2_means wsX2_means ({ frames := 1, cells := 0, slots := 0, locals := 21 } : Room) D cA [.ref (a 0), .int (nI t)] H (some (.int (meansS u t))) := by
  refine Met.ofW (cc := cX2_means) (maxL := 2) (ret := (some .int)) (by decide) rfl ?_
  intro p e s m args below meth c s₁ B hml hv
  obtain ⟨rfl, hH, hKN⟩ := hv
  have hK := hKN.1
  have hx := B.exec
  have hb := B.bytes
  have hr := B.returns
  have hts := atoms_spec (ws := wsX2_means) B.pre
  have hown : s.vm.findClass RX2 = some m.cls := findClass_of_methodNamed B.named
  have hlocks := B.notSynchronized
  subst hH
  have hH : s.heap = s.heap := rfl
  have hP := hP0
  have hl := lv_entry ([.ref (a 0), .int (nI t)] : List Value) (n := 2) (Nat.le_of_ble_eq_true rfl)
  rw [lg_entry_eq]
  generalize (lg_sl ([.ref (a 0), .int (nI t)] : List Value) ++ List.replicate (2 - (lg_sl ([.ref (a 0), .int (nI t)] : List Value)).length) Slot.unset).toArray = ls at hl ⊢
  have hl : lv_has ls 2 [(0, .ref (a 0)), (1, .int (nI t))] := hl
  refine lv_aload_n hx hb dX2_means_0 rfl (lv_at hl 0 rfl) ?_
  refine lv_aload_n hx hb dX2_means_1 rfl (lv_at hl 0 rfl) ?_
  refine va_get (D := D) (ci := 2) (v := .ref (a 1)) (C := RX2) (T := TX2) (N := 8) hx hb hts iX2_means_X2 hown hK hP 0 rfl rfl 0 (by decide) (hts _ mX2_means_f9) (fun _ h9 => h9) rfl dX2_means_2 ?_
  refine lv_iload_n hx hb dX2_means_5 rfl (lv_at hl 1 rfl) ?_
  refine lz_iald (k := t) (f := u.1) hx hb hK hP 1 0 rfl rfl ⟨by omega, by decide⟩ dX2_means_6 ?_
  refine ro_V (ci := 2) (q0 := 0) (As := [.int (u.1 t)]) (rest := []) ⟨hx, hb, hml, hown, hts⟩ (c_X2_asWord l D cA _ a u (u.1 t) hP ) (cwV 1 hts gX2_means_X2_asWord rfl rfl rfl (by decide +kernel) ⟨Nat.le_of_ble_eq_true rfl, Nat.le_of_ble_eq_true rfl⟩) hKN hP rfl rfl rfl hl.1 rfl (lv_room (Nat.le_of_ble_eq_true rfl)) dX2_means_7 ⟨Nat.zero_le _, Nat.zero_le _⟩ ?_
  exact ro_iret hx hb hr hlocks hH dX2_means_10 rfl
theorem mX2_oneThreadOn_f9 : Cond.fieldLink RX2 9 "WireLoom$State" "rings" "[I" ∈ wsX2_oneThreadOn := by decide +kernel
theorem mX2_oneThreadOn_f41 : Cond.fieldLink RX2 41 "WireLoom$State" "guarded" "I" ∈ wsX2_oneThreadOn := by decide +kernel
set_option maxRecDepth 20000 in
theorem iX2_oneThreadOn_X2 : ∀ w ∈ wsX20, w ∈ wsX2_oneThreadOn := by decide +kernel
set_option maxHeartbeats 4000000 in
set_option maxRecDepth 100000 in
theorem c_X2_oneThreadOn (l : Launch) (D : va_G) (cA : Nat → ClassId) (H : Heap) (a : Nat → Nat) (u : SV) (reader reached : Int32) (hP0 : va_P D vwCl (wSt cA a u) H) : RO l yX2_oneThreadOn wsX2_oneThreadOn ({ frames := 1, cells := 0, slots := 0, locals := 21 } : Room) D cA [.ref (a 0), .int reader, .int reached] H (some (.int (oneT u.1 u.2.2.2.2.1 reader reached 16))) := by
  refine Met.ofW (cc := cX2_oneThreadOn) (maxL := 6) (ret := (some .int)) (by decide) rfl ?_
  intro p e s m args below meth c s₁ B hml hv
  obtain ⟨rfl, hH, hKN⟩ := hv
  have hK := hKN.1
  have hx := B.exec
  have hb := B.bytes
  have hr := B.returns
  have hts := atoms_spec (ws := wsX2_oneThreadOn) B.pre
  have hown : s.vm.findClass RX2 = some m.cls := findClass_of_methodNamed B.named
  have hlocks := B.notSynchronized
  subst hH
  have hH : s.heap = s.heap := rfl
  have hP := hP0
  have hl := lv_entry ([.ref (a 0), .int reader, .int reached] : List Value) (n := 6) (Nat.le_of_ble_eq_true rfl)
  rw [lg_entry_eq]
  generalize (lg_sl ([.ref (a 0), .int reader, .int reached] : List Value) ++ List.replicate (6 - (lg_sl ([.ref (a 0), .int reader, .int reached] : List Value)).length) Slot.unset).toArray = ls at hl ⊢
  have hl : lv_has ls 6 [(0, .ref (a 0)), (1, .int reader), (2, .int reached)] := hl
  refine lv_iload_n hx hb dX2_oneThreadOn_0 rfl (lv_at hl 2 rfl) ?_
  refine lv_istore_n (lv' := [(3, .int reached), (0, .ref (a 0)), (1, .int reader), (2, .int reached)]) hx hb dX2_oneThreadOn_1 rfl hl (by decide) rfl (fun ls hl => ?_)
  refine lv_iconst (v := 0) hx hb dX2_oneThreadOn_2 (by decide) ?_
  refine lv_istore (lv' := [(4, .int 0), (3, .int reached), (0, .ref (a 0)), (1, .int reader), (2, .int reached)]) hx hb dX2_oneThreadOn_3 hl (by decide) rfl (fun ls hl => ?_)
  have loop5 : ∀ (n5 k5 : Nat), k5 + n5 = 16 → ∀ (ls : Array Slot), lv_has ls 6 [(4, .int (nI k5)), (3, .int (oneT u.1 u.2.2.2.2.1 reader reached k5)), (0, .ref (a 0)), (1, .int reader), (2, .int reached)] → W p l e ({ frames := 1, cells := 0, slots := 0, locals := 21 } : Room) s m ([.ref (a 0), .int reader, .int reached] : List Value).toArray below meth c s.heap [] 0 0 (MQ below (roQ s.heap (some (.int (oneT u.1 u.2.2.2.2.1 reader reached 16)))) ([.ref (a 0), .int reader, .int reached] : List Value).toArray s 0 0 noA) (F0 m 5 ls []) := by
    intro n5
    induction n5 with
    | zero =>
      intro k5 hk5 ls hl
      obtain rfl : 16 = k5 := by omega
      refine lv_iload hx hb dX2_oneThreadOn_5 (lv_at hl 0 rfl) ?_
      refine lv_bipush (v := 16) hx hb dX2_oneThreadOn_7 (by decide) ?_
      refine lv_icmp_ge (tgt := 70) hx hb dX2_oneThreadOn_9 (by decide) (fun _ => ?_) (fun h => absurd (by decide) h)
      refine lv_iload_n hx hb dX2_oneThreadOn_70 rfl (lv_at hl 1 rfl) ?_
      exact ro_iret hx hb hr hlocks hH dX2_oneThreadOn_71 rfl
    | succ n5 ih5 =>
      intro k5 hk5 ls hl
      have hlt5 : k5 < 16 := by omega
      refine lv_iload hx hb dX2_oneThreadOn_5 (lv_at hl 0 rfl) ?_
      refine lv_bipush (v := 16) hx hb dX2_oneThreadOn_7 (by decide) ?_
      refine lv_icmp_ge (tgt := 70) hx hb dX2_oneThreadOn_9 (by decide) (fun h => absurd h (nI_ge hlt5 (by first | decide | omega))) (fun _ => ?_)
      refine lv_aload_n hx hb dX2_oneThreadOn_12 rfl (lv_at hl 2 rfl) ?_
      refine va_get (D := D) (ci := 2) (v := .ref (a 1)) (C := RX2) (T := TX2) (N := 8) hx hb hts iX2_oneThreadOn_X2 hown hK hP 0 rfl rfl 0 (by decide) (hts _ mX2_oneThreadOn_f9) (fun _ h9 => h9) rfl dX2_oneThreadOn_13 ?_
      refine lv_iload hx hb dX2_oneThreadOn_16 (lv_at hl 0 rfl) ?_
      refine lz_iald (k := k5) (f := u.1) hx hb hK hP 1 0 rfl rfl ⟨by omega, by decide⟩ dX2_oneThreadOn_18 ?_
      refine lv_iload_n hx hb dX2_oneThreadOn_19 rfl (lv_at hl 4 rfl) ?_
      refine lv_iand hx hb dX2_oneThreadOn_20 ?_
      refine lv_if_eq (tgt := 28) hx hb dX2_oneThreadOn_21 (by decide) (fun c_21 => ?_) (fun c_21 => ?_)
      · refine lv_iconst (v := 0) hx hb dX2_oneThreadOn_28 (by decide) ?_
        refine lv_istore (lv' := [(5, .int 0), (4, .int (nI k5)), (3, .int (oneT u.1 u.2.2.2.2.1 reader reached k5)), (0, .ref (a 0)), (1, .int reader), (2, .int reached)]) hx hb dX2_oneThreadOn_29 hl (by decide) rfl (fun ls hl => ?_)
        refine lv_iload hx hb dX2_oneThreadOn_31 (lv_at hl 0 rfl) ?_
        refine lv_if_eq (tgt := 64) hx hb dX2_oneThreadOn_33 (by decide) (fun _ => ?_) (fun h => absurd (by decide) h)
        refine lv_iinc (v := (nI (k5 + 1))) (lv' := [(4, .int (nI (k5 + 1))), (5, .int 0), (3, .int (oneT u.1 u.2.2.2.2.1 reader reached k5)), (0, .ref (a 0)), (1, .int reader), (2, .int reached)]) hx hb dX2_oneThreadOn_64 hl (k := 1) rfl (nI_1 _) (by decide) rfl (fun ls hl => ?_)
        refine lv_goto (tgt := 5) hx hb dX2_oneThreadOn_67 (by decide) ?_
        have e_1 : (oneT u.1 u.2.2.2.2.1 reader reached (k5 + 1)) = (oneT u.1 u.2.2.2.2.1 reader reached k5) := by rw [oneT_succ] <;> simp only [c_21, if_true, if_false]
        exact ih5 (k5 + 1) (by omega) ls (by rw [e_1]; exact (lv_sub hl [0, 2, 3, 4, 5] rfl))
      · refine lv_iconst (v := 1) hx hb dX2_oneThreadOn_24 (by decide) ?_
        refine lv_goto (tgt := 29) hx hb dX2_oneThreadOn_25 (by decide) ?_
        refine lv_istore (lv' := [(5, .int 1), (4, .int (nI k5)), (3, .int (oneT u.1 u.2.2.2.2.1 reader reached k5)), (0, .ref (a 0)), (1, .int reader), (2, .int reached)]) hx hb dX2_oneThreadOn_29 hl (by decide) rfl (fun ls hl => ?_)
        refine lv_iload hx hb dX2_oneThreadOn_31 (lv_at hl 0 rfl) ?_
        refine lv_if_eq (tgt := 64) hx hb dX2_oneThreadOn_33 (by decide) (fun h => absurd h (by decide)) (fun _ => ?_)
        refine lv_iload hx hb dX2_oneThreadOn_36 (lv_at hl 1 rfl) ?_
        refine lv_iload_n hx hb dX2_oneThreadOn_38 rfl (lv_at hl 4 rfl) ?_
        refine lv_icmp_eq (tgt := 64) hx hb dX2_oneThreadOn_39 (by decide) (fun c_39 => ?_) (fun c_39 => ?_)
        · refine lv_iinc (v := (nI (k5 + 1))) (lv' := [(4, .int (nI (k5 + 1))), (5, .int 1), (3, .int (oneT u.1 u.2.2.2.2.1 reader reached k5)), (0, .ref (a 0)), (1, .int reader), (2, .int reached)]) hx hb dX2_oneThreadOn_64 hl (k := 1) rfl (nI_1 _) (by decide) rfl (fun ls hl => ?_)
          refine lv_goto (tgt := 5) hx hb dX2_oneThreadOn_67 (by decide) ?_
          have e_2 : (oneT u.1 u.2.2.2.2.1 reader reached (k5 + 1)) = (oneT u.1 u.2.2.2.2.1 reader reached k5) := by rw [oneT_succ] <;> simp only [c_21, c_39, if_true, if_false]
          exact ih5 (k5 + 1) (by omega) ls (by rw [e_2]; exact (lv_sub hl [0, 2, 3, 4, 5] rfl))
        · refine lv_aload_n hx hb dX2_oneThreadOn_42 rfl (lv_at hl 3 rfl) ?_
          refine va_get (D := D) (ci := 2) (v := .int u.2.2.2.2.1) (C := RX2) (T := TX2) (N := 8) hx hb hts iX2_oneThreadOn_X2 hown hK hP 0 rfl rfl 5 (by decide) (hts _ mX2_oneThreadOn_f41) (fun _ h9 => h9) rfl dX2_oneThreadOn_43 ?_
          refine lv_iload hx hb dX2_oneThreadOn_46 (lv_at hl 1 rfl) ?_
          refine ro_SN (As := [.int u.2.2.2.2.1, .int (nI k5)]) (rest := []) ⟨hx, hb, hml, hown, hts⟩ (c_X4_bit l D cA _ u.2.2.2.2.1 (nI k5)) (nestB 2 hts gX2_oneThreadOn_X4_bit_n70 rfl rfl rfl hKN.2 (by decide +kernel) (by decide +kernel) (by decide +kernel) ⟨Nat.le_of_ble_eq_true rfl, Nat.le_of_ble_eq_true rfl⟩) hKN rfl hl.1 rfl (lv_room (Nat.le_of_ble_eq_true rfl)) dX2_oneThreadOn_48 ⟨Nat.zero_le _, Nat.zero_le _⟩ ?_
          refine lv_if_ne (tgt := 64) hx hb dX2_oneThreadOn_51 (by decide) (fun c_51 => ?_) (fun c_51 => ?_)
          · refine lv_iinc (v := (nI (k5 + 1))) (lv' := [(4, .int (nI (k5 + 1))), (5, .int 1), (3, .int (oneT u.1 u.2.2.2.2.1 reader reached k5)), (0, .ref (a 0)), (1, .int reader), (2, .int reached)]) hx hb dX2_oneThreadOn_64 hl (k := 1) rfl (nI_1 _) (by decide) rfl (fun ls hl => ?_)
            refine lv_goto (tgt := 5) hx hb dX2_oneThreadOn_67 (by decide) ?_
            have e_3 : (oneT u.1 u.2.2.2.2.1 reader reached (k5 + 1)) = (oneT u.1 u.2.2.2.2.1 reader reached k5) := by rw [oneT_succ] <;> simp only [c_21, c_39, c_51, if_true, if_false]
            exact ih5 (k5 + 1) (by omega) ls (by rw [e_3]; exact (lv_sub hl [0, 2, 3, 4, 5] rfl))
          · refine lv_iload_n hx hb dX2_oneThreadOn_54 rfl (lv_at hl 2 rfl) ?_
            refine lv_aload_n hx hb dX2_oneThreadOn_55 rfl (lv_at hl 3 rfl) ?_
            refine va_get (D := D) (ci := 2) (v := .ref (a 1)) (C := RX2) (T := TX2) (N := 8) hx hb hts iX2_oneThreadOn_X2 hown hK hP 0 rfl rfl 0 (by decide) (hts _ mX2_oneThreadOn_f9) (fun _ h9 => h9) rfl dX2_oneThreadOn_56 ?_
            refine lv_iload hx hb dX2_oneThreadOn_59 (lv_at hl 1 rfl) ?_
            refine lz_iald (k := k5) (f := u.1) hx hb hK hP 1 0 rfl rfl ⟨by omega, by decide⟩ dX2_oneThreadOn_61 ?_
            refine lv_ior hx hb dX2_oneThreadOn_62 ?_
            refine lv_istore_n (lv' := [(3, .int ((oneT u.1 u.2.2.2.2.1 reader reached k5) ||| (u.1 k5))), (5, .int 1), (4, .int (nI k5)), (0, .ref (a 0)), (1, .int reader), (2, .int reached)]) hx hb dX2_oneThreadOn_63 rfl hl (by decide) rfl (fun ls hl => ?_)
            refine lv_iinc (v := (nI (k5 + 1))) (lv' := [(4, .int (nI (k5 + 1))), (3, .int ((oneT u.1 u.2.2.2.2.1 reader reached k5) ||| (u.1 k5))), (5, .int 1), (0, .ref (a 0)), (1, .int reader), (2, .int reached)]) hx hb dX2_oneThreadOn_64 hl (k := 2) rfl (nI_1 _) (by decide) rfl (fun ls hl => ?_)
            refine lv_goto (tgt := 5) hx hb dX2_oneThreadOn_67 (by decide) ?_
            have e_4 : (oneT u.1 u.2.2.2.2.1 reader reached (k5 + 1)) = ((oneT u.1 u.2.2.2.2.1 reader reached k5) ||| (u.1 k5)) := by rw [oneT_succ] <;> simp only [c_21, c_39, c_51, if_true, if_false]
            exact ih5 (k5 + 1) (by omega) ls (by rw [e_4]; exact (lv_sub hl [0, 1, 3, 4, 5] rfl))
  exact loop5 16 0 (by omega) ls (lv_sub hl [0, 1, 2, 3, 4] rfl)
theorem mX2_strengthAt_p99 : Cond.methodLink RX2 99 Lib.Math.max.name ∈ wsX2_strengthAt := by decide +kernel
theorem mX2_strengthAt_st_max : Cond.static Lib.Math.max.name ∈ wsX2_strengthAt := by decide +kernel
theorem mX2_strengthAt_iniMath : Cond.initialized "java/lang/Math" ∈ wsX2_strengthAt := by decide +kernel
theorem mX2_strengthAt_co_max : Cond.code Lib.Math.max.name Lib.Math.max.code 2 (some .int) ∈ wsX2_strengthAt := by decide +kernel
theorem mX2_strengthAt_f18 : Cond.fieldLink RX2 18 "WireLoom$State" "wear" "[I" ∈ wsX2_strengthAt := by decide +kernel
set_option maxRecDepth 20000 in
theorem iX2_strengthAt_X2 : ∀ w ∈ wsX20, w ∈ wsX2_strengthAt := by decide +kernel
set_option maxHeartbeats 4000000 in
set_option maxRecDepth 100000 in
theorem c_X2_strengthAt (l : Launch) (D : va_G) (cA : Nat → ClassId) (H : Heap) (a : Nat → Nat) (u : SV) (r : Nat) (hr0 : r < 8) (hops : Int32) (hP0 : va_P D vwCl (wSt cA a u) H) : RO l yX2_strengthAt wsX2_strengthAt ({ frames := 1, cells := 0, slots := 0, locals := 13 } : Room) D cA [.ref (a 0), .int (nI r), .int hops] H (some (.int (strF u.2.2.1 r hops))) := by
  refine Met.ofW (cc := cX2_strengthAt) (maxL := 4) (ret := (some .int)) (by decide) rfl ?_
  intro p e s m args below meth c s₁ B hml hv
  obtain ⟨rfl, hH, hKN⟩ := hv
  have hK := hKN.1
  have hx := B.exec
  have hb := B.bytes
  have hr := B.returns
  have hts := atoms_spec (ws := wsX2_strengthAt) B.pre
  have hown : s.vm.findClass RX2 = some m.cls := findClass_of_methodNamed B.named
  have hlocks := B.notSynchronized
  subst hH
  have hH : s.heap = s.heap := rfl
  have hP := hP0
  have hl := lv_entry ([.ref (a 0), .int (nI r), .int hops] : List Value) (n := 4) (Nat.le_of_ble_eq_true rfl)
  rw [lg_entry_eq]
  generalize (lg_sl ([.ref (a 0), .int (nI r), .int hops] : List Value) ++ List.replicate (4 - (lg_sl ([.ref (a 0), .int (nI r), .int hops] : List Value)).length) Slot.unset).toArray = ls at hl ⊢
  have hl : lv_has ls 4 [(0, .ref (a 0)), (1, .int (nI r)), (2, .int hops)] := hl
  refine lv_iload_n hx hb dX2_strengthAt_0 rfl (lv_at hl 2 rfl) ?_
  refine lv_iconst (v := (-1)) hx hb dX2_strengthAt_1 (by decide) ?_
  refine lv_icmp_ne (tgt := 7) hx hb dX2_strengthAt_2 (by decide) (fun c_2 => ?_) (fun c_2 => ?_)
  · refine lv_bipush (v := 8) hx hb dX2_strengthAt_7 (by decide) ?_
    refine lv_iconst (v := 3) hx hb dX2_strengthAt_9 (by decide) ?_
    refine lv_iload_n hx hb dX2_strengthAt_10 rfl (lv_at hl 2 rfl) ?_
    refine lv_imul hx hb dX2_strengthAt_11 ?_
    refine lv_isub hx hb dX2_strengthAt_12 ?_
    refine lv_iconst (v := 0) hx hb dX2_strengthAt_13 (by decide) ?_
    refine va_mmax hx hb (hml.trans hl.1.symm) hown (hts _ mX2_strengthAt_p99) (hts _ mX2_strengthAt_st_max) (hts _ mX2_strengthAt_iniMath) (hts _ mX2_strengthAt_co_max) (Nat.le_of_ble_eq_true rfl) (Nat.le_of_ble_eq_true rfl) (Nat.zero_le _) (Nat.zero_le _) dX2_strengthAt_14 ?_
    refine lz_top (v := (maxF ((8 : Int32) - ((3 : Int32) * hops)) 0)) rfl ?_
    refine lv_istore_n (lv' := [(3, .int (maxF ((8 : Int32) - ((3 : Int32) * hops)) 0)), (0, .ref (a 0)), (1, .int (nI r)), (2, .int hops)]) hx hb dX2_strengthAt_17 rfl hl (by decide) rfl (fun ls hl => ?_)
    refine lv_iload_n hx hb dX2_strengthAt_18 rfl (lv_at hl 0 rfl) ?_
    refine lv_aload_n hx hb dX2_strengthAt_19 rfl (lv_at hl 1 rfl) ?_
    refine va_get (D := D) (ci := 2) (v := .ref (a 3)) (C := RX2) (T := TX2) (N := 8) hx hb hts iX2_strengthAt_X2 hown hK hP 0 rfl rfl 2 (by decide) (hts _ mX2_strengthAt_f18) (fun _ h9 => h9) rfl dX2_strengthAt_20 ?_
    refine lv_iload_n hx hb dX2_strengthAt_23 rfl (lv_at hl 2 rfl) ?_
    refine lz_iald (k := r) (f := u.2.2.1) hx hb hK hP 3 0 rfl rfl ⟨by omega, by decide⟩ dX2_strengthAt_24 ?_
    refine lv_bipush (v := 10) hx hb dX2_strengthAt_25 (by decide) ?_
    refine lv_idiv hx hb dX2_strengthAt_27 (by decide) ?_
    refine lv_isub hx hb dX2_strengthAt_28 ?_
    refine lv_iconst (v := 0) hx hb dX2_strengthAt_29 (by decide) ?_
    refine va_mmax hx hb (hml.trans hl.1.symm) hown (hts _ mX2_strengthAt_p99) (hts _ mX2_strengthAt_st_max) (hts _ mX2_strengthAt_iniMath) (hts _ mX2_strengthAt_co_max) (Nat.le_of_ble_eq_true rfl) (Nat.le_of_ble_eq_true rfl) (Nat.zero_le _) (Nat.zero_le _) dX2_strengthAt_30 ?_
    refine lz_top (v := (maxF ((maxF ((8 : Int32) - ((3 : Int32) * hops)) 0) - ((u.2.2.1 r) / 10)) 0)) rfl ?_
    exact ro_iret hx hb hr hlocks hH dX2_strengthAt_33 (by simp [strF, c_2])
  · refine lv_iconst (v := 0) hx hb dX2_strengthAt_5 (by decide) ?_
    exact ro_iret hx hb hr hlocks hH dX2_strengthAt_6 (by simp [strF, c_2])
def wearS (u : SV) (mask more : Int32) : SV := (u.1, u.2.1, wearT u.2.2.1 mask more 8, u.2.2.2)
def layS (u : SV) (t : Nat) (mask : Int32) : SV := (upd u.1 t mask, u.2.1, wearT u.2.2.1 (u.1 t ^^^ mask) 2 8, u.2.2.2.1, u.2.2.2.2.1, u.2.2.2.2.2.1 + bcF (u.1 t ^^^ mask), u.2.2.2.2.2.2)
def renewT (rg : Nat → Int32) (ring : Int32) : Nat → Nat → Int32
  | 0 => rg
  | k + 1 => upd (renewT rg ring k) k (renewT rg ring k k &&& (((1 : Int32) <<< (ring &&& 31)) ^^^ (-1)))
def renewS (u : SV) (r : Nat) : SV := (renewT u.1 (nI r) 16, u.2.1, upd u.2.2.1 r 0, u.2.2.2)
def readS (u : SV) (t : Nat) : SV := (u.1, upd u.2.1 t (u.2.1 t + 1), wearT u.2.2.1 (u.1 t) 1 8, u.2.2.2.1, u.2.2.2.2.1, u.2.2.2.2.2.1, u.2.2.2.2.2.2.1 + 1, u.2.2.2.2.2.2.2)
def shiftLa (la : Nat → Int32) (ct : Int32) : Nat → Int32 := upd (upd (upd (upd (upd (upd (upd (upd la 7 (la 6)) 6 (la 5)) 5 (la 4)) 4 (la 3)) 3 (la 2)) 2 (la 1)) 1 (la 0)) 0 ct
def beginM : MV := (fun _ => 0, fun _ => -1, 0, 0, 1, 0, 0)
def obeyS (u : MV) (p w : Nat) : MV :=
  if w / 32 = 0 then (u.1, u.2.1, nI ((p + 1) % 16), u.2.2.2.1, 0, u.2.2.2.2.2.1 + 1, u.2.2.2.2.2.2)
  else if w / 32 = 1 then (u.1, u.2.1, nI ((p + 1) % 16), nI (w % 32), u.2.2.2.2.1, u.2.2.2.2.2.1 + 1, u.2.2.2.2.2.2)
  else if w / 32 = 2 then (u.1, u.2.1, nI ((p + 1) % 16), remF (u.2.2.2.1 + u.1 (w % 32 % 4)) 256, u.2.2.2.2.1, u.2.2.2.2.2.1 + 1, u.2.2.2.2.2.2)
  else if w / 32 = 3 then (upd u.1 (w % 32 % 4) u.2.2.2.1, u.2.1, nI ((p + 1) % 16), u.2.2.2.1, u.2.2.2.2.1, u.2.2.2.2.2.1 + 1, u.2.2.2.2.2.2)
  else if w / 32 = 4 then (u.1, u.2.1, nI (w % 32 % 16), u.2.2.2.1, u.2.2.2.2.1, u.2.2.2.2.2.1 + 1, u.2.2.2.2.2.2)
  else if w / 32 = 5 then (u.1, u.2.1, if u.2.2.2.1 = 0 then nI (w % 32 % 16) else nI ((p + 1) % 16), u.2.2.2.1, u.2.2.2.2.1, u.2.2.2.2.2.1 + 1, u.2.2.2.2.2.2)
  else if w / 32 = 6 then (u.1, u.2.1, nI ((p + 1) % 16), remF ((u.2.2.2.1 + 256) - nI (w % 32)) 256, u.2.2.2.2.1, u.2.2.2.2.2.1 + 1, u.2.2.2.2.2.2)
  else (u.1, shiftLa u.2.1 u.2.2.2.1, nI ((p + 1) % 16), u.2.2.2.1, u.2.2.2.2.1, u.2.2.2.2.2.1 + 1, u.2.2.2.2.2.2 + 1)
/-- the machine's part of a state, and a state with another -/
def mcS (u : SV) : MV := (u.2.2.2.2.2.2.2.1, u.2.2.2.2.2.2.2.2.1, u.2.2.2.2.2.2.2.2.2.1, u.2.2.2.2.2.2.2.2.2.2.1, u.2.2.2.2.2.2.2.2.2.2.2.1, u.2.2.2.2.2.2.2.2.2.2.2.2.1, u.2.2.2.2.2.2.2.2.2.2.2.2.2)
def setMc (u : SV) (v : MV) : SV := (u.1, u.2.1, u.2.2.1, u.2.2.2.1, u.2.2.2.2.1, u.2.2.2.2.2.1, u.2.2.2.2.2.2.1, v.1, v.2.1, v.2.2.1, v.2.2.2.1, v.2.2.2.2.1, v.2.2.2.2.2.1, v.2.2.2.2.2.2)

theorem mX2_answering_f9 : Cond.fieldLink RX2 9 "WireLoom$State" "rings" "[I" ∈ wsX2_answering := by decide +kernel
theorem mX2_answering_f21 : Cond.fieldLink RX2 21 "WireLoom$State" "settings" "[I" ∈ wsX2_answering := by decide +kernel
set_option maxRecDepth 20000 in
theorem iX2_answering_X2 : ∀ w ∈ wsX20, w ∈ wsX2_answering := by decide +kernel
set_option maxHeartbeats 4000000 in
set_option maxRecDepth 100000 in
theorem c_X2_answering (l : Launch) (D : va_G) (cA : Nat → ClassId) (H : Heap) (a : Nat → Nat) (u : SV) (t : Nat) (ht : t < 16) (hP0 : va_P D vwCl (wSt cA a u) H) : RO l yX2_answering wsX2_answering ({ frames := 2, cells := 0, slots := 0, locals := 46 } : Room) D cA [.ref (a 0), .int (nI t)] H (some (.int (ansS u t))) := by
  refine Met.ofW (cc := cX2_answering) (maxL := 8) (ret := (some .int)) (by decide) rfl ?_
  intro p e s m args below meth c s₁ B hml hv
  obtain ⟨rfl, hH, hKN⟩ := hv
  have hK := hKN.1
  have hx := B.exec
  have hb := B.bytes
  have hr := B.returns
  have hts := atoms_spec (ws := wsX2_answering) B.pre
  have hown : s.vm.findClass RX2 = some m.cls := findClass_of_methodNamed B.named
  have hlocks := B.notSynchronized
  subst hH
  have hH : s.heap = s.heap := rfl
  have hP := hP0
  have hl := lv_entry ([.ref (a 0), .int (nI t)] : List Value) (n := 8) (Nat.le_of_ble_eq_true rfl)
  rw [lg_entry_eq]
  generalize (lg_sl ([.ref (a 0), .int (nI t)] : List Value) ++ List.replicate (8 - (lg_sl ([.ref (a 0), .int (nI t)] : List Value)).length) Slot.unset).toArray = ls at hl ⊢
  have hl : lv_has ls 8 [(0, .ref (a 0)), (1, .int (nI t))] := hl
  refine lv_iconst (v := 0) hx hb dX2_answering_0 (by decide) ?_
  refine lv_istore_n (lv' := [(2, .int 0), (0, .ref (a 0)), (1, .int (nI t))]) hx hb dX2_answering_1 rfl hl (by decide) rfl (fun ls hl => ?_)
  refine lv_iconst (v := 0) hx hb dX2_answering_2 (by decide) ?_
  refine lv_istore_n (lv' := [(3, .int 0), (2, .int 0), (0, .ref (a 0)), (1, .int (nI t))]) hx hb dX2_answering_3 rfl hl (by decide) rfl (fun ls hl => ?_)
  refine lv_aload_n hx hb dX2_answering_4 rfl (lv_at hl 2 rfl) ?_
  refine va_get (D := D) (ci := 2) (v := .ref (a 1)) (C := RX2) (T := TX2) (N := 8) hx hb hts iX2_answering_X2 hown hK hP 0 rfl rfl 0 (by decide) (hts _ mX2_answering_f9) (fun _ h9 => h9) rfl dX2_answering_5 ?_
  refine lv_iload_n hx hb dX2_answering_8 rfl (lv_at hl 3 rfl) ?_
  refine lz_iald (k := t) (f := u.1) hx hb hK hP 1 0 rfl rfl ⟨by omega, by decide⟩ dX2_answering_9 ?_
  refine lv_istore (lv' := [(4, .int (u.1 t)), (3, .int 0), (2, .int 0), (0, .ref (a 0)), (1, .int (nI t))]) hx hb dX2_answering_10 hl (by decide) rfl (fun ls hl => ?_)
  refine lv_iconst (v := 0) hx hb dX2_answering_12 (by decide) ?_
  refine lv_istore (lv' := [(5, .int 0), (4, .int (u.1 t)), (3, .int 0), (2, .int 0), (0, .ref (a 0)), (1, .int (nI t))]) hx hb dX2_answering_13 hl (by decide) rfl (fun ls hl => ?_)
  refine lv_iconst (v := 3) hx hb dX2_answering_15 (by decide) ?_
  refine lv_iload hx hb dX2_answering_16 (lv_at hl 0 rfl) ?_
  refine lz_imul (v := 0) hx hb dX2_answering_18 (by decide) ?_
  refine lv_bipush (v := 8) hx hb dX2_answering_19 (by decide) ?_
  refine lv_icmp_ge (tgt := 101) hx hb dX2_answering_21 (by decide) (fun h => absurd h (by decide)) (fun _ => ?_)
  refine lv_iload hx hb dX2_answering_24 (lv_at hl 1 rfl) ?_
  refine lv_iload_n hx hb dX2_answering_26 rfl (lv_at hl 2 rfl) ?_
  refine lv_iconst (v := (-1)) hx hb dX2_answering_27 (by decide) ?_
  refine lv_ixor hx hb dX2_answering_28 ?_
  refine lv_iand hx hb dX2_answering_29 ?_
  refine lv_istore (lv' := [(6, .int ((u.1 t) &&& ((0 : Int32) ^^^ (-1)))), (5, .int 0), (4, .int (u.1 t)), (3, .int 0), (2, .int 0), (0, .ref (a 0)), (1, .int (nI t))]) hx hb dX2_answering_30 hl (by decide) rfl (fun ls hl => ?_)
  refine lv_iconst (v := 0) hx hb dX2_answering_32 (by decide) ?_
  refine lv_istore (lv' := [(7, .int 0), (6, .int ((u.1 t) &&& ((0 : Int32) ^^^ (-1)))), (5, .int 0), (4, .int (u.1 t)), (3, .int 0), (2, .int 0), (0, .ref (a 0)), (1, .int (nI t))]) hx hb dX2_answering_33 hl (by decide) rfl (fun ls hl => ?_)
  have loop35 : ∀ (n35 k35 : Nat), k35 + n35 = 8 → ∀ (ls : Array Slot), lv_has ls 8 [(7, .int (nI k35)), (6, .int ((u.1 t) &&& ((0 : Int32) ^^^ (-1)))), (5, .int 0), (4, .int (u.1 t)), (3, .int 0), (2, .int (ansI u.2.2.1 u.2.2.2.1 ((u.1 t) &&& ((0 : Int32) ^^^ (-1))) 0 0 k35)), (0, .ref (a 0)), (1, .int (nI t))] → W p l e ({ frames := 2, cells := 0, slots := 0, locals := 46 } : Room) s m ([.ref (a 0), .int (nI t)] : List Value).toArray below meth c s.heap [] 0 0 (MQ below (roQ s.heap (some (.int (ansS u t)))) ([.ref (a 0), .int (nI t)] : List Value).toArray s 0 0 noA) (F0 m 35 ls []) := by
    intro n35
    induction n35 with
    | zero =>
      intro k35 hk35 ls hl
      obtain rfl : 8 = k35 := by omega
      obtain ⟨z_1, ez_1⟩ : ∃ z : Int32, z = (ansI u.2.2.1 u.2.2.2.1 ((u.1 t) &&& ((0 : Int32) ^^^ (-1))) 0 0 8) := ⟨_, rfl⟩
      rw [← ez_1] at hl
      refine lv_iload hx hb dX2_answering_35 (lv_at hl 0 rfl) ?_
      refine lv_bipush (v := 8) hx hb dX2_answering_37 (by decide) ?_
      refine lv_icmp_ge (tgt := 83) hx hb dX2_answering_39 (by decide) (fun _ => ?_) (fun h => absurd (by decide) h)
      refine lv_iload hx hb dX2_answering_83 (lv_at hl 3 rfl) ?_
      refine lv_istore_n (lv' := [(3, .int (u.1 t)), (7, .int (nI 8)), (6, .int ((u.1 t) &&& ((0 : Int32) ^^^ (-1)))), (5, .int 0), (4, .int (u.1 t)), (2, .int z_1), (0, .ref (a 0)), (1, .int (nI t))]) hx hb dX2_answering_85 rfl hl (by decide) rfl (fun ls hl => ?_)
      refine lv_aload_n hx hb dX2_answering_86 rfl (lv_at hl 6 rfl) ?_
      refine lv_iload_n hx hb dX2_answering_87 rfl (lv_at hl 7 rfl) ?_
      refine lv_iload hx hb dX2_answering_88 (lv_at hl 4 rfl) ?_
      refine ro_V (ci := 2) (q0 := 0) (As := [.int (nI t), .int (u.1 t)]) (rest := []) ⟨hx, hb, hml, hown, hts⟩ (c_X2_oneThreadOn l D cA _ a u (nI t) (u.1 t) hP ) (cwV 2 hts gX2_answering_X2_oneThreadOn rfl rfl rfl (by decide +kernel) ⟨Nat.le_of_ble_eq_true rfl, Nat.le_of_ble_eq_true rfl⟩) hKN hP rfl rfl rfl hl.1 rfl (lv_room (Nat.le_of_ble_eq_true rfl)) dX2_answering_90 ⟨Nat.zero_le _, Nat.zero_le _⟩ ?_
      refine lv_topi (fun r_2 er_2 => ?_)
      refine lv_istore (lv' := [(4, .int r_2), (3, .int (u.1 t)), (7, .int (nI 8)), (6, .int ((u.1 t) &&& ((0 : Int32) ^^^ (-1)))), (5, .int 0), (2, .int z_1), (0, .ref (a 0)), (1, .int (nI t))]) hx hb dX2_answering_93 hl (by decide) rfl (fun ls hl => ?_)
      refine lv_iinc (v := 1) (lv' := [(5, .int 1), (4, .int r_2), (3, .int (u.1 t)), (7, .int (nI 8)), (6, .int ((u.1 t) &&& ((0 : Int32) ^^^ (-1)))), (2, .int z_1), (0, .ref (a 0)), (1, .int (nI t))]) hx hb dX2_answering_95 hl (k := 4) rfl (by decide) (by decide) rfl (fun ls hl => ?_)
      refine lv_goto (tgt := 15) hx hb dX2_answering_98 (by decide) ?_
      refine lv_iconst (v := 3) hx hb dX2_answering_15 (by decide) ?_
      refine lv_iload hx hb dX2_answering_16 (lv_at hl 0 rfl) ?_
      refine lz_imul (v := 3) hx hb dX2_answering_18 (by decide) ?_
      refine lv_bipush (v := 8) hx hb dX2_answering_19 (by decide) ?_
      refine lv_icmp_ge (tgt := 101) hx hb dX2_answering_21 (by decide) (fun h => absurd h (by decide)) (fun _ => ?_)
      refine lv_iload hx hb dX2_answering_24 (lv_at hl 1 rfl) ?_
      refine lv_iload_n hx hb dX2_answering_26 rfl (lv_at hl 2 rfl) ?_
      refine lv_iconst (v := (-1)) hx hb dX2_answering_27 (by decide) ?_
      refine lv_ixor hx hb dX2_answering_28 ?_
      refine lv_iand hx hb dX2_answering_29 ?_
      refine lv_istore (lv' := [(6, .int (r_2 &&& ((u.1 t) ^^^ (-1)))), (5, .int 1), (4, .int r_2), (3, .int (u.1 t)), (7, .int (nI 8)), (2, .int z_1), (0, .ref (a 0)), (1, .int (nI t))]) hx hb dX2_answering_30 hl (by decide) rfl (fun ls hl => ?_)
      refine lv_iconst (v := 0) hx hb dX2_answering_32 (by decide) ?_
      refine lv_istore (lv' := [(7, .int 0), (6, .int (r_2 &&& ((u.1 t) ^^^ (-1)))), (5, .int 1), (4, .int r_2), (3, .int (u.1 t)), (2, .int z_1), (0, .ref (a 0)), (1, .int (nI t))]) hx hb dX2_answering_33 hl (by decide) rfl (fun ls hl => ?_)
      have loop35 : ∀ (n35 k35 : Nat), k35 + n35 = 8 → ∀ (ls : Array Slot), lv_has ls 8 [(7, .int (nI k35)), (6, .int (r_2 &&& ((u.1 t) ^^^ (-1)))), (5, .int 1), (4, .int r_2), (3, .int (u.1 t)), (2, .int (ansI u.2.2.1 u.2.2.2.1 (r_2 &&& ((u.1 t) ^^^ (-1))) 1 z_1 k35)), (0, .ref (a 0)), (1, .int (nI t))] → W p l e ({ frames := 2, cells := 0, slots := 0, locals := 46 } : Room) s m ([.ref (a 0), .int (nI t)] : List Value).toArray below meth c s.heap [] 0 0 (MQ below (roQ s.heap (some (.int (ansS u t)))) ([.ref (a 0), .int (nI t)] : List Value).toArray s 0 0 noA) (F0 m 35 ls []) := by
        intro n35
        induction n35 with
        | zero =>
          intro k35 hk35 ls hl
          obtain rfl : 8 = k35 := by omega
          obtain ⟨z_3, ez_3⟩ : ∃ z : Int32, z = (ansI u.2.2.1 u.2.2.2.1 (r_2 &&& ((u.1 t) ^^^ (-1))) 1 z_1 8) := ⟨_, rfl⟩
          rw [← ez_3] at hl
          refine lv_iload hx hb dX2_answering_35 (lv_at hl 0 rfl) ?_
          refine lv_bipush (v := 8) hx hb dX2_answering_37 (by decide) ?_
          refine lv_icmp_ge (tgt := 83) hx hb dX2_answering_39 (by decide) (fun _ => ?_) (fun h => absurd (by decide) h)
          refine lv_iload hx hb dX2_answering_83 (lv_at hl 3 rfl) ?_
          refine lv_istore_n (lv' := [(3, .int r_2), (7, .int (nI 8)), (6, .int (r_2 &&& ((u.1 t) ^^^ (-1)))), (5, .int 1), (4, .int r_2), (2, .int z_3), (0, .ref (a 0)), (1, .int (nI t))]) hx hb dX2_answering_85 rfl hl (by decide) rfl (fun ls hl => ?_)
          refine lv_aload_n hx hb dX2_answering_86 rfl (lv_at hl 6 rfl) ?_
          refine lv_iload_n hx hb dX2_answering_87 rfl (lv_at hl 7 rfl) ?_
          refine lv_iload hx hb dX2_answering_88 (lv_at hl 4 rfl) ?_
          refine ro_V (ci := 2) (q0 := 0) (As := [.int (nI t), .int r_2]) (rest := []) ⟨hx, hb, hml, hown, hts⟩ (c_X2_oneThreadOn l D cA _ a u (nI t) r_2 hP ) (cwV 2 hts gX2_answering_X2_oneThreadOn rfl rfl rfl (by decide +kernel) ⟨Nat.le_of_ble_eq_true rfl, Nat.le_of_ble_eq_true rfl⟩) hKN hP rfl rfl rfl hl.1 rfl (lv_room (Nat.le_of_ble_eq_true rfl)) dX2_answering_90 ⟨Nat.zero_le _, Nat.zero_le _⟩ ?_
          refine lv_topi (fun r_4 er_4 => ?_)
          refine lv_istore (lv' := [(4, .int r_4), (3, .int r_2), (7, .int (nI 8)), (6, .int (r_2 &&& ((u.1 t) ^^^ (-1)))), (5, .int 1), (2, .int z_3), (0, .ref (a 0)), (1, .int (nI t))]) hx hb dX2_answering_93 hl (by decide) rfl (fun ls hl => ?_)
          refine lv_iinc (v := 2) (lv' := [(5, .int 2), (4, .int r_4), (3, .int r_2), (7, .int (nI 8)), (6, .int (r_2 &&& ((u.1 t) ^^^ (-1)))), (2, .int z_3), (0, .ref (a 0)), (1, .int (nI t))]) hx hb dX2_answering_95 hl (k := 4) rfl (by decide) (by decide) rfl (fun ls hl => ?_)
          refine lv_goto (tgt := 15) hx hb dX2_answering_98 (by decide) ?_
          refine lv_iconst (v := 3) hx hb dX2_answering_15 (by decide) ?_
          refine lv_iload hx hb dX2_answering_16 (lv_at hl 0 rfl) ?_
          refine lz_imul (v := 6) hx hb dX2_answering_18 (by decide) ?_
          refine lv_bipush (v := 8) hx hb dX2_answering_19 (by decide) ?_
          refine lv_icmp_ge (tgt := 101) hx hb dX2_answering_21 (by decide) (fun h => absurd h (by decide)) (fun _ => ?_)
          refine lv_iload hx hb dX2_answering_24 (lv_at hl 1 rfl) ?_
          refine lv_iload_n hx hb dX2_answering_26 rfl (lv_at hl 2 rfl) ?_
          refine lv_iconst (v := (-1)) hx hb dX2_answering_27 (by decide) ?_
          refine lv_ixor hx hb dX2_answering_28 ?_
          refine lv_iand hx hb dX2_answering_29 ?_
          refine lv_istore (lv' := [(6, .int (r_4 &&& (r_2 ^^^ (-1)))), (5, .int 2), (4, .int r_4), (3, .int r_2), (7, .int (nI 8)), (2, .int z_3), (0, .ref (a 0)), (1, .int (nI t))]) hx hb dX2_answering_30 hl (by decide) rfl (fun ls hl => ?_)
          refine lv_iconst (v := 0) hx hb dX2_answering_32 (by decide) ?_
          refine lv_istore (lv' := [(7, .int 0), (6, .int (r_4 &&& (r_2 ^^^ (-1)))), (5, .int 2), (4, .int r_4), (3, .int r_2), (2, .int z_3), (0, .ref (a 0)), (1, .int (nI t))]) hx hb dX2_answering_33 hl (by decide) rfl (fun ls hl => ?_)
          have loop35 : ∀ (n35 k35 : Nat), k35 + n35 = 8 → ∀ (ls : Array Slot), lv_has ls 8 [(7, .int (nI k35)), (6, .int (r_4 &&& (r_2 ^^^ (-1)))), (5, .int 2), (4, .int r_4), (3, .int r_2), (2, .int (ansI u.2.2.1 u.2.2.2.1 (r_4 &&& (r_2 ^^^ (-1))) 2 z_3 k35)), (0, .ref (a 0)), (1, .int (nI t))] → W p l e ({ frames := 2, cells := 0, slots := 0, locals := 46 } : Room) s m ([.ref (a 0), .int (nI t)] : List Value).toArray below meth c s.heap [] 0 0 (MQ below (roQ s.heap (some (.int (ansS u t)))) ([.ref (a 0), .int (nI t)] : List Value).toArray s 0 0 noA) (F0 m 35 ls []) := by
            intro n35
            induction n35 with
            | zero =>
              intro k35 hk35 ls hl
              obtain rfl : 8 = k35 := by omega
              obtain ⟨z_5, ez_5⟩ : ∃ z : Int32, z = (ansI u.2.2.1 u.2.2.2.1 (r_4 &&& (r_2 ^^^ (-1))) 2 z_3 8) := ⟨_, rfl⟩
              rw [← ez_5] at hl
              refine lv_iload hx hb dX2_answering_35 (lv_at hl 0 rfl) ?_
              refine lv_bipush (v := 8) hx hb dX2_answering_37 (by decide) ?_
              refine lv_icmp_ge (tgt := 83) hx hb dX2_answering_39 (by decide) (fun _ => ?_) (fun h => absurd (by decide) h)
              refine lv_iload hx hb dX2_answering_83 (lv_at hl 3 rfl) ?_
              refine lv_istore_n (lv' := [(3, .int r_4), (7, .int (nI 8)), (6, .int (r_4 &&& (r_2 ^^^ (-1)))), (5, .int 2), (4, .int r_4), (2, .int z_5), (0, .ref (a 0)), (1, .int (nI t))]) hx hb dX2_answering_85 rfl hl (by decide) rfl (fun ls hl => ?_)
              refine lv_aload_n hx hb dX2_answering_86 rfl (lv_at hl 6 rfl) ?_
              refine lv_iload_n hx hb dX2_answering_87 rfl (lv_at hl 7 rfl) ?_
              refine lv_iload hx hb dX2_answering_88 (lv_at hl 4 rfl) ?_
              refine ro_V (ci := 2) (q0 := 0) (As := [.int (nI t), .int r_4]) (rest := []) ⟨hx, hb, hml, hown, hts⟩ (c_X2_oneThreadOn l D cA _ a u (nI t) r_4 hP ) (cwV 2 hts gX2_answering_X2_oneThreadOn rfl rfl rfl (by decide +kernel) ⟨Nat.le_of_ble_eq_true rfl, Nat.le_of_ble_eq_true rfl⟩) hKN hP rfl rfl rfl hl.1 rfl (lv_room (Nat.le_of_ble_eq_true rfl)) dX2_answering_90 ⟨Nat.zero_le _, Nat.zero_le _⟩ ?_
              refine lv_topi (fun r_6 er_6 => ?_)
              refine lv_istore (lv' := [(4, .int r_6), (3, .int r_4), (7, .int (nI 8)), (6, .int (r_4 &&& (r_2 ^^^ (-1)))), (5, .int 2), (2, .int z_5), (0, .ref (a 0)), (1, .int (nI t))]) hx hb dX2_answering_93 hl (by decide) rfl (fun ls hl => ?_)
              refine lv_iinc (v := 3) (lv' := [(5, .int 3), (4, .int r_6), (3, .int r_4), (7, .int (nI 8)), (6, .int (r_4 &&& (r_2 ^^^ (-1)))), (2, .int z_5), (0, .ref (a 0)), (1, .int (nI t))]) hx hb dX2_answering_95 hl (k := 4) rfl (by decide) (by decide) rfl (fun ls hl => ?_)
              refine lv_goto (tgt := 15) hx hb dX2_answering_98 (by decide) ?_
              refine lv_iconst (v := 3) hx hb dX2_answering_15 (by decide) ?_
              refine lv_iload hx hb dX2_answering_16 (lv_at hl 0 rfl) ?_
              refine lz_imul (v := 9) hx hb dX2_answering_18 (by decide) ?_
              refine lv_bipush (v := 8) hx hb dX2_answering_19 (by decide) ?_
              refine lv_icmp_ge (tgt := 101) hx hb dX2_answering_21 (by decide) (fun _ => ?_) (fun h => absurd (by decide) h)
              refine lv_iload_n hx hb dX2_answering_101 rfl (lv_at hl 5 rfl) ?_
              exact ro_iret hx hb hr hlocks hH dX2_answering_102 (by subst er_6 ez_5 er_4 ez_3 er_2 ez_1; rfl)
            | succ n35 ih35 =>
              intro k35 hk35 ls hl
              have hlt35 : k35 < 8 := by omega
              refine lv_iload hx hb dX2_answering_35 (lv_at hl 0 rfl) ?_
              refine lv_bipush (v := 8) hx hb dX2_answering_37 (by decide) ?_
              refine lv_icmp_ge (tgt := 83) hx hb dX2_answering_39 (by decide) (fun h => absurd h (nI_ge hlt35 (by first | decide | omega))) (fun _ => ?_)
              refine lv_iload hx hb dX2_answering_42 (lv_at hl 1 rfl) ?_
              refine lv_iload hx hb dX2_answering_44 (lv_at hl 0 rfl) ?_
              refine ro_SN (As := [.int (r_4 &&& (r_2 ^^^ (-1))), .int (nI k35)]) (rest := []) ⟨hx, hb, hml, hown, hts⟩ (c_X4_bit l D cA _ (r_4 &&& (r_2 ^^^ (-1))) (nI k35)) (nestB 2 hts gX2_answering_X4_bit_n70 rfl rfl rfl hKN.2 (by decide +kernel) (by decide +kernel) (by decide +kernel) ⟨Nat.le_of_ble_eq_true rfl, Nat.le_of_ble_eq_true rfl⟩) hKN rfl hl.1 rfl (lv_room (Nat.le_of_ble_eq_true rfl)) dX2_answering_46 ⟨Nat.zero_le _, Nat.zero_le _⟩ ?_
              refine lv_iconst (v := 1) hx hb dX2_answering_49 (by decide) ?_
              refine lv_icmp_ne (tgt := 77) hx hb dX2_answering_50 (by decide) (fun c_50 => ?_) (fun c_50 => ?_)
              · refine lv_iinc (v := (nI (k35 + 1))) (lv' := [(7, .int (nI (k35 + 1))), (6, .int (r_4 &&& (r_2 ^^^ (-1)))), (5, .int 2), (4, .int r_4), (3, .int r_2), (2, .int (ansI u.2.2.1 u.2.2.2.1 (r_4 &&& (r_2 ^^^ (-1))) 2 z_3 k35)), (0, .ref (a 0)), (1, .int (nI t))]) hx hb dX2_answering_77 hl (k := 0) rfl (nI_1 _) (by decide) rfl (fun ls hl => ?_)
                refine lv_goto (tgt := 35) hx hb dX2_answering_80 (by decide) ?_
                have e_7 : (ansI u.2.2.1 u.2.2.2.1 (r_4 &&& (r_2 ^^^ (-1))) 2 z_3 (k35 + 1)) = (ansI u.2.2.1 u.2.2.2.1 (r_4 &&& (r_2 ^^^ (-1))) 2 z_3 k35) := by rw [ansI_succ] <;> simp only [c_50, if_true, if_false]
                exact ih35 (k35 + 1) (by omega) ls (by rw [e_7]; exact (lv_sub hl [0, 1, 2, 3, 4, 5, 6, 7] rfl))
              · refine lv_aload_n hx hb dX2_answering_53 rfl (lv_at hl 6 rfl) ?_
                refine lv_iload hx hb dX2_answering_54 (lv_at hl 0 rfl) ?_
                refine lv_iload hx hb dX2_answering_56 (lv_at hl 2 rfl) ?_
                refine ro_V (ci := 2) (q0 := 0) (As := [.int (nI k35), .int 2]) (rest := []) ⟨hx, hb, hml, hown, hts⟩ (c_X2_strengthAt l D cA _ a u k35 (by omega) 2 hP ) (cwV 2 hts gX2_answering_X2_strengthAt rfl rfl rfl (by decide +kernel) ⟨Nat.le_of_ble_eq_true rfl, Nat.le_of_ble_eq_true rfl⟩) hKN hP rfl rfl rfl hl.1 rfl (lv_room (Nat.le_of_ble_eq_true rfl)) dX2_answering_58 ⟨Nat.zero_le _, Nat.zero_le _⟩ ?_
                refine lv_aload_n hx hb dX2_answering_61 rfl (lv_at hl 6 rfl) ?_
                refine va_get (D := D) (ci := 2) (v := .ref (a 4)) (C := RX2) (T := TX2) (N := 8) hx hb hts iX2_answering_X2 hown hK hP 0 rfl rfl 3 (by decide) (hts _ mX2_answering_f21) (fun _ h9 => h9) rfl dX2_answering_62 ?_
                refine lv_iconst (v := 0) hx hb dX2_answering_65 (by decide) ?_
                refine lz_iald (k := 0) (f := u.2.2.2.1) hx hb hK hP 4 0 rfl rfl ⟨by decide, by decide⟩ dX2_answering_66 ?_
                refine lv_icmp_lt (tgt := 77) hx hb dX2_answering_67 (by decide) (fun c_67 => ?_) (fun c_67 => ?_)
                · refine lv_iinc (v := (nI (k35 + 1))) (lv' := [(7, .int (nI (k35 + 1))), (6, .int (r_4 &&& (r_2 ^^^ (-1)))), (5, .int 2), (4, .int r_4), (3, .int r_2), (2, .int (ansI u.2.2.1 u.2.2.2.1 (r_4 &&& (r_2 ^^^ (-1))) 2 z_3 k35)), (0, .ref (a 0)), (1, .int (nI t))]) hx hb dX2_answering_77 hl (k := 0) rfl (nI_1 _) (by decide) rfl (fun ls hl => ?_)
                  refine lv_goto (tgt := 35) hx hb dX2_answering_80 (by decide) ?_
                  have e_8 : (ansI u.2.2.1 u.2.2.2.1 (r_4 &&& (r_2 ^^^ (-1))) 2 z_3 (k35 + 1)) = (ansI u.2.2.1 u.2.2.2.1 (r_4 &&& (r_2 ^^^ (-1))) 2 z_3 k35) := by rw [ansI_succ] <;> simp only [c_50, c_67, if_true, if_false]
                  exact ih35 (k35 + 1) (by omega) ls (by rw [e_8]; exact (lv_sub hl [0, 1, 2, 3, 4, 5, 6, 7] rfl))
                · refine lv_iload_n hx hb dX2_answering_70 rfl (lv_at hl 5 rfl) ?_
                  refine lv_iconst (v := 1) hx hb dX2_answering_71 (by decide) ?_
                  refine lv_iload hx hb dX2_answering_72 (lv_at hl 0 rfl) ?_
                  refine lv_ishl hx hb dX2_answering_74 ?_
                  refine lv_ior hx hb dX2_answering_75 ?_
                  refine lv_istore_n (lv' := [(2, .int ((ansI u.2.2.1 u.2.2.2.1 (r_4 &&& (r_2 ^^^ (-1))) 2 z_3 k35) ||| (1 <<< ((nI k35) &&& 31)))), (7, .int (nI k35)), (6, .int (r_4 &&& (r_2 ^^^ (-1)))), (5, .int 2), (4, .int r_4), (3, .int r_2), (0, .ref (a 0)), (1, .int (nI t))]) hx hb dX2_answering_76 rfl hl (by decide) rfl (fun ls hl => ?_)
                  refine lv_iinc (v := (nI (k35 + 1))) (lv' := [(7, .int (nI (k35 + 1))), (2, .int ((ansI u.2.2.1 u.2.2.2.1 (r_4 &&& (r_2 ^^^ (-1))) 2 z_3 k35) ||| (1 <<< ((nI k35) &&& 31)))), (6, .int (r_4 &&& (r_2 ^^^ (-1)))), (5, .int 2), (4, .int r_4), (3, .int r_2), (0, .ref (a 0)), (1, .int (nI t))]) hx hb dX2_answering_77 hl (k := 1) rfl (nI_1 _) (by decide) rfl (fun ls hl => ?_)
                  refine lv_goto (tgt := 35) hx hb dX2_answering_80 (by decide) ?_
                  have e_9 : (ansI u.2.2.1 u.2.2.2.1 (r_4 &&& (r_2 ^^^ (-1))) 2 z_3 (k35 + 1)) = ((ansI u.2.2.1 u.2.2.2.1 (r_4 &&& (r_2 ^^^ (-1))) 2 z_3 k35) ||| (1 <<< ((nI k35) &&& 31))) := by rw [ansI_succ] <;> simp only [c_50, c_67, if_true, if_false]
                  exact ih35 (k35 + 1) (by omega) ls (by rw [e_9]; exact (lv_sub hl [0, 2, 3, 4, 5, 1, 6, 7] rfl))
          exact loop35 8 0 (by omega) ls (lv_sub hl [0, 1, 2, 3, 4, 5, 6, 7] rfl)
        | succ n35 ih35 =>
          intro k35 hk35 ls hl
          have hlt35 : k35 < 8 := by omega
          refine lv_iload hx hb dX2_answering_35 (lv_at hl 0 rfl) ?_
          refine lv_bipush (v := 8) hx hb dX2_answering_37 (by decide) ?_
          refine lv_icmp_ge (tgt := 83) hx hb dX2_answering_39 (by decide) (fun h => absurd h (nI_ge hlt35 (by first | decide | omega))) (fun _ => ?_)
          refine lv_iload hx hb dX2_answering_42 (lv_at hl 1 rfl) ?_
          refine lv_iload hx hb dX2_answering_44 (lv_at hl 0 rfl) ?_
          refine ro_SN (As := [.int (r_2 &&& ((u.1 t) ^^^ (-1))), .int (nI k35)]) (rest := []) ⟨hx, hb, hml, hown, hts⟩ (c_X4_bit l D cA _ (r_2 &&& ((u.1 t) ^^^ (-1))) (nI k35)) (nestB 2 hts gX2_answering_X4_bit_n70 rfl rfl rfl hKN.2 (by decide +kernel) (by decide +kernel) (by decide +kernel) ⟨Nat.le_of_ble_eq_true rfl, Nat.le_of_ble_eq_true rfl⟩) hKN rfl hl.1 rfl (lv_room (Nat.le_of_ble_eq_true rfl)) dX2_answering_46 ⟨Nat.zero_le _, Nat.zero_le _⟩ ?_
          refine lv_iconst (v := 1) hx hb dX2_answering_49 (by decide) ?_
          refine lv_icmp_ne (tgt := 77) hx hb dX2_answering_50 (by decide) (fun c_50 => ?_) (fun c_50 => ?_)
          · refine lv_iinc (v := (nI (k35 + 1))) (lv' := [(7, .int (nI (k35 + 1))), (6, .int (r_2 &&& ((u.1 t) ^^^ (-1)))), (5, .int 1), (4, .int r_2), (3, .int (u.1 t)), (2, .int (ansI u.2.2.1 u.2.2.2.1 (r_2 &&& ((u.1 t) ^^^ (-1))) 1 z_1 k35)), (0, .ref (a 0)), (1, .int (nI t))]) hx hb dX2_answering_77 hl (k := 0) rfl (nI_1 _) (by decide) rfl (fun ls hl => ?_)
            refine lv_goto (tgt := 35) hx hb dX2_answering_80 (by decide) ?_
            have e_10 : (ansI u.2.2.1 u.2.2.2.1 (r_2 &&& ((u.1 t) ^^^ (-1))) 1 z_1 (k35 + 1)) = (ansI u.2.2.1 u.2.2.2.1 (r_2 &&& ((u.1 t) ^^^ (-1))) 1 z_1 k35) := by rw [ansI_succ] <;> simp only [c_50, if_true, if_false]
            exact ih35 (k35 + 1) (by omega) ls (by rw [e_10]; exact (lv_sub hl [0, 1, 2, 3, 4, 5, 6, 7] rfl))
          · refine lv_aload_n hx hb dX2_answering_53 rfl (lv_at hl 6 rfl) ?_
            refine lv_iload hx hb dX2_answering_54 (lv_at hl 0 rfl) ?_
            refine lv_iload hx hb dX2_answering_56 (lv_at hl 2 rfl) ?_
            refine ro_V (ci := 2) (q0 := 0) (As := [.int (nI k35), .int 1]) (rest := []) ⟨hx, hb, hml, hown, hts⟩ (c_X2_strengthAt l D cA _ a u k35 (by omega) 1 hP ) (cwV 2 hts gX2_answering_X2_strengthAt rfl rfl rfl (by decide +kernel) ⟨Nat.le_of_ble_eq_true rfl, Nat.le_of_ble_eq_true rfl⟩) hKN hP rfl rfl rfl hl.1 rfl (lv_room (Nat.le_of_ble_eq_true rfl)) dX2_answering_58 ⟨Nat.zero_le _, Nat.zero_le _⟩ ?_
            refine lv_aload_n hx hb dX2_answering_61 rfl (lv_at hl 6 rfl) ?_
            refine va_get (D := D) (ci := 2) (v := .ref (a 4)) (C := RX2) (T := TX2) (N := 8) hx hb hts iX2_answering_X2 hown hK hP 0 rfl rfl 3 (by decide) (hts _ mX2_answering_f21) (fun _ h9 => h9) rfl dX2_answering_62 ?_
            refine lv_iconst (v := 0) hx hb dX2_answering_65 (by decide) ?_
            refine lz_iald (k := 0) (f := u.2.2.2.1) hx hb hK hP 4 0 rfl rfl ⟨by decide, by decide⟩ dX2_answering_66 ?_
            refine lv_icmp_lt (tgt := 77) hx hb dX2_answering_67 (by decide) (fun c_67 => ?_) (fun c_67 => ?_)
            · refine lv_iinc (v := (nI (k35 + 1))) (lv' := [(7, .int (nI (k35 + 1))), (6, .int (r_2 &&& ((u.1 t) ^^^ (-1)))), (5, .int 1), (4, .int r_2), (3, .int (u.1 t)), (2, .int (ansI u.2.2.1 u.2.2.2.1 (r_2 &&& ((u.1 t) ^^^ (-1))) 1 z_1 k35)), (0, .ref (a 0)), (1, .int (nI t))]) hx hb dX2_answering_77 hl (k := 0) rfl (nI_1 _) (by decide) rfl (fun ls hl => ?_)
              refine lv_goto (tgt := 35) hx hb dX2_answering_80 (by decide) ?_
              have e_11 : (ansI u.2.2.1 u.2.2.2.1 (r_2 &&& ((u.1 t) ^^^ (-1))) 1 z_1 (k35 + 1)) = (ansI u.2.2.1 u.2.2.2.1 (r_2 &&& ((u.1 t) ^^^ (-1))) 1 z_1 k35) := by rw [ansI_succ] <;> simp only [c_50, c_67, if_true, if_false]
              exact ih35 (k35 + 1) (by omega) ls (by rw [e_11]; exact (lv_sub hl [0, 1, 2, 3, 4, 5, 6, 7] rfl))
            · refine lv_iload_n hx hb dX2_answering_70 rfl (lv_at hl 5 rfl) ?_
              refine lv_iconst (v := 1) hx hb dX2_answering_71 (by decide) ?_
              refine lv_iload hx hb dX2_answering_72 (lv_at hl 0 rfl) ?_
              refine lv_ishl hx hb dX2_answering_74 ?_
              refine lv_ior hx hb dX2_answering_75 ?_
              refine lv_istore_n (lv' := [(2, .int ((ansI u.2.2.1 u.2.2.2.1 (r_2 &&& ((u.1 t) ^^^ (-1))) 1 z_1 k35) ||| (1 <<< ((nI k35) &&& 31)))), (7, .int (nI k35)), (6, .int (r_2 &&& ((u.1 t) ^^^ (-1)))), (5, .int 1), (4, .int r_2), (3, .int (u.1 t)), (0, .ref (a 0)), (1, .int (nI t))]) hx hb dX2_answering_76 rfl hl (by decide) rfl (fun ls hl => ?_)
              refine lv_iinc (v := (nI (k35 + 1))) (lv' := [(7, .int (nI (k35 + 1))), (2, .int ((ansI u.2.2.1 u.2.2.2.1 (r_2 &&& ((u.1 t) ^^^ (-1))) 1 z_1 k35) ||| (1 <<< ((nI k35) &&& 31)))), (6, .int (r_2 &&& ((u.1 t) ^^^ (-1)))), (5, .int 1), (4, .int r_2), (3, .int (u.1 t)), (0, .ref (a 0)), (1, .int (nI t))]) hx hb dX2_answering_77 hl (k := 1) rfl (nI_1 _) (by decide) rfl (fun ls hl => ?_)
              refine lv_goto (tgt := 35) hx hb dX2_answering_80 (by decide) ?_
              have e_12 : (ansI u.2.2.1 u.2.2.2.1 (r_2 &&& ((u.1 t) ^^^ (-1))) 1 z_1 (k35 + 1)) = ((ansI u.2.2.1 u.2.2.2.1 (r_2 &&& ((u.1 t) ^^^ (-1))) 1 z_1 k35) ||| (1 <<< ((nI k35) &&& 31))) := by rw [ansI_succ] <;> simp only [c_50, c_67, if_true, if_false]
              exact ih35 (k35 + 1) (by omega) ls (by rw [e_12]; exact (lv_sub hl [0, 2, 3, 4, 5, 1, 6, 7] rfl))
      exact loop35 8 0 (by omega) ls (lv_sub hl [0, 1, 2, 3, 4, 5, 6, 7] rfl)
    | succ n35 ih35 =>
      intro k35 hk35 ls hl
      have hlt35 : k35 < 8 := by omega
      refine lv_iload hx hb dX2_answering_35 (lv_at hl 0 rfl) ?_
      refine lv_bipush (v := 8) hx hb dX2_answering_37 (by decide) ?_
      refine lv_icmp_ge (tgt := 83) hx hb dX2_answering_39 (by decide) (fun h => absurd h (nI_ge hlt35 (by first | decide | omega))) (fun _ => ?_)
      refine lv_iload hx hb dX2_answering_42 (lv_at hl 1 rfl) ?_
      refine lv_iload hx hb dX2_answering_44 (lv_at hl 0 rfl) ?_
      refine ro_SN (As := [.int ((u.1 t) &&& ((0 : Int32) ^^^ (-1))), .int (nI k35)]) (rest := []) ⟨hx, hb, hml, hown, hts⟩ (c_X4_bit l D cA _ ((u.1 t) &&& ((0 : Int32) ^^^ (-1))) (nI k35)) (nestB 2 hts gX2_answering_X4_bit_n70 rfl rfl rfl hKN.2 (by decide +kernel) (by decide +kernel) (by decide +kernel) ⟨Nat.le_of_ble_eq_true rfl, Nat.le_of_ble_eq_true rfl⟩) hKN rfl hl.1 rfl (lv_room (Nat.le_of_ble_eq_true rfl)) dX2_answering_46 ⟨Nat.zero_le _, Nat.zero_le _⟩ ?_
      refine lv_iconst (v := 1) hx hb dX2_answering_49 (by decide) ?_
      refine lv_icmp_ne (tgt := 77) hx hb dX2_answering_50 (by decide) (fun c_50 => ?_) (fun c_50 => ?_)
      · refine lv_iinc (v := (nI (k35 + 1))) (lv' := [(7, .int (nI (k35 + 1))), (6, .int ((u.1 t) &&& ((0 : Int32) ^^^ (-1)))), (5, .int 0), (4, .int (u.1 t)), (3, .int 0), (2, .int (ansI u.2.2.1 u.2.2.2.1 ((u.1 t) &&& ((0 : Int32) ^^^ (-1))) 0 0 k35)), (0, .ref (a 0)), (1, .int (nI t))]) hx hb dX2_answering_77 hl (k := 0) rfl (nI_1 _) (by decide) rfl (fun ls hl => ?_)
        refine lv_goto (tgt := 35) hx hb dX2_answering_80 (by decide) ?_
        have e_13 : (ansI u.2.2.1 u.2.2.2.1 ((u.1 t) &&& ((0 : Int32) ^^^ (-1))) 0 0 (k35 + 1)) = (ansI u.2.2.1 u.2.2.2.1 ((u.1 t) &&& ((0 : Int32) ^^^ (-1))) 0 0 k35) := by rw [ansI_succ] <;> simp only [c_50, if_true, if_false]
        exact ih35 (k35 + 1) (by omega) ls (by rw [e_13]; exact (lv_sub hl [0, 1, 2, 3, 4, 5, 6, 7] rfl))
      · refine lv_aload_n hx hb dX2_answering_53 rfl (lv_at hl 6 rfl) ?_
        refine lv_iload hx hb dX2_answering_54 (lv_at hl 0 rfl) ?_
        refine lv_iload hx hb dX2_answering_56 (lv_at hl 2 rfl) ?_
        refine ro_V (ci := 2) (q0 := 0) (As := [.int (nI k35), .int 0]) (rest := []) ⟨hx, hb, hml, hown, hts⟩ (c_X2_strengthAt l D cA _ a u k35 (by omega) 0 hP ) (cwV 2 hts gX2_answering_X2_strengthAt rfl rfl rfl (by decide +kernel) ⟨Nat.le_of_ble_eq_true rfl, Nat.le_of_ble_eq_true rfl⟩) hKN hP rfl rfl rfl hl.1 rfl (lv_room (Nat.le_of_ble_eq_true rfl)) dX2_answering_58 ⟨Nat.zero_le _, Nat.zero_le _⟩ ?_
        refine lv_aload_n hx hb dX2_answering_61 rfl (lv_at hl 6 rfl) ?_
        refine va_get (D := D) (ci := 2) (v := .ref (a 4)) (C := RX2) (T := TX2) (N := 8) hx hb hts iX2_answering_X2 hown hK hP 0 rfl rfl 3 (by decide) (hts _ mX2_answering_f21) (fun _ h9 => h9) rfl dX2_answering_62 ?_
        refine lv_iconst (v := 0) hx hb dX2_answering_65 (by decide) ?_
        refine lz_iald (k := 0) (f := u.2.2.2.1) hx hb hK hP 4 0 rfl rfl ⟨by decide, by decide⟩ dX2_answering_66 ?_
        refine lv_icmp_lt (tgt := 77) hx hb dX2_answering_67 (by decide) (fun c_67 => ?_) (fun c_67 => ?_)
        · refine lv_iinc (v := (nI (k35 + 1))) (lv' := [(7, .int (nI (k35 + 1))), (6, .int ((u.1 t) &&& ((0 : Int32) ^^^ (-1)))), (5, .int 0), (4, .int (u.1 t)), (3, .int 0), (2, .int (ansI u.2.2.1 u.2.2.2.1 ((u.1 t) &&& ((0 : Int32) ^^^ (-1))) 0 0 k35)), (0, .ref (a 0)), (1, .int (nI t))]) hx hb dX2_answering_77 hl (k := 0) rfl (nI_1 _) (by decide) rfl (fun ls hl => ?_)
          refine lv_goto (tgt := 35) hx hb dX2_answering_80 (by decide) ?_
          have e_14 : (ansI u.2.2.1 u.2.2.2.1 ((u.1 t) &&& ((0 : Int32) ^^^ (-1))) 0 0 (k35 + 1)) = (ansI u.2.2.1 u.2.2.2.1 ((u.1 t) &&& ((0 : Int32) ^^^ (-1))) 0 0 k35) := by rw [ansI_succ] <;> simp only [c_50, c_67, if_true, if_false]
          exact ih35 (k35 + 1) (by omega) ls (by rw [e_14]; exact (lv_sub hl [0, 1, 2, 3, 4, 5, 6, 7] rfl))
        · refine lv_iload_n hx hb dX2_answering_70 rfl (lv_at hl 5 rfl) ?_
          refine lv_iconst (v := 1) hx hb dX2_answering_71 (by decide) ?_
          refine lv_iload hx hb dX2_answering_72 (lv_at hl 0 rfl) ?_
          refine lv_ishl hx hb dX2_answering_74 ?_
          refine lv_ior hx hb dX2_answering_75 ?_
          refine lv_istore_n (lv' := [(2, .int ((ansI u.2.2.1 u.2.2.2.1 ((u.1 t) &&& ((0 : Int32) ^^^ (-1))) 0 0 k35) ||| (1 <<< ((nI k35) &&& 31)))), (7, .int (nI k35)), (6, .int ((u.1 t) &&& ((0 : Int32) ^^^ (-1)))), (5, .int 0), (4, .int (u.1 t)), (3, .int 0), (0, .ref (a 0)), (1, .int (nI t))]) hx hb dX2_answering_76 rfl hl (by decide) rfl (fun ls hl => ?_)
          refine lv_iinc (v := (nI (k35 + 1))) (lv' := [(7, .int (nI (k35 + 1))), (2, .int ((ansI u.2.2.1 u.2.2.2.1 ((u.1 t) &&& ((0 : Int32) ^^^ (-1))) 0 0 k35) ||| (1 <<< ((nI k35) &&& 31)))), (6, .int ((u.1 t) &&& ((0 : Int32) ^^^ (-1)))), (5, .int 0), (4, .int (u.1 t)), (3, .int 0), (0, .ref (a 0)), (1, .int (nI t))]) hx hb dX2_answering_77 hl (k := 1) rfl (nI_1 _) (by decide) rfl (fun ls hl => ?_)
          refine lv_goto (tgt := 35) hx hb dX2_answering_80 (by decide) ?_
          have e_15 : (ansI u.2.2.1 u.2.2.2.1 ((u.1 t) &&& ((0 : Int32) ^^^ (-1))) 0 0 (k35 + 1)) = ((ansI u.2.2.1 u.2.2.2.1 ((u.1 t) &&& ((0 : Int32) ^^^ (-1))) 0 0 k35) ||| (1 <<< ((nI k35) &&& 31))) := by rw [ansI_succ] <;> simp only [c_50, c_67, if_true, if_false]
          exact ih35 (k35 + 1) (by omega) ls (by rw [e_15]; exact (lv_sub hl [0, 2, 3, 4, 5, 1, 6, 7] rfl))
  exact loop35 8 0 (by omega) ls (lv_sub hl [0, 1, 2, 3, 4, 5, 6, 7] rfl)
set_option maxHeartbeats 4000000 in
set_option maxRecDepth 100000 in
theorem c_X2_tells (l : Launch) (D : va_G) (cA : Nat → ClassId) (H : Heap) (a : Nat → Nat) (u : SV) (t : Nat) (ht : t < 16) (hP0 : va_P D vwCl (wSt cA a u) H) : RO l yX2_tells wsX2_tells ({ frames := 3, cells := 0, slots := 0, locals := 73 } : Room) D cA [.ref (a 0), .int (nI t)] H (some (.int (tellsS u t))) := by
  refine Met.ofW (cc := cX2_tells) (maxL := 2) (ret := (some .int)) (by decide) rfl ?_
  intro p e s m args below meth c s₁ B hml hv
  obtain ⟨rfl, hH, hKN⟩ := hv
  have hK := hKN.1
  have hx := B.exec
  have hb := B.bytes
  have hr := B.returns
  have hts := atoms_spec (ws := wsX2_tells) B.pre
  have hown : s.vm.findClass RX2 = some m.cls := findClass_of_methodNamed B.named
  have hlocks := B.notSynchronized
  subst hH
  have hH : s.heap = s.heap := rfl
  have hP := hP0
  have hl := lv_entry ([.ref (a 0), .int (nI t)] : List Value) (n := 2) (Nat.le_of_ble_eq_true rfl)
  rw [lg_entry_eq]
  generalize (lg_sl ([.ref (a 0), .int (nI t)] : List Value) ++ List.replicate (2 - (lg_sl ([.ref (a 0), .int (nI t)] : List Value)).length) Slot.unset).toArray = ls at hl ⊢
  have hl : lv_has ls 2 [(0, .ref (a 0)), (1, .int (nI t))] := hl
  refine lv_aload_n hx hb dX2_tells_0 rfl (lv_at hl 0 rfl) ?_
  refine lv_aload_n hx hb dX2_tells_1 rfl (lv_at hl 0 rfl) ?_
  refine lv_iload_n hx hb dX2_tells_2 rfl (lv_at hl 1 rfl) ?_
  refine ro_V (ci := 2) (q0 := 0) (As := [.int (nI t)]) (rest := [.ref (a 0)]) ⟨hx, hb, hml, hown, hts⟩ (c_X2_answering l D cA _ a u t (by omega) hP ) (cwV 1 hts gX2_tells_X2_answering rfl rfl rfl (by decide +kernel) ⟨Nat.le_of_ble_eq_true rfl, Nat.le_of_ble_eq_true rfl⟩) hKN hP rfl rfl rfl hl.1 rfl (lv_room (Nat.le_of_ble_eq_true rfl)) dX2_tells_3 ⟨Nat.zero_le _, Nat.zero_le _⟩ ?_
  refine ro_V (ci := 2) (q0 := 0) (As := [.int (ansS u t)]) (rest := []) ⟨hx, hb, hml, hown, hts⟩ (c_X2_asWord l D cA _ a u (ansS u t) hP ) (cwV 1 hts gX2_tells_X2_asWord rfl rfl rfl (by decide +kernel) ⟨Nat.le_of_ble_eq_true rfl, Nat.le_of_ble_eq_true rfl⟩) hKN hP rfl rfl rfl hl.1 rfl (lv_room (Nat.le_of_ble_eq_true rfl)) dX2_tells_6 ⟨Nat.zero_le _, Nat.zero_le _⟩ ?_
  exact ro_iret hx hb hr hlocks hH dX2_tells_9 rfl
theorem mX2_hops_f9 : Cond.fieldLink RX2 9 "WireLoom$State" "rings" "[I" ∈ wsX2_hops := by decide +kernel
set_option maxRecDepth 20000 in
theorem iX2_hops_X2 : ∀ w ∈ wsX20, w ∈ wsX2_hops := by decide +kernel
set_option maxHeartbeats 4000000 in
set_option maxRecDepth 100000 in
theorem c_X2_hops (l : Launch) (D : va_G) (cA : Nat → ClassId) (H : Heap) (a : Nat → Nat) (u : SV) (t : Nat) (ht : t < 16) (ring : Int32) (hP0 : va_P D vwCl (wSt cA a u) H) : RO l yX2_hops wsX2_hops ({ frames := 2, cells := 0, slots := 0, locals := 46 } : Room) D cA [.ref (a 0), .int (nI t), .int ring] H (some (.int (hopsF u.1 u.2.2.2.2.1 t ring))) := by
  refine Met.ofW (cc := cX2_hops) (maxL := 5) (ret := (some .int)) (by decide) rfl ?_
  intro p e s m args below meth c s₁ B hml hv
  obtain ⟨rfl, hH, hKN⟩ := hv
  have hK := hKN.1
  have hx := B.exec
  have hb := B.bytes
  have hr := B.returns
  have hts := atoms_spec (ws := wsX2_hops) B.pre
  have hown : s.vm.findClass RX2 = some m.cls := findClass_of_methodNamed B.named
  have hlocks := B.notSynchronized
  subst hH
  have hH : s.heap = s.heap := rfl
  have hP := hP0
  have hl := lv_entry ([.ref (a 0), .int (nI t), .int ring] : List Value) (n := 5) (Nat.le_of_ble_eq_true rfl)
  rw [lg_entry_eq]
  generalize (lg_sl ([.ref (a 0), .int (nI t), .int ring] : List Value) ++ List.replicate (5 - (lg_sl ([.ref (a 0), .int (nI t), .int ring] : List Value)).length) Slot.unset).toArray = ls at hl ⊢
  have hl : lv_has ls 5 [(0, .ref (a 0)), (1, .int (nI t)), (2, .int ring)] := hl
  refine lv_aload_n hx hb dX2_hops_0 rfl (lv_at hl 0 rfl) ?_
  refine va_get (D := D) (ci := 2) (v := .ref (a 1)) (C := RX2) (T := TX2) (N := 8) hx hb hts iX2_hops_X2 hown hK hP 0 rfl rfl 0 (by decide) (hts _ mX2_hops_f9) (fun _ h9 => h9) rfl dX2_hops_1 ?_
  refine lv_iload_n hx hb dX2_hops_4 rfl (lv_at hl 1 rfl) ?_
  refine lz_iald (k := t) (f := u.1) hx hb hK hP 1 0 rfl rfl ⟨by omega, by decide⟩ dX2_hops_5 ?_
  refine lv_istore_n (lv' := [(3, .int (u.1 t)), (0, .ref (a 0)), (1, .int (nI t)), (2, .int ring)]) hx hb dX2_hops_6 rfl hl (by decide) rfl (fun ls hl => ?_)
  refine lv_iconst (v := 0) hx hb dX2_hops_7 (by decide) ?_
  refine lv_istore (lv' := [(4, .int 0), (3, .int (u.1 t)), (0, .ref (a 0)), (1, .int (nI t)), (2, .int ring)]) hx hb dX2_hops_8 hl (by decide) rfl (fun ls hl => ?_)
  have loop10 : ∀ (n10 k10 : Nat), k10 + n10 = 8 → hopsF u.1 u.2.2.2.2.1 t ring = hopsG u.1 u.2.2.2.2.1 t ring n10 k10 → ∀ (ls : Array Slot), lv_has ls 5 [(4, .int (nI k10)), (3, .int (reachF u.1 u.2.2.2.2.1 t k10)), (0, .ref (a 0)), (1, .int (nI t)), (2, .int ring)] → W p l e ({ frames := 2, cells := 0, slots := 0, locals := 46 } : Room) s m ([.ref (a 0), .int (nI t), .int ring] : List Value).toArray below meth c s.heap [] 0 0 (MQ below (roQ s.heap (some (.int (hopsF u.1 u.2.2.2.2.1 t ring)))) ([.ref (a 0), .int (nI t), .int ring] : List Value).toArray s 0 0 noA) (F0 m 10 ls []) := by
    intro n10
    induction n10 with
    | zero =>
      intro k10 hk10 hq10 ls hl
      obtain rfl : 8 = k10 := by omega
      refine lv_iload hx hb dX2_hops_10 (lv_at hl 0 rfl) ?_
      refine lv_bipush (v := 8) hx hb dX2_hops_12 (by decide) ?_
      refine lv_icmp_ge (tgt := 42) hx hb dX2_hops_14 (by decide) (fun _ => ?_) (fun h => absurd (by decide) h)
      refine lv_iconst (v := (-1)) hx hb dX2_hops_42 (by decide) ?_
      exact ro_iret hx hb hr hlocks hH dX2_hops_43 (by rw [hq10]; rfl)
    | succ n10 ih10 =>
      intro k10 hk10 hq10 ls hl
      have hlt10 : k10 < 8 := by omega
      refine lv_iload hx hb dX2_hops_10 (lv_at hl 0 rfl) ?_
      refine lv_bipush (v := 8) hx hb dX2_hops_12 (by decide) ?_
      refine lv_icmp_ge (tgt := 42) hx hb dX2_hops_14 (by decide) (fun h => absurd h (nI_ge hlt10 (by first | decide | omega))) (fun _ => ?_)
      refine lv_iload_n hx hb dX2_hops_17 rfl (lv_at hl 1 rfl) ?_
      refine lv_iload_n hx hb dX2_hops_18 rfl (lv_at hl 4 rfl) ?_
      refine ro_SN (As := [.int (reachF u.1 u.2.2.2.2.1 t k10), .int ring]) (rest := []) ⟨hx, hb, hml, hown, hts⟩ (c_X4_bit l D cA _ (reachF u.1 u.2.2.2.2.1 t k10) ring) (nestB 2 hts gX2_hops_X4_bit_n70 rfl rfl rfl hKN.2 (by decide +kernel) (by decide +kernel) (by decide +kernel) ⟨Nat.le_of_ble_eq_true rfl, Nat.le_of_ble_eq_true rfl⟩) hKN rfl hl.1 rfl (lv_room (Nat.le_of_ble_eq_true rfl)) dX2_hops_19 ⟨Nat.zero_le _, Nat.zero_le _⟩ ?_
      refine lv_iconst (v := 1) hx hb dX2_hops_22 (by decide) ?_
      refine lv_icmp_ne (tgt := 29) hx hb dX2_hops_23 (by decide) (fun c_23 => ?_) (fun c_23 => ?_)
      · refine lv_aload_n hx hb dX2_hops_29 rfl (lv_at hl 2 rfl) ?_
        refine lv_iload_n hx hb dX2_hops_30 rfl (lv_at hl 3 rfl) ?_
        refine lv_iload_n hx hb dX2_hops_31 rfl (lv_at hl 1 rfl) ?_
        refine ro_V (ci := 2) (q0 := 0) (As := [.int (nI t), .int (reachF u.1 u.2.2.2.2.1 t k10)]) (rest := []) ⟨hx, hb, hml, hown, hts⟩ (c_X2_oneThreadOn l D cA _ a u (nI t) (reachF u.1 u.2.2.2.2.1 t k10) hP ) (cwV 2 hts gX2_hops_X2_oneThreadOn rfl rfl rfl (by decide +kernel) ⟨Nat.le_of_ble_eq_true rfl, Nat.le_of_ble_eq_true rfl⟩) hKN hP rfl rfl rfl hl.1 rfl (lv_room (Nat.le_of_ble_eq_true rfl)) dX2_hops_32 ⟨Nat.zero_le _, Nat.zero_le _⟩ ?_
        refine lv_istore_n (lv' := [(3, .int (oneT u.1 u.2.2.2.2.1 (nI t) (reachF u.1 u.2.2.2.2.1 t k10) 16)), (4, .int (nI k10)), (0, .ref (a 0)), (1, .int (nI t)), (2, .int ring)]) hx hb dX2_hops_35 rfl hl (by decide) rfl (fun ls hl => ?_)
        refine lv_iinc (v := (nI (k10 + 1))) (lv' := [(4, .int (nI (k10 + 1))), (3, .int (oneT u.1 u.2.2.2.2.1 (nI t) (reachF u.1 u.2.2.2.2.1 t k10) 16)), (0, .ref (a 0)), (1, .int (nI t)), (2, .int ring)]) hx hb dX2_hops_36 hl (k := 1) rfl (nI_1 _) (by decide) rfl (fun ls hl => ?_)
        refine lv_goto (tgt := 10) hx hb dX2_hops_39 (by decide) ?_
        have e_1 : (reachF u.1 u.2.2.2.2.1 t (k10 + 1)) = (oneT u.1 u.2.2.2.2.1 (nI t) (reachF u.1 u.2.2.2.2.1 t k10) 16) := by rw [reachF_succ] <;> simp only [c_23, if_true, if_false]
        exact ih10 (k10 + 1) (by omega) (by rw [hq10, hopsG, if_neg c_23]) ls (by rw [e_1]; exact (lv_sub hl [0, 1, 2, 3, 4] rfl))
      · refine lv_iload hx hb dX2_hops_26 (lv_at hl 0 rfl) ?_
        exact ro_iret hx hb hr hlocks hH dX2_hops_28 (by rw [hq10, hopsG, if_pos c_23])
  exact loop10 8 0 (by omega) rfl ls (lv_sub hl [0, 1, 2, 3, 4] rfl)
theorem mX2_readingsUntilChange_f21 : Cond.fieldLink RX2 21 "WireLoom$State" "settings" "[I" ∈ wsX2_readingsUntilChange := by decide +kernel
theorem mX2_readingsUntilChange_f18 : Cond.fieldLink RX2 18 "WireLoom$State" "wear" "[I" ∈ wsX2_readingsUntilChange := by decide +kernel
theorem mX2_readingsUntilChange_f9 : Cond.fieldLink RX2 9 "WireLoom$State" "rings" "[I" ∈ wsX2_readingsUntilChange := by decide +kernel
set_option maxRecDepth 20000 in
theorem iX2_readingsUntilChange_X2 : ∀ w ∈ wsX20, w ∈ wsX2_readingsUntilChange := by decide +kernel
set_option maxHeartbeats 4000000 in
set_option maxRecDepth 100000 in
theorem c_X2_readingsUntilChange (l : Launch) (D : va_G) (cA : Nat → ClassId) (H : Heap) (a : Nat → Nat) (u : SV) (t : Nat) (ht : t < 16) (hP0 : va_P D vwCl (wSt cA a u) H) : RO l yX2_readingsUntilChange wsX2_readingsUntilChange ({ frames := 1, cells := 0, slots := 0, locals := 21 } : Room) D cA [.ref (a 0), .int (nI t)] H (some (.int (rucS u t))) := by
  refine Met.ofW (cc := cX2_readingsUntilChange) (maxL := 6) (ret := (some .int)) (by decide) rfl ?_
  intro p e s m args below meth c s₁ B hml hv
  obtain ⟨rfl, hH, hKN⟩ := hv
  have hK := hKN.1
  have hx := B.exec
  have hb := B.bytes
  have hr := B.returns
  have hts := atoms_spec (ws := wsX2_readingsUntilChange) B.pre
  have hown : s.vm.findClass RX2 = some m.cls := findClass_of_methodNamed B.named
  have hlocks := B.notSynchronized
  subst hH
  have hH : s.heap = s.heap := rfl
  have hP := hP0
  have hl := lv_entry ([.ref (a 0), .int (nI t)] : List Value) (n := 6) (Nat.le_of_ble_eq_true rfl)
  rw [lg_entry_eq]
  generalize (lg_sl ([.ref (a 0), .int (nI t)] : List Value) ++ List.replicate (6 - (lg_sl ([.ref (a 0), .int (nI t)] : List Value)).length) Slot.unset).toArray = ls at hl ⊢
  have hl : lv_has ls 6 [(0, .ref (a 0)), (1, .int (nI t))] := hl
  refine lv_bipush (v := 10) hx hb dX2_readingsUntilChange_0 (by decide) ?_
  refine lv_bipush (v := 8) hx hb dX2_readingsUntilChange_2 (by decide) ?_
  refine lv_aload_n hx hb dX2_readingsUntilChange_4 rfl (lv_at hl 0 rfl) ?_
  refine va_get (D := D) (ci := 2) (v := .ref (a 4)) (C := RX2) (T := TX2) (N := 8) hx hb hts iX2_readingsUntilChange_X2 hown hK hP 0 rfl rfl 3 (by decide) (hts _ mX2_readingsUntilChange_f21) (fun _ h9 => h9) rfl dX2_readingsUntilChange_5 ?_
  refine lv_iconst (v := 0) hx hb dX2_readingsUntilChange_8 (by decide) ?_
  refine lz_iald (k := 0) (f := u.2.2.2.1) hx hb hK hP 4 0 rfl rfl ⟨by decide, by decide⟩ dX2_readingsUntilChange_9 ?_
  refine lv_isub hx hb dX2_readingsUntilChange_10 ?_
  refine lv_iconst (v := 1) hx hb dX2_readingsUntilChange_11 (by decide) ?_
  refine lv_iadd hx hb dX2_readingsUntilChange_12 ?_
  refine lv_imul hx hb dX2_readingsUntilChange_13 ?_
  refine lv_istore_n (lv' := [(2, .int ((10 : Int32) * (((8 : Int32) - (u.2.2.2.1 0)) + 1))), (0, .ref (a 0)), (1, .int (nI t))]) hx hb dX2_readingsUntilChange_14 rfl hl (by decide) rfl (fun ls hl => ?_)
  refine lv_iconst (v := (-1)) hx hb dX2_readingsUntilChange_15 (by decide) ?_
  refine lv_istore_n (lv' := [(3, .int (-1)), (2, .int ((10 : Int32) * (((8 : Int32) - (u.2.2.2.1 0)) + 1))), (0, .ref (a 0)), (1, .int (nI t))]) hx hb dX2_readingsUntilChange_16 rfl hl (by decide) rfl (fun ls hl => ?_)
  refine lv_iconst (v := 0) hx hb dX2_readingsUntilChange_17 (by decide) ?_
  refine lv_istore (lv' := [(4, .int 0), (3, .int (-1)), (2, .int ((10 : Int32) * (((8 : Int32) - (u.2.2.2.1 0)) + 1))), (0, .ref (a 0)), (1, .int (nI t))]) hx hb dX2_readingsUntilChange_18 hl (by decide) rfl (fun ls hl => ?_)
  have loop20 : ∀ (n20 k20 : Nat), k20 + n20 = 8 → ∀ (ls : Array Slot), lv_has ls 6 [(4, .int (nI k20)), (3, .int (rucI u.2.2.1 (u.1 t) (10 * ((8 - u.2.2.2.1 0) + 1)) k20)), (2, .int ((10 : Int32) * (((8 : Int32) - (u.2.2.2.1 0)) + 1))), (0, .ref (a 0)), (1, .int (nI t))] → W p l e ({ frames := 1, cells := 0, slots := 0, locals := 21 } : Room) s m ([.ref (a 0), .int (nI t)] : List Value).toArray below meth c s.heap [] 0 0 (MQ below (roQ s.heap (some (.int (rucS u t)))) ([.ref (a 0), .int (nI t)] : List Value).toArray s 0 0 noA) (F0 m 20 ls []) := by
    intro n20
    induction n20 with
    | zero =>
      intro k20 hk20 ls hl
      obtain rfl : 8 = k20 := by omega
      refine lv_iload hx hb dX2_readingsUntilChange_20 (lv_at hl 0 rfl) ?_
      refine lv_bipush (v := 8) hx hb dX2_readingsUntilChange_22 (by decide) ?_
      refine lv_icmp_ge (tgt := 78) hx hb dX2_readingsUntilChange_24 (by decide) (fun _ => ?_) (fun h => absurd (by decide) h)
      refine lv_iload_n hx hb dX2_readingsUntilChange_78 rfl (lv_at hl 1 rfl) ?_
      exact ro_iret hx hb hr hlocks hH dX2_readingsUntilChange_79 rfl
    | succ n20 ih20 =>
      intro k20 hk20 ls hl
      have hlt20 : k20 < 8 := by omega
      refine lv_iload hx hb dX2_readingsUntilChange_20 (lv_at hl 0 rfl) ?_
      refine lv_bipush (v := 8) hx hb dX2_readingsUntilChange_22 (by decide) ?_
      refine lv_icmp_ge (tgt := 78) hx hb dX2_readingsUntilChange_24 (by decide) (fun h => absurd h (nI_ge hlt20 (by first | decide | omega))) (fun _ => ?_)
      refine lv_iload_n hx hb dX2_readingsUntilChange_27 rfl (lv_at hl 2 rfl) ?_
      refine lv_aload_n hx hb dX2_readingsUntilChange_28 rfl (lv_at hl 3 rfl) ?_
      refine va_get (D := D) (ci := 2) (v := .ref (a 3)) (C := RX2) (T := TX2) (N := 8) hx hb hts iX2_readingsUntilChange_X2 hown hK hP 0 rfl rfl 2 (by decide) (hts _ mX2_readingsUntilChange_f18) (fun _ h9 => h9) rfl dX2_readingsUntilChange_29 ?_
      refine lv_iload hx hb dX2_readingsUntilChange_32 (lv_at hl 0 rfl) ?_
      refine lz_iald (k := k20) (f := u.2.2.1) hx hb hK hP 3 0 rfl rfl ⟨by omega, by decide⟩ dX2_readingsUntilChange_34 ?_
      refine lv_isub hx hb dX2_readingsUntilChange_35 ?_
      refine lv_istore (lv' := [(5, .int (((10 : Int32) * (((8 : Int32) - (u.2.2.2.1 0)) + 1)) - (u.2.2.1 k20))), (4, .int (nI k20)), (3, .int (rucI u.2.2.1 (u.1 t) (10 * ((8 - u.2.2.2.1 0) + 1)) k20)), (2, .int ((10 : Int32) * (((8 : Int32) - (u.2.2.2.1 0)) + 1))), (0, .ref (a 0)), (1, .int (nI t))]) hx hb dX2_readingsUntilChange_36 hl (by decide) rfl (fun ls hl => ?_)
      refine lv_aload_n hx hb dX2_readingsUntilChange_38 rfl (lv_at hl 4 rfl) ?_
      refine va_get (D := D) (ci := 2) (v := .ref (a 1)) (C := RX2) (T := TX2) (N := 8) hx hb hts iX2_readingsUntilChange_X2 hown hK hP 0 rfl rfl 0 (by decide) (hts _ mX2_readingsUntilChange_f9) (fun _ h9 => h9) rfl dX2_readingsUntilChange_39 ?_
      refine lv_iload_n hx hb dX2_readingsUntilChange_42 rfl (lv_at hl 5 rfl) ?_
      refine lz_iald (k := t) (f := u.1) hx hb hK hP 1 0 rfl rfl ⟨by omega, by decide⟩ dX2_readingsUntilChange_43 ?_
      refine lv_iload hx hb dX2_readingsUntilChange_44 (lv_at hl 1 rfl) ?_
      refine ro_SN (As := [.int (u.1 t), .int (nI k20)]) (rest := []) ⟨hx, hb, hml, hown, hts⟩ (c_X4_bit l D cA _ (u.1 t) (nI k20)) (nestB 2 hts gX2_readingsUntilChange_X4_bit_n70 rfl rfl rfl hKN.2 (by decide +kernel) (by decide +kernel) (by decide +kernel) ⟨Nat.le_of_ble_eq_true rfl, Nat.le_of_ble_eq_true rfl⟩) hKN rfl hl.1 rfl (lv_room (Nat.le_of_ble_eq_true rfl)) dX2_readingsUntilChange_46 ⟨Nat.zero_le _, Nat.zero_le _⟩ ?_
      refine lv_iconst (v := 1) hx hb dX2_readingsUntilChange_49 (by decide) ?_
      refine lv_icmp_ne (tgt := 72) hx hb dX2_readingsUntilChange_50 (by decide) (fun c_50 => ?_) (fun c_50 => ?_)
      · refine lv_iinc (v := (nI (k20 + 1))) (lv' := [(4, .int (nI (k20 + 1))), (5, .int (((10 : Int32) * (((8 : Int32) - (u.2.2.2.1 0)) + 1)) - (u.2.2.1 k20))), (3, .int (rucI u.2.2.1 (u.1 t) (10 * ((8 - u.2.2.2.1 0) + 1)) k20)), (2, .int ((10 : Int32) * (((8 : Int32) - (u.2.2.2.1 0)) + 1))), (0, .ref (a 0)), (1, .int (nI t))]) hx hb dX2_readingsUntilChange_72 hl (k := 1) rfl (nI_1 _) (by decide) rfl (fun ls hl => ?_)
        refine lv_goto (tgt := 20) hx hb dX2_readingsUntilChange_75 (by decide) ?_
        have e_1 : (rucI u.2.2.1 (u.1 t) (10 * ((8 - u.2.2.2.1 0) + 1)) (k20 + 1)) = (rucI u.2.2.1 (u.1 t) (10 * ((8 - u.2.2.2.1 0) + 1)) k20) := by rw [rucI_succ] <;> simp only [c_50, if_true, if_false]
        exact ih20 (k20 + 1) (by omega) ls (by rw [e_1]; exact (lv_sub hl [0, 2, 3, 4, 5] rfl))
      · refine lv_iload hx hb dX2_readingsUntilChange_53 (lv_at hl 0 rfl) ?_
        refine lv_if_le (tgt := 72) hx hb dX2_readingsUntilChange_55 (by decide) (fun c_55 => ?_) (fun c_55 => ?_)
        · refine lv_iinc (v := (nI (k20 + 1))) (lv' := [(4, .int (nI (k20 + 1))), (5, .int (((10 : Int32) * (((8 : Int32) - (u.2.2.2.1 0)) + 1)) - (u.2.2.1 k20))), (3, .int (rucI u.2.2.1 (u.1 t) (10 * ((8 - u.2.2.2.1 0) + 1)) k20)), (2, .int ((10 : Int32) * (((8 : Int32) - (u.2.2.2.1 0)) + 1))), (0, .ref (a 0)), (1, .int (nI t))]) hx hb dX2_readingsUntilChange_72 hl (k := 1) rfl (nI_1 _) (by decide) rfl (fun ls hl => ?_)
          refine lv_goto (tgt := 20) hx hb dX2_readingsUntilChange_75 (by decide) ?_
          have e_2 : (rucI u.2.2.1 (u.1 t) (10 * ((8 - u.2.2.2.1 0) + 1)) (k20 + 1)) = (rucI u.2.2.1 (u.1 t) (10 * ((8 - u.2.2.2.1 0) + 1)) k20) := by rw [rucI_succ] <;> simp only [c_50, c_55, if_true, if_false]
          exact ih20 (k20 + 1) (by omega) ls (by rw [e_2]; exact (lv_sub hl [0, 2, 3, 4, 5] rfl))
        · refine lv_iload_n hx hb dX2_readingsUntilChange_58 rfl (lv_at hl 2 rfl) ?_
          refine lv_iconst (v := (-1)) hx hb dX2_readingsUntilChange_59 (by decide) ?_
          refine lv_icmp_eq (tgt := 69) hx hb dX2_readingsUntilChange_60 (by decide) (fun c_60 => ?_) (fun c_60 => ?_)
          · refine lv_iload hx hb dX2_readingsUntilChange_69 (lv_at hl 0 rfl) ?_
            refine lv_istore_n (lv' := [(3, .int (((10 : Int32) * (((8 : Int32) - (u.2.2.2.1 0)) + 1)) - (u.2.2.1 k20))), (5, .int (((10 : Int32) * (((8 : Int32) - (u.2.2.2.1 0)) + 1)) - (u.2.2.1 k20))), (4, .int (nI k20)), (2, .int ((10 : Int32) * (((8 : Int32) - (u.2.2.2.1 0)) + 1))), (0, .ref (a 0)), (1, .int (nI t))]) hx hb dX2_readingsUntilChange_71 rfl hl (by decide) rfl (fun ls hl => ?_)
            refine lv_iinc (v := (nI (k20 + 1))) (lv' := [(4, .int (nI (k20 + 1))), (3, .int (((10 : Int32) * (((8 : Int32) - (u.2.2.2.1 0)) + 1)) - (u.2.2.1 k20))), (5, .int (((10 : Int32) * (((8 : Int32) - (u.2.2.2.1 0)) + 1)) - (u.2.2.1 k20))), (2, .int ((10 : Int32) * (((8 : Int32) - (u.2.2.2.1 0)) + 1))), (0, .ref (a 0)), (1, .int (nI t))]) hx hb dX2_readingsUntilChange_72 hl (k := 2) rfl (nI_1 _) (by decide) rfl (fun ls hl => ?_)
            refine lv_goto (tgt := 20) hx hb dX2_readingsUntilChange_75 (by decide) ?_
            have e_3 : (rucI u.2.2.1 (u.1 t) (10 * ((8 - u.2.2.2.1 0) + 1)) (k20 + 1)) = (((10 : Int32) * (((8 : Int32) - (u.2.2.2.1 0)) + 1)) - (u.2.2.1 k20)) := by rw [rucI_succ] <;> simp only [c_50, c_55, c_60, if_true, if_false]
            exact ih20 (k20 + 1) (by omega) ls (by rw [e_3]; exact (lv_sub hl [0, 1, 3, 4, 5] rfl))
          · refine lv_iload hx hb dX2_readingsUntilChange_63 (lv_at hl 0 rfl) ?_
            refine lv_iload_n hx hb dX2_readingsUntilChange_65 rfl (lv_at hl 2 rfl) ?_
            refine lv_icmp_ge (tgt := 72) hx hb dX2_readingsUntilChange_66 (by decide) (fun c_66 => ?_) (fun c_66 => ?_)
            · refine lv_iinc (v := (nI (k20 + 1))) (lv' := [(4, .int (nI (k20 + 1))), (5, .int (((10 : Int32) * (((8 : Int32) - (u.2.2.2.1 0)) + 1)) - (u.2.2.1 k20))), (3, .int (rucI u.2.2.1 (u.1 t) (10 * ((8 - u.2.2.2.1 0) + 1)) k20)), (2, .int ((10 : Int32) * (((8 : Int32) - (u.2.2.2.1 0)) + 1))), (0, .ref (a 0)), (1, .int (nI t))]) hx hb dX2_readingsUntilChange_72 hl (k := 1) rfl (nI_1 _) (by decide) rfl (fun ls hl => ?_)
              refine lv_goto (tgt := 20) hx hb dX2_readingsUntilChange_75 (by decide) ?_
              have e_4 : (rucI u.2.2.1 (u.1 t) (10 * ((8 - u.2.2.2.1 0) + 1)) (k20 + 1)) = (rucI u.2.2.1 (u.1 t) (10 * ((8 - u.2.2.2.1 0) + 1)) k20) := by rw [rucI_succ] <;> simp only [c_50, c_55, c_60, c_66, if_true, if_false]
              exact ih20 (k20 + 1) (by omega) ls (by rw [e_4]; exact (lv_sub hl [0, 2, 3, 4, 5] rfl))
            · refine lv_iload hx hb dX2_readingsUntilChange_69 (lv_at hl 0 rfl) ?_
              refine lv_istore_n (lv' := [(3, .int (((10 : Int32) * (((8 : Int32) - (u.2.2.2.1 0)) + 1)) - (u.2.2.1 k20))), (5, .int (((10 : Int32) * (((8 : Int32) - (u.2.2.2.1 0)) + 1)) - (u.2.2.1 k20))), (4, .int (nI k20)), (2, .int ((10 : Int32) * (((8 : Int32) - (u.2.2.2.1 0)) + 1))), (0, .ref (a 0)), (1, .int (nI t))]) hx hb dX2_readingsUntilChange_71 rfl hl (by decide) rfl (fun ls hl => ?_)
              refine lv_iinc (v := (nI (k20 + 1))) (lv' := [(4, .int (nI (k20 + 1))), (3, .int (((10 : Int32) * (((8 : Int32) - (u.2.2.2.1 0)) + 1)) - (u.2.2.1 k20))), (5, .int (((10 : Int32) * (((8 : Int32) - (u.2.2.2.1 0)) + 1)) - (u.2.2.1 k20))), (2, .int ((10 : Int32) * (((8 : Int32) - (u.2.2.2.1 0)) + 1))), (0, .ref (a 0)), (1, .int (nI t))]) hx hb dX2_readingsUntilChange_72 hl (k := 2) rfl (nI_1 _) (by decide) rfl (fun ls hl => ?_)
              refine lv_goto (tgt := 20) hx hb dX2_readingsUntilChange_75 (by decide) ?_
              have e_5 : (rucI u.2.2.1 (u.1 t) (10 * ((8 - u.2.2.2.1 0) + 1)) (k20 + 1)) = (((10 : Int32) * (((8 : Int32) - (u.2.2.2.1 0)) + 1)) - (u.2.2.1 k20)) := by rw [rucI_succ] <;> simp only [c_50, c_55, c_60, c_66, if_true, if_false]
              exact ih20 (k20 + 1) (by omega) ls (by rw [e_5]; exact (lv_sub hl [0, 1, 3, 4, 5] rfl))
  exact loop20 8 0 (by omega) ls (lv_sub hl [0, 1, 2, 3, 4] rfl)
theorem mX2_threadsThrough_f9 : Cond.fieldLink RX2 9 "WireLoom$State" "rings" "[I" ∈ wsX2_threadsThrough := by decide +kernel
set_option maxRecDepth 20000 in
theorem iX2_threadsThrough_X2 : ∀ w ∈ wsX20, w ∈ wsX2_threadsThrough := by decide +kernel
set_option maxHeartbeats 4000000 in
set_option maxRecDepth 100000 in
theorem c_X2_threadsThrough (l : Launch) (D : va_G) (cA : Nat → ClassId) (H : Heap) (a : Nat → Nat) (u : SV) (ring : Int32) (hP0 : va_P D vwCl (wSt cA a u) H) : RO l yX2_threadsThrough wsX2_threadsThrough ({ frames := 1, cells := 0, slots := 0, locals := 21 } : Room) D cA [.ref (a 0), .int ring] H (some (.int (thrS u ring))) := by
  refine Met.ofW (cc := cX2_threadsThrough) (maxL := 4) (ret := (some .int)) (by decide) rfl ?_
  intro p e s m args below meth c s₁ B hml hv
  obtain ⟨rfl, hH, hKN⟩ := hv
  have hK := hKN.1
  have hx := B.exec
  have hb := B.bytes
  have hr := B.returns
  have hts := atoms_spec (ws := wsX2_threadsThrough) B.pre
  have hown : s.vm.findClass RX2 = some m.cls := findClass_of_methodNamed B.named
  have hlocks := B.notSynchronized
  subst hH
  have hH : s.heap = s.heap := rfl
  have hP := hP0
  have hl := lv_entry ([.ref (a 0), .int ring] : List Value) (n := 4) (Nat.le_of_ble_eq_true rfl)
  rw [lg_entry_eq]
  generalize (lg_sl ([.ref (a 0), .int ring] : List Value) ++ List.replicate (4 - (lg_sl ([.ref (a 0), .int ring] : List Value)).length) Slot.unset).toArray = ls at hl ⊢
  have hl : lv_has ls 4 [(0, .ref (a 0)), (1, .int ring)] := hl
  refine lv_iconst (v := 0) hx hb dX2_threadsThrough_0 (by decide) ?_
  refine lv_istore_n (lv' := [(2, .int 0), (0, .ref (a 0)), (1, .int ring)]) hx hb dX2_threadsThrough_1 rfl hl (by decide) rfl (fun ls hl => ?_)
  refine lv_iconst (v := 0) hx hb dX2_threadsThrough_2 (by decide) ?_
  refine lv_istore_n (lv' := [(3, .int 0), (2, .int 0), (0, .ref (a 0)), (1, .int ring)]) hx hb dX2_threadsThrough_3 rfl hl (by decide) rfl (fun ls hl => ?_)
  have loop4 : ∀ (n4 k4 : Nat), k4 + n4 = 16 → ∀ (ls : Array Slot), lv_has ls 4 [(3, .int (nI k4)), (2, .int (thrT u.1 ring k4)), (0, .ref (a 0)), (1, .int ring)] → W p l e ({ frames := 1, cells := 0, slots := 0, locals := 21 } : Room) s m ([.ref (a 0), .int ring] : List Value).toArray below meth c s.heap [] 0 0 (MQ below (roQ s.heap (some (.int (thrS u ring)))) ([.ref (a 0), .int ring] : List Value).toArray s 0 0 noA) (F0 m 4 ls []) := by
    intro n4
    induction n4 with
    | zero =>
      intro k4 hk4 ls hl
      obtain rfl : 16 = k4 := by omega
      refine lv_iload_n hx hb dX2_threadsThrough_4 rfl (lv_at hl 0 rfl) ?_
      refine lv_bipush (v := 16) hx hb dX2_threadsThrough_5 (by decide) ?_
      refine lv_icmp_ge (tgt := 31) hx hb dX2_threadsThrough_7 (by decide) (fun _ => ?_) (fun h => absurd (by decide) h)
      refine lv_iload_n hx hb dX2_threadsThrough_31 rfl (lv_at hl 1 rfl) ?_
      exact ro_iret hx hb hr hlocks hH dX2_threadsThrough_32 rfl
    | succ n4 ih4 =>
      intro k4 hk4 ls hl
      have hlt4 : k4 < 16 := by omega
      refine lv_iload_n hx hb dX2_threadsThrough_4 rfl (lv_at hl 0 rfl) ?_
      refine lv_bipush (v := 16) hx hb dX2_threadsThrough_5 (by decide) ?_
      refine lv_icmp_ge (tgt := 31) hx hb dX2_threadsThrough_7 (by decide) (fun h => absurd h (nI_ge hlt4 (by first | decide | omega))) (fun _ => ?_)
      refine lv_iload_n hx hb dX2_threadsThrough_10 rfl (lv_at hl 1 rfl) ?_
      refine lv_aload_n hx hb dX2_threadsThrough_11 rfl (lv_at hl 2 rfl) ?_
      refine va_get (D := D) (ci := 2) (v := .ref (a 1)) (C := RX2) (T := TX2) (N := 8) hx hb hts iX2_threadsThrough_X2 hown hK hP 0 rfl rfl 0 (by decide) (hts _ mX2_threadsThrough_f9) (fun _ h9 => h9) rfl dX2_threadsThrough_12 ?_
      refine lv_iload_n hx hb dX2_threadsThrough_15 rfl (lv_at hl 0 rfl) ?_
      refine lz_iald (k := k4) (f := u.1) hx hb hK hP 1 0 rfl rfl ⟨by omega, by decide⟩ dX2_threadsThrough_16 ?_
      refine lv_iload_n hx hb dX2_threadsThrough_17 rfl (lv_at hl 3 rfl) ?_
      refine ro_SN (As := [.int (u.1 k4), .int ring]) (rest := [.int (thrT u.1 ring k4)]) ⟨hx, hb, hml, hown, hts⟩ (c_X4_bit l D cA _ (u.1 k4) ring) (nestB 2 hts gX2_threadsThrough_X4_bit_n70 rfl rfl rfl hKN.2 (by decide +kernel) (by decide +kernel) (by decide +kernel) ⟨Nat.le_of_ble_eq_true rfl, Nat.le_of_ble_eq_true rfl⟩) hKN rfl hl.1 rfl (lv_room (Nat.le_of_ble_eq_true rfl)) dX2_threadsThrough_18 ⟨Nat.zero_le _, Nat.zero_le _⟩ ?_
      refine lv_iload_n hx hb dX2_threadsThrough_21 rfl (lv_at hl 0 rfl) ?_
      refine lv_ishl hx hb dX2_threadsThrough_22 ?_
      refine lv_ior hx hb dX2_threadsThrough_23 ?_
      refine lv_istore_n (lv' := [(2, .int ((thrT u.1 ring k4) ||| ((bitF (u.1 k4) ring) <<< ((nI k4) &&& 31)))), (3, .int (nI k4)), (0, .ref (a 0)), (1, .int ring)]) hx hb dX2_threadsThrough_24 rfl hl (by decide) rfl (fun ls hl => ?_)
      refine lv_iinc (v := (nI (k4 + 1))) (lv' := [(3, .int (nI (k4 + 1))), (2, .int ((thrT u.1 ring k4) ||| ((bitF (u.1 k4) ring) <<< ((nI k4) &&& 31)))), (0, .ref (a 0)), (1, .int ring)]) hx hb dX2_threadsThrough_25 hl (k := 1) rfl (nI_1 _) (by decide) rfl (fun ls hl => ?_)
      refine lv_goto (tgt := 4) hx hb dX2_threadsThrough_28 (by decide) ?_
      have e_1 : (thrT u.1 ring (k4 + 1)) = ((thrT u.1 ring k4) ||| ((bitF (u.1 k4) ring) <<< ((nI k4) &&& 31))) := rfl
      exact ih4 (k4 + 1) (by omega) ls (by rw [e_1]; exact (lv_sub hl [0, 1, 2, 3] rfl))
  exact loop4 16 0 (by omega) ls (lv_sub hl [0, 1, 2, 3] rfl)
set_option maxHeartbeats 4000000 in
set_option maxRecDepth 100000 in
theorem c_X2_threadsAnswered (l : Launch) (D : va_G) (cA : Nat → ClassId) (H : Heap) (a : Nat → Nat) (u : SV) (ring : Int32) (hP0 : va_P D vwCl (wSt cA a u) H) : RO l yX2_threadsAnswered wsX2_threadsAnswered ({ frames := 3, cells := 0, slots := 0, locals := 73 } : Room) D cA [.ref (a 0), .int ring] H (some (.int (tanT u ring 16))) := by
  refine Met.ofW (cc := cX2_threadsAnswered) (maxL := 4) (ret := (some .int)) (by decide) rfl ?_
  intro p e s m args below meth c s₁ B hml hv
  obtain ⟨rfl, hH, hKN⟩ := hv
  have hK := hKN.1
  have hx := B.exec
  have hb := B.bytes
  have hr := B.returns
  have hts := atoms_spec (ws := wsX2_threadsAnswered) B.pre
  have hown : s.vm.findClass RX2 = some m.cls := findClass_of_methodNamed B.named
  have hlocks := B.notSynchronized
  subst hH
  have hH : s.heap = s.heap := rfl
  have hP := hP0
  have hl := lv_entry ([.ref (a 0), .int ring] : List Value) (n := 4) (Nat.le_of_ble_eq_true rfl)
  rw [lg_entry_eq]
  generalize (lg_sl ([.ref (a 0), .int ring] : List Value) ++ List.replicate (4 - (lg_sl ([.ref (a 0), .int ring] : List Value)).length) Slot.unset).toArray = ls at hl ⊢
  have hl : lv_has ls 4 [(0, .ref (a 0)), (1, .int ring)] := hl
  refine lv_iconst (v := 0) hx hb dX2_threadsAnswered_0 (by decide) ?_
  refine lv_istore_n (lv' := [(2, .int 0), (0, .ref (a 0)), (1, .int ring)]) hx hb dX2_threadsAnswered_1 rfl hl (by decide) rfl (fun ls hl => ?_)
  refine lv_iconst (v := 0) hx hb dX2_threadsAnswered_2 (by decide) ?_
  refine lv_istore_n (lv' := [(3, .int 0), (2, .int 0), (0, .ref (a 0)), (1, .int ring)]) hx hb dX2_threadsAnswered_3 rfl hl (by decide) rfl (fun ls hl => ?_)
  have loop4 : ∀ (n4 k4 : Nat), k4 + n4 = 16 → ∀ (ls : Array Slot), lv_has ls 4 [(3, .int (nI k4)), (2, .int (tanT u ring k4)), (0, .ref (a 0)), (1, .int ring)] → W p l e ({ frames := 3, cells := 0, slots := 0, locals := 73 } : Room) s m ([.ref (a 0), .int ring] : List Value).toArray below meth c s.heap [] 0 0 (MQ below (roQ s.heap (some (.int (tanT u ring 16)))) ([.ref (a 0), .int ring] : List Value).toArray s 0 0 noA) (F0 m 4 ls []) := by
    intro n4
    induction n4 with
    | zero =>
      intro k4 hk4 ls hl
      obtain rfl : 16 = k4 := by omega
      refine lv_iload_n hx hb dX2_threadsAnswered_4 rfl (lv_at hl 0 rfl) ?_
      refine lv_bipush (v := 16) hx hb dX2_threadsAnswered_5 (by decide) ?_
      refine lv_icmp_ge (tgt := 28) hx hb dX2_threadsAnswered_7 (by decide) (fun _ => ?_) (fun h => absurd (by decide) h)
      refine lv_iload_n hx hb dX2_threadsAnswered_28 rfl (lv_at hl 1 rfl) ?_
      exact ro_iret hx hb hr hlocks hH dX2_threadsAnswered_29 rfl
    | succ n4 ih4 =>
      intro k4 hk4 ls hl
      have hlt4 : k4 < 16 := by omega
      refine lv_iload_n hx hb dX2_threadsAnswered_4 rfl (lv_at hl 0 rfl) ?_
      refine lv_bipush (v := 16) hx hb dX2_threadsAnswered_5 (by decide) ?_
      refine lv_icmp_ge (tgt := 28) hx hb dX2_threadsAnswered_7 (by decide) (fun h => absurd h (nI_ge hlt4 (by first | decide | omega))) (fun _ => ?_)
      refine lv_iload_n hx hb dX2_threadsAnswered_10 rfl (lv_at hl 1 rfl) ?_
      refine lv_aload_n hx hb dX2_threadsAnswered_11 rfl (lv_at hl 2 rfl) ?_
      refine lv_iload_n hx hb dX2_threadsAnswered_12 rfl (lv_at hl 0 rfl) ?_
      refine ro_V (ci := 2) (q0 := 0) (As := [.int (nI k4)]) (rest := [.int (tanT u ring k4)]) ⟨hx, hb, hml, hown, hts⟩ (c_X2_answering l D cA _ a u k4 (by omega) hP ) (cwV 1 hts gX2_threadsAnswered_X2_answering rfl rfl rfl (by decide +kernel) ⟨Nat.le_of_ble_eq_true rfl, Nat.le_of_ble_eq_true rfl⟩) hKN hP rfl rfl rfl hl.1 rfl (lv_room (Nat.le_of_ble_eq_true rfl)) dX2_threadsAnswered_13 ⟨Nat.zero_le _, Nat.zero_le _⟩ ?_
      refine lv_iload_n hx hb dX2_threadsAnswered_16 rfl (lv_at hl 3 rfl) ?_
      refine ro_SN (As := [.int (ansS u k4), .int ring]) (rest := [.int (tanT u ring k4)]) ⟨hx, hb, hml, hown, hts⟩ (c_X4_bit l D cA _ (ansS u k4) ring) (nestB 2 hts gX2_threadsAnswered_X4_bit_n70 rfl rfl rfl hKN.2 (by decide +kernel) (by decide +kernel) (by decide +kernel) ⟨Nat.le_of_ble_eq_true rfl, Nat.le_of_ble_eq_true rfl⟩) hKN rfl hl.1 rfl (lv_room (Nat.le_of_ble_eq_true rfl)) dX2_threadsAnswered_17 ⟨Nat.zero_le _, Nat.zero_le _⟩ ?_
      refine lv_iadd hx hb dX2_threadsAnswered_20 ?_
      refine lv_istore_n (lv' := [(2, .int ((tanT u ring k4) + (bitF (ansS u k4) ring))), (3, .int (nI k4)), (0, .ref (a 0)), (1, .int ring)]) hx hb dX2_threadsAnswered_21 rfl hl (by decide) rfl (fun ls hl => ?_)
      refine lv_iinc (v := (nI (k4 + 1))) (lv' := [(3, .int (nI (k4 + 1))), (2, .int ((tanT u ring k4) + (bitF (ansS u k4) ring))), (0, .ref (a 0)), (1, .int ring)]) hx hb dX2_threadsAnswered_22 hl (k := 1) rfl (nI_1 _) (by decide) rfl (fun ls hl => ?_)
      refine lv_goto (tgt := 4) hx hb dX2_threadsAnswered_25 (by decide) ?_
      have e_1 : (tanT u ring (k4 + 1)) = ((tanT u ring k4) + (bitF (ansS u k4) ring)) := rfl
      exact ih4 (k4 + 1) (by omega) ls (by rw [e_1]; exact (lv_sub hl [0, 1, 2, 3] rfl))
  exact loop4 16 0 (by omega) ls (lv_sub hl [0, 1, 2, 3] rfl)
theorem mX2_isWornOut_f21 : Cond.fieldLink RX2 21 "WireLoom$State" "settings" "[I" ∈ wsX2_isWornOut := by decide +kernel
set_option maxRecDepth 20000 in
theorem iX2_isWornOut_X2 : ∀ w ∈ wsX20, w ∈ wsX2_isWornOut := by decide +kernel
set_option maxHeartbeats 4000000 in
set_option maxRecDepth 100000 in
theorem c_X2_isWornOut (l : Launch) (D : va_G) (cA : Nat → ClassId) (H : Heap) (a : Nat → Nat) (u : SV) (r : Nat) (hr0 : r < 8) (hP0 : va_P D vwCl (wSt cA a u) H) : RO l yX2_isWornOut wsX2_isWornOut ({ frames := 2, cells := 0, slots := 0, locals := 44 } : Room) D cA [.ref (a 0), .int (nI r)] H (some (.int (wornS u r))) := by
  refine Met.ofW (cc := cX2_isWornOut) (maxL := 2) (ret := (some .boolean)) (by decide) rfl ?_
  intro p e s m args below meth c s₁ B hml hv
  obtain ⟨rfl, hH, hKN⟩ := hv
  have hK := hKN.1
  have hx := B.exec
  have hb := B.bytes
  have hr := B.returns
  have hts := atoms_spec (ws := wsX2_isWornOut) B.pre
  have hown : s.vm.findClass RX2 = some m.cls := findClass_of_methodNamed B.named
  have hlocks := B.notSynchronized
  subst hH
  have hH : s.heap = s.heap := rfl
  have hP := hP0
  have hl := lv_entry ([.ref (a 0), .int (nI r)] : List Value) (n := 2) (Nat.le_of_ble_eq_true rfl)
  rw [lg_entry_eq]
  generalize (lg_sl ([.ref (a 0), .int (nI r)] : List Value) ++ List.replicate (2 - (lg_sl ([.ref (a 0), .int (nI r)] : List Value)).length) Slot.unset).toArray = ls at hl ⊢
  have hl : lv_has ls 2 [(0, .ref (a 0)), (1, .int (nI r))] := hl
  refine lv_aload_n hx hb dX2_isWornOut_0 rfl (lv_at hl 0 rfl) ?_
  refine lv_iload_n hx hb dX2_isWornOut_1 rfl (lv_at hl 1 rfl) ?_
  refine ro_V (ci := 2) (q0 := 0) (As := [.int (nI r)]) (rest := []) ⟨hx, hb, hml, hown, hts⟩ (c_X2_threadsThrough l D cA _ a u (nI r) hP ) (cwV 1 hts gX2_isWornOut_X2_threadsThrough rfl rfl rfl (by decide +kernel) ⟨Nat.le_of_ble_eq_true rfl, Nat.le_of_ble_eq_true rfl⟩) hKN hP rfl rfl rfl hl.1 rfl (lv_room (Nat.le_of_ble_eq_true rfl)) dX2_isWornOut_2 ⟨Nat.zero_le _, Nat.zero_le _⟩ ?_
  refine lv_if_eq (tgt := 27) hx hb dX2_isWornOut_5 (by decide) (fun c_5 => ?_) (fun c_5 => ?_)
  · refine lv_iconst (v := 0) hx hb dX2_isWornOut_27 (by decide) ?_
    exact ro_zret hx hb hr hlocks hH dX2_isWornOut_28 rfl (by simp [wornS, c_5])
  · refine lv_aload_n hx hb dX2_isWornOut_8 rfl (lv_at hl 0 rfl) ?_
    refine lv_iload_n hx hb dX2_isWornOut_9 rfl (lv_at hl 1 rfl) ?_
    refine lv_iconst (v := 0) hx hb dX2_isWornOut_10 (by decide) ?_
    refine ro_V (ci := 2) (q0 := 0) (As := [.int (nI r), .int 0]) (rest := []) ⟨hx, hb, hml, hown, hts⟩ (c_X2_strengthAt l D cA _ a u r (by omega) 0 hP ) (cwV 2 hts gX2_isWornOut_X2_strengthAt rfl rfl rfl (by decide +kernel) ⟨Nat.le_of_ble_eq_true rfl, Nat.le_of_ble_eq_true rfl⟩) hKN hP rfl rfl rfl hl.1 rfl (lv_room (Nat.le_of_ble_eq_true rfl)) dX2_isWornOut_11 ⟨Nat.zero_le _, Nat.zero_le _⟩ ?_
    refine lv_aload_n hx hb dX2_isWornOut_14 rfl (lv_at hl 0 rfl) ?_
    refine va_get (D := D) (ci := 2) (v := .ref (a 4)) (C := RX2) (T := TX2) (N := 8) hx hb hts iX2_isWornOut_X2 hown hK hP 0 rfl rfl 3 (by decide) (hts _ mX2_isWornOut_f21) (fun _ h9 => h9) rfl dX2_isWornOut_15 ?_
    refine lv_iconst (v := 0) hx hb dX2_isWornOut_18 (by decide) ?_
    refine lz_iald (k := 0) (f := u.2.2.2.1) hx hb hK hP 4 0 rfl rfl ⟨by decide, by decide⟩ dX2_isWornOut_19 ?_
    refine lv_icmp_ge (tgt := 27) hx hb dX2_isWornOut_20 (by decide) (fun c_20 => ?_) (fun c_20 => ?_)
    · refine lv_iconst (v := 0) hx hb dX2_isWornOut_27 (by decide) ?_
      exact ro_zret hx hb hr hlocks hH dX2_isWornOut_28 rfl (by simp [wornS, c_5, c_20])
    · refine lv_iconst (v := 1) hx hb dX2_isWornOut_23 (by decide) ?_
      refine lv_goto (tgt := 28) hx hb dX2_isWornOut_24 (by decide) ?_
      exact ro_zret hx hb hr hlocks hH dX2_isWornOut_28 rfl (by simp [wornS, c_5, c_20])
theorem mX2_threadsRight_f9 : Cond.fieldLink RX2 9 "WireLoom$State" "rings" "[I" ∈ wsX2_threadsRight := by decide +kernel
set_option maxRecDepth 20000 in
theorem iX2_threadsRight_X2 : ∀ w ∈ wsX20, w ∈ wsX2_threadsRight := by decide +kernel
set_option maxHeartbeats 4000000 in
set_option maxRecDepth 100000 in
theorem c_X2_threadsRight (l : Launch) (D : va_G) (cA : Nat → ClassId) (H : Heap) (a : Nat → Nat) (u : SV) (hP0 : va_P D vwCl (wSt cA a u) H) : RO l yX2_threadsRight wsX2_threadsRight ({ frames := 3, cells := 0, slots := 0, locals := 73 } : Room) D cA [.ref (a 0)] H (some (.int (rightT u 16))) := by
  refine Met.ofW (cc := cX2_threadsRight) (maxL := 3) (ret := (some .int)) (by decide) rfl ?_
  intro p e s m args below meth c s₁ B hml hv
  obtain ⟨rfl, hH, hKN⟩ := hv
  have hK := hKN.1
  have hx := B.exec
  have hb := B.bytes
  have hr := B.returns
  have hts := atoms_spec (ws := wsX2_threadsRight) B.pre
  have hown : s.vm.findClass RX2 = some m.cls := findClass_of_methodNamed B.named
  have hlocks := B.notSynchronized
  subst hH
  have hH : s.heap = s.heap := rfl
  have hP := hP0
  have hl := lv_entry ([.ref (a 0)] : List Value) (n := 3) (Nat.le_of_ble_eq_true rfl)
  rw [lg_entry_eq]
  generalize (lg_sl ([.ref (a 0)] : List Value) ++ List.replicate (3 - (lg_sl ([.ref (a 0)] : List Value)).length) Slot.unset).toArray = ls at hl ⊢
  have hl : lv_has ls 3 [(0, .ref (a 0))] := hl
  refine lv_iconst (v := 0) hx hb dX2_threadsRight_0 (by decide) ?_
  refine lv_istore_n (lv' := [(1, .int 0), (0, .ref (a 0))]) hx hb dX2_threadsRight_1 rfl hl (by decide) rfl (fun ls hl => ?_)
  refine lv_iconst (v := 0) hx hb dX2_threadsRight_2 (by decide) ?_
  refine lv_istore_n (lv' := [(2, .int 0), (1, .int 0), (0, .ref (a 0))]) hx hb dX2_threadsRight_3 rfl hl (by decide) rfl (fun ls hl => ?_)
  have loop4 : ∀ (n4 k4 : Nat), k4 + n4 = 16 → ∀ (ls : Array Slot), lv_has ls 3 [(2, .int (nI k4)), (1, .int (rightT u k4)), (0, .ref (a 0))] → W p l e ({ frames := 3, cells := 0, slots := 0, locals := 73 } : Room) s m ([.ref (a 0)] : List Value).toArray below meth c s.heap [] 0 0 (MQ below (roQ s.heap (some (.int (rightT u 16)))) ([.ref (a 0)] : List Value).toArray s 0 0 noA) (F0 m 4 ls []) := by
    intro n4
    induction n4 with
    | zero =>
      intro k4 hk4 ls hl
      obtain rfl : 16 = k4 := by omega
      refine lv_iload_n hx hb dX2_threadsRight_4 rfl (lv_at hl 0 rfl) ?_
      refine lv_bipush (v := 16) hx hb dX2_threadsRight_5 (by decide) ?_
      refine lv_icmp_ge (tgt := 33) hx hb dX2_threadsRight_7 (by decide) (fun _ => ?_) (fun h => absurd (by decide) h)
      refine lv_iload_n hx hb dX2_threadsRight_33 rfl (lv_at hl 1 rfl) ?_
      exact ro_iret hx hb hr hlocks hH dX2_threadsRight_34 rfl
    | succ n4 ih4 =>
      intro k4 hk4 ls hl
      have hlt4 : k4 < 16 := by omega
      refine lv_iload_n hx hb dX2_threadsRight_4 rfl (lv_at hl 0 rfl) ?_
      refine lv_bipush (v := 16) hx hb dX2_threadsRight_5 (by decide) ?_
      refine lv_icmp_ge (tgt := 33) hx hb dX2_threadsRight_7 (by decide) (fun h => absurd h (nI_ge hlt4 (by first | decide | omega))) (fun _ => ?_)
      refine lv_aload_n hx hb dX2_threadsRight_10 rfl (lv_at hl 2 rfl) ?_
      refine lv_iload_n hx hb dX2_threadsRight_11 rfl (lv_at hl 0 rfl) ?_
      refine ro_V (ci := 2) (q0 := 0) (As := [.int (nI k4)]) (rest := []) ⟨hx, hb, hml, hown, hts⟩ (c_X2_answering l D cA _ a u k4 (by omega) hP ) (cwV 1 hts gX2_threadsRight_X2_answering rfl rfl rfl (by decide +kernel) ⟨Nat.le_of_ble_eq_true rfl, Nat.le_of_ble_eq_true rfl⟩) hKN hP rfl rfl rfl hl.1 rfl (lv_room (Nat.le_of_ble_eq_true rfl)) dX2_threadsRight_12 ⟨Nat.zero_le _, Nat.zero_le _⟩ ?_
      refine lv_aload_n hx hb dX2_threadsRight_15 rfl (lv_at hl 2 rfl) ?_
      refine va_get (D := D) (ci := 2) (v := .ref (a 1)) (C := RX2) (T := TX2) (N := 8) hx hb hts iX2_threadsRight_X2 hown hK hP 0 rfl rfl 0 (by decide) (hts _ mX2_threadsRight_f9) (fun _ h9 => h9) rfl dX2_threadsRight_16 ?_
      refine lv_iload_n hx hb dX2_threadsRight_19 rfl (lv_at hl 0 rfl) ?_
      refine lz_iald (k := k4) (f := u.1) hx hb hK hP 1 0 rfl rfl ⟨by omega, by decide⟩ dX2_threadsRight_20 ?_
      refine lv_icmp_ne (tgt := 27) hx hb dX2_threadsRight_21 (by decide) (fun c_21 => ?_) (fun c_21 => ?_)
      · refine lv_iinc (v := (nI (k4 + 1))) (lv' := [(2, .int (nI (k4 + 1))), (1, .int (rightT u k4)), (0, .ref (a 0))]) hx hb dX2_threadsRight_27 hl (k := 0) rfl (nI_1 _) (by decide) rfl (fun ls hl => ?_)
        refine lv_goto (tgt := 4) hx hb dX2_threadsRight_30 (by decide) ?_
        have e_1 : (rightT u (k4 + 1)) = (rightT u k4) := by rw [rightT_succ] <;> simp only [c_21, if_true, if_false]
        exact ih4 (k4 + 1) (by omega) ls (by rw [e_1]; exact (lv_sub hl [0, 1, 2] rfl))
      · refine lv_iinc (v := ((rightT u k4) + 1)) (lv' := [(1, .int ((rightT u k4) + 1)), (2, .int (nI k4)), (0, .ref (a 0))]) hx hb dX2_threadsRight_24 hl (k := 1) rfl rfl (by decide) rfl (fun ls hl => ?_)
        refine lv_iinc (v := (nI (k4 + 1))) (lv' := [(2, .int (nI (k4 + 1))), (1, .int ((rightT u k4) + 1)), (0, .ref (a 0))]) hx hb dX2_threadsRight_27 hl (k := 1) rfl (nI_1 _) (by decide) rfl (fun ls hl => ?_)
        refine lv_goto (tgt := 4) hx hb dX2_threadsRight_30 (by decide) ?_
        have e_3 : (rightT u (k4 + 1)) = ((rightT u k4) + 1) := by rw [rightT_succ] <;> simp only [c_21, if_true, if_false]
        exact ih4 (k4 + 1) (by omega) ls (by rw [e_3]; exact (lv_sub hl [0, 1, 2] rfl))
  exact loop4 16 0 (by omega) ls (lv_sub hl [0, 1, 2] rfl)
theorem mX2_crossingsByThreads_f9 : Cond.fieldLink RX2 9 "WireLoom$State" "rings" "[I" ∈ wsX2_crossingsByThreads := by decide +kernel
set_option maxRecDepth 20000 in
theorem iX2_crossingsByThreads_X2 : ∀ w ∈ wsX20, w ∈ wsX2_crossingsByThreads := by decide +kernel
set_option maxHeartbeats 4000000 in
set_option maxRecDepth 100000 in
theorem c_X2_crossingsByThreads (l : Launch) (D : va_G) (cA : Nat → ClassId) (H : Heap) (a : Nat → Nat) (u : SV) (hP0 : va_P D vwCl (wSt cA a u) H) : RO l yX2_crossingsByThreads wsX2_crossingsByThreads ({ frames := 1, cells := 0, slots := 0, locals := 20 } : Room) D cA [.ref (a 0)] H (some (.int (cbtT u 16))) := by
  refine Met.ofW (cc := cX2_crossingsByThreads) (maxL := 3) (ret := (some .int)) (by decide) rfl ?_
  intro p e s m args below meth c s₁ B hml hv
  obtain ⟨rfl, hH, hKN⟩ := hv
  have hK := hKN.1
  have hx := B.exec
  have hb := B.bytes
  have hr := B.returns
  have hts := atoms_spec (ws := wsX2_crossingsByThreads) B.pre
  have hown : s.vm.findClass RX2 = some m.cls := findClass_of_methodNamed B.named
  have hlocks := B.notSynchronized
  subst hH
  have hH : s.heap = s.heap := rfl
  have hP := hP0
  have hl := lv_entry ([.ref (a 0)] : List Value) (n := 3) (Nat.le_of_ble_eq_true rfl)
  rw [lg_entry_eq]
  generalize (lg_sl ([.ref (a 0)] : List Value) ++ List.replicate (3 - (lg_sl ([.ref (a 0)] : List Value)).length) Slot.unset).toArray = ls at hl ⊢
  have hl : lv_has ls 3 [(0, .ref (a 0))] := hl
  refine lv_iconst (v := 0) hx hb dX2_crossingsByThreads_0 (by decide) ?_
  refine lv_istore_n (lv' := [(1, .int 0), (0, .ref (a 0))]) hx hb dX2_crossingsByThreads_1 rfl hl (by decide) rfl (fun ls hl => ?_)
  refine lv_iconst (v := 0) hx hb dX2_crossingsByThreads_2 (by decide) ?_
  refine lv_istore_n (lv' := [(2, .int 0), (1, .int 0), (0, .ref (a 0))]) hx hb dX2_crossingsByThreads_3 rfl hl (by decide) rfl (fun ls hl => ?_)
  have loop4 : ∀ (n4 k4 : Nat), k4 + n4 = 16 → ∀ (ls : Array Slot), lv_has ls 3 [(2, .int (nI k4)), (1, .int (cbtT u k4)), (0, .ref (a 0))] → W p l e ({ frames := 1, cells := 0, slots := 0, locals := 20 } : Room) s m ([.ref (a 0)] : List Value).toArray below meth c s.heap [] 0 0 (MQ below (roQ s.heap (some (.int (cbtT u 16)))) ([.ref (a 0)] : List Value).toArray s 0 0 noA) (F0 m 4 ls []) := by
    intro n4
    induction n4 with
    | zero =>
      intro k4 hk4 ls hl
      obtain rfl : 16 = k4 := by omega
      refine lv_iload_n hx hb dX2_crossingsByThreads_4 rfl (lv_at hl 0 rfl) ?_
      refine lv_bipush (v := 16) hx hb dX2_crossingsByThreads_5 (by decide) ?_
      refine lv_icmp_ge (tgt := 28) hx hb dX2_crossingsByThreads_7 (by decide) (fun _ => ?_) (fun h => absurd (by decide) h)
      refine lv_iload_n hx hb dX2_crossingsByThreads_28 rfl (lv_at hl 1 rfl) ?_
      exact ro_iret hx hb hr hlocks hH dX2_crossingsByThreads_29 rfl
    | succ n4 ih4 =>
      intro k4 hk4 ls hl
      have hlt4 : k4 < 16 := by omega
      refine lv_iload_n hx hb dX2_crossingsByThreads_4 rfl (lv_at hl 0 rfl) ?_
      refine lv_bipush (v := 16) hx hb dX2_crossingsByThreads_5 (by decide) ?_
      refine lv_icmp_ge (tgt := 28) hx hb dX2_crossingsByThreads_7 (by decide) (fun h => absurd h (nI_ge hlt4 (by first | decide | omega))) (fun _ => ?_)
      refine lv_iload_n hx hb dX2_crossingsByThreads_10 rfl (lv_at hl 1 rfl) ?_
      refine lv_aload_n hx hb dX2_crossingsByThreads_11 rfl (lv_at hl 2 rfl) ?_
      refine va_get (D := D) (ci := 2) (v := .ref (a 1)) (C := RX2) (T := TX2) (N := 8) hx hb hts iX2_crossingsByThreads_X2 hown hK hP 0 rfl rfl 0 (by decide) (hts _ mX2_crossingsByThreads_f9) (fun _ h9 => h9) rfl dX2_crossingsByThreads_12 ?_
      refine lv_iload_n hx hb dX2_crossingsByThreads_15 rfl (lv_at hl 0 rfl) ?_
      refine lz_iald (k := k4) (f := u.1) hx hb hK hP 1 0 rfl rfl ⟨by omega, by decide⟩ dX2_crossingsByThreads_16 ?_
      refine ro_S (As := [.int (u.1 k4)]) (rest := [.int (cbtT u k4)]) ⟨hx, hb, hml, hown, hts⟩ (c_J6_bitCount_0f7a4 l D cA _ (u.1 k4)) (cwS2 1 hts gX2_crossingsByThreads_J6_bitCount_0f7a4 rfl rfl rfl (by decide +kernel) ⟨Nat.le_of_ble_eq_true rfl, Nat.le_of_ble_eq_true rfl⟩) hKN rfl hl.1 rfl (lv_room (Nat.le_of_ble_eq_true rfl)) dX2_crossingsByThreads_17 ⟨Nat.zero_le _, Nat.zero_le _⟩ ?_
      refine lv_iadd hx hb dX2_crossingsByThreads_20 ?_
      refine lv_istore_n (lv' := [(1, .int ((cbtT u k4) + (bcF (u.1 k4)))), (2, .int (nI k4)), (0, .ref (a 0))]) hx hb dX2_crossingsByThreads_21 rfl hl (by decide) rfl (fun ls hl => ?_)
      refine lv_iinc (v := (nI (k4 + 1))) (lv' := [(2, .int (nI (k4 + 1))), (1, .int ((cbtT u k4) + (bcF (u.1 k4)))), (0, .ref (a 0))]) hx hb dX2_crossingsByThreads_22 hl (k := 1) rfl (nI_1 _) (by decide) rfl (fun ls hl => ?_)
      refine lv_goto (tgt := 4) hx hb dX2_crossingsByThreads_25 (by decide) ?_
      have e_1 : (cbtT u (k4 + 1)) = ((cbtT u k4) + (bcF (u.1 k4))) := rfl
      exact ih4 (k4 + 1) (by omega) ls (by rw [e_1]; exact (lv_sub hl [0, 1, 2] rfl))
  exact loop4 16 0 (by omega) ls (lv_sub hl [0, 1, 2] rfl)
set_option maxHeartbeats 4000000 in
set_option maxRecDepth 100000 in
theorem c_X2_crossingsByRings (l : Launch) (D : va_G) (cA : Nat → ClassId) (H : Heap) (a : Nat → Nat) (u : SV) (hP0 : va_P D vwCl (wSt cA a u) H) : RO l yX2_crossingsByRings wsX2_crossingsByRings ({ frames := 2, cells := 0, slots := 0, locals := 44 } : Room) D cA [.ref (a 0)] H (some (.int (cbrT u 8))) := by
  refine Met.ofW (cc := cX2_crossingsByRings) (maxL := 3) (ret := (some .int)) (by decide) rfl ?_
  intro p e s m args below meth c s₁ B hml hv
  obtain ⟨rfl, hH, hKN⟩ := hv
  have hK := hKN.1
  have hx := B.exec
  have hb := B.bytes
  have hr := B.returns
  have hts := atoms_spec (ws := wsX2_crossingsByRings) B.pre
  have hown : s.vm.findClass RX2 = some m.cls := findClass_of_methodNamed B.named
  have hlocks := B.notSynchronized
  subst hH
  have hH : s.heap = s.heap := rfl
  have hP := hP0
  have hl := lv_entry ([.ref (a 0)] : List Value) (n := 3) (Nat.le_of_ble_eq_true rfl)
  rw [lg_entry_eq]
  generalize (lg_sl ([.ref (a 0)] : List Value) ++ List.replicate (3 - (lg_sl ([.ref (a 0)] : List Value)).length) Slot.unset).toArray = ls at hl ⊢
  have hl : lv_has ls 3 [(0, .ref (a 0))] := hl
  refine lv_iconst (v := 0) hx hb dX2_crossingsByRings_0 (by decide) ?_
  refine lv_istore_n (lv' := [(1, .int 0), (0, .ref (a 0))]) hx hb dX2_crossingsByRings_1 rfl hl (by decide) rfl (fun ls hl => ?_)
  refine lv_iconst (v := 0) hx hb dX2_crossingsByRings_2 (by decide) ?_
  refine lv_istore_n (lv' := [(2, .int 0), (1, .int 0), (0, .ref (a 0))]) hx hb dX2_crossingsByRings_3 rfl hl (by decide) rfl (fun ls hl => ?_)
  have loop4 : ∀ (n4 k4 : Nat), k4 + n4 = 8 → ∀ (ls : Array Slot), lv_has ls 3 [(2, .int (nI k4)), (1, .int (cbrT u k4)), (0, .ref (a 0))] → W p l e ({ frames := 2, cells := 0, slots := 0, locals := 44 } : Room) s m ([.ref (a 0)] : List Value).toArray below meth c s.heap [] 0 0 (MQ below (roQ s.heap (some (.int (cbrT u 8)))) ([.ref (a 0)] : List Value).toArray s 0 0 noA) (F0 m 4 ls []) := by
    intro n4
    induction n4 with
    | zero =>
      intro k4 hk4 ls hl
      obtain rfl : 8 = k4 := by omega
      refine lv_iload_n hx hb dX2_crossingsByRings_4 rfl (lv_at hl 0 rfl) ?_
      refine lv_bipush (v := 8) hx hb dX2_crossingsByRings_5 (by decide) ?_
      refine lv_icmp_ge (tgt := 27) hx hb dX2_crossingsByRings_7 (by decide) (fun _ => ?_) (fun h => absurd (by decide) h)
      refine lv_iload_n hx hb dX2_crossingsByRings_27 rfl (lv_at hl 1 rfl) ?_
      exact ro_iret hx hb hr hlocks hH dX2_crossingsByRings_28 rfl
    | succ n4 ih4 =>
      intro k4 hk4 ls hl
      have hlt4 : k4 < 8 := by omega
      refine lv_iload_n hx hb dX2_crossingsByRings_4 rfl (lv_at hl 0 rfl) ?_
      refine lv_bipush (v := 8) hx hb dX2_crossingsByRings_5 (by decide) ?_
      refine lv_icmp_ge (tgt := 27) hx hb dX2_crossingsByRings_7 (by decide) (fun h => absurd h (nI_ge hlt4 (by first | decide | omega))) (fun _ => ?_)
      refine lv_iload_n hx hb dX2_crossingsByRings_10 rfl (lv_at hl 1 rfl) ?_
      refine lv_aload_n hx hb dX2_crossingsByRings_11 rfl (lv_at hl 2 rfl) ?_
      refine lv_iload_n hx hb dX2_crossingsByRings_12 rfl (lv_at hl 0 rfl) ?_
      refine ro_V (ci := 2) (q0 := 0) (As := [.int (nI k4)]) (rest := [.int (cbrT u k4)]) ⟨hx, hb, hml, hown, hts⟩ (c_X2_threadsThrough l D cA _ a u (nI k4) hP ) (cwV 1 hts gX2_crossingsByRings_X2_threadsThrough rfl rfl rfl (by decide +kernel) ⟨Nat.le_of_ble_eq_true rfl, Nat.le_of_ble_eq_true rfl⟩) hKN hP rfl rfl rfl hl.1 rfl (lv_room (Nat.le_of_ble_eq_true rfl)) dX2_crossingsByRings_13 ⟨Nat.zero_le _, Nat.zero_le _⟩ ?_
      refine ro_S (As := [.int (thrS u (nI k4))]) (rest := [.int (cbrT u k4)]) ⟨hx, hb, hml, hown, hts⟩ (c_J6_bitCount_0f7a4 l D cA _ (thrS u (nI k4))) (cwS2 1 hts gX2_crossingsByRings_J6_bitCount_0f7a4 rfl rfl rfl (by decide +kernel) ⟨Nat.le_of_ble_eq_true rfl, Nat.le_of_ble_eq_true rfl⟩) hKN rfl hl.1 rfl (lv_room (Nat.le_of_ble_eq_true rfl)) dX2_crossingsByRings_16 ⟨Nat.zero_le _, Nat.zero_le _⟩ ?_
      refine lv_iadd hx hb dX2_crossingsByRings_19 ?_
      refine lv_istore_n (lv' := [(1, .int ((cbrT u k4) + (bcF (thrS u (nI k4))))), (2, .int (nI k4)), (0, .ref (a 0))]) hx hb dX2_crossingsByRings_20 rfl hl (by decide) rfl (fun ls hl => ?_)
      refine lv_iinc (v := (nI (k4 + 1))) (lv' := [(2, .int (nI (k4 + 1))), (1, .int ((cbrT u k4) + (bcF (thrS u (nI k4))))), (0, .ref (a 0))]) hx hb dX2_crossingsByRings_21 hl (k := 1) rfl (nI_1 _) (by decide) rfl (fun ls hl => ?_)
      refine lv_goto (tgt := 4) hx hb dX2_crossingsByRings_24 (by decide) ?_
      have e_1 : (cbrT u (k4 + 1)) = ((cbrT u k4) + (bcF (thrS u (nI k4)))) := rfl
      exact ih4 (k4 + 1) (by omega) ls (by rw [e_1]; exact (lv_sub hl [0, 1, 2] rfl))
  exact loop4 8 0 (by omega) ls (lv_sub hl [0, 1, 2] rfl)
theorem mX2_greatestWear_f18 : Cond.fieldLink RX2 18 "WireLoom$State" "wear" "[I" ∈ wsX2_greatestWear := by decide +kernel
theorem mX2_greatestWear_p99 : Cond.methodLink RX2 99 Lib.Math.max.name ∈ wsX2_greatestWear := by decide +kernel
theorem mX2_greatestWear_st_max : Cond.static Lib.Math.max.name ∈ wsX2_greatestWear := by decide +kernel
theorem mX2_greatestWear_iniMath : Cond.initialized "java/lang/Math" ∈ wsX2_greatestWear := by decide +kernel
theorem mX2_greatestWear_co_max : Cond.code Lib.Math.max.name Lib.Math.max.code 2 (some .int) ∈ wsX2_greatestWear := by decide +kernel
set_option maxRecDepth 20000 in
theorem iX2_greatestWear_X2 : ∀ w ∈ wsX20, w ∈ wsX2_greatestWear := by decide +kernel
set_option maxHeartbeats 4000000 in
set_option maxRecDepth 100000 in
theorem c_X2_greatestWear (l : Launch) (D : va_G) (cA : Nat → ClassId) (H : Heap) (a : Nat → Nat) (u : SV) (hP0 : va_P D vwCl (wSt cA a u) H) : RO l yX2_greatestWear wsX2_greatestWear ({ frames := 1, cells := 0, slots := 0, locals := 13 } : Room) D cA [.ref (a 0)] H (some (.int (gwT u 8))) := by
  refine Met.ofW (cc := cX2_greatestWear) (maxL := 3) (ret := (some .int)) (by decide) rfl ?_
  intro p e s m args below meth c s₁ B hml hv
  obtain ⟨rfl, hH, hKN⟩ := hv
  have hK := hKN.1
  have hx := B.exec
  have hb := B.bytes
  have hr := B.returns
  have hts := atoms_spec (ws := wsX2_greatestWear) B.pre
  have hown : s.vm.findClass RX2 = some m.cls := findClass_of_methodNamed B.named
  have hlocks := B.notSynchronized
  subst hH
  have hH : s.heap = s.heap := rfl
  have hP := hP0
  have hl := lv_entry ([.ref (a 0)] : List Value) (n := 3) (Nat.le_of_ble_eq_true rfl)
  rw [lg_entry_eq]
  generalize (lg_sl ([.ref (a 0)] : List Value) ++ List.replicate (3 - (lg_sl ([.ref (a 0)] : List Value)).length) Slot.unset).toArray = ls at hl ⊢
  have hl : lv_has ls 3 [(0, .ref (a 0))] := hl
  refine lv_iconst (v := 0) hx hb dX2_greatestWear_0 (by decide) ?_
  refine lv_istore_n (lv' := [(1, .int 0), (0, .ref (a 0))]) hx hb dX2_greatestWear_1 rfl hl (by decide) rfl (fun ls hl => ?_)
  refine lv_iconst (v := 0) hx hb dX2_greatestWear_2 (by decide) ?_
  refine lv_istore_n (lv' := [(2, .int 0), (1, .int 0), (0, .ref (a 0))]) hx hb dX2_greatestWear_3 rfl hl (by decide) rfl (fun ls hl => ?_)
  have loop4 : ∀ (n4 k4 : Nat), k4 + n4 = 8 → ∀ (ls : Array Slot), lv_has ls 3 [(2, .int (nI k4)), (1, .int (gwT u k4)), (0, .ref (a 0))] → W p l e ({ frames := 1, cells := 0, slots := 0, locals := 13 } : Room) s m ([.ref (a 0)] : List Value).toArray below meth c s.heap [] 0 0 (MQ below (roQ s.heap (some (.int (gwT u 8)))) ([.ref (a 0)] : List Value).toArray s 0 0 noA) (F0 m 4 ls []) := by
    intro n4
    induction n4 with
    | zero =>
      intro k4 hk4 ls hl
      obtain rfl : 8 = k4 := by omega
      refine lv_iload_n hx hb dX2_greatestWear_4 rfl (lv_at hl 0 rfl) ?_
      refine lv_bipush (v := 8) hx hb dX2_greatestWear_5 (by decide) ?_
      refine lv_icmp_ge (tgt := 27) hx hb dX2_greatestWear_7 (by decide) (fun _ => ?_) (fun h => absurd (by decide) h)
      refine lv_iload_n hx hb dX2_greatestWear_27 rfl (lv_at hl 1 rfl) ?_
      exact ro_iret hx hb hr hlocks hH dX2_greatestWear_28 rfl
    | succ n4 ih4 =>
      intro k4 hk4 ls hl
      have hlt4 : k4 < 8 := by omega
      refine lv_iload_n hx hb dX2_greatestWear_4 rfl (lv_at hl 0 rfl) ?_
      refine lv_bipush (v := 8) hx hb dX2_greatestWear_5 (by decide) ?_
      refine lv_icmp_ge (tgt := 27) hx hb dX2_greatestWear_7 (by decide) (fun h => absurd h (nI_ge hlt4 (by first | decide | omega))) (fun _ => ?_)
      refine lv_iload_n hx hb dX2_greatestWear_10 rfl (lv_at hl 1 rfl) ?_
      refine lv_aload_n hx hb dX2_greatestWear_11 rfl (lv_at hl 2 rfl) ?_
      refine va_get (D := D) (ci := 2) (v := .ref (a 3)) (C := RX2) (T := TX2) (N := 8) hx hb hts iX2_greatestWear_X2 hown hK hP 0 rfl rfl 2 (by decide) (hts _ mX2_greatestWear_f18) (fun _ h9 => h9) rfl dX2_greatestWear_12 ?_
      refine lv_iload_n hx hb dX2_greatestWear_15 rfl (lv_at hl 0 rfl) ?_
      refine lz_iald (k := k4) (f := u.2.2.1) hx hb hK hP 3 0 rfl rfl ⟨by omega, by decide⟩ dX2_greatestWear_16 ?_
      refine va_mmax hx hb (hml.trans hl.1.symm) hown (hts _ mX2_greatestWear_p99) (hts _ mX2_greatestWear_st_max) (hts _ mX2_greatestWear_iniMath) (hts _ mX2_greatestWear_co_max) (Nat.le_of_ble_eq_true rfl) (Nat.le_of_ble_eq_true rfl) (Nat.zero_le _) (Nat.zero_le _) dX2_greatestWear_17 ?_
      refine lz_top (v := (maxF (gwT u k4) (u.2.2.1 k4))) rfl ?_
      refine lv_istore_n (lv' := [(1, .int (maxF (gwT u k4) (u.2.2.1 k4))), (2, .int (nI k4)), (0, .ref (a 0))]) hx hb dX2_greatestWear_20 rfl hl (by decide) rfl (fun ls hl => ?_)
      refine lv_iinc (v := (nI (k4 + 1))) (lv' := [(2, .int (nI (k4 + 1))), (1, .int (maxF (gwT u k4) (u.2.2.1 k4))), (0, .ref (a 0))]) hx hb dX2_greatestWear_21 hl (k := 1) rfl (nI_1 _) (by decide) rfl (fun ls hl => ?_)
      refine lv_goto (tgt := 4) hx hb dX2_greatestWear_24 (by decide) ?_
      have e_1 : (gwT u (k4 + 1)) = (maxF (gwT u k4) (u.2.2.1 k4)) := rfl
      exact ih4 (k4 + 1) (by omega) ls (by rw [e_1]; exact (lv_sub hl [0, 1, 2] rfl))
  exact loop4 8 0 (by omega) ls (lv_sub hl [0, 1, 2] rfl)

theorem mX2_fewestUnlikeBits_f9 : Cond.fieldLink RX2 9 "WireLoom$State" "rings" "[I" ∈ wsX2_fewestUnlikeBits := by decide +kernel
theorem mX2_fewestUnlikeBits_p74 : Cond.methodLink RX2 74 Lib.Math.min.name ∈ wsX2_fewestUnlikeBits := by decide +kernel
theorem mX2_fewestUnlikeBits_st_min : Cond.static Lib.Math.min.name ∈ wsX2_fewestUnlikeBits := by decide +kernel
theorem mX2_fewestUnlikeBits_iniMath : Cond.initialized "java/lang/Math" ∈ wsX2_fewestUnlikeBits := by decide +kernel
theorem mX2_fewestUnlikeBits_co_min : Cond.code Lib.Math.min.name Lib.Math.min.code 2 (some .int) ∈ wsX2_fewestUnlikeBits := by decide +kernel
set_option maxRecDepth 20000 in
theorem iX2_fewestUnlikeBits_X2 : ∀ w ∈ wsX20, w ∈ wsX2_fewestUnlikeBits := by decide +kernel
set_option maxHeartbeats 4000000 in
set_option maxRecDepth 100000 in
theorem c_X2_fewestUnlikeBits (l : Launch) (D : va_G) (cA : Nat → ClassId) (H : Heap) (a : Nat → Nat) (u : SV) (hP0 : va_P D vwCl (wSt cA a u) H) : RO l yX2_fewestUnlikeBits wsX2_fewestUnlikeBits ({ frames := 1, cells := 0, slots := 0, locals := 20 } : Room) D cA [.ref (a 0)] H (some (.int (fubT u.1 16))) := by
  refine Met.ofW (cc := cX2_fewestUnlikeBits) (maxL := 4) (ret := (some .int)) (by decide) rfl ?_
  intro p e s m args below meth c s₁ B hml hv
  obtain ⟨rfl, hH, hKN⟩ := hv
  have hK := hKN.1
  have hx := B.exec
  have hb := B.bytes
  have hr := B.returns
  have hts := atoms_spec (ws := wsX2_fewestUnlikeBits) B.pre
  have hown : s.vm.findClass RX2 = some m.cls := findClass_of_methodNamed B.named
  have hlocks := B.notSynchronized
  subst hH
  have hH : s.heap = s.heap := rfl
  have hP := hP0
  have hl := lv_entry ([.ref (a 0)] : List Value) (n := 4) (Nat.le_of_ble_eq_true rfl)
  rw [lg_entry_eq]
  generalize (lg_sl ([.ref (a 0)] : List Value) ++ List.replicate (4 - (lg_sl ([.ref (a 0)] : List Value)).length) Slot.unset).toArray = ls at hl ⊢
  have hl : lv_has ls 4 [(0, .ref (a 0))] := hl
  refine lv_bipush (v := 8) hx hb dX2_fewestUnlikeBits_0 (by decide) ?_
  refine lv_istore_n (lv' := [(1, .int 8), (0, .ref (a 0))]) hx hb dX2_fewestUnlikeBits_2 rfl hl (by decide) rfl (fun ls hl => ?_)
  refine lv_iconst (v := 0) hx hb dX2_fewestUnlikeBits_3 (by decide) ?_
  refine lv_istore_n (lv' := [(2, .int 0), (1, .int 8), (0, .ref (a 0))]) hx hb dX2_fewestUnlikeBits_4 rfl hl (by decide) rfl (fun ls hl => ?_)
  have loop5 : ∀ (n5 k5 : Nat), k5 + n5 = 16 → ∀ (ls : Array Slot), lv_has ls 4 [(2, .int (nI k5)), (1, .int (fubT u.1 k5)), (0, .ref (a 0))] → W p l e ({ frames := 1, cells := 0, slots := 0, locals := 20 } : Room) s m ([.ref (a 0)] : List Value).toArray below meth c s.heap [] 0 0 (MQ below (roQ s.heap (some (.int (fubT u.1 16)))) ([.ref (a 0)] : List Value).toArray s 0 0 noA) (F0 m 5 ls []) := by
    intro n5
    induction n5 with
    | zero =>
      intro k5 hk5 ls hl
      obtain rfl : 16 = k5 := by omega
      refine lv_iload_n hx hb dX2_fewestUnlikeBits_5 rfl (lv_at hl 0 rfl) ?_
      refine lv_bipush (v := 16) hx hb dX2_fewestUnlikeBits_6 (by decide) ?_
      refine lv_icmp_ge (tgt := 51) hx hb dX2_fewestUnlikeBits_8 (by decide) (fun _ => ?_) (fun h => absurd (by decide) h)
      refine lv_iload_n hx hb dX2_fewestUnlikeBits_51 rfl (lv_at hl 1 rfl) ?_
      exact ro_iret hx hb hr hlocks hH dX2_fewestUnlikeBits_52 rfl
    | succ n5 ih5 =>
      intro k5 hk5 ls hl
      have hlt5 : k5 < 16 := by omega
      refine lv_iload_n hx hb dX2_fewestUnlikeBits_5 rfl (lv_at hl 0 rfl) ?_
      refine lv_bipush (v := 16) hx hb dX2_fewestUnlikeBits_6 (by decide) ?_
      refine lv_icmp_ge (tgt := 51) hx hb dX2_fewestUnlikeBits_8 (by decide) (fun h => absurd h (nI_ge hlt5 (by first | decide | omega))) (fun _ => ?_)
      refine lv_iconst (v := 0) hx hb dX2_fewestUnlikeBits_11 (by decide) ?_
      refine lv_istore_n (lv' := [(3, .int 0), (2, .int (nI k5)), (1, .int (fubT u.1 k5)), (0, .ref (a 0))]) hx hb dX2_fewestUnlikeBits_12 rfl hl (by decide) rfl (fun ls hl => ?_)
      have loop13 : ∀ (n13 k13 : Nat), k13 + n13 = k5 → ∀ (ls : Array Slot), lv_has ls 4 [(3, .int (nI k13)), (2, .int (nI k5)), (1, .int (fubI u.1 k5 (fubT u.1 k5) k13)), (0, .ref (a 0))] → W p l e ({ frames := 1, cells := 0, slots := 0, locals := 20 } : Room) s m ([.ref (a 0)] : List Value).toArray below meth c s.heap [] 0 0 (MQ below (roQ s.heap (some (.int (fubT u.1 16)))) ([.ref (a 0)] : List Value).toArray s 0 0 noA) (F0 m 13 ls []) := by
        intro n13
        induction n13 with
        | zero =>
          intro k13 hk13 ls hl
          obtain rfl : k5 = k13 := by omega
          refine lv_iload_n hx hb dX2_fewestUnlikeBits_13 rfl (lv_at hl 0 rfl) ?_
          refine lv_iload_n hx hb dX2_fewestUnlikeBits_14 rfl (lv_at hl 1 rfl) ?_
          refine lv_icmp_ge (tgt := 45) hx hb dX2_fewestUnlikeBits_15 (by decide) (fun _ => ?_) (fun h => absurd (nI_le (Nat.le_refl _) (by first | decide | omega)) h)
          refine lv_iinc (v := (nI (k5 + 1))) (lv' := [(2, .int (nI (k5 + 1))), (3, .int (nI k5)), (1, .int (fubI u.1 k5 (fubT u.1 k5) k5)), (0, .ref (a 0))]) hx hb dX2_fewestUnlikeBits_45 hl (k := 1) rfl (nI_1 _) (by decide) rfl (fun ls hl => ?_)
          refine lv_goto (tgt := 5) hx hb dX2_fewestUnlikeBits_48 (by decide) ?_
          have e_1 : (fubT u.1 (k5 + 1)) = (fubI u.1 k5 (fubT u.1 k5) k5) := rfl
          exact ih5 (k5 + 1) (by omega) ls (by rw [e_1]; exact (lv_sub hl [0, 2, 3] rfl))
        | succ n13 ih13 =>
          intro k13 hk13 ls hl
          have hlt13 : k13 < k5 := by omega
          refine lv_iload_n hx hb dX2_fewestUnlikeBits_13 rfl (lv_at hl 0 rfl) ?_
          refine lv_iload_n hx hb dX2_fewestUnlikeBits_14 rfl (lv_at hl 1 rfl) ?_
          refine lv_icmp_ge (tgt := 45) hx hb dX2_fewestUnlikeBits_15 (by decide) (fun h => absurd h (nI_ge hlt13 (by first | decide | omega))) (fun _ => ?_)
          refine lv_iload_n hx hb dX2_fewestUnlikeBits_18 rfl (lv_at hl 2 rfl) ?_
          refine lv_aload_n hx hb dX2_fewestUnlikeBits_19 rfl (lv_at hl 3 rfl) ?_
          refine va_get (D := D) (ci := 2) (v := .ref (a 1)) (C := RX2) (T := TX2) (N := 8) hx hb hts iX2_fewestUnlikeBits_X2 hown hK hP 0 rfl rfl 0 (by decide) (hts _ mX2_fewestUnlikeBits_f9) (fun _ h9 => h9) rfl dX2_fewestUnlikeBits_20 ?_
          refine lv_iload_n hx hb dX2_fewestUnlikeBits_23 rfl (lv_at hl 1 rfl) ?_
          refine lz_iald (k := k5) (f := u.1) hx hb hK hP 1 0 rfl rfl ⟨by omega, by decide⟩ dX2_fewestUnlikeBits_24 ?_
          refine lv_aload_n hx hb dX2_fewestUnlikeBits_25 rfl (lv_at hl 3 rfl) ?_
          refine va_get (D := D) (ci := 2) (v := .ref (a 1)) (C := RX2) (T := TX2) (N := 8) hx hb hts iX2_fewestUnlikeBits_X2 hown hK hP 0 rfl rfl 0 (by decide) (hts _ mX2_fewestUnlikeBits_f9) (fun _ h9 => h9) rfl dX2_fewestUnlikeBits_26 ?_
          refine lv_iload_n hx hb dX2_fewestUnlikeBits_29 rfl (lv_at hl 0 rfl) ?_
          refine lz_iald (k := k13) (f := u.1) hx hb hK hP 1 0 rfl rfl ⟨by omega, by decide⟩ dX2_fewestUnlikeBits_30 ?_
          refine lv_ixor hx hb dX2_fewestUnlikeBits_31 ?_
          refine ro_S (As := [.int ((u.1 k5) ^^^ (u.1 k13))]) (rest := [.int (fubI u.1 k5 (fubT u.1 k5) k13)]) ⟨hx, hb, hml, hown, hts⟩ (c_J6_bitCount_0f7a4 l D cA _ ((u.1 k5) ^^^ (u.1 k13))) (cwS2 1 hts gX2_fewestUnlikeBits_J6_bitCount_0f7a4 rfl rfl rfl (by decide +kernel) ⟨Nat.le_of_ble_eq_true rfl, Nat.le_of_ble_eq_true rfl⟩) hKN rfl hl.1 rfl (lv_room (Nat.le_of_ble_eq_true rfl)) dX2_fewestUnlikeBits_32 ⟨Nat.zero_le _, Nat.zero_le _⟩ ?_
          refine va_mmin hx hb (hml.trans hl.1.symm) hown (hts _ mX2_fewestUnlikeBits_p74) (hts _ mX2_fewestUnlikeBits_st_min) (hts _ mX2_fewestUnlikeBits_iniMath) (hts _ mX2_fewestUnlikeBits_co_min) (Nat.le_of_ble_eq_true rfl) (Nat.le_of_ble_eq_true rfl) (Nat.zero_le _) (Nat.zero_le _) dX2_fewestUnlikeBits_35 ?_
          refine lz_top (v := (minF (fubI u.1 k5 (fubT u.1 k5) k13) (bcF ((u.1 k5) ^^^ (u.1 k13))))) rfl ?_
          refine lv_istore_n (lv' := [(1, .int (minF (fubI u.1 k5 (fubT u.1 k5) k13) (bcF ((u.1 k5) ^^^ (u.1 k13))))), (3, .int (nI k13)), (2, .int (nI k5)), (0, .ref (a 0))]) hx hb dX2_fewestUnlikeBits_38 rfl hl (by decide) rfl (fun ls hl => ?_)
          refine lv_iinc (v := (nI (k13 + 1))) (lv' := [(3, .int (nI (k13 + 1))), (1, .int (minF (fubI u.1 k5 (fubT u.1 k5) k13) (bcF ((u.1 k5) ^^^ (u.1 k13))))), (2, .int (nI k5)), (0, .ref (a 0))]) hx hb dX2_fewestUnlikeBits_39 hl (k := 1) rfl (nI_1 _) (by decide) rfl (fun ls hl => ?_)
          refine lv_goto (tgt := 13) hx hb dX2_fewestUnlikeBits_42 (by decide) ?_
          have e_2 : (fubI u.1 k5 (fubT u.1 k5) (k13 + 1)) = (minF (fubI u.1 k5 (fubT u.1 k5) k13) (bcF ((u.1 k5) ^^^ (u.1 k13)))) := rfl
          exact ih13 (k13 + 1) (by omega) ls (by rw [e_2]; exact (lv_sub hl [0, 2, 1, 3] rfl))
      exact loop13 k5 0 (by omega) ls (lv_sub hl [0, 1, 2, 3] rfl)
  exact loop5 16 0 (by omega) ls (lv_sub hl [0, 1, 2] rfl)
