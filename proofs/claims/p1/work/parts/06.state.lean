-- State and Machine: what a state is, what each method answers and does to it
abbrev SV : Type := (Nat → Int32) × (Nat → Int32) × (Nat → Int32) × (Nat → Int32) × Int32 × Int32 × Int32 × (Nat → Int32) × (Nat → Int32) × Int32 × Int32 × Int32 × Int32 × Int32
abbrev MV : Type := (Nat → Int32) × (Nat → Int32) × Int32 × Int32 × Int32 × Int32 × Int32
def wMc (cA : Nat → ClassId) (a : Nat → Nat) (u : MV) : va_W := [(a 5, .inr (0, [.ref (a 6), .ref (a 7), .int u.2.2.1, .int u.2.2.2.1, .int u.2.2.2.2.1, .int u.2.2.2.2.2.1, .int u.2.2.2.2.2.2])), (a 6, .inl (cA 0, 4, .inl u.1)), (a 7, .inl (cA 0, 8, .inl u.2.1))]
def wSt (cA : Nat → ClassId) (a : Nat → Nat) (u : SV) : va_W := [(a 0, .inr (2, [.ref (a 1), .ref (a 2), .ref (a 3), .ref (a 4), .ref (a 5), .int u.2.2.2.2.1, .int u.2.2.2.2.2.1, .int u.2.2.2.2.2.2.1])),
  (a 1, .inl (cA 0, 16, .inl u.1)), (a 2, .inl (cA 0, 16, .inl u.2.1)), (a 3, .inl (cA 0, 8, .inl u.2.2.1)), (a 4, .inl (cA 0, 2, .inl u.2.2.2.1)),
  (a 5, .inr (0, [.ref (a 6), .ref (a 7), .int u.2.2.2.2.2.2.2.2.2.1, .int u.2.2.2.2.2.2.2.2.2.2.1, .int u.2.2.2.2.2.2.2.2.2.2.2.1, .int u.2.2.2.2.2.2.2.2.2.2.2.2.1, .int u.2.2.2.2.2.2.2.2.2.2.2.2.2])),
  (a 6, .inl (cA 0, 4, .inl u.2.2.2.2.2.2.2.1)), (a 7, .inl (cA 0, 8, .inl u.2.2.2.2.2.2.2.2.1))]
def maxF (x y : Int32) : Int32 := if x < y then y else x
def minF (x y : Int32) : Int32 := if y < x then y else x
def ushrF (x k : Int32) : Int32 := (x.toUInt32 >>> (k.toUInt32 &&& Int32.toUInt32 31)).toInt32
def i2lF (x : Int32) : Int64 := x.toInt64
def bitF (x k : Int32) : Int32 := (x >>> (k &&& 31)) &&& 1
def bc1 (x : Int32) : Int32 := x - (ushrF x 1 &&& 1431655765)
def bc2 (a : Int32) : Int32 := (a &&& 858993459) + (ushrF a 2 &&& 858993459)
def bc3 (b : Int32) : Int32 := (b + ushrF b 4) &&& 252645135
def bc4 (c : Int32) : Int32 := c + ushrF c 8
def bc5 (d : Int32) : Int32 := d + ushrF d 16
def bcF (x : Int32) : Int32 := bc5 (bc4 (bc3 (bc2 (bc1 x)))) &&& 63
def wordF (se : Nat → Int32) (mask : Int32) : Int32 := if se 1 = 0 then mask else mask ^^^ 255
def oneT (rg : Nat → Int32) (gd reader reached : Int32) : Nat → Int32
  | 0 => reached
  | k + 1 => if (rg k &&& reached) = 0 then oneT rg gd reader reached k else if nI k = reader then oneT rg gd reader reached k else if bitF gd (nI k) = 0 then oneT rg gd reader reached k ||| rg k else oneT rg gd reader reached k
def strF (we : Nat → Int32) (r : Nat) (hops : Int32) : Int32 := if hops = -1 then 0 else maxF (maxF (8 - 3 * hops) 0 - we r / 10) 0
def reachF (rg : Nat → Int32) (gd : Int32) (t : Nat) : Nat → Int32
  | 0 => rg t
  | k + 1 => oneT rg gd (nI t) (reachF rg gd t k) 16
def hopsG (rg : Nat → Int32) (gd : Int32) (t : Nat) (ring : Int32) : Nat → Nat → Int32
  | 0, _ => -1
  | n + 1, k => if bitF (reachF rg gd t k) ring = 1 then nI k else hopsG rg gd t ring n (k + 1)
def hopsF (rg : Nat → Int32) (gd : Int32) (t : Nat) (ring : Int32) : Int32 := hopsG rg gd t ring 8 0
def ansI (we se : Nat → Int32) (come hops a0 : Int32) : Nat → Int32
  | 0 => a0
  | r + 1 => if bitF come (nI r) = 1 then (if se 0 ≤ strF we r hops then ansI we se come hops a0 r ||| ((1 : Int32) <<< (nI r &&& 31)) else ansI we se come hops a0 r) else ansI we se come hops a0 r
def ansF (rg we se : Nat → Int32) (gd : Int32) (t : Nat) : Int32 := ansI we se (reachF rg gd t 2 &&& (reachF rg gd t 1 ^^^ (-1))) 2 (ansI we se (reachF rg gd t 1 &&& (reachF rg gd t 0 ^^^ (-1))) 1 (ansI we se (reachF rg gd t 0 &&& (0 ^^^ (-1))) 0 0 8) 8) 8
def ansS (u : SV) (t : Nat) : Int32 := ansF u.1 u.2.2.1 u.2.2.2.1 u.2.2.2.2.1 t
def meansS (u : SV) (t : Nat) : Int32 := wordF u.2.2.2.1 (u.1 t)
def tellsS (u : SV) (t : Nat) : Int32 := wordF u.2.2.2.1 (ansS u t)
def rucI (we : Nat → Int32) (m w : Int32) : Nat → Int32
  | 0 => -1
  | r + 1 => if bitF m (nI r) = 1 then (if w - we r ≤ 0 then rucI we m w r else if rucI we m w r = -1 then w - we r else if w - we r < rucI we m w r then w - we r else rucI we m w r) else rucI we m w r
def rucS (u : SV) (t : Nat) : Int32 := rucI u.2.2.1 (u.1 t) (10 * ((8 - u.2.2.2.1 0) + 1)) 8
def thrT (rg : Nat → Int32) (ring : Int32) : Nat → Int32
  | 0 => 0
  | k + 1 => thrT rg ring k ||| (bitF (rg k) ring <<< (nI k &&& 31))
def thrS (u : SV) (ring : Int32) : Int32 := thrT u.1 ring 16
def tanT (u : SV) (ring : Int32) : Nat → Int32
  | 0 => 0
  | k + 1 => tanT u ring k + bitF (ansS u k) ring
def wornS (u : SV) (r : Nat) : Int32 := if thrS u (nI r) = 0 then 0 else if u.2.2.2.1 0 ≤ strF u.2.2.1 r 0 then 0 else 1
def rightT (u : SV) : Nat → Int32
  | 0 => 0
  | k + 1 => if ansS u k = u.1 k then rightT u k + 1 else rightT u k
def cbtT (u : SV) : Nat → Int32
  | 0 => 0
  | k + 1 => cbtT u k + bcF (u.1 k)
def cbrT (u : SV) : Nat → Int32
  | 0 => 0
  | k + 1 => cbrT u k + bcF (thrS u (nI k))
def gwT (u : SV) : Nat → Int32
  | 0 => 0
  | k + 1 => maxF (gwT u k) (u.2.2.1 k)
def woaT (u : SV) : Nat → Int32
  | 0 => 0
  | k + 1 => woaT u k + u.2.2.1 k
def fubI (rg : Nat → Int32) (t : Nat) (f0 : Int32) : Nat → Int32
  | 0 => f0
  | o + 1 => minF (fubI rg t f0 o) (bcF (rg t ^^^ rg o))
def fubT (rg : Nat → Int32) : Nat → Int32
  | 0 => 8
  | t + 1 => fubI rg t (fubT rg t) t
def wearT (we : Nat → Int32) (mask more : Int32) : Nat → Nat → Int32
  | 0 => we
  | r + 1 => if bitF mask (nI r) = 1 then upd (wearT we mask more r) r (minF (wearT we mask more r r + more) 99) else wearT we mask more r

theorem mJ6_bitCount_0f7a4_k265 : Cond.constant RJ6 265 (1431655765) ∈ wsJ6_bitCount_0f7a4 := by decide +kernel
theorem mJ6_bitCount_0f7a4_k266 : Cond.constant RJ6 266 (858993459) ∈ wsJ6_bitCount_0f7a4 := by decide +kernel
theorem mJ6_bitCount_0f7a4_k267 : Cond.constant RJ6 267 (252645135) ∈ wsJ6_bitCount_0f7a4 := by decide +kernel
set_option maxHeartbeats 4000000 in
set_option maxRecDepth 100000 in
theorem c_J6_bitCount_0f7a4 (l : Launch) (D : va_G) (cA : Nat → ClassId) (H : Heap) (x : Int32) : RO l yJ6_bitCount_0f7a4 wsJ6_bitCount_0f7a4 ({ frames := 0, cells := 0, slots := 0, locals := 0 } : Room) D cA [.int x] H (some (.int (bcF x))) := by
  refine Met.ofW (cc := cJ6_bitCount_0f7a4) (maxL := 1) (ret := (some .int)) (by decide) rfl ?_
  intro p e s m args below meth c s₁ B hml hv
  obtain ⟨rfl, hH, hKN⟩ := hv
  have hK := hKN.1
  have hx := B.exec
  have hb := B.bytes
  have hr := B.returns
  have hts := atoms_spec (ws := wsJ6_bitCount_0f7a4) B.pre
  have hown : s.vm.findClass RJ6 = some m.cls := findClass_of_methodNamed B.named
  have hlocks := B.notSynchronized
  subst hH
  have hH : s.heap = s.heap := rfl
  have hl := lv_entry ([.int x] : List Value) (n := 1) (Nat.le_of_ble_eq_true rfl)
  rw [lg_entry_eq]
  generalize (lg_sl ([.int x] : List Value) ++ List.replicate (1 - (lg_sl ([.int x] : List Value)).length) Slot.unset).toArray = ls at hl ⊢
  have hl : lv_has ls 1 [(0, .int x)] := hl
  refine lv_iload_n hx hb dJ6_bitCount_0f7a4_0 rfl (lv_at hl 0 rfl) ?_
  refine lv_iload_n hx hb dJ6_bitCount_0f7a4_1 rfl (lv_at hl 0 rfl) ?_
  refine lv_iconst (v := 1) hx hb dJ6_bitCount_0f7a4_2 (by decide) ?_
  refine lv_iushr (v := (ushrF x 1)) hx hb dJ6_bitCount_0f7a4_3 rfl ?_
  refine lv_ldcw (v := 1431655765) hx hb hown (hts _ mJ6_bitCount_0f7a4_k265) dJ6_bitCount_0f7a4_4 ?_
  refine lv_iand hx hb dJ6_bitCount_0f7a4_7 ?_
  refine lv_isub hx hb dJ6_bitCount_0f7a4_8 ?_
  refine lv_istore_n (lv' := [(0, .int (x - ((ushrF x 1) &&& 1431655765)))]) hx hb dJ6_bitCount_0f7a4_9 rfl hl (by decide) rfl (fun ls hl => ?_)
  refine lv_iload_n hx hb dJ6_bitCount_0f7a4_10 rfl (lv_at hl 0 rfl) ?_
  refine lv_ldcw (v := 858993459) hx hb hown (hts _ mJ6_bitCount_0f7a4_k266) dJ6_bitCount_0f7a4_11 ?_
  refine lv_iand hx hb dJ6_bitCount_0f7a4_14 ?_
  refine lv_iload_n hx hb dJ6_bitCount_0f7a4_15 rfl (lv_at hl 0 rfl) ?_
  refine lv_iconst (v := 2) hx hb dJ6_bitCount_0f7a4_16 (by decide) ?_
  refine lv_iushr (v := (ushrF (x - ((ushrF x 1) &&& 1431655765)) 2)) hx hb dJ6_bitCount_0f7a4_17 rfl ?_
  refine lv_ldcw (v := 858993459) hx hb hown (hts _ mJ6_bitCount_0f7a4_k266) dJ6_bitCount_0f7a4_18 ?_
  refine lv_iand hx hb dJ6_bitCount_0f7a4_21 ?_
  refine lv_iadd hx hb dJ6_bitCount_0f7a4_22 ?_
  refine lv_istore_n (lv' := [(0, .int (((x - ((ushrF x 1) &&& 1431655765)) &&& 858993459) + ((ushrF (x - ((ushrF x 1) &&& 1431655765)) 2) &&& 858993459)))]) hx hb dJ6_bitCount_0f7a4_23 rfl hl (by decide) rfl (fun ls hl => ?_)
  refine lv_iload_n hx hb dJ6_bitCount_0f7a4_24 rfl (lv_at hl 0 rfl) ?_
  refine lv_iload_n hx hb dJ6_bitCount_0f7a4_25 rfl (lv_at hl 0 rfl) ?_
  refine lv_iconst (v := 4) hx hb dJ6_bitCount_0f7a4_26 (by decide) ?_
  refine lv_iushr (v := (ushrF (((x - ((ushrF x 1) &&& 1431655765)) &&& 858993459) + ((ushrF (x - ((ushrF x 1) &&& 1431655765)) 2) &&& 858993459)) 4)) hx hb dJ6_bitCount_0f7a4_27 rfl ?_
  refine lv_iadd hx hb dJ6_bitCount_0f7a4_28 ?_
  refine lv_ldcw (v := 252645135) hx hb hown (hts _ mJ6_bitCount_0f7a4_k267) dJ6_bitCount_0f7a4_29 ?_
  refine lv_iand hx hb dJ6_bitCount_0f7a4_32 ?_
  refine lv_istore_n (lv' := [(0, .int (((((x - ((ushrF x 1) &&& 1431655765)) &&& 858993459) + ((ushrF (x - ((ushrF x 1) &&& 1431655765)) 2) &&& 858993459)) + (ushrF (((x - ((ushrF x 1) &&& 1431655765)) &&& 858993459) + ((ushrF (x - ((ushrF x 1) &&& 1431655765)) 2) &&& 858993459)) 4)) &&& 252645135))]) hx hb dJ6_bitCount_0f7a4_33 rfl hl (by decide) rfl (fun ls hl => ?_)
  refine lv_iload_n hx hb dJ6_bitCount_0f7a4_34 rfl (lv_at hl 0 rfl) ?_
  refine lv_iload_n hx hb dJ6_bitCount_0f7a4_35 rfl (lv_at hl 0 rfl) ?_
  refine lv_bipush (v := 8) hx hb dJ6_bitCount_0f7a4_36 (by decide) ?_
  refine lv_iushr (v := (ushrF (((((x - ((ushrF x 1) &&& 1431655765)) &&& 858993459) + ((ushrF (x - ((ushrF x 1) &&& 1431655765)) 2) &&& 858993459)) + (ushrF (((x - ((ushrF x 1) &&& 1431655765)) &&& 858993459) + ((ushrF (x - ((ushrF x 1) &&& 1431655765)) 2) &&& 858993459)) 4)) &&& 252645135) 8)) hx hb dJ6_bitCount_0f7a4_38 rfl ?_
  refine lv_iadd hx hb dJ6_bitCount_0f7a4_39 ?_
  refine lv_istore_n (lv' := [(0, .int ((((((x - ((ushrF x 1) &&& 1431655765)) &&& 858993459) + ((ushrF (x - ((ushrF x 1) &&& 1431655765)) 2) &&& 858993459)) + (ushrF (((x - ((ushrF x 1) &&& 1431655765)) &&& 858993459) + ((ushrF (x - ((ushrF x 1) &&& 1431655765)) 2) &&& 858993459)) 4)) &&& 252645135) + (ushrF (((((x - ((ushrF x 1) &&& 1431655765)) &&& 858993459) + ((ushrF (x - ((ushrF x 1) &&& 1431655765)) 2) &&& 858993459)) + (ushrF (((x - ((ushrF x 1) &&& 1431655765)) &&& 858993459) + ((ushrF (x - ((ushrF x 1) &&& 1431655765)) 2) &&& 858993459)) 4)) &&& 252645135) 8)))]) hx hb dJ6_bitCount_0f7a4_40 rfl hl (by decide) rfl (fun ls hl => ?_)
  refine lv_iload_n hx hb dJ6_bitCount_0f7a4_41 rfl (lv_at hl 0 rfl) ?_
  refine lv_iload_n hx hb dJ6_bitCount_0f7a4_42 rfl (lv_at hl 0 rfl) ?_
  refine lv_bipush (v := 16) hx hb dJ6_bitCount_0f7a4_43 (by decide) ?_
  refine lv_iushr (v := (ushrF ((((((x - ((ushrF x 1) &&& 1431655765)) &&& 858993459) + ((ushrF (x - ((ushrF x 1) &&& 1431655765)) 2) &&& 858993459)) + (ushrF (((x - ((ushrF x 1) &&& 1431655765)) &&& 858993459) + ((ushrF (x - ((ushrF x 1) &&& 1431655765)) 2) &&& 858993459)) 4)) &&& 252645135) + (ushrF (((((x - ((ushrF x 1) &&& 1431655765)) &&& 858993459) + ((ushrF (x - ((ushrF x 1) &&& 1431655765)) 2) &&& 858993459)) + (ushrF (((x - ((ushrF x 1) &&& 1431655765)) &&& 858993459) + ((ushrF (x - ((ushrF x 1) &&& 1431655765)) 2) &&& 858993459)) 4)) &&& 252645135) 8)) 16)) hx hb dJ6_bitCount_0f7a4_45 rfl ?_
  refine lv_iadd hx hb dJ6_bitCount_0f7a4_46 ?_
  refine lv_istore_n (lv' := [(0, .int (((((((x - ((ushrF x 1) &&& 1431655765)) &&& 858993459) + ((ushrF (x - ((ushrF x 1) &&& 1431655765)) 2) &&& 858993459)) + (ushrF (((x - ((ushrF x 1) &&& 1431655765)) &&& 858993459) + ((ushrF (x - ((ushrF x 1) &&& 1431655765)) 2) &&& 858993459)) 4)) &&& 252645135) + (ushrF (((((x - ((ushrF x 1) &&& 1431655765)) &&& 858993459) + ((ushrF (x - ((ushrF x 1) &&& 1431655765)) 2) &&& 858993459)) + (ushrF (((x - ((ushrF x 1) &&& 1431655765)) &&& 858993459) + ((ushrF (x - ((ushrF x 1) &&& 1431655765)) 2) &&& 858993459)) 4)) &&& 252645135) 8)) + (ushrF ((((((x - ((ushrF x 1) &&& 1431655765)) &&& 858993459) + ((ushrF (x - ((ushrF x 1) &&& 1431655765)) 2) &&& 858993459)) + (ushrF (((x - ((ushrF x 1) &&& 1431655765)) &&& 858993459) + ((ushrF (x - ((ushrF x 1) &&& 1431655765)) 2) &&& 858993459)) 4)) &&& 252645135) + (ushrF (((((x - ((ushrF x 1) &&& 1431655765)) &&& 858993459) + ((ushrF (x - ((ushrF x 1) &&& 1431655765)) 2) &&& 858993459)) + (ushrF (((x - ((ushrF x 1) &&& 1431655765)) &&& 858993459) + ((ushrF (x - ((ushrF x 1) &&& 1431655765)) 2) &&& 858993459)) 4)) &&& 252645135) 8)) 16)))]) hx hb dJ6_bitCount_0f7a4_47 rfl hl (by decide) rfl (fun ls hl => ?_)
  refine lv_iload_n hx hb dJ6_bitCount_0f7a4_48 rfl (lv_at hl 0 rfl) ?_
  refine lv_bipush (v := 63) hx hb dJ6_bitCount_0f7a4_49 (by decide) ?_
  refine lv_iand hx hb dJ6_bitCount_0f7a4_51 ?_
  exact ro_iret hx hb hr hlocks hH dJ6_bitCount_0f7a4_52 rfl
set_option maxHeartbeats 4000000 in
set_option maxRecDepth 100000 in
theorem c_X4_bit (l : Launch) (D : va_G) (cA : Nat → ClassId) (H : Heap) (x k : Int32) : RO l yX4_bit wsX4_bit ({ frames := 0, cells := 0, slots := 0, locals := 0 } : Room) D cA [.int x, .int k] H (some (.int (bitF x k))) := by
  refine Met.ofW (cc := cX4_bit) (maxL := 2) (ret := (some .int)) (by decide) rfl ?_
  intro p e s m args below meth c s₁ B hml hv
  obtain ⟨rfl, hH, hKN⟩ := hv
  have hK := hKN.1
  have hx := B.exec
  have hb := B.bytes
  have hr := B.returns
  have hts := atoms_spec (ws := wsX4_bit) B.pre
  have hown : s.vm.findClass RX4 = some m.cls := findClass_of_methodNamed B.named
  have hlocks := B.notSynchronized
  subst hH
  have hH : s.heap = s.heap := rfl
  have hl := lv_entry ([.int x, .int k] : List Value) (n := 2) (Nat.le_of_ble_eq_true rfl)
  rw [lg_entry_eq]
  generalize (lg_sl ([.int x, .int k] : List Value) ++ List.replicate (2 - (lg_sl ([.int x, .int k] : List Value)).length) Slot.unset).toArray = ls at hl ⊢
  have hl : lv_has ls 2 [(0, .int x), (1, .int k)] := hl
  refine lv_iload_n hx hb dX4_bit_0 rfl (lv_at hl 0 rfl) ?_
  refine lv_iload_n hx hb dX4_bit_1 rfl (lv_at hl 1 rfl) ?_
  refine lv_ishr hx hb dX4_bit_2 ?_
  refine lv_iconst (v := 1) hx hb dX4_bit_3 (by decide) ?_
  refine lv_iand hx hb dX4_bit_4 ?_
  exact ro_iret hx hb hr hlocks hH dX4_bit_5 rfl
theorem mX2_asWord_f21 : Cond.fieldLink RX2 21 "WireLoom$State" "settings" "[I" ∈ wsX2_asWord := by decide +kernel
set_option maxRecDepth 20000 in
theorem iX2_asWord_X2 : ∀ w ∈ wsX20, w ∈ wsX2_asWord := by decide +kernel
set_option maxHeartbeats 4000000 in
set_option maxRecDepth 100000 in
theorem c_X2_asWord (l : Launch) (D : va_G) (cA : Nat → ClassId) (H : Heap) (a : Nat → Nat) (u : SV) (mask : Int32) (hP0 : va_P D vwCl (wSt cA a u) H) : RO l yX2_asWord wsX2_asWord ({ frames := 0, cells := 0, slots := 0, locals := 0 } : Room) D cA [.ref (a 0), .int mask] H (some (.int (wordF u.2.2.2.1 mask))) := by
  refine Met.ofW (cc := cX2_asWord) (maxL := 2) (ret := (some .int)) (by decide) rfl ?_
  intro p e s m args below meth c s₁ B hml hv
  obtain ⟨rfl, hH, hKN⟩ := hv
  have hK := hKN.1
  have hx := B.exec
  have hb := B.bytes
  have hr := B.returns
  have hts := atoms_spec (ws := wsX2_asWord) B.pre
  have hown : s.vm.findClass RX2 = some m.cls := findClass_of_methodNamed B.named
  have hlocks := B.notSynchronized
  subst hH
  have hH : s.heap = s.heap := rfl
  have hP := hP0
  have hl := lv_entry ([.ref (a 0), .int mask] : List Value) (n := 2) (Nat.le_of_ble_eq_true rfl)
  rw [lg_entry_eq]
  generalize (lg_sl ([.ref (a 0), .int mask] : List Value) ++ List.replicate (2 - (lg_sl ([.ref (a 0), .int mask] : List Value)).length) Slot.unset).toArray = ls at hl ⊢
  have hl : lv_has ls 2 [(0, .ref (a 0)), (1, .int mask)] := hl
  refine lv_aload_n hx hb dX2_asWord_0 rfl (lv_at hl 0 rfl) ?_
  refine va_get (D := D) (ci := 2) (v := .ref (a 4)) (C := RX2) (T := TX2) (N := 8) hx hb hts iX2_asWord_X2 hown hK hP 0 rfl rfl 3 (by decide) (hts _ mX2_asWord_f21) (fun _ h9 => h9) rfl dX2_asWord_1 ?_
  refine lv_iconst (v := 1) hx hb dX2_asWord_4 (by decide) ?_
  refine lz_iald (k := 1) (f := u.2.2.2.1) hx hb hK hP 4 0 rfl rfl ⟨by decide, by decide⟩ dX2_asWord_5 ?_
  refine lv_if_ne (tgt := 13) hx hb dX2_asWord_6 (by decide) (fun c_6 => ?_) (fun c_6 => ?_)
  · refine lv_iload_n hx hb dX2_asWord_13 rfl (lv_at hl 1 rfl) ?_
    refine lv_sipush (v := 255) hx hb dX2_asWord_14 (by decide) ?_
    refine lv_ixor hx hb dX2_asWord_17 ?_
    exact ro_iret hx hb hr hlocks hH dX2_asWord_18 (by simp [wordF, c_6])
  · refine lv_iload_n hx hb dX2_asWord_9 rfl (lv_at hl 1 rfl) ?_
    refine lv_goto (tgt := 18) hx hb dX2_asWord_10 (by decide) ?_
    exact ro_iret hx hb hr hlocks hH dX2_asWord_18 (by simp [wordF, c_6])
theorem mX2_means_f9 : Cond.fieldLink RX2 9 "WireLoom$State" "rings" "[I" ∈ wsX2_means := by decide +kernel
set_option maxRecDepth 20000 in
theorem iX2_means_X2 : ∀ w ∈ wsX20, w ∈ wsX2_means := by decide +kernel
set_option maxHeartbeats 4000000 in
set_option maxRecDepth 100000 in
theorem c_X2_means (l : Launch) (D : va_G) (cA : Nat → ClassId) (H : Heap) (a : Nat → Nat) (u : SV) (t : Nat) (ht : t < 16) (hP0 : va_P D vwCl (wSt cA a u) H) : RO l yX2_means wsX2_means ({ frames := 1, cells := 0, slots := 0, locals := 21 } : Room) D cA [.ref (a 0), .int (nI t)] H (some (.int (meansS u t))) := by
  refine Met.ofW (cc := cX2_means) (maxL := 2) (ret := (some .int)) (by decide) rfl ?_
  intro p e s m args below meth c s₁ B hml hv
  obtain ⟨rfl, hH, hKN⟩ := hv
  have hK := hKN.1
  have hx := B.exec
  have hb := B.bytes
  have hr := B.returns
  have hts := atoms_spec (ws := wsX2_means) B.pre
  have hown : s.vm.findClass RX2 = some m.cls := findClass_of_methodNamed B.named
  have hlocks := B.notSynchronized
  subst hH
  have hH : s.heap = s.heap := rfl
  have hP := hP0
  have hl := lv_entry ([.ref (a 0), .int (nI t)] : List Value) (n := 2) (Nat.le_of_ble_eq_true rfl)
  rw [lg_entry_eq]
  generalize (lg_sl ([.ref (a 0), .int (nI t)] : List Value) ++ List.replicate (2 - (lg_sl ([.ref (a 0), .int (nI t)] : List Value)).length) Slot.unset).toArray = ls at hl ⊢
  have hl : lv_has ls 2 [(0, .ref (a 0)), (1, .int (nI t))] := hl
  refine lv_aload_n hx hb dX2_means_0 rfl (lv_at hl 0 rfl) ?_
  refine lv_aload_n hx hb dX2_means_1 rfl (lv_at hl 0 rfl) ?_
  refine va_get (D := D) (ci := 2) (v := .ref (a 1)) (C := RX2) (T := TX2) (N := 8) hx hb hts iX2_means_X2 hown hK hP 0 rfl rfl 0 (by decide) (hts _ mX2_means_f9) (fun _ h9 => h9) rfl dX2_means_2 ?_
  refine lv_iload_n hx hb dX2_means_5 rfl (lv_at hl 1 rfl) ?_
  refine lz_iald (k := t) (f := u.1) hx hb hK hP 1 0 rfl rfl ⟨by omega, by decide⟩ dX2_means_6 ?_
  refine ro_V (ci := 2) (q0 := 0) (As := [.int (u.1 t)]) (rest := []) ⟨hx, hb, hml, hown, hts⟩ (c_X2_asWord l D cA _ a u (u.1 t) hP ) (cwV 1 hts gX2_means_X2_asWord rfl rfl rfl (by decide +kernel) ⟨Nat.le_of_ble_eq_true rfl, Nat.le_of_ble_eq_true rfl⟩) hKN hP rfl rfl rfl hl.1 rfl (lv_room (Nat.le_of_ble_eq_true rfl)) dX2_means_7 ⟨Nat.zero_le _, Nat.zero_le _⟩ ?_
  exact ro_iret hx hb hr hlocks hH dX2_means_10 rfl
theorem mX2_oneThreadOn_f9 : Cond.fieldLink RX2 9 "WireLoom$State" "rings" "[I" ∈ wsX2_oneThreadOn := by decide +kernel
theorem mX2_oneThreadOn_f41 : Cond.fieldLink RX2 41 "WireLoom$State" "guarded" "I" ∈ wsX2_oneThreadOn := by decide +kernel
set_option maxRecDepth 20000 in
theorem iX2_oneThreadOn_X2 : ∀ w ∈ wsX20, w ∈ wsX2_oneThreadOn := by decide +kernel
set_option maxHeartbeats 4000000 in
set_option maxRecDepth 100000 in
theorem c_X2_oneThreadOn (l : Launch) (D : va_G) (cA : Nat → ClassId) (H : Heap) (a : Nat → Nat) (u : SV) (reader reached : Int32) (hP0 : va_P D vwCl (wSt cA a u) H) : RO l yX2_oneThreadOn wsX2_oneThreadOn ({ frames := 1, cells := 0, slots := 0, locals := 21 } : Room) D cA [.ref (a 0), .int reader, .int reached] H (some (.int (oneT u.1 u.2.2.2.2.1 reader reached 16))) := by
  refine Met.ofW (cc := cX2_oneThreadOn) (maxL := 6) (ret := (some .int)) (by decide) rfl ?_
  intro p e s m args below meth c s₁ B hml hv
  obtain ⟨rfl, hH, hKN⟩ := hv
  have hK := hKN.1
  have hx := B.exec
  have hb := B.bytes
  have hr := B.returns
  have hts := atoms_spec (ws := wsX2_oneThreadOn) B.pre
  have hown : s.vm.findClass RX2 = some m.cls := findClass_of_methodNamed B.named
  have hlocks := B.notSynchronized
  subst hH
  have hH : s.heap = s.heap := rfl
  have hP := hP0
  have hl := lv_entry ([.ref (a 0), .int reader, .int reached] : List Value) (n := 6) (Nat.le_of_ble_eq_true rfl)
  rw [lg_entry_eq]
  generalize (lg_sl ([.ref (a 0), .int reader, .int reached] : List Value) ++ List.replicate (6 - (lg_sl ([.ref (a 0), .int reader, .int reached] : List Value)).length) Slot.unset).toArray = ls at hl ⊢
  have hl : lv_has ls 6 [(0, .ref (a 0)), (1, .int reader), (2, .int reached)] := hl
  refine lv_iload_n hx hb dX2_oneThreadOn_0 rfl (lv_at hl 2 rfl) ?_
  refine lv_istore_n (lv' := [(3, .int reached), (0, .ref (a 0)), (1, .int reader), (2, .int reached)]) hx hb dX2_oneThreadOn_1 rfl hl (by decide) rfl (fun ls hl => ?_)
  refine lv_iconst (v := 0) hx hb dX2_oneThreadOn_2 (by decide) ?_
  refine lv_istore (lv' := [(4, .int 0), (3, .int reached), (0, .ref (a 0)), (1, .int reader), (2, .int reached)]) hx hb dX2_oneThreadOn_3 hl (by decide) rfl (fun ls hl => ?_)
  have loop5 : ∀ (n5 k5 : Nat), k5 + n5 = 16 → ∀ (ls : Array Slot), lv_has ls 6 [(4, .int (nI k5)), (3, .int (oneT u.1 u.2.2.2.2.1 reader reached k5)), (0, .ref (a 0)), (1, .int reader), (2, .int reached)] → W p l e ({ frames := 1, cells := 0, slots := 0, locals := 21 } : Room) s m ([.ref (a 0), .int reader, .int reached] : List Value).toArray below meth c s.heap [] 0 0 (MQ below (roQ s.heap (some (.int (oneT u.1 u.2.2.2.2.1 reader reached 16)))) ([.ref (a 0), .int reader, .int reached] : List Value).toArray s 0 0 noA) (F0 m 5 ls []) := by
    intro n5
    induction n5 with
    | zero =>
      intro k5 hk5 ls hl
      obtain rfl : k5 = 16 := by omega
      refine lv_iload hx hb dX2_oneThreadOn_5 (lv_at hl 0 rfl) ?_
      refine lv_bipush (v := 16) hx hb dX2_oneThreadOn_7 (by decide) ?_
      refine lv_icmp_ge (tgt := 70) hx hb dX2_oneThreadOn_9 (by decide) (fun _ => ?_) (fun h => absurd (by decide) h)
      refine lv_iload_n hx hb dX2_oneThreadOn_70 rfl (lv_at hl 1 rfl) ?_
      exact ro_iret hx hb hr hlocks hH dX2_oneThreadOn_71 rfl
    | succ n5 ih5 =>
      intro k5 hk5 ls hl
      have hlt5 : k5 < 16 := by omega
      refine lv_iload hx hb dX2_oneThreadOn_5 (lv_at hl 0 rfl) ?_
      refine lv_bipush (v := 16) hx hb dX2_oneThreadOn_7 (by decide) ?_
      refine lv_icmp_ge (tgt := 70) hx hb dX2_oneThreadOn_9 (by decide) (fun h => absurd h (nI_ge hlt5 (by first | decide | omega))) (fun _ => ?_)
      refine lv_aload_n hx hb dX2_oneThreadOn_12 rfl (lv_at hl 2 rfl) ?_
      refine va_get (D := D) (ci := 2) (v := .ref (a 1)) (C := RX2) (T := TX2) (N := 8) hx hb hts iX2_oneThreadOn_X2 hown hK hP 0 rfl rfl 0 (by decide) (hts _ mX2_oneThreadOn_f9) (fun _ h9 => h9) rfl dX2_oneThreadOn_13 ?_
      refine lv_iload hx hb dX2_oneThreadOn_16 (lv_at hl 0 rfl) ?_
      refine lz_iald (k := k5) (f := u.1) hx hb hK hP 1 0 rfl rfl ⟨by omega, by decide⟩ dX2_oneThreadOn_18 ?_
      refine lv_iload_n hx hb dX2_oneThreadOn_19 rfl (lv_at hl 4 rfl) ?_
      refine lv_iand hx hb dX2_oneThreadOn_20 ?_
      refine lv_if_eq (tgt := 28) hx hb dX2_oneThreadOn_21 (by decide) (fun c_21 => ?_) (fun c_21 => ?_)
      · refine lv_iconst (v := 0) hx hb dX2_oneThreadOn_28 (by decide) ?_
        refine lv_istore (lv' := [(5, .int 0), (4, .int (nI k5)), (3, .int (oneT u.1 u.2.2.2.2.1 reader reached k5)), (0, .ref (a 0)), (1, .int reader), (2, .int reached)]) hx hb dX2_oneThreadOn_29 hl (by decide) rfl (fun ls hl => ?_)
        refine lv_iload hx hb dX2_oneThreadOn_31 (lv_at hl 0 rfl) ?_
        refine lv_if_eq (tgt := 64) hx hb dX2_oneThreadOn_33 (by decide) (fun _ => ?_) (fun h => absurd (by decide) h)
        refine lv_iinc (v := (nI (k5 + 1))) (lv' := [(4, .int (nI (k5 + 1))), (5, .int 0), (3, .int (oneT u.1 u.2.2.2.2.1 reader reached k5)), (0, .ref (a 0)), (1, .int reader), (2, .int reached)]) hx hb dX2_oneThreadOn_64 hl (k := 1) rfl (nI_1 _) (by decide) rfl (fun ls hl => ?_)
        refine lv_goto (tgt := 5) hx hb dX2_oneThreadOn_67 (by decide) ?_
        have e_1 : (oneT u.1 u.2.2.2.2.1 reader reached (k5 + 1)) = (oneT u.1 u.2.2.2.2.1 reader reached k5) := by simp [oneT, c_21]
        exact ih5 (k5 + 1) (by omega) ls (by rw [e_1]; exact (lv_sub hl [0, 2, 3, 4, 5] rfl))
      · refine lv_iconst (v := 1) hx hb dX2_oneThreadOn_24 (by decide) ?_
        refine lv_goto (tgt := 29) hx hb dX2_oneThreadOn_25 (by decide) ?_
        refine lv_istore (lv' := [(5, .int 1), (4, .int (nI k5)), (3, .int (oneT u.1 u.2.2.2.2.1 reader reached k5)), (0, .ref (a 0)), (1, .int reader), (2, .int reached)]) hx hb dX2_oneThreadOn_29 hl (by decide) rfl (fun ls hl => ?_)
        refine lv_iload hx hb dX2_oneThreadOn_31 (lv_at hl 0 rfl) ?_
        refine lv_if_eq (tgt := 64) hx hb dX2_oneThreadOn_33 (by decide) (fun h => absurd h (by decide)) (fun _ => ?_)
        refine lv_iload hx hb dX2_oneThreadOn_36 (lv_at hl 1 rfl) ?_
        refine lv_iload_n hx hb dX2_oneThreadOn_38 rfl (lv_at hl 4 rfl) ?_
        refine lv_icmp_eq (tgt := 64) hx hb dX2_oneThreadOn_39 (by decide) (fun c_39 => ?_) (fun c_39 => ?_)
        · refine lv_iinc (v := (nI (k5 + 1))) (lv' := [(4, .int (nI (k5 + 1))), (5, .int 1), (3, .int (oneT u.1 u.2.2.2.2.1 reader reached k5)), (0, .ref (a 0)), (1, .int reader), (2, .int reached)]) hx hb dX2_oneThreadOn_64 hl (k := 1) rfl (nI_1 _) (by decide) rfl (fun ls hl => ?_)
          refine lv_goto (tgt := 5) hx hb dX2_oneThreadOn_67 (by decide) ?_
          have e_2 : (oneT u.1 u.2.2.2.2.1 reader reached (k5 + 1)) = (oneT u.1 u.2.2.2.2.1 reader reached k5) := by simp [oneT, c_21, c_39]
          exact ih5 (k5 + 1) (by omega) ls (by rw [e_2]; exact (lv_sub hl [0, 2, 3, 4, 5] rfl))
        · refine lv_aload_n hx hb dX2_oneThreadOn_42 rfl (lv_at hl 3 rfl) ?_
          refine va_get (D := D) (ci := 2) (v := .int u.2.2.2.2.1) (C := RX2) (T := TX2) (N := 8) hx hb hts iX2_oneThreadOn_X2 hown hK hP 0 rfl rfl 5 (by decide) (hts _ mX2_oneThreadOn_f41) (fun _ h9 => h9) rfl dX2_oneThreadOn_43 ?_
          refine lv_iload hx hb dX2_oneThreadOn_46 (lv_at hl 1 rfl) ?_
          refine ro_SN (As := [.int u.2.2.2.2.1, .int (nI k5)]) (rest := []) ⟨hx, hb, hml, hown, hts⟩ (c_X4_bit l D cA _ u.2.2.2.2.1 (nI k5)) (nestB 2 hts gX2_oneThreadOn_X4_bit_n70 rfl rfl rfl hKN.2 (by decide +kernel) (by decide +kernel) (by decide +kernel) ⟨Nat.le_of_ble_eq_true rfl, Nat.le_of_ble_eq_true rfl⟩) hKN rfl hl.1 rfl (lv_room (Nat.le_of_ble_eq_true rfl)) dX2_oneThreadOn_48 ⟨Nat.zero_le _, Nat.zero_le _⟩ ?_
          refine lv_if_ne (tgt := 64) hx hb dX2_oneThreadOn_51 (by decide) (fun c_51 => ?_) (fun c_51 => ?_)
          · refine lv_iinc (v := (nI (k5 + 1))) (lv' := [(4, .int (nI (k5 + 1))), (5, .int 1), (3, .int (oneT u.1 u.2.2.2.2.1 reader reached k5)), (0, .ref (a 0)), (1, .int reader), (2, .int reached)]) hx hb dX2_oneThreadOn_64 hl (k := 1) rfl (nI_1 _) (by decide) rfl (fun ls hl => ?_)
            refine lv_goto (tgt := 5) hx hb dX2_oneThreadOn_67 (by decide) ?_
            have e_3 : (oneT u.1 u.2.2.2.2.1 reader reached (k5 + 1)) = (oneT u.1 u.2.2.2.2.1 reader reached k5) := by simp [oneT, c_21, c_39, c_51]
            exact ih5 (k5 + 1) (by omega) ls (by rw [e_3]; exact (lv_sub hl [0, 2, 3, 4, 5] rfl))
          · refine lv_iload_n hx hb dX2_oneThreadOn_54 rfl (lv_at hl 2 rfl) ?_
            refine lv_aload_n hx hb dX2_oneThreadOn_55 rfl (lv_at hl 3 rfl) ?_
            refine va_get (D := D) (ci := 2) (v := .ref (a 1)) (C := RX2) (T := TX2) (N := 8) hx hb hts iX2_oneThreadOn_X2 hown hK hP 0 rfl rfl 0 (by decide) (hts _ mX2_oneThreadOn_f9) (fun _ h9 => h9) rfl dX2_oneThreadOn_56 ?_
            refine lv_iload hx hb dX2_oneThreadOn_59 (lv_at hl 1 rfl) ?_
            refine lz_iald (k := k5) (f := u.1) hx hb hK hP 1 0 rfl rfl ⟨by omega, by decide⟩ dX2_oneThreadOn_61 ?_
            refine lv_ior hx hb dX2_oneThreadOn_62 ?_
            refine lv_istore_n (lv' := [(3, .int ((oneT u.1 u.2.2.2.2.1 reader reached k5) ||| (u.1 k5))), (5, .int 1), (4, .int (nI k5)), (0, .ref (a 0)), (1, .int reader), (2, .int reached)]) hx hb dX2_oneThreadOn_63 rfl hl (by decide) rfl (fun ls hl => ?_)
            refine lv_iinc (v := (nI (k5 + 1))) (lv' := [(4, .int (nI (k5 + 1))), (3, .int ((oneT u.1 u.2.2.2.2.1 reader reached k5) ||| (u.1 k5))), (5, .int 1), (0, .ref (a 0)), (1, .int reader), (2, .int reached)]) hx hb dX2_oneThreadOn_64 hl (k := 2) rfl (nI_1 _) (by decide) rfl (fun ls hl => ?_)
            refine lv_goto (tgt := 5) hx hb dX2_oneThreadOn_67 (by decide) ?_
            have e_4 : (oneT u.1 u.2.2.2.2.1 reader reached (k5 + 1)) = ((oneT u.1 u.2.2.2.2.1 reader reached k5) ||| (u.1 k5)) := by simp [oneT, c_21, c_39, c_51]
            exact ih5 (k5 + 1) (by omega) ls (by rw [e_4]; exact (lv_sub hl [0, 1, 3, 4, 5] rfl))
  exact loop5 16 0 (by omega) ls (lv_sub hl [0, 1, 2, 3, 4] rfl)
theorem mX2_strengthAt_p99 : Cond.methodLink RX2 99 Lib.Math.max.name ∈ wsX2_strengthAt := by decide +kernel
theorem mX2_strengthAt_st_max : Cond.static Lib.Math.max.name ∈ wsX2_strengthAt := by decide +kernel
theorem mX2_strengthAt_iniMath : Cond.initialized "java/lang/Math" ∈ wsX2_strengthAt := by decide +kernel
theorem mX2_strengthAt_co_max : Cond.code Lib.Math.max.name Lib.Math.max.code 2 (some .int) ∈ wsX2_strengthAt := by decide +kernel
theorem mX2_strengthAt_f18 : Cond.fieldLink RX2 18 "WireLoom$State" "wear" "[I" ∈ wsX2_strengthAt := by decide +kernel
set_option maxRecDepth 20000 in
theorem iX2_strengthAt_X2 : ∀ w ∈ wsX20, w ∈ wsX2_strengthAt := by decide +kernel
set_option maxHeartbeats 4000000 in
set_option maxRecDepth 100000 in
theorem c_X2_strengthAt (l : Launch) (D : va_G) (cA : Nat → ClassId) (H : Heap) (a : Nat → Nat) (u : SV) (r : Nat) (hr0 : r < 8) (hops : Int32) (hP0 : va_P D vwCl (wSt cA a u) H) : RO l yX2_strengthAt wsX2_strengthAt ({ frames := 1, cells := 0, slots := 0, locals := 13 } : Room) D cA [.ref (a 0), .int (nI r), .int hops] H (some (.int (strF u.2.2.1 r hops))) := by
  refine Met.ofW (cc := cX2_strengthAt) (maxL := 4) (ret := (some .int)) (by decide) rfl ?_
  intro p e s m args below meth c s₁ B hml hv
  obtain ⟨rfl, hH, hKN⟩ := hv
  have hK := hKN.1
  have hx := B.exec
  have hb := B.bytes
  have hr := B.returns
  have hts := atoms_spec (ws := wsX2_strengthAt) B.pre
  have hown : s.vm.findClass RX2 = some m.cls := findClass_of_methodNamed B.named
  have hlocks := B.notSynchronized
  subst hH
  have hH : s.heap = s.heap := rfl
  have hP := hP0
  have hl := lv_entry ([.ref (a 0), .int (nI r), .int hops] : List Value) (n := 4) (Nat.le_of_ble_eq_true rfl)
  rw [lg_entry_eq]
  generalize (lg_sl ([.ref (a 0), .int (nI r), .int hops] : List Value) ++ List.replicate (4 - (lg_sl ([.ref (a 0), .int (nI r), .int hops] : List Value)).length) Slot.unset).toArray = ls at hl ⊢
  have hl : lv_has ls 4 [(0, .ref (a 0)), (1, .int (nI r)), (2, .int hops)] := hl
  refine lv_iload_n hx hb dX2_strengthAt_0 rfl (lv_at hl 2 rfl) ?_
  refine lv_iconst (v := (-1)) hx hb dX2_strengthAt_1 (by decide) ?_
  refine lv_icmp_ne (tgt := 7) hx hb dX2_strengthAt_2 (by decide) (fun c_2 => ?_) (fun c_2 => ?_)
  · refine lv_bipush (v := 8) hx hb dX2_strengthAt_7 (by decide) ?_
    refine lv_iconst (v := 3) hx hb dX2_strengthAt_9 (by decide) ?_
    refine lv_iload_n hx hb dX2_strengthAt_10 rfl (lv_at hl 2 rfl) ?_
    refine lv_imul hx hb dX2_strengthAt_11 ?_
    refine lv_isub hx hb dX2_strengthAt_12 ?_
    refine lv_iconst (v := 0) hx hb dX2_strengthAt_13 (by decide) ?_
    refine va_mmax hx hb (hml.trans hl.1.symm) hown (hts _ mX2_strengthAt_p99) (hts _ mX2_strengthAt_st_max) (hts _ mX2_strengthAt_iniMath) (hts _ mX2_strengthAt_co_max) (by decide) (by decide) (Nat.zero_le _) (Nat.zero_le _) dX2_strengthAt_14 ?_
    refine lz_top (v := (maxF (8 - (3 * hops)) 0)) rfl ?_
    refine lv_istore_n (lv' := [(3, .int (maxF (8 - (3 * hops)) 0)), (0, .ref (a 0)), (1, .int (nI r)), (2, .int hops)]) hx hb dX2_strengthAt_17 rfl hl (by decide) rfl (fun ls hl => ?_)
    refine lv_iload_n hx hb dX2_strengthAt_18 rfl (lv_at hl 0 rfl) ?_
    refine lv_aload_n hx hb dX2_strengthAt_19 rfl (lv_at hl 1 rfl) ?_
    refine va_get (D := D) (ci := 2) (v := .ref (a 3)) (C := RX2) (T := TX2) (N := 8) hx hb hts iX2_strengthAt_X2 hown hK hP 0 rfl rfl 2 (by decide) (hts _ mX2_strengthAt_f18) (fun _ h9 => h9) rfl dX2_strengthAt_20 ?_
    refine lv_iload_n hx hb dX2_strengthAt_23 rfl (lv_at hl 2 rfl) ?_
    refine lz_iald (k := r) (f := u.2.2.1) hx hb hK hP 3 0 rfl rfl ⟨by omega, by decide⟩ dX2_strengthAt_24 ?_
    refine lv_bipush (v := 10) hx hb dX2_strengthAt_25 (by decide) ?_
    refine lv_idiv hx hb dX2_strengthAt_27 (by decide) ?_
    refine lv_isub hx hb dX2_strengthAt_28 ?_
    refine lv_iconst (v := 0) hx hb dX2_strengthAt_29 (by decide) ?_
    refine va_mmax hx hb (hml.trans hl.1.symm) hown (hts _ mX2_strengthAt_p99) (hts _ mX2_strengthAt_st_max) (hts _ mX2_strengthAt_iniMath) (hts _ mX2_strengthAt_co_max) (by decide) (by decide) (Nat.zero_le _) (Nat.zero_le _) dX2_strengthAt_30 ?_
    refine lz_top (v := (maxF ((maxF (8 - (3 * hops)) 0) - ((u.2.2.1 r) / 10)) 0)) rfl ?_
    exact ro_iret hx hb hr hlocks hH dX2_strengthAt_33 (by simp [strF, c_2])
  · refine lv_iconst (v := 0) hx hb dX2_strengthAt_5 (by decide) ?_
    exact ro_iret hx hb hr hlocks hH dX2_strengthAt_6 (by simp [strF, c_2])
