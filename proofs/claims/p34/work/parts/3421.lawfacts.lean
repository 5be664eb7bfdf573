-- what the tables give the law
theorem lf_prim {ty : FieldType} {args : Array Value} {s : State} (h : (Cond.arrayClass ty).before args s = true) : ∃ cX : ClassId, ArrOfT s cX ty ∧ s.vm.findClass ("[" ++ ty.toString) = some cX := by
  obtain ⟨c, k, comp, h1, h2, h3⟩ := Cond.arrayClass_spec h
  exact ⟨c, fun n z => ⟨fun k h => (by cases h), k, h2, comp, h3⟩, h1⟩
theorem lf_over {args : Array Value} {s : State} (h : (Cond.arrayOver (.object "WireLoom$State")).before args s = true) : ∃ cX : ClassId, ArrOfT s cX (.object "WireLoom$State") ∧ va_RA s cX (.object "WireLoom$State") := by
  obtain ⟨comp, c, k, h1, h2, h3, h4, h5⟩ := Cond.arrayOver_spec h
  exact ⟨c, fun n z => ⟨fun k h => (by cases h), k, h3, comp, h4⟩, k, comp, h3, h4, h1, h5⟩
set_option maxRecDepth 20000 in
theorem lf_K {args : Array Value} {s : State} (hts : ∀ w ∈ lw_tbl, w.before args s = true) : ∃ (D : va_G) (cA : Nat → ClassId), KN D cA s ∧ KC s := by
  have hT : ∀ w ∈ tables_1, w.before args s = true := fun w h => hts w (List.mem_append_right _ h)
  obtain ⟨c0, i0, k0⟩ := u_known (C := RX0) (T := TX0) (N := 7) (n := 7) hts inX0 (hT _ (List.mem_of_getElem? (i := 30) (by decide +kernel)))
  obtain ⟨c1, i1, k1⟩ := u_known (C := RX1) (T := TX1) (N := 3) (n := 3) hts inX1 (hT _ (List.mem_of_getElem? (i := 105) (by decide +kernel)))
  obtain ⟨c2, i2, k2⟩ := u_known (C := RX2) (T := TX2) (N := 8) (n := 8) hts inX2 (hT _ (List.mem_of_getElem? (i := 24) (by decide +kernel)))
  obtain ⟨c3, i3, k3⟩ := u_known (C := RX3) (T := TX3) (N := 5) (n := 5) hts inX3 (hT _ (List.mem_of_getElem? (i := 125) (by decide +kernel)))
  obtain ⟨c4, i4, k4⟩ := u_known (C := RX4) (T := TX4) (N := 7) (n := 7) hts inX4 (hT _ (List.mem_of_getElem? (i := 16) (by decide +kernel)))
  obtain ⟨a0, a0x, a0y⟩ := lf_prim (ty := .int) (hT _ (List.mem_of_getElem? (i := 70) (by decide +kernel)))
  obtain ⟨a1, a1x, a1y⟩ := lf_prim (ty := .boolean) (hT _ (List.mem_of_getElem? (i := 143) (by decide +kernel)))
  have hov : (Cond.arrayOver (.object "WireLoom$State")).before args s = true := hT _ (List.mem_of_getElem? (i := 111) (by decide +kernel))
  obtain ⟨a2, a2x, a2y⟩ := lf_over (args := args) (s := s) hov
  refine ⟨(fun k => if k = 0 then c0 else if k = 1 then c1 else if k = 2 then c2 else if k = 3 then c3 else c4, fun k => if k = 0 then i0 else if k = 1 then i1 else if k = 2 then i2 else if k = 3 then i3 else i4), fun k => if k = 0 then a0 else if k = 1 then a1 else a2, ⟨⟨?_, ?_⟩, ?_⟩, ?_, ?_⟩
  · intro k q hq
    match k, hq with
    | 0, hq => cases hq; exact k0
    | 1, hq => cases hq; exact k1
    | 2, hq => cases hq; exact k2
    | 3, hq => cases hq; exact k3
    | 4, hq => cases hq; exact k4
    | k + 5, hq => simp at hq
  · intro k q hq
    match k, hq with
    | 0, hq => cases hq; exact ⟨a0x, a0y⟩
    | 1, hq => cases hq; exact ⟨a1x, a1y⟩
    | 2, hq => cases hq; exact ⟨a2x, a2y⟩
    | k + 3, hq => simp at hq
  · exact va_Nw.of (by decide) (hT _ (List.mem_of_getElem? (i := 341) (by decide +kernel)))
  · exact va_AO.of hov
  · exact va_Nw.of (by decide) (hT _ (List.mem_of_getElem? (i := 126) (by decide +kernel)))
