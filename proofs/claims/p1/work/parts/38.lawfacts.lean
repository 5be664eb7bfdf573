-- what the tables give the law
theorem lf_prim {ty : FieldType} {args : Array Value} {s : State} (h : (Cond.arrayClass ty).before args s = true) : ∃ cX : ClassId, ArrOfT s cX ty ∧ s.vm.findClass ("[" ++ ty.toString) = some cX := by
  obtain ⟨c, k, comp, h1, h2, h3⟩ := Cond.arrayClass_spec h
  exact ⟨c, fun n z => ⟨fun k h => (by cases h), k, h2, comp, h3⟩, h1⟩
theorem lf_over {args : Array Value} {s : State} (h : (Cond.arrayOver (.object "WireLoom$State")).before args s = true) : ∃ cX : ClassId, ArrOfT s cX (.object "WireLoom$State") ∧ va_RA s cX (.object "WireLoom$State") := by
  obtain ⟨comp, c, k, h1, h2, h3, h4, h5⟩ := Cond.arrayOver_spec h
  exact ⟨c, fun n z => ⟨fun k h => (by cases h), k, h3, comp, h4⟩, k, comp, h3, h4, h1, h5⟩
theorem lf_str {args : Array Value} {s : State} {cur : ClassId} {k : Nat} {t : String} (hcur : s.vm.findClass RX4 = some cur) (h : (Cond.stringRef RX4 k t).before args s = true) : ∃ sa, vk_R RX4 k t sa s := by
  obtain ⟨_, _, _, a, _, _, _, _, _, he⟩ := Cond.stringRef_spec hcur h
  exact ⟨a, vk_R.of h he⟩
set_option maxRecDepth 20000 in
theorem lf_K {args : Array Value} {s : State} (hts : ∀ w ∈ lw_tbl, w.before args s = true) : ∃ (D : va_G) (cA : Nat → ClassId), KN D cA s ∧ KC s := by
  have hT : ∀ w ∈ tables_1, w.before args s = true := fun w h => hts w (List.mem_append_right _ h)
  obtain ⟨c0, i0, k0⟩ := u_known (C := RX0) (T := TX0) (N := 7) (n := 7) hts inX0 (hT _ (List.mem_of_getElem? (i := 31) (by decide +kernel)))
  obtain ⟨c1, i1, k1⟩ := u_known (C := RX1) (T := TX1) (N := 3) (n := 3) hts inX1 (hT _ (List.mem_of_getElem? (i := 106) (by decide +kernel)))
  obtain ⟨c2, i2, k2⟩ := u_known (C := RX2) (T := TX2) (N := 8) (n := 8) hts inX2 (hT _ (List.mem_of_getElem? (i := 25) (by decide +kernel)))
  obtain ⟨c3, i3, k3⟩ := u_known (C := RX3) (T := TX3) (N := 5) (n := 5) hts inX3 (hT _ (List.mem_of_getElem? (i := 126) (by decide +kernel)))
  obtain ⟨c4, i4, k4⟩ := u_known (C := RX4) (T := TX4) (N := 7) (n := 7) hts inX4 (hT _ (List.mem_of_getElem? (i := 17) (by decide +kernel)))
  obtain ⟨c5, i5, k5⟩ := u_known (C := RX5) (T := TX5) (N := 10) (n := 10) hts inX5 (hT _ (List.mem_of_getElem? (i := 713) (by decide +kernel)))
  obtain ⟨a0, a0x, a0y⟩ := lf_prim (ty := .int) (hT _ (List.mem_of_getElem? (i := 71) (by decide +kernel)))
  obtain ⟨a1, a1x, a1y⟩ := lf_prim (ty := .boolean) (hT _ (List.mem_of_getElem? (i := 151) (by decide +kernel)))
  obtain ⟨a3, a3x, a3y⟩ := lf_prim (ty := .long) (hT _ (List.mem_of_getElem? (i := 1072) (by decide +kernel)))
  have hov : (Cond.arrayOver (.object "WireLoom$State")).before args s = true := hT _ (List.mem_of_getElem? (i := 112) (by decide +kernel))
  obtain ⟨a2, a2x, a2y⟩ := lf_over (args := args) (s := s) hov
  refine ⟨(fun k => if k = 0 then c0 else if k = 1 then c1 else if k = 2 then c2 else if k = 3 then c3 else if k = 4 then c4 else c5, fun k => if k = 0 then i0 else if k = 1 then i1 else if k = 2 then i2 else if k = 3 then i3 else if k = 4 then i4 else i5), fun k => if k = 0 then a0 else if k = 1 then a1 else if k = 2 then a2 else a3, ⟨⟨?_, ?_⟩, ?_⟩, ?_, ?_⟩
  · intro k q hq
    match k, hq with
    | 0, hq => cases hq; exact k0
    | 1, hq => cases hq; exact k1
    | 2, hq => cases hq; exact k2
    | 3, hq => cases hq; exact k3
    | 4, hq => cases hq; exact k4
    | 5, hq => cases hq; exact k5
    | k + 6, hq => simp at hq
  · intro k q hq
    match k, hq with
    | 0, hq => cases hq; exact ⟨a0x, a0y⟩
    | 1, hq => cases hq; exact ⟨a1x, a1y⟩
    | 2, hq => cases hq; exact ⟨a2x, a2y⟩
    | 3, hq => cases hq; exact ⟨a3x, a3y⟩
    | k + 4, hq => simp at hq
  · exact va_Nw.of (by decide) (hT _ (List.mem_of_getElem? (i := 257) (by decide +kernel)))
  · exact va_AO.of hov
  · exact va_Nw.of (by decide) (hT _ (List.mem_of_getElem? (i := 127) (by decide +kernel)))
set_option maxRecDepth 20000 in
theorem lf_X {args : Array Value} {s : State} {cur : ClassId} (hcur : s.vm.findClass RX4 = some cur) (hts : ∀ w ∈ lw_tbl, w.before args s = true) : KX s := by
  have hT : ∀ w ∈ tables_1, w.before args s = true := fun w h => hts w (List.mem_append_right _ h)
  refine ⟨fun q hq => ?_, fun w hw => ?_⟩
  · simp only [XSl, List.mem_cons, List.not_mem_nil, or_false] at hq
    rcases hq with rfl | rfl | rfl | rfl | rfl | rfl | rfl | rfl | rfl | rfl | rfl | rfl | rfl | rfl | rfl | rfl | rfl | rfl | rfl | rfl | rfl
    · exact lf_str hcur (hT _ (List.mem_of_getElem? (i := 560) (by decide +kernel)))
    · exact lf_str hcur (hT _ (List.mem_of_getElem? (i := 561) (by decide +kernel)))
    · exact lf_str hcur (hT _ (List.mem_of_getElem? (i := 577) (by decide +kernel)))
    · exact lf_str hcur (hT _ (List.mem_of_getElem? (i := 586) (by decide +kernel)))
    · exact lf_str hcur (hT _ (List.mem_of_getElem? (i := 596) (by decide +kernel)))
    · exact lf_str hcur (hT _ (List.mem_of_getElem? (i := 614) (by decide +kernel)))
    · exact lf_str hcur (hT _ (List.mem_of_getElem? (i := 622) (by decide +kernel)))
    · exact lf_str hcur (hT _ (List.mem_of_getElem? (i := 641) (by decide +kernel)))
    · exact lf_str hcur (hT _ (List.mem_of_getElem? (i := 649) (by decide +kernel)))
    · exact lf_str hcur (hT _ (List.mem_of_getElem? (i := 657) (by decide +kernel)))
    · exact lf_str hcur (hT _ (List.mem_of_getElem? (i := 424) (by decide +kernel)))
    · exact lf_str hcur (hT _ (List.mem_of_getElem? (i := 450) (by decide +kernel)))
    · exact lf_str hcur (hT _ (List.mem_of_getElem? (i := 461) (by decide +kernel)))
    · exact lf_str hcur (hT _ (List.mem_of_getElem? (i := 470) (by decide +kernel)))
    · exact lf_str hcur (hT _ (List.mem_of_getElem? (i := 685) (by decide +kernel)))
    · exact lf_str hcur (hT _ (List.mem_of_getElem? (i := 366) (by decide +kernel)))
    · exact lf_str hcur (hT _ (List.mem_of_getElem? (i := 475) (by decide +kernel)))
    · exact lf_str hcur (hT _ (List.mem_of_getElem? (i := 455) (by decide +kernel)))
    · exact lf_str hcur (hT _ (List.mem_of_getElem? (i := 416) (by decide +kernel)))
    · exact lf_str hcur (hT _ (List.mem_of_getElem? (i := 530) (by decide +kernel)))
    · exact lf_str hcur (hT _ (List.mem_of_getElem? (i := 440) (by decide +kernel)))
  · simp only [KXw, List.mem_cons, List.not_mem_nil, or_false] at hw
    rcases hw with rfl | rfl | rfl | rfl | rfl | rfl
    · exact va_Nw.of (by decide) (hT _ (List.mem_of_getElem? (i := 329) (by decide +kernel)))
    · exact va_Nw.of (by decide) (hT _ (List.mem_of_getElem? (i := 331) (by decide +kernel)))
    · exact va_Nw.of (by decide) (hT _ (List.mem_of_getElem? (i := 333) (by decide +kernel)))
    · exact va_Nw.of (by decide) (hT _ (List.mem_of_getElem? (i := 409) (by decide +kernel)))
    · exact va_Nw.of (by decide) (hT _ (List.mem_of_getElem? (i := 327) (by decide +kernel)))
    · exact va_Nw.of (by decide) (hT _ (List.mem_of_getElem? (i := 589) (by decide +kernel)))
set_option maxRecDepth 20000 in
theorem lf_Y {args : Array Value} {s : State} {cur : ClassId} (hcur : s.vm.findClass RX4 = some cur) (hts : ∀ w ∈ lw_tbl, w.before args s = true) (hgv : (Jvm.Cond.and given_1 narrow_1).before args s = true) : KY s :=
  ⟨lf_X hcur hts, va_Nc.of (args := args) (flat_of_before _ hgv _ (by decide +kernel)), va_Nc.of (args := args) (flat_of_before _ hgv _ (by decide +kernel))⟩
set_option maxRecDepth 20000 in
theorem lf_Z {args : Array Value} {s : State} {A : Nat → Prop} (hts : ∀ w ∈ lw_tbl, w.before args s = true) (hgv : (Jvm.Cond.and given_1 narrow_1).before args s = true) (hA : ∀ a : Nat, a < s.heap.size → ¬ A a) : XZ A s s.heap := by
  have hT : ∀ w ∈ tables_1, w.before args s = true := fun w h => hts w (List.mem_append_right _ h)
  exact ⟨vx_Zqof (args := args) (hT _ (List.mem_of_getElem? (i := 352) (by decide +kernel))) (hT _ (List.mem_of_getElem? (i := 7) (by decide +kernel))) (flat_of_before _ hgv _ (by decide +kernel)) hA, vx_Zqof (args := args) (hT _ (List.mem_of_getElem? (i := 354) (by decide +kernel))) (hT _ (List.mem_of_getElem? (i := 7) (by decide +kernel))) (flat_of_before _ hgv _ (by decide +kernel)) hA⟩
theorem lf_flags {l : Launch} (h : l.flags = flags0) : l.stackTraces = false := by
  unfold Launch.stackTraces
  rw [h]
  decide +kernel
