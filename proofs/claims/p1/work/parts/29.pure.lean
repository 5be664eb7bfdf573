-- what the class answers on a new object, and what the reference does, as numbers
theorem pv_cross : ∀ t, t < 16 → ∀ r, r < 8 → bitF (initS.1 t ^^^ (1 <<< (nI r &&& 31))) (nI r) = 1 := by decide +kernel
theorem pv_lay : ∀ w, w < 256 → bcF ((0 : Int32) ^^^ wordF initS.2.2.2.1 (nI w)) = onesT (nI w ^^^ 0) 16 := by decide +kernel
theorem pv_guard : ∀ t, t < 16 → bitF (initS.2.2.2.2.1 ^^^ (1 <<< (nI t &&& 31))) (nI t) = 1 := by decide +kernel
theorem pv_change : ∀ r, r < 8 → bcF (thrS initS (nI r)) = 0 := by decide +kernel
theorem pv_set0 : initS.2.2.2.1 0 = 6 := by decide +kernel
theorem pv_set1 : initS.2.2.2.1 1 = 0 := by decide +kernel
theorem pv_read : ∀ t, t < 16 → tellsS initS t = 0 := by decide +kernel
theorem pv_step : (stepS initS).2.2.2.2.2.2.2.2.2.2.2.1 = 0 := by decide +kernel
theorem pv_run (n : Nat) : runS (n + 1) initS = (1, stepS initS) := by
  rw [runS_succ, if_neg (by decide +kernel)]
  cases n with
  | zero => rfl
  | succ n => rw [runS_succ, if_pos pv_step]
theorem pv_go (N : Nat) (h : 1 ≤ N) : nI (runS N initS).1 = 1 := by
  obtain ⟨n, rfl⟩ : ∃ n, N = n + 1 := ⟨N - 1, by omega⟩
  rw [pv_run]
  rfl
theorem pv_keep : cbtT initS 16 = 0 := by decide +kernel
theorem pv_threadOf : ∀ t, t < 16 → ∀ w, w < 8 → thofS initS t w = 0 := by decide +kernel
theorem pv_ringOf : ∀ r, r < 8 → ∀ w, w < 5 → riofS initS r w = 0 := by decide +kernel
theorem pv_strength0 : ∀ t, t < 16 → ∀ r, r < 8 → strgS initS t r 0 = 0 := by decide +kernel
theorem pv_strength1 : ∀ t, t < 16 → ∀ r, r < 8 → strgS initS t r 1 = -1 := by decide +kernel
theorem pv_machine : ∀ w, w < 9 → machS initS w = f0J (27 + w) := by decide +kernel
theorem pv_told (w : Nat) : initS.2.2.2.2.2.2.2.2.1 w = -1 := rfl
theorem pv_count : ∀ w, w < 10 → countS initS 0 (fun _ => 0) w = countM 0 w := by decide +kernel
theorem pv_lastsFor : ∀ t, t < 16 → rucS initS t = -1 := by decide +kernel
theorem pv_gone1 : ∀ w, w < 4 → goneS initS 1 w = goneM w := by decide +kernel
theorem pv_ifGone (N w : Nat) (h : 1 ≤ N) (hw : w < 4) : goneS initS N w = goneM w := by
  have e : goneS initS N w = goneS initS 1 w := by
    obtain ⟨n, rfl⟩ : ∃ n, N = n + 1 := ⟨N - 1, by omega⟩
    unfold goneS
    rw [pv_run, pv_run 0]
  rw [e]
  exact pv_gone1 w hw
theorem pv_bestGuard : (bgT initS 16).1 = bgB 16 := by decide +kernel
theorem pv_right : rightT initS 16 = 16 := by decide +kernel
theorem pv_woa : woaT initS 8 = 0 := by decide +kernel
theorem pm_cross : ∀ t, t < 16 → ∀ r, r < 8 → ((((wrF (upd (upd (cpT f0 (62 * 0) (62 * 1) 62) t (((cpT f0 (62 * 0) (62 * 1) 62) t) ^^^ (1 <<< ((nI r) &&& 31)))) 60 (((upd (cpT f0 (62 * 0) (62 * 1) 62) t (((cpT f0 (62 * 0) (62 * 1) 62) t) ^^^ (1 <<< ((nI r) &&& 31)))) 60) + 1)) 0 r 2) t) >>> ((nI r) &&& 31)) &&& 1) = 1 := by decide +kernel
theorem pm_guard : ∀ t, t < 16 → ((((upd (cpT f0 (62 * 0) (62 * 1) 62) 16 (((cpT f0 (62 * 0) (62 * 1) 62) 16) ^^^ (1 <<< ((nI t) &&& 31)))) 16) >>> ((nI t) &&& 31)) &&& 1) = 1 := by decide +kernel
theorem pm_set0 : ((cpT f0 (62 * 0) (62 * 1) 62) 25) = 6 := by decide +kernel
theorem pm_set1 : ((cpT f0 (62 * 0) (62 * 1) 62) 26) = 0 := by decide +kernel
theorem pm_start : ((cpT f0 (62 * 0) (62 * 1) 62) 34) = 0 := by decide +kernel
theorem pm_setting0 : f0 25 = 6 := by decide +kernel
theorem pm_setting1 : f0 26 = 0 := by decide +kernel
theorem pv_digest : digV (fun _ => initS) 0 (fun _ => 0, fun _ => 0) = (mixF (mixF (mixF (mixF (mixF (mixF (mixF (mixF (mzG (mzL (mzM (mzZ (mzZ (mzT (mixF (mixF (mzC 3371 10) (i2lF 6)) (i2lF 0)) 16) 40) 16) 9) 8) 4) (-1)) (i2lF (-1))) (i2lF (bgB 16))) 4607182418800017408) 0) 0) 0) (i2lF 0)) := by decide +kernel
