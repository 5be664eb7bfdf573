-- the law's body
theorem lc_cross {p : Program} {l : Launch} {e : Env} {s : State} {m : MethodId} {below : List Frame} {meth : Method} {c : Code} {b : Nat} {xs : Nat → Int32} {H : Heap} {locs : List Loc} {ls : Array Slot} {Q : State → Prop} {D : va_G} {cA : Nat → ClassId} {Ad : Nat → Nat → Nat} {a : Nat → Nat} {o9 : Nat} {A0 : Nat → Prop} (C : LCtx p l s m c b xs D cA A0) (Wd : LWl D cA Ad a o9 s A0 H locs) (hl : lv_has ls 9 [(4, .int 0), (3, .ref o9), (2, .ref (a 0)), (1, .ref (Ad 10 0)), (0, .ref b)]) (K : LKn p l e s m b below meth c Q A0) : W p l e room_1 s m #[Value.ref b] below meth c H locs 1000 5000 Q (F0 m 176 ls []) := by
  rcases inF_cases (xs 1) 0 15 (by decide) (by decide) with h1 | ⟨t, t0, t1, h1⟩
  · exact lc_cross_x1 C Wd hl K (xs 2) (xs 1) h1 rfl rfl
  · rcases inF_cases (xs 2) 0 7 (by decide) (by decide) with h2 | ⟨r, r0, r1, h2⟩
    · exact lc_cross_x2 C Wd hl K t (by omega) (xs 2) h2 h1 rfl
    · exact lc_cross_v C Wd hl K t (by omega) r (by omega) h1 h2
theorem lc_lay {p : Program} {l : Launch} {e : Env} {s : State} {m : MethodId} {below : List Frame} {meth : Method} {c : Code} {b : Nat} {xs : Nat → Int32} {H : Heap} {locs : List Loc} {ls : Array Slot} {Q : State → Prop} {D : va_G} {cA : Nat → ClassId} {Ad : Nat → Nat → Nat} {a : Nat → Nat} {o9 : Nat} {A0 : Nat → Prop} (C : LCtx p l s m c b xs D cA A0) (Wd : LWl D cA Ad a o9 s A0 H locs) (hl : lv_has ls 9 [(4, .int 0), (3, .ref o9), (2, .ref (a 0)), (1, .ref (Ad 10 0)), (0, .ref b)]) (K : LKn p l e s m b below meth c Q A0) : W p l e room_1 s m #[Value.ref b] below meth c H locs 1000 5000 Q (F0 m 244 ls []) := by
  rcases inF_cases (xs 1) 0 15 (by decide) (by decide) with h1 | ⟨t, t0, t1, h1⟩
  · exact lc_lay_x1 C Wd hl K (xs 2) (xs 1) h1 rfl rfl
  · rcases inF_cases (xs 2) 0 255 (by decide) (by decide) with h2 | ⟨w, w0, w1, h2⟩
    · exact lc_lay_x2 C Wd hl K t (by omega) (xs 2) h2 h1 rfl
    · exact lc_lay_v C Wd hl K t (by omega) w (by omega) h1 h2
theorem lc_guard {p : Program} {l : Launch} {e : Env} {s : State} {m : MethodId} {below : List Frame} {meth : Method} {c : Code} {b : Nat} {xs : Nat → Int32} {H : Heap} {locs : List Loc} {ls : Array Slot} {Q : State → Prop} {D : va_G} {cA : Nat → ClassId} {Ad : Nat → Nat → Nat} {a : Nat → Nat} {o9 : Nat} {A0 : Nat → Prop} (C : LCtx p l s m c b xs D cA A0) (Wd : LWl D cA Ad a o9 s A0 H locs) (hl : lv_has ls 9 [(4, .int 0), (3, .ref o9), (2, .ref (a 0)), (1, .ref (Ad 10 0)), (0, .ref b)]) (K : LKn p l e s m b below meth c Q A0) : W p l e room_1 s m #[Value.ref b] below meth c H locs 1000 5000 Q (F0 m 312 ls []) := by
  rcases inF_cases (xs 1) 0 15 (by decide) (by decide) with h1 | ⟨t, t0, t1, h1⟩
  · exact lc_guard_x1 C Wd hl K (xs 1) h1 rfl
  · exact lc_guard_v C Wd hl K t (by omega) h1
theorem lc_change {p : Program} {l : Launch} {e : Env} {s : State} {m : MethodId} {below : List Frame} {meth : Method} {c : Code} {b : Nat} {xs : Nat → Int32} {H : Heap} {locs : List Loc} {ls : Array Slot} {Q : State → Prop} {D : va_G} {cA : Nat → ClassId} {Ad : Nat → Nat → Nat} {a : Nat → Nat} {o9 : Nat} {A0 : Nat → Prop} (C : LCtx p l s m c b xs D cA A0) (Wd : LWl D cA Ad a o9 s A0 H locs) (hl : lv_has ls 9 [(4, .int 0), (3, .ref o9), (2, .ref (a 0)), (1, .ref (Ad 10 0)), (0, .ref b)]) (K : LKn p l e s m b below meth c Q A0) : W p l e room_1 s m #[Value.ref b] below meth c H locs 1000 5000 Q (F0 m 368 ls []) := by
  rcases inF_cases (xs 1) 0 7 (by decide) (by decide) with h1 | ⟨r, r0, r1, h1⟩
  · exact lc_change_x1 C Wd hl K (xs 1) h1 rfl
  · exact lc_change_v C Wd hl K r (by omega) h1
theorem lc_set {p : Program} {l : Launch} {e : Env} {s : State} {m : MethodId} {below : List Frame} {meth : Method} {c : Code} {b : Nat} {xs : Nat → Int32} {H : Heap} {locs : List Loc} {ls : Array Slot} {Q : State → Prop} {D : va_G} {cA : Nat → ClassId} {Ad : Nat → Nat → Nat} {a : Nat → Nat} {o9 : Nat} {A0 : Nat → Prop} (C : LCtx p l s m c b xs D cA A0) (Wd : LWl D cA Ad a o9 s A0 H locs) (hl : lv_has ls 9 [(4, .int 0), (3, .ref o9), (2, .ref (a 0)), (1, .ref (Ad 10 0)), (0, .ref b)]) (K : LKn p l e s m b below meth c Q A0) : W p l e room_1 s m #[Value.ref b] below meth c H locs 1000 5000 Q (F0 m 424 ls []) := by
  rcases inF_cases (xs 1) 0 1 (by decide) (by decide) with h1 | ⟨t, t0, t1, h1⟩
  · exact lc_set_x1 C Wd hl K (xs 2) (xs 1) h1 rfl rfl
  · rcases (show t = 0 ∨ t = 1 by omega) with rfl | rfl
    · rcases inF_cases (xs 2) 1 8 (by decide) (by decide) with h2 | ⟨v, v0, v1, h2⟩
      · exact lc_set_x2 C Wd hl K (xs 2) h2 h1 rfl
      · exact lc_set_v0 C Wd hl K v v0 v1 h1 h2
    · rcases inF_cases (xs 2) 0 1 (by decide) (by decide) with h2 | ⟨v, v0, v1, h2⟩
      · exact lc_set_x3 C Wd hl K (xs 2) h2 h1 rfl
      · exact lc_set_v1 C Wd hl K v v1 h1 h2
theorem lc_read {p : Program} {l : Launch} {e : Env} {s : State} {m : MethodId} {below : List Frame} {meth : Method} {c : Code} {b : Nat} {xs : Nat → Int32} {H : Heap} {locs : List Loc} {ls : Array Slot} {Q : State → Prop} {D : va_G} {cA : Nat → ClassId} {Ad : Nat → Nat → Nat} {a : Nat → Nat} {o9 : Nat} {A0 : Nat → Prop} (C : LCtx p l s m c b xs D cA A0) (Wd : LWl D cA Ad a o9 s A0 H locs) (hl : lv_has ls 9 [(4, .int 0), (3, .ref o9), (2, .ref (a 0)), (1, .ref (Ad 10 0)), (0, .ref b)]) (K : LKn p l e s m b below meth c Q A0) : W p l e room_1 s m #[Value.ref b] below meth c H locs 1000 5000 Q (F0 m 492 ls []) := by
  rcases inF_cases (xs 1) 0 15 (by decide) (by decide) with h1 | ⟨t, t0, t1, h1⟩
  · exact lc_read_x1 C Wd hl K (xs 1) h1 rfl
  · exact lc_read_v C Wd hl K t (by omega) h1
theorem lc_go {p : Program} {l : Launch} {e : Env} {s : State} {m : MethodId} {below : List Frame} {meth : Method} {c : Code} {b : Nat} {xs : Nat → Int32} {H : Heap} {locs : List Loc} {ls : Array Slot} {Q : State → Prop} {D : va_G} {cA : Nat → ClassId} {Ad : Nat → Nat → Nat} {a : Nat → Nat} {o9 : Nat} {A0 : Nat → Prop} (C : LCtx p l s m c b xs D cA A0) (Wd : LWl D cA Ad a o9 s A0 H locs) (hl : lv_has ls 9 [(4, .int 0), (3, .ref o9), (2, .ref (a 0)), (1, .ref (Ad 10 0)), (0, .ref b)]) (K : LKn p l e s m b below meth c Q A0) : W p l e room_1 s m #[Value.ref b] below meth c H locs 1000 5000 Q (F0 m 561 ls []) := by
  rcases inF_cases (xs 1) 1 99 (by decide) (by decide) with h1 | ⟨n, n0, n1, h1⟩
  · exact lc_go_x1 C Wd hl K (xs 1) h1 rfl
  · exact lc_go_v C Wd hl K n n0 n1 h1
theorem lc_append {p : Program} {l : Launch} {e : Env} {s : State} {m : MethodId} {below : List Frame} {meth : Method} {c : Code} {b : Nat} {xs : Nat → Int32} {H : Heap} {locs : List Loc} {ls : Array Slot} {Q : State → Prop} {D : va_G} {cA : Nat → ClassId} {Ad : Nat → Nat → Nat} {a : Nat → Nat} {o9 : Nat} {A0 : Nat → Prop} (C : LCtx p l s m c b xs D cA A0) (Wd : LWl D cA Ad a o9 s A0 H locs) (hl : lv_has ls 9 [(4, .int 0), (3, .ref o9), (2, .ref (a 0)), (1, .ref (Ad 10 0)), (0, .ref b)]) (K : LKn p l e s m b below meth c Q A0) : W p l e room_1 s m #[Value.ref b] below meth c H locs 1000 5000 Q (F0 m 617 ls []) := by
  rcases inF_cases (xs 1) 33 126 (by decide) (by decide) with h1 | ⟨k, k0, k1, h1⟩
  · exact lc_append_x1 C Wd hl K (xs 1) h1 rfl
  · exact lc_append_v C Wd hl K k k0 k1 h1
theorem lc_load {p : Program} {l : Launch} {e : Env} {s : State} {m : MethodId} {below : List Frame} {meth : Method} {c : Code} {b : Nat} {xs : Nat → Int32} {H : Heap} {locs : List Loc} {ls : Array Slot} {Q : State → Prop} {D : va_G} {cA : Nat → ClassId} {Ad : Nat → Nat → Nat} {a : Nat → Nat} {o9 : Nat} {A0 : Nat → Prop} (C : LCtx p l s m c b xs D cA A0) (Wd : LWl D cA Ad a o9 s A0 H locs) (hl : lv_has ls 9 [(4, .int 0), (3, .ref o9), (2, .ref (a 0)), (1, .ref (Ad 10 0)), (0, .ref b)]) (K : LKn p l e s m b below meth c Q A0) : W p l e room_1 s m #[Value.ref b] below meth c H locs 1000 5000 Q (F0 m 699 ls []) := by
  rcases inF_cases (xs 1) 0 15 (by decide) (by decide) with h1 | ⟨t, t0, t1, h1⟩
  · exact lc_load_x1 C Wd hl K (xs 1) h1 rfl
  · exact lc_load_v C Wd hl K t (by omega) h1
theorem lc_write {p : Program} {l : Launch} {e : Env} {s : State} {m : MethodId} {below : List Frame} {meth : Method} {c : Code} {b : Nat} {xs : Nat → Int32} {H : Heap} {locs : List Loc} {ls : Array Slot} {Q : State → Prop} {D : va_G} {cA : Nat → ClassId} {Ad : Nat → Nat → Nat} {a : Nat → Nat} {o9 : Nat} {A0 : Nat → Prop} (C : LCtx p l s m c b xs D cA A0) (Wd : LWl D cA Ad a o9 s A0 H locs) (hl : lv_has ls 9 [(4, .int 0), (3, .ref o9), (2, .ref (a 0)), (1, .ref (Ad 10 0)), (0, .ref b)]) (K : LKn p l e s m b below meth c Q A0) : W p l e room_1 s m #[Value.ref b] below meth c H locs 1000 5000 Q (F0 m 755 ls []) := by
  rcases inF_cases (xs 1) 0 15 (by decide) (by decide) with h1 | ⟨t, t0, t1, h1⟩
  · exact lc_write_x1 C Wd hl K (xs 2) (xs 1) h1 rfl rfl
  · rcases inF_cases (xs 2) 0 15 (by decide) (by decide) with h2 | ⟨v, v0, v1, h2⟩
    · exact lc_write_x2 C Wd hl K t (by omega) (xs 2) h2 h1 rfl
    · by_cases htv : t ≤ v
      · exact lc_write_v C Wd hl K t (by omega) v (by omega) htv h1 h2
      · exact lc_write_x3 C Wd hl K t (by omega) v (by omega) (by omega) h1 h2
theorem lc_keep {p : Program} {l : Launch} {e : Env} {s : State} {m : MethodId} {below : List Frame} {meth : Method} {c : Code} {b : Nat} {xs : Nat → Int32} {H : Heap} {locs : List Loc} {ls : Array Slot} {Q : State → Prop} {D : va_G} {cA : Nat → ClassId} {Ad : Nat → Nat → Nat} {a : Nat → Nat} {o9 : Nat} {A0 : Nat → Prop} (C : LCtx p l s m c b xs D cA A0) (Wd : LWl D cA Ad a o9 s A0 H locs) (hl : lv_has ls 9 [(4, .int 0), (3, .ref o9), (2, .ref (a 0)), (1, .ref (Ad 10 0)), (0, .ref b)]) (K : LKn p l e s m b below meth c Q A0) : W p l e room_1 s m #[Value.ref b] below meth c H locs 1000 5000 Q (F0 m 823 ls []) := by
  rcases inF_cases (xs 1) 0 1 (by decide) (by decide) with h1 | ⟨t, t0, t1, h1⟩
  · exact lc_keep_x1 C Wd hl K (xs 1) h1 rfl
  · rcases (show t = 0 ∨ t = 1 by omega) with rfl | rfl
    · exact lc_keep_v0 C Wd hl K h1
    · exact lc_keep_v1 C Wd hl K h1
theorem lc_goBack {p : Program} {l : Launch} {e : Env} {s : State} {m : MethodId} {below : List Frame} {meth : Method} {c : Code} {b : Nat} {xs : Nat → Int32} {H : Heap} {locs : List Loc} {ls : Array Slot} {Q : State → Prop} {D : va_G} {cA : Nat → ClassId} {Ad : Nat → Nat → Nat} {a : Nat → Nat} {o9 : Nat} {A0 : Nat → Prop} (C : LCtx p l s m c b xs D cA A0) (Wd : LWl D cA Ad a o9 s A0 H locs) (hl : lv_has ls 9 [(4, .int 0), (3, .ref o9), (2, .ref (a 0)), (1, .ref (Ad 10 0)), (0, .ref b)]) (K : LKn p l e s m b below meth c Q A0) : W p l e room_1 s m #[Value.ref b] below meth c H locs 1000 5000 Q (F0 m 879 ls []) := by
  rcases inF_cases (xs 1) 0 1 (by decide) (by decide) with h1 | ⟨t, t0, t1, h1⟩
  · exact lc_goBack_x1 C Wd hl K (xs 1) h1 rfl
  · rcases (show t = 0 ∨ t = 1 by omega) with rfl | rfl
    · exact lc_goBack_v0 C Wd hl K h1
    · exact lc_goBack_v1 C Wd hl K h1
theorem lc_setting {p : Program} {l : Launch} {e : Env} {s : State} {m : MethodId} {below : List Frame} {meth : Method} {c : Code} {b : Nat} {xs : Nat → Int32} {H : Heap} {locs : List Loc} {ls : Array Slot} {Q : State → Prop} {D : va_G} {cA : Nat → ClassId} {Ad : Nat → Nat → Nat} {a : Nat → Nat} {o9 : Nat} {A0 : Nat → Prop} (C : LCtx p l s m c b xs D cA A0) (Wd : LWl D cA Ad a o9 s A0 H locs) (hl : lv_has ls 9 [(4, .int 0), (3, .ref o9), (2, .ref (a 0)), (1, .ref (Ad 10 0)), (0, .ref b)]) (K : LKn p l e s m b below meth c Q A0) : W p l e room_1 s m #[Value.ref b] below meth c H locs 1000 5000 Q (F0 m 1363 ls []) := by
  rcases inF_cases (xs 1) 0 1 (by decide) (by decide) with h1 | ⟨t, t0, t1, h1⟩
  · exact lc_setting_x1 C Wd hl K (xs 1) h1 rfl
  · rcases (show t = 0 ∨ t = 1 by omega) with rfl | rfl
    · exact lc_setting_v0 C Wd hl K h1
    · exact lc_setting_v1 C Wd hl K h1
theorem lc_threadOf {p : Program} {l : Launch} {e : Env} {s : State} {m : MethodId} {below : List Frame} {meth : Method} {c : Code} {b : Nat} {xs : Nat → Int32} {H : Heap} {locs : List Loc} {ls : Array Slot} {Q : State → Prop} {D : va_G} {cA : Nat → ClassId} {Ad : Nat → Nat → Nat} {a : Nat → Nat} {o9 : Nat} {A0 : Nat → Prop} (C : LCtx p l s m c b xs D cA A0) (Wd : LWl D cA Ad a o9 s A0 H locs) (hl : lv_has ls 9 [(4, .int 0), (3, .ref o9), (2, .ref (a 0)), (1, .ref (Ad 10 0)), (0, .ref b)]) (K : LKn p l e s m b below meth c Q A0) : W p l e room_1 s m #[Value.ref b] below meth c H locs 1000 5000 Q (F0 m 979 ls []) := by
  rcases inF_cases (xs 1) 0 15 (by decide) (by decide) with h1 | ⟨t, t0, t1, h1⟩
  · exact lc_threadOf_x1 C Wd hl K (xs 2) (xs 1) h1 rfl rfl
  · rcases inF_cases (xs 2) 0 7 (by decide) (by decide) with h2 | ⟨w, w0, w1, h2⟩
    · exact lc_threadOf_x2 C Wd hl K t (by omega) (xs 2) h2 h1 rfl
    · exact lc_threadOf_v C Wd hl K t (by omega) w (by omega) h1 h2
theorem lc_ringOf {p : Program} {l : Launch} {e : Env} {s : State} {m : MethodId} {below : List Frame} {meth : Method} {c : Code} {b : Nat} {xs : Nat → Int32} {H : Heap} {locs : List Loc} {ls : Array Slot} {Q : State → Prop} {D : va_G} {cA : Nat → ClassId} {Ad : Nat → Nat → Nat} {a : Nat → Nat} {o9 : Nat} {A0 : Nat → Prop} (C : LCtx p l s m c b xs D cA A0) (Wd : LWl D cA Ad a o9 s A0 H locs) (hl : lv_has ls 9 [(4, .int 0), (3, .ref o9), (2, .ref (a 0)), (1, .ref (Ad 10 0)), (0, .ref b)]) (K : LKn p l e s m b below meth c Q A0) : W p l e room_1 s m #[Value.ref b] below meth c H locs 1000 5000 Q (F0 m 1047 ls []) := by
  rcases inF_cases (xs 1) 0 7 (by decide) (by decide) with h1 | ⟨r, r0, r1, h1⟩
  · exact lc_ringOf_x1 C Wd hl K (xs 2) (xs 1) h1 rfl rfl
  · rcases inF_cases (xs 2) 0 4 (by decide) (by decide) with h2 | ⟨w, w0, w1, h2⟩
    · exact lc_ringOf_x2 C Wd hl K r (by omega) (xs 2) h2 h1 rfl
    · exact lc_ringOf_v C Wd hl K r (by omega) w (by omega) h1 h2
theorem lc_strength {p : Program} {l : Launch} {e : Env} {s : State} {m : MethodId} {below : List Frame} {meth : Method} {c : Code} {b : Nat} {xs : Nat → Int32} {H : Heap} {locs : List Loc} {ls : Array Slot} {Q : State → Prop} {D : va_G} {cA : Nat → ClassId} {Ad : Nat → Nat → Nat} {a : Nat → Nat} {o9 : Nat} {A0 : Nat → Prop} (C : LCtx p l s m c b xs D cA A0) (Wd : LWl D cA Ad a o9 s A0 H locs) (hl : lv_has ls 9 [(4, .int 0), (3, .ref o9), (2, .ref (a 0)), (1, .ref (Ad 10 0)), (0, .ref b)]) (K : LKn p l e s m b below meth c Q A0) : W p l e room_1 s m #[Value.ref b] below meth c H locs 1000 5000 Q (F0 m 1115 ls []) := by
  rcases inF_cases (xs 1) 0 15 (by decide) (by decide) with h1 | ⟨t, t0, t1, h1⟩
  · exact lc_strength_x1 C Wd hl K (xs 2) (xs 3) (xs 1) h1 rfl rfl rfl
  · rcases inF_cases (xs 2) 0 7 (by decide) (by decide) with h2 | ⟨r, r0, r1, h2⟩
    · exact lc_strength_x2 C Wd hl K t (by omega) (xs 3) (xs 2) h2 h1 rfl rfl
    · rcases inF_cases (xs 3) 0 1 (by decide) (by decide) with h3 | ⟨w, w0, w1, h3⟩
      · exact lc_strength_x3 C Wd hl K t (by omega) r (by omega) (xs 3) h3 h1 h2 rfl
      · rcases (show w = 0 ∨ w = 1 by omega) with rfl | rfl
        · exact lc_strength_v0 C Wd hl K t (by omega) r (by omega) h1 h2 h3
        · exact lc_strength_v1 C Wd hl K t (by omega) r (by omega) h1 h2 h3
theorem lc_machine {p : Program} {l : Launch} {e : Env} {s : State} {m : MethodId} {below : List Frame} {meth : Method} {c : Code} {b : Nat} {xs : Nat → Int32} {H : Heap} {locs : List Loc} {ls : Array Slot} {Q : State → Prop} {D : va_G} {cA : Nat → ClassId} {Ad : Nat → Nat → Nat} {a : Nat → Nat} {o9 : Nat} {A0 : Nat → Prop} (C : LCtx p l s m c b xs D cA A0) (Wd : LWl D cA Ad a o9 s A0 H locs) (hl : lv_has ls 9 [(4, .int 0), (3, .ref o9), (2, .ref (a 0)), (1, .ref (Ad 10 0)), (0, .ref b)]) (K : LKn p l e s m b below meth c Q A0) : W p l e room_1 s m #[Value.ref b] below meth c H locs 1000 5000 Q (F0 m 1195 ls []) := by
  rcases inF_cases (xs 1) 0 8 (by decide) (by decide) with h1 | ⟨w, w0, w1, h1⟩
  · exact lc_machine_x1 C Wd hl K (xs 1) h1 rfl
  · exact lc_machine_v C Wd hl K w (by omega) h1
theorem lc_told {p : Program} {l : Launch} {e : Env} {s : State} {m : MethodId} {below : List Frame} {meth : Method} {c : Code} {b : Nat} {xs : Nat → Int32} {H : Heap} {locs : List Loc} {ls : Array Slot} {Q : State → Prop} {D : va_G} {cA : Nat → ClassId} {Ad : Nat → Nat → Nat} {a : Nat → Nat} {o9 : Nat} {A0 : Nat → Prop} (C : LCtx p l s m c b xs D cA A0) (Wd : LWl D cA Ad a o9 s A0 H locs) (hl : lv_has ls 9 [(4, .int 0), (3, .ref o9), (2, .ref (a 0)), (1, .ref (Ad 10 0)), (0, .ref b)]) (K : LKn p l e s m b below meth c Q A0) : W p l e room_1 s m #[Value.ref b] below meth c H locs 1000 5000 Q (F0 m 1251 ls []) := by
  rcases inF_cases (xs 1) 0 7 (by decide) (by decide) with h1 | ⟨w, w0, w1, h1⟩
  · exact lc_told_x1 C Wd hl K (xs 1) h1 rfl
  · exact lc_told_v C Wd hl K w (by omega) h1
theorem lc_count {p : Program} {l : Launch} {e : Env} {s : State} {m : MethodId} {below : List Frame} {meth : Method} {c : Code} {b : Nat} {xs : Nat → Int32} {H : Heap} {locs : List Loc} {ls : Array Slot} {Q : State → Prop} {D : va_G} {cA : Nat → ClassId} {Ad : Nat → Nat → Nat} {a : Nat → Nat} {o9 : Nat} {A0 : Nat → Prop} (C : LCtx p l s m c b xs D cA A0) (Wd : LWl D cA Ad a o9 s A0 H locs) (hl : lv_has ls 9 [(4, .int 0), (3, .ref o9), (2, .ref (a 0)), (1, .ref (Ad 10 0)), (0, .ref b)]) (K : LKn p l e s m b below meth c Q A0) : W p l e room_1 s m #[Value.ref b] below meth c H locs 1000 5000 Q (F0 m 1307 ls []) := by
  rcases inF_cases (xs 1) 0 9 (by decide) (by decide) with h1 | ⟨w, w0, w1, h1⟩
  · exact lc_count_x1 C Wd hl K (xs 1) h1 rfl
  · exact lc_count_v C Wd hl K w (by omega) h1
theorem lc_ifLoaded {p : Program} {l : Launch} {e : Env} {s : State} {m : MethodId} {below : List Frame} {meth : Method} {c : Code} {b : Nat} {xs : Nat → Int32} {H : Heap} {locs : List Loc} {ls : Array Slot} {Q : State → Prop} {D : va_G} {cA : Nat → ClassId} {Ad : Nat → Nat → Nat} {a : Nat → Nat} {o9 : Nat} {A0 : Nat → Prop} (C : LCtx p l s m c b xs D cA A0) (Wd : LWl D cA Ad a o9 s A0 H locs) (hl : lv_has ls 9 [(4, .int 0), (3, .ref o9), (2, .ref (a 0)), (1, .ref (Ad 10 0)), (0, .ref b)]) (K : LKn p l e s m b below meth c Q A0) : W p l e room_1 s m #[Value.ref b] below meth c H locs 1000 5000 Q (F0 m 1419 ls []) := by
  rcases inF_cases (xs 1) 0 15 (by decide) (by decide) with h1 | ⟨t, t0, t1, h1⟩
  · exact lc_ifLoaded_x1 C Wd hl K (xs 1) h1 rfl
  · exact lc_ifLoaded_v C Wd hl K t (by omega) h1
theorem lc_lastsFor {p : Program} {l : Launch} {e : Env} {s : State} {m : MethodId} {below : List Frame} {meth : Method} {c : Code} {b : Nat} {xs : Nat → Int32} {H : Heap} {locs : List Loc} {ls : Array Slot} {Q : State → Prop} {D : va_G} {cA : Nat → ClassId} {Ad : Nat → Nat → Nat} {a : Nat → Nat} {o9 : Nat} {A0 : Nat → Prop} (C : LCtx p l s m c b xs D cA A0) (Wd : LWl D cA Ad a o9 s A0 H locs) (hl : lv_has ls 9 [(4, .int 0), (3, .ref o9), (2, .ref (a 0)), (1, .ref (Ad 10 0)), (0, .ref b)]) (K : LKn p l e s m b below meth c Q A0) : W p l e room_1 s m #[Value.ref b] below meth c H locs 1000 5000 Q (F0 m 1501 ls []) := by
  rcases inF_cases (xs 1) 0 15 (by decide) (by decide) with h1 | ⟨t, t0, t1, h1⟩
  · exact lc_lastsFor_x1 C Wd hl K (xs 1) h1 rfl
  · exact lc_lastsFor_v C Wd hl K t (by omega) h1
theorem lc_ifGone {p : Program} {l : Launch} {e : Env} {s : State} {m : MethodId} {below : List Frame} {meth : Method} {c : Code} {b : Nat} {xs : Nat → Int32} {H : Heap} {locs : List Loc} {ls : Array Slot} {Q : State → Prop} {D : va_G} {cA : Nat → ClassId} {Ad : Nat → Nat → Nat} {a : Nat → Nat} {o9 : Nat} {A0 : Nat → Prop} (C : LCtx p l s m c b xs D cA A0) (Wd : LWl D cA Ad a o9 s A0 H locs) (hl : lv_has ls 9 [(4, .int 0), (3, .ref o9), (2, .ref (a 0)), (1, .ref (Ad 10 0)), (0, .ref b)]) (K : LKn p l e s m b below meth c Q A0) : W p l e room_1 s m #[Value.ref b] below meth c H locs 1000 5000 Q (F0 m 1557 ls []) := by
  rcases inF_cases (xs 1) 1 99 (by decide) (by decide) with h1 | ⟨n, n0, n1, h1⟩
  · exact lc_ifGone_x1 C Wd hl K (xs 2) (xs 1) h1 rfl rfl
  · rcases inF_cases (xs 2) 0 3 (by decide) (by decide) with h2 | ⟨w, w0, w1, h2⟩
    · exact lc_ifGone_x2 C Wd hl K n n0 n1 (xs 2) h2 h1 rfl
    · rcases (show w = 0 ∨ w = 1 ∨ w = 2 ∨ w = 3 by omega) with rfl | rfl | rfl | rfl
      · exact lc_ifGone_v0 C Wd hl K n n0 n1 h1 h2
      · exact lc_ifGone_v1 C Wd hl K n n0 n1 h1 h2
      · exact lc_ifGone_v2 C Wd hl K n n0 n1 h1 h2
      · exact lc_ifGone_v3 C Wd hl K n n0 n1 h1 h2
set_option maxHeartbeats 4000000 in
set_option maxRecDepth 100000 in
theorem law_body {p : Program} {l : Launch} {e : Env} {s : State} {m : MethodId} {below : List Frame} {meth : Method} {c : Code} {b : Nat} {xs : Nat → Int32} {H : Heap} {locs : List Loc} {ls : Array Slot} {Q : State → Prop} {D : va_G} {cA : Nat → ClassId} {Ad : Nat → Nat → Nat} {a : Nat → Nat} {o9 : Nat} {A0 : Nat → Prop} (C : LCtx p l s m c b xs D cA A0) (Wd : LWl D cA Ad a o9 s A0 H locs) (hl : lv_has ls 9 [(4, .int 0), (3, .ref o9), (2, .ref (a 0)), (1, .ref (Ad 10 0)), (0, .ref b)]) (K : LKn p l e s m b below meth c Q A0) : W p l e room_1 s m #[Value.ref b] below meth c H locs 1000 5000 Q (F0 m 32 ls []) := by
  obtain ⟨hx, hb, hml, hown, hts, hKN, hKY, hXZ, hX, hbl, hl0, hA, hbA⟩ := id C
  obtain ⟨hP, hD, hS⟩ := id Wd
  refine lv_aload_n hx hb dL_law_32 rfl (lv_at hl 4 rfl) ?_
  refine lv_iload hx hb dL_law_33 (lv_at hl 0 rfl) ?_
  refine va_sld hx hb hX hbl hbA hS vi_0 dL_law_35 ?_
  refine lz_top (v := xs 0) (by rw [cl_0]) ?_
  refine lv_bipush (v := 31) hx hb dL_law_36 (by decide) ?_
  refine lv_iand hx hb dL_law_38 ?_
  obtain ⟨n, hn, e9⟩ := and31 (xs 0)
  refine lz_top (v := nI n) e9 ?_
  have hn : n = 0 ∨ n = 1 ∨ n = 2 ∨ n = 3 ∨ n = 4 ∨ n = 5 ∨ n = 6 ∨ n = 7 ∨ n = 8 ∨ n = 9 ∨ n = 10 ∨ n = 11 ∨ n = 12 ∨ n = 13 ∨ n = 14 ∨ n = 15 ∨ n = 16 ∨ n = 17 ∨ n = 18 ∨ n = 19 ∨ n = 20 ∨ n = 21 ∨ n = 22 ∨ n = 23 ∨ n = 24 ∨ n = 25 ∨ n = 26 ∨ n = 27 ∨ n = 28 ∨ n = 29 ∨ n = 30 ∨ n = 31 := by omega
  rcases hn with rfl | rfl | rfl | rfl | rfl | rfl | rfl | rfl | rfl | rfl | rfl | rfl | rfl | rfl | rfl | rfl | rfl | rfl | rfl | rfl | rfl | rfl | rfl | rfl | rfl | rfl | rfl | rfl | rfl | rfl | rfl | rfl
  · refine lz_top (v := 0) rfl ?_
    refine lv_tableIn (tgt := 176) (off := 137) hx hb dL_law_39 (by decide) (by decide) rfl (by decide) ?_
    exact lc_cross C Wd hl K
  · refine lz_top (v := 1) rfl ?_
    refine lv_tableIn (tgt := 244) (off := 205) hx hb dL_law_39 (by decide) (by decide) rfl (by decide) ?_
    exact lc_lay C Wd hl K
  · refine lz_top (v := 2) rfl ?_
    refine lv_tableIn (tgt := 312) (off := 273) hx hb dL_law_39 (by decide) (by decide) rfl (by decide) ?_
    exact lc_guard C Wd hl K
  · refine lz_top (v := 3) rfl ?_
    refine lv_tableIn (tgt := 368) (off := 329) hx hb dL_law_39 (by decide) (by decide) rfl (by decide) ?_
    exact lc_change C Wd hl K
  · refine lz_top (v := 4) rfl ?_
    refine lv_tableIn (tgt := 424) (off := 385) hx hb dL_law_39 (by decide) (by decide) rfl (by decide) ?_
    exact lc_set C Wd hl K
  · refine lz_top (v := 5) rfl ?_
    refine lv_tableIn (tgt := 492) (off := 453) hx hb dL_law_39 (by decide) (by decide) rfl (by decide) ?_
    exact lc_read C Wd hl K
  · refine lz_top (v := 6) rfl ?_
    refine lv_tableIn (tgt := 548) (off := 509) hx hb dL_law_39 (by decide) (by decide) rfl (by decide) ?_
    exact lc_start_v C Wd hl K
  · refine lz_top (v := 7) rfl ?_
    refine lv_tableIn (tgt := 561) (off := 522) hx hb dL_law_39 (by decide) (by decide) rfl (by decide) ?_
    exact lc_go C Wd hl K
  · refine lz_top (v := 8) rfl ?_
    refine lv_tableIn (tgt := 617) (off := 578) hx hb dL_law_39 (by decide) (by decide) rfl (by decide) ?_
    exact lc_append C Wd hl K
  · refine lz_top (v := 9) rfl ?_
    refine lv_tableIn (tgt := 673) (off := 634) hx hb dL_law_39 (by decide) (by decide) rfl (by decide) ?_
    exact lc_clearBuffer_v C Wd hl K
  · refine lz_top (v := 10) rfl ?_
    refine lv_tableIn (tgt := 686) (off := 647) hx hb dL_law_39 (by decide) (by decide) rfl (by decide) ?_
    exact lc_firstError_v C Wd hl K
  · refine lz_top (v := 11) rfl ?_
    refine lv_tableIn (tgt := 699) (off := 660) hx hb dL_law_39 (by decide) (by decide) rfl (by decide) ?_
    exact lc_load C Wd hl K
  · refine lz_top (v := 12) rfl ?_
    refine lv_tableIn (tgt := 755) (off := 716) hx hb dL_law_39 (by decide) (by decide) rfl (by decide) ?_
    exact lc_write C Wd hl K
  · refine lz_top (v := 13) rfl ?_
    refine lv_tableIn (tgt := 823) (off := 784) hx hb dL_law_39 (by decide) (by decide) rfl (by decide) ?_
    exact lc_keep C Wd hl K
  · refine lz_top (v := 14) rfl ?_
    refine lv_tableIn (tgt := 879) (off := 840) hx hb dL_law_39 (by decide) (by decide) rfl (by decide) ?_
    exact lc_goBack C Wd hl K
  · refine lz_top (v := 15) rfl ?_
    refine lv_tableIn (tgt := 935) (off := 896) hx hb dL_law_39 (by decide) (by decide) rfl (by decide) ?_
    exact lc_undo_v C Wd hl K
  · refine lz_top (v := 16) rfl ?_
    refine lv_tableIn (tgt := 979) (off := 940) hx hb dL_law_39 (by decide) (by decide) rfl (by decide) ?_
    exact lc_threadOf C Wd hl K
  · refine lz_top (v := 17) rfl ?_
    refine lv_tableIn (tgt := 1047) (off := 1008) hx hb dL_law_39 (by decide) (by decide) rfl (by decide) ?_
    exact lc_ringOf C Wd hl K
  · refine lz_top (v := 18) rfl ?_
    refine lv_tableIn (tgt := 1115) (off := 1076) hx hb dL_law_39 (by decide) (by decide) rfl (by decide) ?_
    exact lc_strength C Wd hl K
  · refine lz_top (v := 19) rfl ?_
    refine lv_tableIn (tgt := 1195) (off := 1156) hx hb dL_law_39 (by decide) (by decide) rfl (by decide) ?_
    exact lc_machine C Wd hl K
  · refine lz_top (v := 20) rfl ?_
    refine lv_tableIn (tgt := 1251) (off := 1212) hx hb dL_law_39 (by decide) (by decide) rfl (by decide) ?_
    exact lc_told C Wd hl K
  · refine lz_top (v := 21) rfl ?_
    refine lv_tableIn (tgt := 1307) (off := 1268) hx hb dL_law_39 (by decide) (by decide) rfl (by decide) ?_
    exact lc_count C Wd hl K
  · refine lz_top (v := 22) rfl ?_
    refine lv_tableIn (tgt := 1363) (off := 1324) hx hb dL_law_39 (by decide) (by decide) rfl (by decide) ?_
    exact lc_setting C Wd hl K
  · refine lz_top (v := 23) rfl ?_
    refine lv_tableIn (tgt := 1419) (off := 1380) hx hb dL_law_39 (by decide) (by decide) rfl (by decide) ?_
    exact lc_ifLoaded C Wd hl K
  · refine lz_top (v := 24) rfl ?_
    refine lv_tableIn (tgt := 1475) (off := 1436) hx hb dL_law_39 (by decide) (by decide) rfl (by decide) ?_
    exact lc_bestPlace_v C Wd hl K
  · refine lz_top (v := 25) rfl ?_
    refine lv_tableIn (tgt := 1488) (off := 1449) hx hb dL_law_39 (by decide) (by decide) rfl (by decide) ?_
    exact lc_bestGuard_v C Wd hl K
  · refine lz_top (v := 26) rfl ?_
    refine lv_tableIn (tgt := 1501) (off := 1462) hx hb dL_law_39 (by decide) (by decide) rfl (by decide) ?_
    exact lc_lastsFor C Wd hl K
  · refine lz_top (v := 27) rfl ?_
    refine lv_tableIn (tgt := 1557) (off := 1518) hx hb dL_law_39 (by decide) (by decide) rfl (by decide) ?_
    exact lc_ifGone C Wd hl K
  · refine lz_top (v := 28) rfl ?_
    refine lv_tableIn (tgt := 1625) (off := 1586) hx hb dL_law_39 (by decide) (by decide) rfl (by decide) ?_
    exact lc_rightShare_v C Wd hl K
  · refine lz_top (v := 29) rfl ?_
    refine lv_tableIn (tgt := 1666) (off := 1627) hx hb dL_law_39 (by decide) (by decide) rfl (by decide) ?_
    exact lc_meanWear_v C Wd hl K
  · refine lz_top (v := 30) rfl ?_
    refine lv_tableIn (tgt := 1709) (off := 1670) hx hb dL_law_39 (by decide) (by decide) rfl (by decide) ?_
    exact lc_digest_v C Wd hl K
  · refine lz_top (v := 31) rfl ?_
    refine lv_tableOut (tgt := 1723) hx hb dL_law_39 (by decide) (by decide) ?_
    exact W.widen (k := 2000) (n := 9000) (by decide) (by decide) (K H locs ls hS (lv_sub hl [0, 4] rfl))
