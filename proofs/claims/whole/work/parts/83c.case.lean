set_option maxRecDepth 100000 in
set_option maxHeartbeats 8000000 in
theorem L_hand {p : Program} {l : Launch} {e : Env} {s : State} {m : MethodId} {below : List Frame} {meth : Method} {c : Code} {b L : Nat} {xs : Nat → Int32} {G : Gt} {ad ay : Nat → Nat} {bd i : Nat} {w v : va_W} {H : Heap} {locs : List Loc} {ls : Array Slot} {Q : State → Prop} (X : LC p s m meth c b L xs G) (hi : i + 5 ≤ L) (h : ST G ad ay bd w v) (hbd : bd < 2 ^ 29) (hP : va_P G.1 vwCl w H) (hP2 : va_P G.1 vwCl v H) (hDD : DD s ad ay) (hS : va_S (fun q : Nat => s.heap.size ≤ q) s.heap H locs) (hl : lv_has ls 4 [(0, .ref b), (1, .ref (ad 0)), (2, .ref (ay 0)), (3, .int (nI i))]) (kk : LKK p l e s m below meth c b G ad ay bd ls Q) : W p l e room_1 s m #[Value.ref b] below meth c H locs 42 875 Q (F0 m 374 ls []) := by
  obtain ⟨hx, hb, hml, hown, hts, hX, hbl, hK, hL⟩ := X
  have hA : ∀ q : Nat, s.heap.size ≤ q → (fun q : Nat => s.heap.size ≤ q) q := fun _ h => h
  have hbA : ¬ (fun q : Nat => s.heap.size ≤ q) b := Nat.not_le.mpr hbl
  have S0 : CallFix p m c cL_law 4 s #[Value.ref b] wsL_law RL := ⟨hx, hb, hml, hown, hts⟩
  have vi1 : vp_in (nI i + 1) L := by rw [show nI i + 1 = nI (i + 1) from nI_add i 1]; exact vp_in_nI (by omega) (by omega)
  have vi2 : vp_in (nI i + 2) L := by rw [show nI i + 2 = nI (i + 2) from nI_add i 2]; exact vp_in_nI (by omega) (by omega)
  have vi3 : vp_in (nI i + 3) L := by rw [show nI i + 3 = nI (i + 3) from nI_add i 3]; exact vp_in_nI (by omega) (by omega)
  have vi4 : vp_in (nI i + 4) L := by rw [show nI i + 4 = nI (i + 4) from nI_add i 4]; exact vp_in_nI (by omega) (by omega)
  have cw_X5 := show CallW room_1 s #[Value.ref b] RL RX5 56 yX5_hand cX5_hand 3 (some .int) wsX5_hand (rmv 3 62) 0 0 1 from cwV 1 hts gL_law_X5_hand rfl rfl rfl (by decide +kernel) ⟨Nat.le_of_ble_eq_true rfl, Nat.le_of_ble_eq_true rfl⟩
  have cw_X6 := show CallW room_1 s #[Value.ref b] RL RX6 59 yX6_hand cX6_hand 3 (some .int) wsX6_hand (rmv 2 45) 0 0 1 from cwV 1 hts gL_law_X6_hand rfl rfl rfl (by decide +kernel) ⟨Nat.le_of_ble_eq_true rfl, Nat.le_of_ble_eq_true rfl⟩
  refine lv_aload_n hx hb dL_law_374 rfl (lv_at hl 1 rfl) ?_
  refine lv_aload_n hx hb dL_law_375 rfl (lv_at hl 0 rfl) ?_
  refine lv_iload_n hx hb dL_law_376 rfl (lv_at hl 3 rfl) ?_
  refine lv_iconst (v := 1) hx hb dL_law_377 (by decide) ?_
  refine lv_iadd hx hb dL_law_378 ?_
  refine va_sld hx hb hX hbl hbA hS vi1 dL_law_379 ?_
  obtain ⟨r, w2, v2, k5, k6, h2⟩ := c_hand (l := l) h hbd (xs (nI i + 1).toNatClampNeg)
  refine cLi (As := [.int (xs (nI i + 1).toNatClampNeg)]) (rest := []) S0 hK hA hP hP2 (hDD w v h.x.2.2.1 h.x.2.2.2).1 hS k5 cw_X5 5 rfl rfl h.x.1 rfl hl.1 rfl (Nat.le_of_ble_eq_true rfl) dL_law_380 ⟨Nat.le_of_ble_eq_true rfl, Nat.le_of_ble_eq_true rfl⟩ (fun H locs hP hP2 hS => ?_)
  refine lv_aload_n hx hb dL_law_383 rfl (lv_at hl 2 rfl) ?_
  refine lv_aload_n hx hb dL_law_384 rfl (lv_at hl 0 rfl) ?_
  refine lv_iload_n hx hb dL_law_385 rfl (lv_at hl 3 rfl) ?_
  refine lv_iconst (v := 1) hx hb dL_law_386 (by decide) ?_
  refine lv_iadd hx hb dL_law_387 ?_
  refine va_sld hx hb hX hbl hbA hS vi1 dL_law_388 ?_
  refine cLi (As := [.int (xs (nI i + 1).toNatClampNeg)]) (rest := [.int r]) S0 hK hA hP2 hP (hDD w2 v h2.x.2.2.1 h.x.2.2.2).2 hS k6 cw_X6 6 rfl rfl h.x.2.1 rfl hl.1 rfl (Nat.le_of_ble_eq_true rfl) dL_law_389 ⟨Nat.le_of_ble_eq_true rfl, Nat.le_of_ble_eq_true rfl⟩ (fun H locs hP2 hP hS => ?_)
  exact lv_icmp_eq (tgt := 1004) hx hb dL_law_392 (by decide) (fun _ => kk w2 v2 H locs h2 hP hP2 hS) (fun q => absurd rfl q)
set_option maxRecDepth 100000 in
set_option maxHeartbeats 8000000 in
theorem L_undo {p : Program} {l : Launch} {e : Env} {s : State} {m : MethodId} {below : List Frame} {meth : Method} {c : Code} {b L : Nat} {xs : Nat → Int32} {G : Gt} {ad ay : Nat → Nat} {bd i : Nat} {w v : va_W} {H : Heap} {locs : List Loc} {ls : Array Slot} {Q : State → Prop} (X : LC p s m meth c b L xs G) (hi : i + 5 ≤ L) (h : ST G ad ay bd w v) (hbd : bd < 2 ^ 29) (hP : va_P G.1 vwCl w H) (hP2 : va_P G.1 vwCl v H) (hDD : DD s ad ay) (hS : va_S (fun q : Nat => s.heap.size ≤ q) s.heap H locs) (hl : lv_has ls 4 [(0, .ref b), (1, .ref (ad 0)), (2, .ref (ay 0)), (3, .int (nI i))]) (kk : LKK p l e s m below meth c b G ad ay bd ls Q) : W p l e room_1 s m #[Value.ref b] below meth c H locs 42 875 Q (F0 m 397 ls []) := by
  obtain ⟨hx, hb, hml, hown, hts, hX, hbl, hK, hL⟩ := X
  have hA : ∀ q : Nat, s.heap.size ≤ q → (fun q : Nat => s.heap.size ≤ q) q := fun _ h => h
  have hbA : ¬ (fun q : Nat => s.heap.size ≤ q) b := Nat.not_le.mpr hbl
  have S0 : CallFix p m c cL_law 4 s #[Value.ref b] wsL_law RL := ⟨hx, hb, hml, hown, hts⟩
  have vi1 : vp_in (nI i + 1) L := by rw [show nI i + 1 = nI (i + 1) from nI_add i 1]; exact vp_in_nI (by omega) (by omega)
  have vi2 : vp_in (nI i + 2) L := by rw [show nI i + 2 = nI (i + 2) from nI_add i 2]; exact vp_in_nI (by omega) (by omega)
  have vi3 : vp_in (nI i + 3) L := by rw [show nI i + 3 = nI (i + 3) from nI_add i 3]; exact vp_in_nI (by omega) (by omega)
  have vi4 : vp_in (nI i + 4) L := by rw [show nI i + 4 = nI (i + 4) from nI_add i 4]; exact vp_in_nI (by omega) (by omega)
  have cw_X5 := show CallW room_1 s #[Value.ref b] RL RX5 60 yX5_undo cX5_undo 1 (some .int) wsX5_undo (rmv 3 62) 0 0 0 from cwV 0 hts gL_law_X5_undo rfl rfl rfl (by decide +kernel) ⟨Nat.le_of_ble_eq_true rfl, Nat.le_of_ble_eq_true rfl⟩
  have cw_X6 := show CallW room_1 s #[Value.ref b] RL RX6 63 yX6_undo cX6_undo 2 (some .int) wsX6_undo (rmv 0 0) 0 0 0 from cwV 0 hts gL_law_X6_undo rfl rfl rfl (by decide +kernel) ⟨Nat.le_of_ble_eq_true rfl, Nat.le_of_ble_eq_true rfl⟩
  refine lv_aload_n hx hb dL_law_397 rfl (lv_at hl 1 rfl) ?_
  obtain ⟨r, w2, v2, k5, k6, h2⟩ := c_undo (l := l) h hbd
  refine cLi (As := []) (rest := []) S0 hK hA hP hP2 (hDD w v h.x.2.2.1 h.x.2.2.2).1 hS k5 cw_X5 5 rfl rfl h.x.1 rfl hl.1 rfl (Nat.le_of_ble_eq_true rfl) dL_law_398 ⟨Nat.le_of_ble_eq_true rfl, Nat.le_of_ble_eq_true rfl⟩ (fun H locs hP hP2 hS => ?_)
  refine lv_aload_n hx hb dL_law_401 rfl (lv_at hl 2 rfl) ?_
  refine cLi (As := []) (rest := [.int r]) S0 hK hA hP2 hP (hDD w2 v h2.x.2.2.1 h.x.2.2.2).2 hS k6 cw_X6 6 rfl rfl h.x.2.1 rfl hl.1 rfl (Nat.le_of_ble_eq_true rfl) dL_law_402 ⟨Nat.le_of_ble_eq_true rfl, Nat.le_of_ble_eq_true rfl⟩ (fun H locs hP2 hP hS => ?_)
  exact lv_icmp_eq (tgt := 1004) hx hb dL_law_405 (by decide) (fun _ => kk w2 v2 H locs h2 hP hP2 hS) (fun q => absurd rfl q)
set_option maxRecDepth 100000 in
set_option maxHeartbeats 8000000 in
theorem L_dust {p : Program} {l : Launch} {e : Env} {s : State} {m : MethodId} {below : List Frame} {meth : Method} {c : Code} {b L : Nat} {xs : Nat → Int32} {G : Gt} {ad ay : Nat → Nat} {bd i : Nat} {w v : va_W} {H : Heap} {locs : List Loc} {ls : Array Slot} {Q : State → Prop} (X : LC p s m meth c b L xs G) (hi : i + 5 ≤ L) (h : ST G ad ay bd w v) (hbd : bd < 2 ^ 29) (hP : va_P G.1 vwCl w H) (hP2 : va_P G.1 vwCl v H) (hDD : DD s ad ay) (hS : va_S (fun q : Nat => s.heap.size ≤ q) s.heap H locs) (hl : lv_has ls 4 [(0, .ref b), (1, .ref (ad 0)), (2, .ref (ay 0)), (3, .int (nI i))]) (kk : LKK p l e s m below meth c b G ad ay bd ls Q) : W p l e room_1 s m #[Value.ref b] below meth c H locs 42 875 Q (F0 m 410 ls []) := by
  obtain ⟨hx, hb, hml, hown, hts, hX, hbl, hK, hL⟩ := X
  have hA : ∀ q : Nat, s.heap.size ≤ q → (fun q : Nat => s.heap.size ≤ q) q := fun _ h => h
  have hbA : ¬ (fun q : Nat => s.heap.size ≤ q) b := Nat.not_le.mpr hbl
  have S0 : CallFix p m c cL_law 4 s #[Value.ref b] wsL_law RL := ⟨hx, hb, hml, hown, hts⟩
  have vi1 : vp_in (nI i + 1) L := by rw [show nI i + 1 = nI (i + 1) from nI_add i 1]; exact vp_in_nI (by omega) (by omega)
  have vi2 : vp_in (nI i + 2) L := by rw [show nI i + 2 = nI (i + 2) from nI_add i 2]; exact vp_in_nI (by omega) (by omega)
  have vi3 : vp_in (nI i + 3) L := by rw [show nI i + 3 = nI (i + 3) from nI_add i 3]; exact vp_in_nI (by omega) (by omega)
  have vi4 : vp_in (nI i + 4) L := by rw [show nI i + 4 = nI (i + 4) from nI_add i 4]; exact vp_in_nI (by omega) (by omega)
  have cw_X5 := show CallW room_1 s #[Value.ref b] RL RX5 64 yX5_dust cX5_dust 3 (some .int) wsX5_dust (rmv 5 114) 0 0 2 from cwV 2 hts gL_law_X5_dust rfl rfl rfl (by decide +kernel) ⟨Nat.le_of_ble_eq_true rfl, Nat.le_of_ble_eq_true rfl⟩
  have cw_X6 := show CallW room_1 s #[Value.ref b] RL RX6 67 yX6_dust cX6_dust 3 (some .int) wsX6_dust (rmv 5 116) 0 0 2 from cwV 2 hts gL_law_X6_dust rfl rfl rfl (by decide +kernel) ⟨Nat.le_of_ble_eq_true rfl, Nat.le_of_ble_eq_true rfl⟩
  refine lv_aload_n hx hb dL_law_410 rfl (lv_at hl 1 rfl) ?_
  refine lv_aload_n hx hb dL_law_411 rfl (lv_at hl 0 rfl) ?_
  refine lv_iload_n hx hb dL_law_412 rfl (lv_at hl 3 rfl) ?_
  refine lv_iconst (v := 1) hx hb dL_law_413 (by decide) ?_
  refine lv_iadd hx hb dL_law_414 ?_
  refine va_sld hx hb hX hbl hbA hS vi1 dL_law_415 ?_
  refine lv_aload_n hx hb dL_law_416 rfl (lv_at hl 0 rfl) ?_
  refine lv_iload_n hx hb dL_law_417 rfl (lv_at hl 3 rfl) ?_
  refine lv_iconst (v := 2) hx hb dL_law_418 (by decide) ?_
  refine lv_iadd hx hb dL_law_419 ?_
  refine va_sld hx hb hX hbl hbA hS vi2 dL_law_420 ?_
  obtain ⟨r, w2, v2, k5, k6, h2⟩ := c_dust (l := l) h hbd (xs (nI i + 1).toNatClampNeg) (xs (nI i + 2).toNatClampNeg)
  refine cLi (As := [.int (xs (nI i + 1).toNatClampNeg), .int (xs (nI i + 2).toNatClampNeg)]) (rest := []) S0 hK hA hP hP2 (hDD w v h.x.2.2.1 h.x.2.2.2).1 hS k5 cw_X5 5 rfl rfl h.x.1 rfl hl.1 rfl (Nat.le_of_ble_eq_true rfl) dL_law_421 ⟨Nat.le_of_ble_eq_true rfl, Nat.le_of_ble_eq_true rfl⟩ (fun H locs hP hP2 hS => ?_)
  refine lv_aload_n hx hb dL_law_424 rfl (lv_at hl 2 rfl) ?_
  refine lv_aload_n hx hb dL_law_425 rfl (lv_at hl 0 rfl) ?_
  refine lv_iload_n hx hb dL_law_426 rfl (lv_at hl 3 rfl) ?_
  refine lv_iconst (v := 1) hx hb dL_law_427 (by decide) ?_
  refine lv_iadd hx hb dL_law_428 ?_
  refine va_sld hx hb hX hbl hbA hS vi1 dL_law_429 ?_
  refine lv_aload_n hx hb dL_law_430 rfl (lv_at hl 0 rfl) ?_
  refine lv_iload_n hx hb dL_law_431 rfl (lv_at hl 3 rfl) ?_
  refine lv_iconst (v := 2) hx hb dL_law_432 (by decide) ?_
  refine lv_iadd hx hb dL_law_433 ?_
  refine va_sld hx hb hX hbl hbA hS vi2 dL_law_434 ?_
  refine cLi (As := [.int (xs (nI i + 1).toNatClampNeg), .int (xs (nI i + 2).toNatClampNeg)]) (rest := [.int r]) S0 hK hA hP2 hP (hDD w2 v h2.x.2.2.1 h.x.2.2.2).2 hS k6 cw_X6 6 rfl rfl h.x.2.1 rfl hl.1 rfl (Nat.le_of_ble_eq_true rfl) dL_law_435 ⟨Nat.le_of_ble_eq_true rfl, Nat.le_of_ble_eq_true rfl⟩ (fun H locs hP2 hP hS => ?_)
  exact lv_icmp_eq (tgt := 1004) hx hb dL_law_438 (by decide) (fun _ => kk w2 v2 H locs h2 hP hP2 hS) (fun q => absurd rfl q)
set_option maxRecDepth 100000 in
set_option maxHeartbeats 8000000 in
theorem L_knees {p : Program} {l : Launch} {e : Env} {s : State} {m : MethodId} {below : List Frame} {meth : Method} {c : Code} {b L : Nat} {xs : Nat → Int32} {G : Gt} {ad ay : Nat → Nat} {bd i : Nat} {w v : va_W} {H : Heap} {locs : List Loc} {ls : Array Slot} {Q : State → Prop} (X : LC p s m meth c b L xs G) (hi : i + 5 ≤ L) (h : ST G ad ay bd w v) (hbd : bd < 2 ^ 29) (hP : va_P G.1 vwCl w H) (hP2 : va_P G.1 vwCl v H) (hDD : DD s ad ay) (hS : va_S (fun q : Nat => s.heap.size ≤ q) s.heap H locs) (hl : lv_has ls 4 [(0, .ref b), (1, .ref (ad 0)), (2, .ref (ay 0)), (3, .int (nI i))]) (kk : LKK p l e s m below meth c b G ad ay bd ls Q) : W p l e room_1 s m #[Value.ref b] below meth c H locs 42 875 Q (F0 m 443 ls []) := by
  obtain ⟨hx, hb, hml, hown, hts, hX, hbl, hK, hL⟩ := X
  have hA : ∀ q : Nat, s.heap.size ≤ q → (fun q : Nat => s.heap.size ≤ q) q := fun _ h => h
  have hbA : ¬ (fun q : Nat => s.heap.size ≤ q) b := Nat.not_le.mpr hbl
  have S0 : CallFix p m c cL_law 4 s #[Value.ref b] wsL_law RL := ⟨hx, hb, hml, hown, hts⟩
  have vi1 : vp_in (nI i + 1) L := by rw [show nI i + 1 = nI (i + 1) from nI_add i 1]; exact vp_in_nI (by omega) (by omega)
  have vi2 : vp_in (nI i + 2) L := by rw [show nI i + 2 = nI (i + 2) from nI_add i 2]; exact vp_in_nI (by omega) (by omega)
  have vi3 : vp_in (nI i + 3) L := by rw [show nI i + 3 = nI (i + 3) from nI_add i 3]; exact vp_in_nI (by omega) (by omega)
  have vi4 : vp_in (nI i + 4) L := by rw [show nI i + 4 = nI (i + 4) from nI_add i 4]; exact vp_in_nI (by omega) (by omega)
  have cw_X5 := show CallW room_1 s #[Value.ref b] RL RX5 68 yX5_knees cX5_knees 2 (some .int) wsX5_knees (rmv 5 114) 0 0 1 from cwV 1 hts gL_law_X5_knees rfl rfl rfl (by decide +kernel) ⟨Nat.le_of_ble_eq_true rfl, Nat.le_of_ble_eq_true rfl⟩
  have cw_X6 := show CallW room_1 s #[Value.ref b] RL RX6 71 yX6_knees cX6_knees 2 (some .int) wsX6_knees (rmv 5 116) 0 0 1 from cwV 1 hts gL_law_X6_knees rfl rfl rfl (by decide +kernel) ⟨Nat.le_of_ble_eq_true rfl, Nat.le_of_ble_eq_true rfl⟩
  refine lv_aload_n hx hb dL_law_443 rfl (lv_at hl 1 rfl) ?_
  refine lv_aload_n hx hb dL_law_444 rfl (lv_at hl 0 rfl) ?_
  refine lv_iload_n hx hb dL_law_445 rfl (lv_at hl 3 rfl) ?_
  refine lv_iconst (v := 1) hx hb dL_law_446 (by decide) ?_
  refine lv_iadd hx hb dL_law_447 ?_
  refine va_sld hx hb hX hbl hbA hS vi1 dL_law_448 ?_
  obtain ⟨r, w2, v2, k5, k6, h2⟩ := c_knees (l := l) h hbd (xs (nI i + 1).toNatClampNeg)
  refine cLi (As := [.int (xs (nI i + 1).toNatClampNeg)]) (rest := []) S0 hK hA hP hP2 (hDD w v h.x.2.2.1 h.x.2.2.2).1 hS k5 cw_X5 5 rfl rfl h.x.1 rfl hl.1 rfl (Nat.le_of_ble_eq_true rfl) dL_law_449 ⟨Nat.le_of_ble_eq_true rfl, Nat.le_of_ble_eq_true rfl⟩ (fun H locs hP hP2 hS => ?_)
  refine lv_aload_n hx hb dL_law_452 rfl (lv_at hl 2 rfl) ?_
  refine lv_aload_n hx hb dL_law_453 rfl (lv_at hl 0 rfl) ?_
  refine lv_iload_n hx hb dL_law_454 rfl (lv_at hl 3 rfl) ?_
  refine lv_iconst (v := 1) hx hb dL_law_455 (by decide) ?_
  refine lv_iadd hx hb dL_law_456 ?_
  refine va_sld hx hb hX hbl hbA hS vi1 dL_law_457 ?_
  refine cLi (As := [.int (xs (nI i + 1).toNatClampNeg)]) (rest := [.int r]) S0 hK hA hP2 hP (hDD w2 v h2.x.2.2.1 h.x.2.2.2).2 hS k6 cw_X6 6 rfl rfl h.x.2.1 rfl hl.1 rfl (Nat.le_of_ble_eq_true rfl) dL_law_458 ⟨Nat.le_of_ble_eq_true rfl, Nat.le_of_ble_eq_true rfl⟩ (fun H locs hP2 hP hS => ?_)
  exact lv_icmp_eq (tgt := 1004) hx hb dL_law_461 (by decide) (fun _ => kk w2 v2 H locs h2 hP hP2 hS) (fun q => absurd rfl q)
set_option maxRecDepth 100000 in
set_option maxHeartbeats 8000000 in
theorem L_knee {p : Program} {l : Launch} {e : Env} {s : State} {m : MethodId} {below : List Frame} {meth : Method} {c : Code} {b L : Nat} {xs : Nat → Int32} {G : Gt} {ad ay : Nat → Nat} {bd i : Nat} {w v : va_W} {H : Heap} {locs : List Loc} {ls : Array Slot} {Q : State → Prop} (X : LC p s m meth c b L xs G) (hi : i + 5 ≤ L) (h : ST G ad ay bd w v) (hbd : bd < 2 ^ 29) (hP : va_P G.1 vwCl w H) (hP2 : va_P G.1 vwCl v H) (hDD : DD s ad ay) (hS : va_S (fun q : Nat => s.heap.size ≤ q) s.heap H locs) (hl : lv_has ls 4 [(0, .ref b), (1, .ref (ad 0)), (2, .ref (ay 0)), (3, .int (nI i))]) (kk : LKK p l e s m below meth c b G ad ay bd ls Q) : W p l e room_1 s m #[Value.ref b] below meth c H locs 42 875 Q (F0 m 466 ls []) := by
  obtain ⟨hx, hb, hml, hown, hts, hX, hbl, hK, hL⟩ := X
  have hA : ∀ q : Nat, s.heap.size ≤ q → (fun q : Nat => s.heap.size ≤ q) q := fun _ h => h
  have hbA : ¬ (fun q : Nat => s.heap.size ≤ q) b := Nat.not_le.mpr hbl
  have S0 : CallFix p m c cL_law 4 s #[Value.ref b] wsL_law RL := ⟨hx, hb, hml, hown, hts⟩
  have vi1 : vp_in (nI i + 1) L := by rw [show nI i + 1 = nI (i + 1) from nI_add i 1]; exact vp_in_nI (by omega) (by omega)
  have vi2 : vp_in (nI i + 2) L := by rw [show nI i + 2 = nI (i + 2) from nI_add i 2]; exact vp_in_nI (by omega) (by omega)
  have vi3 : vp_in (nI i + 3) L := by rw [show nI i + 3 = nI (i + 3) from nI_add i 3]; exact vp_in_nI (by omega) (by omega)
  have vi4 : vp_in (nI i + 4) L := by rw [show nI i + 4 = nI (i + 4) from nI_add i 4]; exact vp_in_nI (by omega) (by omega)
  have cw_X5 := show CallW room_1 s #[Value.ref b] RL RX5 72 yX5_knee cX5_knee 5 (some .int) wsX5_knee (rmv 4 90) 0 0 1 from cwV 1 hts gL_law_X5_knee rfl rfl rfl (by decide +kernel) ⟨Nat.le_of_ble_eq_true rfl, Nat.le_of_ble_eq_true rfl⟩
  have cw_X6 := show CallW room_1 s #[Value.ref b] RL RX6 75 yX6_knee cX6_knee 4 (some .int) wsX6_knee (rmv 4 94) 0 0 1 from cwV 1 hts gL_law_X6_knee rfl rfl rfl (by decide +kernel) ⟨Nat.le_of_ble_eq_true rfl, Nat.le_of_ble_eq_true rfl⟩
  refine lv_aload_n hx hb dL_law_466 rfl (lv_at hl 1 rfl) ?_
  refine lv_aload_n hx hb dL_law_467 rfl (lv_at hl 0 rfl) ?_
  refine lv_iload_n hx hb dL_law_468 rfl (lv_at hl 3 rfl) ?_
  refine lv_iconst (v := 1) hx hb dL_law_469 (by decide) ?_
  refine lv_iadd hx hb dL_law_470 ?_
  refine va_sld hx hb hX hbl hbA hS vi1 dL_law_471 ?_
  obtain ⟨r, w2, v2, k5, k6, h2⟩ := c_knee (l := l) h hbd (xs (nI i + 1).toNatClampNeg)
  refine cLi (As := [.int (xs (nI i + 1).toNatClampNeg)]) (rest := []) S0 hK hA hP hP2 (hDD w v h.x.2.2.1 h.x.2.2.2).1 hS k5 cw_X5 5 rfl rfl h.x.1 rfl hl.1 rfl (Nat.le_of_ble_eq_true rfl) dL_law_472 ⟨Nat.le_of_ble_eq_true rfl, Nat.le_of_ble_eq_true rfl⟩ (fun H locs hP hP2 hS => ?_)
  refine lv_aload_n hx hb dL_law_475 rfl (lv_at hl 2 rfl) ?_
  refine lv_aload_n hx hb dL_law_476 rfl (lv_at hl 0 rfl) ?_
  refine lv_iload_n hx hb dL_law_477 rfl (lv_at hl 3 rfl) ?_
  refine lv_iconst (v := 1) hx hb dL_law_478 (by decide) ?_
  refine lv_iadd hx hb dL_law_479 ?_
  refine va_sld hx hb hX hbl hbA hS vi1 dL_law_480 ?_
  refine cLi (As := [.int (xs (nI i + 1).toNatClampNeg)]) (rest := [.int r]) S0 hK hA hP2 hP (hDD w2 v h2.x.2.2.1 h.x.2.2.2).2 hS k6 cw_X6 6 rfl rfl h.x.2.1 rfl hl.1 rfl (Nat.le_of_ble_eq_true rfl) dL_law_481 ⟨Nat.le_of_ble_eq_true rfl, Nat.le_of_ble_eq_true rfl⟩ (fun H locs hP2 hP hS => ?_)
  exact lv_icmp_eq (tgt := 1004) hx hb dL_law_484 (by decide) (fun _ => kk w2 v2 H locs h2 hP hP2 hS) (fun q => absurd rfl q)
