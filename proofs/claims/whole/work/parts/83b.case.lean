set_option maxRecDepth 100000 in
set_option maxHeartbeats 8000000 in
theorem L_broom {p : Program} {l : Launch} {e : Env} {s : State} {m : MethodId} {below : List Frame} {meth : Method} {c : Code} {b L : Nat} {xs : Nat → Int32} {G : Gt} {ad ay : Nat → Nat} {bd i : Nat} {w v : va_W} {H : Heap} {locs : List Loc} {ls : Array Slot} {Q : State → Prop} (X : LC p s m meth c b L xs G) (hi : i + 5 ≤ L) (h : ST G ad ay bd w v) (hbd : bd < 2 ^ 29) (hP : va_P G.1 vwCl w H) (hP2 : va_P G.1 vwCl v H) (hDD : DD s ad ay) (hS : va_S (fun q : Nat => s.heap.size ≤ q) s.heap H locs) (hl : lv_has ls 4 [(0, .ref b), (1, .ref (ad 0)), (2, .ref (ay 0)), (3, .int (nI i))]) (kk : LKK p l e s m below meth c b G ad ay bd ls Q) : W p l e room_1 s m #[Value.ref b] below meth c H locs 42 875 Q (F0 m 259 ls []) := by
  obtain ⟨hx, hb, hml, hown, hts, hX, hbl, hK, hL⟩ := X
  have hA : ∀ q : Nat, s.heap.size ≤ q → (fun q : Nat => s.heap.size ≤ q) q := fun _ h => h
  have hbA : ¬ (fun q : Nat => s.heap.size ≤ q) b := Nat.not_le.mpr hbl
  have S0 : CallFix p m c cL_law 4 s #[Value.ref b] wsL_law RL := ⟨hx, hb, hml, hown, hts⟩
  have vi1 : vp_in (nI i + 1) L := by rw [show nI i + 1 = nI (i + 1) from nI_add i 1]; exact vp_in_nI (by omega) (by omega)
  have vi2 : vp_in (nI i + 2) L := by rw [show nI i + 2 = nI (i + 2) from nI_add i 2]; exact vp_in_nI (by omega) (by omega)
  have vi3 : vp_in (nI i + 3) L := by rw [show nI i + 3 = nI (i + 3) from nI_add i 3]; exact vp_in_nI (by omega) (by omega)
  have vi4 : vp_in (nI i + 4) L := by rw [show nI i + 4 = nI (i + 4) from nI_add i 4]; exact vp_in_nI (by omega) (by omega)
  have cw_X5 := show CallW room_1 s #[Value.ref b] RL RX5 36 yX5_broom cX5_broom 3 (some .int) wsX5_broom (rmv 2 43) 0 0 2 from cwV 2 hts gL_law_X5_broom rfl rfl rfl (by decide +kernel) ⟨Nat.le_of_ble_eq_true rfl, Nat.le_of_ble_eq_true rfl⟩
  have cw_X6 := show CallW room_1 s #[Value.ref b] RL RX6 39 yX6_broom cX6_broom 3 (some .int) wsX6_broom (rmv 2 46) 0 0 2 from cwV 2 hts gL_law_X6_broom rfl rfl rfl (by decide +kernel) ⟨Nat.le_of_ble_eq_true rfl, Nat.le_of_ble_eq_true rfl⟩
  refine lv_aload_n hx hb dL_law_259 rfl (lv_at hl 1 rfl) ?_
  refine lv_aload_n hx hb dL_law_260 rfl (lv_at hl 0 rfl) ?_
  refine lv_iload_n hx hb dL_law_261 rfl (lv_at hl 3 rfl) ?_
  refine lv_iconst (v := 1) hx hb dL_law_262 (by decide) ?_
  refine lv_iadd hx hb dL_law_263 ?_
  refine va_sld hx hb hX hbl hbA hS vi1 dL_law_264 ?_
  refine lv_aload_n hx hb dL_law_265 rfl (lv_at hl 0 rfl) ?_
  refine lv_iload_n hx hb dL_law_266 rfl (lv_at hl 3 rfl) ?_
  refine lv_iconst (v := 2) hx hb dL_law_267 (by decide) ?_
  refine lv_iadd hx hb dL_law_268 ?_
  refine va_sld hx hb hX hbl hbA hS vi2 dL_law_269 ?_
  obtain ⟨r, w2, v2, k5, k6, h2⟩ := c_broom (l := l) h hbd (xs (nI i + 1).toNatClampNeg) (xs (nI i + 2).toNatClampNeg)
  refine cLi (As := [.int (xs (nI i + 1).toNatClampNeg), .int (xs (nI i + 2).toNatClampNeg)]) (rest := []) S0 hK hA hP hP2 (hDD w v h.x.2.2.1 h.x.2.2.2).1 hS k5 cw_X5 5 rfl rfl h.x.1 rfl hl.1 rfl (Nat.le_of_ble_eq_true rfl) dL_law_270 ⟨Nat.le_of_ble_eq_true rfl, Nat.le_of_ble_eq_true rfl⟩ (fun H locs hP hP2 hS => ?_)
  refine lv_aload_n hx hb dL_law_273 rfl (lv_at hl 2 rfl) ?_
  refine lv_aload_n hx hb dL_law_274 rfl (lv_at hl 0 rfl) ?_
  refine lv_iload_n hx hb dL_law_275 rfl (lv_at hl 3 rfl) ?_
  refine lv_iconst (v := 1) hx hb dL_law_276 (by decide) ?_
  refine lv_iadd hx hb dL_law_277 ?_
  refine va_sld hx hb hX hbl hbA hS vi1 dL_law_278 ?_
  refine lv_aload_n hx hb dL_law_279 rfl (lv_at hl 0 rfl) ?_
  refine lv_iload_n hx hb dL_law_280 rfl (lv_at hl 3 rfl) ?_
  refine lv_iconst (v := 2) hx hb dL_law_281 (by decide) ?_
  refine lv_iadd hx hb dL_law_282 ?_
  refine va_sld hx hb hX hbl hbA hS vi2 dL_law_283 ?_
  refine cLi (As := [.int (xs (nI i + 1).toNatClampNeg), .int (xs (nI i + 2).toNatClampNeg)]) (rest := [.int r]) S0 hK hA hP2 hP (hDD w2 v h2.x.2.2.1 h.x.2.2.2).2 hS k6 cw_X6 6 rfl rfl h.x.2.1 rfl hl.1 rfl (Nat.le_of_ble_eq_true rfl) dL_law_284 ⟨Nat.le_of_ble_eq_true rfl, Nat.le_of_ble_eq_true rfl⟩ (fun H locs hP2 hP hS => ?_)
  exact lv_icmp_eq (tgt := 1004) hx hb dL_law_287 (by decide) (fun _ => kk w2 v2 H locs h2 hP hP2 hS) (fun q => absurd rfl q)
set_option maxRecDepth 100000 in
set_option maxHeartbeats 8000000 in
theorem L_dawn {p : Program} {l : Launch} {e : Env} {s : State} {m : MethodId} {below : List Frame} {meth : Method} {c : Code} {b L : Nat} {xs : Nat → Int32} {G : Gt} {ad ay : Nat → Nat} {bd i : Nat} {w v : va_W} {H : Heap} {locs : List Loc} {ls : Array Slot} {Q : State → Prop} (X : LC p s m meth c b L xs G) (hi : i + 5 ≤ L) (h : ST G ad ay bd w v) (hbd : bd < 2 ^ 29) (hP : va_P G.1 vwCl w H) (hP2 : va_P G.1 vwCl v H) (hDD : DD s ad ay) (hS : va_S (fun q : Nat => s.heap.size ≤ q) s.heap H locs) (hl : lv_has ls 4 [(0, .ref b), (1, .ref (ad 0)), (2, .ref (ay 0)), (3, .int (nI i))]) (kk : LKK p l e s m below meth c b G ad ay bd ls Q) : W p l e room_1 s m #[Value.ref b] below meth c H locs 42 875 Q (F0 m 292 ls []) := by
  obtain ⟨hx, hb, hml, hown, hts, hX, hbl, hK, hL⟩ := X
  have hA : ∀ q : Nat, s.heap.size ≤ q → (fun q : Nat => s.heap.size ≤ q) q := fun _ h => h
  have hbA : ¬ (fun q : Nat => s.heap.size ≤ q) b := Nat.not_le.mpr hbl
  have S0 : CallFix p m c cL_law 4 s #[Value.ref b] wsL_law RL := ⟨hx, hb, hml, hown, hts⟩
  have vi1 : vp_in (nI i + 1) L := by rw [show nI i + 1 = nI (i + 1) from nI_add i 1]; exact vp_in_nI (by omega) (by omega)
  have vi2 : vp_in (nI i + 2) L := by rw [show nI i + 2 = nI (i + 2) from nI_add i 2]; exact vp_in_nI (by omega) (by omega)
  have vi3 : vp_in (nI i + 3) L := by rw [show nI i + 3 = nI (i + 3) from nI_add i 3]; exact vp_in_nI (by omega) (by omega)
  have vi4 : vp_in (nI i + 4) L := by rw [show nI i + 4 = nI (i + 4) from nI_add i 4]; exact vp_in_nI (by omega) (by omega)
  have cw_X5 := show CallW room_1 s #[Value.ref b] RL RX5 40 yX5_dawn cX5_dawn 1 (some .int) wsX5_dawn (rmv 4 90) 0 0 0 from cwV 0 hts gL_law_X5_dawn rfl rfl rfl (by decide +kernel) ⟨Nat.le_of_ble_eq_true rfl, Nat.le_of_ble_eq_true rfl⟩
  have cw_X6 := show CallW room_1 s #[Value.ref b] RL RX6 43 yX6_dawn cX6_dawn 1 (some .int) wsX6_dawn (rmv 4 94) 0 0 0 from cwV 0 hts gL_law_X6_dawn rfl rfl rfl (by decide +kernel) ⟨Nat.le_of_ble_eq_true rfl, Nat.le_of_ble_eq_true rfl⟩
  refine lv_aload_n hx hb dL_law_292 rfl (lv_at hl 1 rfl) ?_
  obtain ⟨r, w2, v2, k5, k6, h2⟩ := c_dawn (l := l) h hbd
  refine cLi (As := []) (rest := []) S0 hK hA hP hP2 (hDD w v h.x.2.2.1 h.x.2.2.2).1 hS k5 cw_X5 5 rfl rfl h.x.1 rfl hl.1 rfl (Nat.le_of_ble_eq_true rfl) dL_law_293 ⟨Nat.le_of_ble_eq_true rfl, Nat.le_of_ble_eq_true rfl⟩ (fun H locs hP hP2 hS => ?_)
  refine lv_aload_n hx hb dL_law_296 rfl (lv_at hl 2 rfl) ?_
  refine cLi (As := []) (rest := [.int r]) S0 hK hA hP2 hP (hDD w2 v h2.x.2.2.1 h.x.2.2.2).2 hS k6 cw_X6 6 rfl rfl h.x.2.1 rfl hl.1 rfl (Nat.le_of_ble_eq_true rfl) dL_law_297 ⟨Nat.le_of_ble_eq_true rfl, Nat.le_of_ble_eq_true rfl⟩ (fun H locs hP2 hP hS => ?_)
  exact lv_icmp_eq (tgt := 1004) hx hb dL_law_300 (by decide) (fun _ => kk w2 v2 H locs h2 hP hP2 hS) (fun q => absurd rfl q)
set_option maxRecDepth 100000 in
set_option maxHeartbeats 8000000 in
theorem L_walk {p : Program} {l : Launch} {e : Env} {s : State} {m : MethodId} {below : List Frame} {meth : Method} {c : Code} {b L : Nat} {xs : Nat → Int32} {G : Gt} {ad ay : Nat → Nat} {bd i : Nat} {w v : va_W} {H : Heap} {locs : List Loc} {ls : Array Slot} {Q : State → Prop} (X : LC p s m meth c b L xs G) (hi : i + 5 ≤ L) (h : ST G ad ay bd w v) (hbd : bd < 2 ^ 29) (hP : va_P G.1 vwCl w H) (hP2 : va_P G.1 vwCl v H) (hDD : DD s ad ay) (hS : va_S (fun q : Nat => s.heap.size ≤ q) s.heap H locs) (hl : lv_has ls 4 [(0, .ref b), (1, .ref (ad 0)), (2, .ref (ay 0)), (3, .int (nI i))]) (kk : LKK p l e s m below meth c b G ad ay bd ls Q) : W p l e room_1 s m #[Value.ref b] below meth c H locs 42 875 Q (F0 m 305 ls []) := by
  obtain ⟨hx, hb, hml, hown, hts, hX, hbl, hK, hL⟩ := X
  have hA : ∀ q : Nat, s.heap.size ≤ q → (fun q : Nat => s.heap.size ≤ q) q := fun _ h => h
  have hbA : ¬ (fun q : Nat => s.heap.size ≤ q) b := Nat.not_le.mpr hbl
  have S0 : CallFix p m c cL_law 4 s #[Value.ref b] wsL_law RL := ⟨hx, hb, hml, hown, hts⟩
  have vi1 : vp_in (nI i + 1) L := by rw [show nI i + 1 = nI (i + 1) from nI_add i 1]; exact vp_in_nI (by omega) (by omega)
  have vi2 : vp_in (nI i + 2) L := by rw [show nI i + 2 = nI (i + 2) from nI_add i 2]; exact vp_in_nI (by omega) (by omega)
  have vi3 : vp_in (nI i + 3) L := by rw [show nI i + 3 = nI (i + 3) from nI_add i 3]; exact vp_in_nI (by omega) (by omega)
  have vi4 : vp_in (nI i + 4) L := by rw [show nI i + 4 = nI (i + 4) from nI_add i 4]; exact vp_in_nI (by omega) (by omega)
  have cw_X5 := show CallW room_1 s #[Value.ref b] RL RX5 44 yX5_walk cX5_walk 3 (some .int) wsX5_walk (rmv 3 66) 0 0 2 from cwV 2 hts gL_law_X5_walk rfl rfl rfl (by decide +kernel) ⟨Nat.le_of_ble_eq_true rfl, Nat.le_of_ble_eq_true rfl⟩
  have cw_X6 := show CallW room_1 s #[Value.ref b] RL RX6 47 yX6_walk cX6_walk 3 (some .int) wsX6_walk (rmv 2 46) 0 0 2 from cwV 2 hts gL_law_X6_walk rfl rfl rfl (by decide +kernel) ⟨Nat.le_of_ble_eq_true rfl, Nat.le_of_ble_eq_true rfl⟩
  refine lv_aload_n hx hb dL_law_305 rfl (lv_at hl 1 rfl) ?_
  refine lv_aload_n hx hb dL_law_306 rfl (lv_at hl 0 rfl) ?_
  refine lv_iload_n hx hb dL_law_307 rfl (lv_at hl 3 rfl) ?_
  refine lv_iconst (v := 1) hx hb dL_law_308 (by decide) ?_
  refine lv_iadd hx hb dL_law_309 ?_
  refine va_sld hx hb hX hbl hbA hS vi1 dL_law_310 ?_
  refine lv_aload_n hx hb dL_law_311 rfl (lv_at hl 0 rfl) ?_
  refine lv_iload_n hx hb dL_law_312 rfl (lv_at hl 3 rfl) ?_
  refine lv_iconst (v := 2) hx hb dL_law_313 (by decide) ?_
  refine lv_iadd hx hb dL_law_314 ?_
  refine va_sld hx hb hX hbl hbA hS vi2 dL_law_315 ?_
  obtain ⟨r, w2, v2, k5, k6, h2⟩ := c_walk (l := l) h hbd (xs (nI i + 1).toNatClampNeg) (xs (nI i + 2).toNatClampNeg)
  refine cLi (As := [.int (xs (nI i + 1).toNatClampNeg), .int (xs (nI i + 2).toNatClampNeg)]) (rest := []) S0 hK hA hP hP2 (hDD w v h.x.2.2.1 h.x.2.2.2).1 hS k5 cw_X5 5 rfl rfl h.x.1 rfl hl.1 rfl (Nat.le_of_ble_eq_true rfl) dL_law_316 ⟨Nat.le_of_ble_eq_true rfl, Nat.le_of_ble_eq_true rfl⟩ (fun H locs hP hP2 hS => ?_)
  refine lv_aload_n hx hb dL_law_319 rfl (lv_at hl 2 rfl) ?_
  refine lv_aload_n hx hb dL_law_320 rfl (lv_at hl 0 rfl) ?_
  refine lv_iload_n hx hb dL_law_321 rfl (lv_at hl 3 rfl) ?_
  refine lv_iconst (v := 1) hx hb dL_law_322 (by decide) ?_
  refine lv_iadd hx hb dL_law_323 ?_
  refine va_sld hx hb hX hbl hbA hS vi1 dL_law_324 ?_
  refine lv_aload_n hx hb dL_law_325 rfl (lv_at hl 0 rfl) ?_
  refine lv_iload_n hx hb dL_law_326 rfl (lv_at hl 3 rfl) ?_
  refine lv_iconst (v := 2) hx hb dL_law_327 (by decide) ?_
  refine lv_iadd hx hb dL_law_328 ?_
  refine va_sld hx hb hX hbl hbA hS vi2 dL_law_329 ?_
  refine cLi (As := [.int (xs (nI i + 1).toNatClampNeg), .int (xs (nI i + 2).toNatClampNeg)]) (rest := [.int r]) S0 hK hA hP2 hP (hDD w2 v h2.x.2.2.1 h.x.2.2.2).2 hS k6 cw_X6 6 rfl rfl h.x.2.1 rfl hl.1 rfl (Nat.le_of_ble_eq_true rfl) dL_law_330 ⟨Nat.le_of_ble_eq_true rfl, Nat.le_of_ble_eq_true rfl⟩ (fun H locs hP2 hP hS => ?_)
  exact lv_icmp_eq (tgt := 1004) hx hb dL_law_333 (by decide) (fun _ => kk w2 v2 H locs h2 hP hP2 hS) (fun q => absurd rfl q)
set_option maxRecDepth 100000 in
set_option maxHeartbeats 8000000 in
theorem L_vote {p : Program} {l : Launch} {e : Env} {s : State} {m : MethodId} {below : List Frame} {meth : Method} {c : Code} {b L : Nat} {xs : Nat → Int32} {G : Gt} {ad ay : Nat → Nat} {bd i : Nat} {w v : va_W} {H : Heap} {locs : List Loc} {ls : Array Slot} {Q : State → Prop} (X : LC p s m meth c b L xs G) (hi : i + 5 ≤ L) (h : ST G ad ay bd w v) (hbd : bd < 2 ^ 29) (hP : va_P G.1 vwCl w H) (hP2 : va_P G.1 vwCl v H) (hDD : DD s ad ay) (hS : va_S (fun q : Nat => s.heap.size ≤ q) s.heap H locs) (hl : lv_has ls 4 [(0, .ref b), (1, .ref (ad 0)), (2, .ref (ay 0)), (3, .int (nI i))]) (kk : LKK p l e s m below meth c b G ad ay bd ls Q) : W p l e room_1 s m #[Value.ref b] below meth c H locs 42 875 Q (F0 m 338 ls []) := by
  obtain ⟨hx, hb, hml, hown, hts, hX, hbl, hK, hL⟩ := X
  have hA : ∀ q : Nat, s.heap.size ≤ q → (fun q : Nat => s.heap.size ≤ q) q := fun _ h => h
  have hbA : ¬ (fun q : Nat => s.heap.size ≤ q) b := Nat.not_le.mpr hbl
  have S0 : CallFix p m c cL_law 4 s #[Value.ref b] wsL_law RL := ⟨hx, hb, hml, hown, hts⟩
  have vi1 : vp_in (nI i + 1) L := by rw [show nI i + 1 = nI (i + 1) from nI_add i 1]; exact vp_in_nI (by omega) (by omega)
  have vi2 : vp_in (nI i + 2) L := by rw [show nI i + 2 = nI (i + 2) from nI_add i 2]; exact vp_in_nI (by omega) (by omega)
  have vi3 : vp_in (nI i + 3) L := by rw [show nI i + 3 = nI (i + 3) from nI_add i 3]; exact vp_in_nI (by omega) (by omega)
  have vi4 : vp_in (nI i + 4) L := by rw [show nI i + 4 = nI (i + 4) from nI_add i 4]; exact vp_in_nI (by omega) (by omega)
  have cw_X5 := show CallW room_1 s #[Value.ref b] RL RX5 48 yX5_vote cX5_vote 1 (some .int) wsX5_vote (rmv 3 62) 0 0 0 from cwV 0 hts gL_law_X5_vote rfl rfl rfl (by decide +kernel) ⟨Nat.le_of_ble_eq_true rfl, Nat.le_of_ble_eq_true rfl⟩
  have cw_X6 := show CallW room_1 s #[Value.ref b] RL RX6 51 yX6_vote cX6_vote 1 (some .int) wsX6_vote (rmv 1 21) 0 0 0 from cwV 0 hts gL_law_X6_vote rfl rfl rfl (by decide +kernel) ⟨Nat.le_of_ble_eq_true rfl, Nat.le_of_ble_eq_true rfl⟩
  refine lv_aload_n hx hb dL_law_338 rfl (lv_at hl 1 rfl) ?_
  obtain ⟨r, w2, v2, k5, k6, h2⟩ := c_vote (l := l) h hbd
  refine cLi (As := []) (rest := []) S0 hK hA hP hP2 (hDD w v h.x.2.2.1 h.x.2.2.2).1 hS k5 cw_X5 5 rfl rfl h.x.1 rfl hl.1 rfl (Nat.le_of_ble_eq_true rfl) dL_law_339 ⟨Nat.le_of_ble_eq_true rfl, Nat.le_of_ble_eq_true rfl⟩ (fun H locs hP hP2 hS => ?_)
  refine lv_aload_n hx hb dL_law_342 rfl (lv_at hl 2 rfl) ?_
  refine cLi (As := []) (rest := [.int r]) S0 hK hA hP2 hP (hDD w2 v h2.x.2.2.1 h.x.2.2.2).2 hS k6 cw_X6 6 rfl rfl h.x.2.1 rfl hl.1 rfl (Nat.le_of_ble_eq_true rfl) dL_law_343 ⟨Nat.le_of_ble_eq_true rfl, Nat.le_of_ble_eq_true rfl⟩ (fun H locs hP2 hP hS => ?_)
  exact lv_icmp_eq (tgt := 1004) hx hb dL_law_346 (by decide) (fun _ => kk w2 v2 H locs h2 hP hP2 hS) (fun q => absurd rfl q)
set_option maxRecDepth 100000 in
set_option maxHeartbeats 8000000 in
theorem L_bend {p : Program} {l : Launch} {e : Env} {s : State} {m : MethodId} {below : List Frame} {meth : Method} {c : Code} {b L : Nat} {xs : Nat → Int32} {G : Gt} {ad ay : Nat → Nat} {bd i : Nat} {w v : va_W} {H : Heap} {locs : List Loc} {ls : Array Slot} {Q : State → Prop} (X : LC p s m meth c b L xs G) (hi : i + 5 ≤ L) (h : ST G ad ay bd w v) (hbd : bd < 2 ^ 29) (hP : va_P G.1 vwCl w H) (hP2 : va_P G.1 vwCl v H) (hDD : DD s ad ay) (hS : va_S (fun q : Nat => s.heap.size ≤ q) s.heap H locs) (hl : lv_has ls 4 [(0, .ref b), (1, .ref (ad 0)), (2, .ref (ay 0)), (3, .int (nI i))]) (kk : LKK p l e s m below meth c b G ad ay bd ls Q) : W p l e room_1 s m #[Value.ref b] below meth c H locs 42 875 Q (F0 m 351 ls []) := by
  obtain ⟨hx, hb, hml, hown, hts, hX, hbl, hK, hL⟩ := X
  have hA : ∀ q : Nat, s.heap.size ≤ q → (fun q : Nat => s.heap.size ≤ q) q := fun _ h => h
  have hbA : ¬ (fun q : Nat => s.heap.size ≤ q) b := Nat.not_le.mpr hbl
  have S0 : CallFix p m c cL_law 4 s #[Value.ref b] wsL_law RL := ⟨hx, hb, hml, hown, hts⟩
  have vi1 : vp_in (nI i + 1) L := by rw [show nI i + 1 = nI (i + 1) from nI_add i 1]; exact vp_in_nI (by omega) (by omega)
  have vi2 : vp_in (nI i + 2) L := by rw [show nI i + 2 = nI (i + 2) from nI_add i 2]; exact vp_in_nI (by omega) (by omega)
  have vi3 : vp_in (nI i + 3) L := by rw [show nI i + 3 = nI (i + 3) from nI_add i 3]; exact vp_in_nI (by omega) (by omega)
  have vi4 : vp_in (nI i + 4) L := by rw [show nI i + 4 = nI (i + 4) from nI_add i 4]; exact vp_in_nI (by omega) (by omega)
  have cw_X5 := show CallW room_1 s #[Value.ref b] RL RX5 52 yX5_bend cX5_bend 2 (some .int) wsX5_bend (rmv 3 62) 0 0 1 from cwV 1 hts gL_law_X5_bend rfl rfl rfl (by decide +kernel) ⟨Nat.le_of_ble_eq_true rfl, Nat.le_of_ble_eq_true rfl⟩
  have cw_X6 := show CallW room_1 s #[Value.ref b] RL RX6 55 yX6_bend cX6_bend 2 (some .int) wsX6_bend (rmv 2 46) 0 0 1 from cwV 1 hts gL_law_X6_bend rfl rfl rfl (by decide +kernel) ⟨Nat.le_of_ble_eq_true rfl, Nat.le_of_ble_eq_true rfl⟩
  refine lv_aload_n hx hb dL_law_351 rfl (lv_at hl 1 rfl) ?_
  refine lv_aload_n hx hb dL_law_352 rfl (lv_at hl 0 rfl) ?_
  refine lv_iload_n hx hb dL_law_353 rfl (lv_at hl 3 rfl) ?_
  refine lv_iconst (v := 1) hx hb dL_law_354 (by decide) ?_
  refine lv_iadd hx hb dL_law_355 ?_
  refine va_sld hx hb hX hbl hbA hS vi1 dL_law_356 ?_
  obtain ⟨r, w2, v2, k5, k6, h2⟩ := c_bend (l := l) h hbd (xs (nI i + 1).toNatClampNeg)
  refine cLi (As := [.int (xs (nI i + 1).toNatClampNeg)]) (rest := []) S0 hK hA hP hP2 (hDD w v h.x.2.2.1 h.x.2.2.2).1 hS k5 cw_X5 5 rfl rfl h.x.1 rfl hl.1 rfl (Nat.le_of_ble_eq_true rfl) dL_law_357 ⟨Nat.le_of_ble_eq_true rfl, Nat.le_of_ble_eq_true rfl⟩ (fun H locs hP hP2 hS => ?_)
  refine lv_aload_n hx hb dL_law_360 rfl (lv_at hl 2 rfl) ?_
  refine lv_aload_n hx hb dL_law_361 rfl (lv_at hl 0 rfl) ?_
  refine lv_iload_n hx hb dL_law_362 rfl (lv_at hl 3 rfl) ?_
  refine lv_iconst (v := 1) hx hb dL_law_363 (by decide) ?_
  refine lv_iadd hx hb dL_law_364 ?_
  refine va_sld hx hb hX hbl hbA hS vi1 dL_law_365 ?_
  refine cLi (As := [.int (xs (nI i + 1).toNatClampNeg)]) (rest := [.int r]) S0 hK hA hP2 hP (hDD w2 v h2.x.2.2.1 h.x.2.2.2).2 hS k6 cw_X6 6 rfl rfl h.x.2.1 rfl hl.1 rfl (Nat.le_of_ble_eq_true rfl) dL_law_366 ⟨Nat.le_of_ble_eq_true rfl, Nat.le_of_ble_eq_true rfl⟩ (fun H locs hP2 hP hS => ?_)
  exact lv_icmp_eq (tgt := 1004) hx hb dL_law_369 (by decide) (fun _ => kk w2 v2 H locs h2 hP hP2 hS) (fun q => absurd rfl q)
