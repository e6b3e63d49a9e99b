set_option maxRecDepth 100000 in
set_option maxHeartbeats 8000000 in
theorem L_write {p : Program} {l : Launch} {e : Env} {s : State} {m : MethodId} {below : List Frame} {meth : Method} {c : Code} {b L : Nat} {xs : Nat → Int32} {G : Gt} {ad ay : Nat → Nat} {bd i : Nat} {w v : va_W} {H : Heap} {locs : List Loc} {ls : Array Slot} {Q : State → Prop} (X : LC p s m meth c b L xs G) (hi : i + 5 ≤ L) (h : ST G ad ay bd w v) (hbd : bd < 2 ^ 29) (hP : va_P G.1 vwCl w H) (hP2 : va_P G.1 vwCl v H) (hDD : DD s ad ay) (hS : va_S (fun q : Nat => s.heap.size ≤ q) s.heap H locs) (hl : lv_has ls 4 [(0, .ref b), (1, .ref (ad 0)), (2, .ref (ay 0)), (3, .int (nI i))]) (kk : LKK p l e s m below meth c b G ad ay bd ls Q) : W p l e room_1 s m #[Value.ref b] below meth c H locs 42 875 Q (F0 m 164 ls []) := by
  obtain ⟨hx, hb, hml, hown, hts, hX, hbl, hK, hL⟩ := X
  have hA : ∀ q : Nat, s.heap.size ≤ q → (fun q : Nat => s.heap.size ≤ q) q := fun _ h => h
  have hbA : ¬ (fun q : Nat => s.heap.size ≤ q) b := Nat.not_le.mpr hbl
  have S0 : CallFix p m c cL_law 4 s #[Value.ref b] wsL_law RL := ⟨hx, hb, hml, hown, hts⟩
  have vi1 : vp_in (nI i + 1) L := by rw [show nI i + 1 = nI (i + 1) from nI_add i 1]; exact vp_in_nI (by omega) (by omega)
  have vi2 : vp_in (nI i + 2) L := by rw [show nI i + 2 = nI (i + 2) from nI_add i 2]; exact vp_in_nI (by omega) (by omega)
  have vi3 : vp_in (nI i + 3) L := by rw [show nI i + 3 = nI (i + 3) from nI_add i 3]; exact vp_in_nI (by omega) (by omega)
  have vi4 : vp_in (nI i + 4) L := by rw [show nI i + 4 = nI (i + 4) from nI_add i 4]; exact vp_in_nI (by omega) (by omega)
  have cw_X5 := show CallW room_1 s #[Value.ref b] RL RX5 13 yX5_write cX5_write 2 (some .int) wsX5_write (rmv 1 22) 0 0 1 from cwV 1 hts gL_law_X5_write rfl rfl rfl (by decide +kernel) ⟨Nat.le_of_ble_eq_true rfl, Nat.le_of_ble_eq_true rfl⟩
  have cw_X6 := show CallW room_1 s #[Value.ref b] RL RX6 17 yX6_write cX6_write 2 (some .int) wsX6_write (rmv 1 25) 0 0 1 from cwV 1 hts gL_law_X6_write rfl rfl rfl (by decide +kernel) ⟨Nat.le_of_ble_eq_true rfl, Nat.le_of_ble_eq_true rfl⟩
  refine lv_aload_n hx hb dL_law_164 rfl (lv_at hl 1 rfl) ?_
  refine lv_aload_n hx hb dL_law_165 rfl (lv_at hl 0 rfl) ?_
  refine lv_iload_n hx hb dL_law_166 rfl (lv_at hl 3 rfl) ?_
  refine lv_iconst (v := 1) hx hb dL_law_167 (by decide) ?_
  refine lv_iadd hx hb dL_law_168 ?_
  refine va_sld hx hb hX hbl hbA hS vi1 dL_law_169 ?_
  obtain ⟨r, w2, v2, k5, k6, h2⟩ := c_write (l := l) h hbd (xs (nI i + 1).toNatClampNeg)
  refine cLi (As := [.int (xs (nI i + 1).toNatClampNeg)]) (rest := []) S0 hK hA hP hP2 (hDD w v h.x.2.2.1 h.x.2.2.2).1 hS k5 cw_X5 5 rfl rfl h.x.1 rfl hl.1 rfl (Nat.le_of_ble_eq_true rfl) dL_law_170 ⟨Nat.le_of_ble_eq_true rfl, Nat.le_of_ble_eq_true rfl⟩ (fun H locs hP hP2 hS => ?_)
  refine lv_aload_n hx hb dL_law_173 rfl (lv_at hl 2 rfl) ?_
  refine lv_aload_n hx hb dL_law_174 rfl (lv_at hl 0 rfl) ?_
  refine lv_iload_n hx hb dL_law_175 rfl (lv_at hl 3 rfl) ?_
  refine lv_iconst (v := 1) hx hb dL_law_176 (by decide) ?_
  refine lv_iadd hx hb dL_law_177 ?_
  refine va_sld hx hb hX hbl hbA hS vi1 dL_law_178 ?_
  refine cLi (As := [.int (xs (nI i + 1).toNatClampNeg)]) (rest := [.int r]) S0 hK hA hP2 hP (hDD w2 v h2.x.2.2.1 h.x.2.2.2).2 hS k6 cw_X6 6 rfl rfl h.x.2.1 rfl hl.1 rfl (Nat.le_of_ble_eq_true rfl) dL_law_179 ⟨Nat.le_of_ble_eq_true rfl, Nat.le_of_ble_eq_true rfl⟩ (fun H locs hP2 hP hS => ?_)
  exact lv_icmp_eq (tgt := 1004) hx hb dL_law_182 (by decide) (fun _ => kk w2 v2 H locs h2 hP hP2 hS) (fun q => absurd rfl q)
set_option maxRecDepth 100000 in
set_option maxHeartbeats 8000000 in
theorem L_wipe {p : Program} {l : Launch} {e : Env} {s : State} {m : MethodId} {below : List Frame} {meth : Method} {c : Code} {b L : Nat} {xs : Nat → Int32} {G : Gt} {ad ay : Nat → Nat} {bd i : Nat} {w v : va_W} {H : Heap} {locs : List Loc} {ls : Array Slot} {Q : State → Prop} (X : LC p s m meth c b L xs G) (hi : i + 5 ≤ L) (h : ST G ad ay bd w v) (hbd : bd < 2 ^ 29) (hP : va_P G.1 vwCl w H) (hP2 : va_P G.1 vwCl v H) (hDD : DD s ad ay) (hS : va_S (fun q : Nat => s.heap.size ≤ q) s.heap H locs) (hl : lv_has ls 4 [(0, .ref b), (1, .ref (ad 0)), (2, .ref (ay 0)), (3, .int (nI i))]) (kk : LKK p l e s m below meth c b G ad ay bd ls Q) : W p l e room_1 s m #[Value.ref b] below meth c H locs 42 875 Q (F0 m 187 ls []) := by
  obtain ⟨hx, hb, hml, hown, hts, hX, hbl, hK, hL⟩ := X
  have hA : ∀ q : Nat, s.heap.size ≤ q → (fun q : Nat => s.heap.size ≤ q) q := fun _ h => h
  have hbA : ¬ (fun q : Nat => s.heap.size ≤ q) b := Nat.not_le.mpr hbl
  have S0 : CallFix p m c cL_law 4 s #[Value.ref b] wsL_law RL := ⟨hx, hb, hml, hown, hts⟩
  have vi1 : vp_in (nI i + 1) L := by rw [show nI i + 1 = nI (i + 1) from nI_add i 1]; exact vp_in_nI (by omega) (by omega)
  have vi2 : vp_in (nI i + 2) L := by rw [show nI i + 2 = nI (i + 2) from nI_add i 2]; exact vp_in_nI (by omega) (by omega)
  have vi3 : vp_in (nI i + 3) L := by rw [show nI i + 3 = nI (i + 3) from nI_add i 3]; exact vp_in_nI (by omega) (by omega)
  have vi4 : vp_in (nI i + 4) L := by rw [show nI i + 4 = nI (i + 4) from nI_add i 4]; exact vp_in_nI (by omega) (by omega)
  have cw_X5 := show CallW room_1 s #[Value.ref b] RL RX5 18 yX5_wipe cX5_wipe 2 (some .int) wsX5_wipe (rmv 0 0) 0 0 0 from cwV 0 hts gL_law_X5_wipe rfl rfl rfl (by decide +kernel) ⟨Nat.le_of_ble_eq_true rfl, Nat.le_of_ble_eq_true rfl⟩
  have cw_X6 := show CallW room_1 s #[Value.ref b] RL RX6 22 yX6_wipe cX6_wipe 2 (some .int) wsX6_wipe (rmv 0 0) 0 0 0 from cwV 0 hts gL_law_X6_wipe rfl rfl rfl (by decide +kernel) ⟨Nat.le_of_ble_eq_true rfl, Nat.le_of_ble_eq_true rfl⟩
  refine lv_aload_n hx hb dL_law_187 rfl (lv_at hl 1 rfl) ?_
  obtain ⟨r, w2, v2, k5, k6, h2⟩ := c_wipe (l := l) h hbd
  refine cLi (As := []) (rest := []) S0 hK hA hP hP2 (hDD w v h.x.2.2.1 h.x.2.2.2).1 hS k5 cw_X5 5 rfl rfl h.x.1 rfl hl.1 rfl (Nat.le_of_ble_eq_true rfl) dL_law_188 ⟨Nat.le_of_ble_eq_true rfl, Nat.le_of_ble_eq_true rfl⟩ (fun H locs hP hP2 hS => ?_)
  refine lv_aload_n hx hb dL_law_191 rfl (lv_at hl 2 rfl) ?_
  refine cLi (As := []) (rest := [.int r]) S0 hK hA hP2 hP (hDD w2 v h2.x.2.2.1 h.x.2.2.2).2 hS k6 cw_X6 6 rfl rfl h.x.2.1 rfl hl.1 rfl (Nat.le_of_ble_eq_true rfl) dL_law_192 ⟨Nat.le_of_ble_eq_true rfl, Nat.le_of_ble_eq_true rfl⟩ (fun H locs hP2 hP hS => ?_)
  exact lv_icmp_eq (tgt := 1004) hx hb dL_law_195 (by decide) (fun _ => kk w2 v2 H locs h2 hP hP2 hS) (fun q => absurd rfl q)
set_option maxRecDepth 100000 in
set_option maxHeartbeats 8000000 in
theorem L_fault {p : Program} {l : Launch} {e : Env} {s : State} {m : MethodId} {below : List Frame} {meth : Method} {c : Code} {b L : Nat} {xs : Nat → Int32} {G : Gt} {ad ay : Nat → Nat} {bd i : Nat} {w v : va_W} {H : Heap} {locs : List Loc} {ls : Array Slot} {Q : State → Prop} (X : LC p s m meth c b L xs G) (hi : i + 5 ≤ L) (h : ST G ad ay bd w v) (hbd : bd < 2 ^ 29) (hP : va_P G.1 vwCl w H) (hP2 : va_P G.1 vwCl v H) (hDD : DD s ad ay) (hS : va_S (fun q : Nat => s.heap.size ≤ q) s.heap H locs) (hl : lv_has ls 4 [(0, .ref b), (1, .ref (ad 0)), (2, .ref (ay 0)), (3, .int (nI i))]) (kk : LKK p l e s m below meth c b G ad ay bd ls Q) : W p l e room_1 s m #[Value.ref b] below meth c H locs 42 875 Q (F0 m 200 ls []) := by
  obtain ⟨hx, hb, hml, hown, hts, hX, hbl, hK, hL⟩ := X
  have hA : ∀ q : Nat, s.heap.size ≤ q → (fun q : Nat => s.heap.size ≤ q) q := fun _ h => h
  have hbA : ¬ (fun q : Nat => s.heap.size ≤ q) b := Nat.not_le.mpr hbl
  have S0 : CallFix p m c cL_law 4 s #[Value.ref b] wsL_law RL := ⟨hx, hb, hml, hown, hts⟩
  have vi1 : vp_in (nI i + 1) L := by rw [show nI i + 1 = nI (i + 1) from nI_add i 1]; exact vp_in_nI (by omega) (by omega)
  have vi2 : vp_in (nI i + 2) L := by rw [show nI i + 2 = nI (i + 2) from nI_add i 2]; exact vp_in_nI (by omega) (by omega)
  have vi3 : vp_in (nI i + 3) L := by rw [show nI i + 3 = nI (i + 3) from nI_add i 3]; exact vp_in_nI (by omega) (by omega)
  have vi4 : vp_in (nI i + 4) L := by rw [show nI i + 4 = nI (i + 4) from nI_add i 4]; exact vp_in_nI (by omega) (by omega)
  have cw_X5 := show CallW room_1 s #[Value.ref b] RL RX5 23 yX5_fault cX5_fault 1 (some .int) wsX5_fault (rmv 5 110) 0 0 0 from cwV 0 hts gL_law_X5_fault rfl rfl rfl (by decide +kernel) ⟨Nat.le_of_ble_eq_true rfl, Nat.le_of_ble_eq_true rfl⟩
  have cw_X6 := show CallW room_1 s #[Value.ref b] RL RX6 26 yX6_fault cX6_fault 1 (some .int) wsX6_fault (rmv 4 91) 0 0 0 from cwV 0 hts gL_law_X6_fault rfl rfl rfl (by decide +kernel) ⟨Nat.le_of_ble_eq_true rfl, Nat.le_of_ble_eq_true rfl⟩
  refine lv_aload_n hx hb dL_law_200 rfl (lv_at hl 1 rfl) ?_
  obtain ⟨r, w2, v2, k5, k6, h2⟩ := c_fault (l := l) h hbd
  refine cLi (As := []) (rest := []) S0 hK hA hP hP2 (hDD w v h.x.2.2.1 h.x.2.2.2).1 hS k5 cw_X5 5 rfl rfl h.x.1 rfl hl.1 rfl (Nat.le_of_ble_eq_true rfl) dL_law_201 ⟨Nat.le_of_ble_eq_true rfl, Nat.le_of_ble_eq_true rfl⟩ (fun H locs hP hP2 hS => ?_)
  refine lv_aload_n hx hb dL_law_204 rfl (lv_at hl 2 rfl) ?_
  refine cLi (As := []) (rest := [.int r]) S0 hK hA hP2 hP (hDD w2 v h2.x.2.2.1 h.x.2.2.2).2 hS k6 cw_X6 6 rfl rfl h.x.2.1 rfl hl.1 rfl (Nat.le_of_ble_eq_true rfl) dL_law_205 ⟨Nat.le_of_ble_eq_true rfl, Nat.le_of_ble_eq_true rfl⟩ (fun H locs hP2 hP hS => ?_)
  exact lv_icmp_eq (tgt := 1004) hx hb dL_law_208 (by decide) (fun _ => kk w2 v2 H locs h2 hP hP2 hS) (fun q => absurd rfl q)
set_option maxRecDepth 100000 in
set_option maxHeartbeats 8000000 in
theorem L_city {p : Program} {l : Launch} {e : Env} {s : State} {m : MethodId} {below : List Frame} {meth : Method} {c : Code} {b L : Nat} {xs : Nat → Int32} {G : Gt} {ad ay : Nat → Nat} {bd i : Nat} {w v : va_W} {H : Heap} {locs : List Loc} {ls : Array Slot} {Q : State → Prop} (X : LC p s m meth c b L xs G) (hi : i + 5 ≤ L) (h : ST G ad ay bd w v) (hbd : bd < 2 ^ 29) (hP : va_P G.1 vwCl w H) (hP2 : va_P G.1 vwCl v H) (hDD : DD s ad ay) (hS : va_S (fun q : Nat => s.heap.size ≤ q) s.heap H locs) (hl : lv_has ls 4 [(0, .ref b), (1, .ref (ad 0)), (2, .ref (ay 0)), (3, .int (nI i))]) (kk : LKK p l e s m below meth c b G ad ay bd ls Q) : W p l e room_1 s m #[Value.ref b] below meth c H locs 42 875 Q (F0 m 213 ls []) := by
  obtain ⟨hx, hb, hml, hown, hts, hX, hbl, hK, hL⟩ := X
  have hA : ∀ q : Nat, s.heap.size ≤ q → (fun q : Nat => s.heap.size ≤ q) q := fun _ h => h
  have hbA : ¬ (fun q : Nat => s.heap.size ≤ q) b := Nat.not_le.mpr hbl
  have S0 : CallFix p m c cL_law 4 s #[Value.ref b] wsL_law RL := ⟨hx, hb, hml, hown, hts⟩
  have vi1 : vp_in (nI i + 1) L := by rw [show nI i + 1 = nI (i + 1) from nI_add i 1]; exact vp_in_nI (by omega) (by omega)
  have vi2 : vp_in (nI i + 2) L := by rw [show nI i + 2 = nI (i + 2) from nI_add i 2]; exact vp_in_nI (by omega) (by omega)
  have vi3 : vp_in (nI i + 3) L := by rw [show nI i + 3 = nI (i + 3) from nI_add i 3]; exact vp_in_nI (by omega) (by omega)
  have vi4 : vp_in (nI i + 4) L := by rw [show nI i + 4 = nI (i + 4) from nI_add i 4]; exact vp_in_nI (by omega) (by omega)
  have cw_X5 := show CallW room_1 s #[Value.ref b] RL RX5 27 yX5_city cX5_city 2 (some .int) wsX5_city (rmv 5 110) 0 0 0 from cwV 0 hts gL_law_X5_city rfl rfl rfl (by decide +kernel) ⟨Nat.le_of_ble_eq_true rfl, Nat.le_of_ble_eq_true rfl⟩
  have cw_X6 := show CallW room_1 s #[Value.ref b] RL RX6 30 yX6_city cX6_city 2 (some .int) wsX6_city (rmv 4 91) 0 0 0 from cwV 0 hts gL_law_X6_city rfl rfl rfl (by decide +kernel) ⟨Nat.le_of_ble_eq_true rfl, Nat.le_of_ble_eq_true rfl⟩
  refine lv_aload_n hx hb dL_law_213 rfl (lv_at hl 1 rfl) ?_
  obtain ⟨r, w2, v2, k5, k6, h2⟩ := c_city (l := l) h hbd
  refine cLi (As := []) (rest := []) S0 hK hA hP hP2 (hDD w v h.x.2.2.1 h.x.2.2.2).1 hS k5 cw_X5 5 rfl rfl h.x.1 rfl hl.1 rfl (Nat.le_of_ble_eq_true rfl) dL_law_214 ⟨Nat.le_of_ble_eq_true rfl, Nat.le_of_ble_eq_true rfl⟩ (fun H locs hP hP2 hS => ?_)
  refine lv_aload_n hx hb dL_law_217 rfl (lv_at hl 2 rfl) ?_
  refine cLi (As := []) (rest := [.int r]) S0 hK hA hP2 hP (hDD w2 v h2.x.2.2.1 h.x.2.2.2).2 hS k6 cw_X6 6 rfl rfl h.x.2.1 rfl hl.1 rfl (Nat.le_of_ble_eq_true rfl) dL_law_218 ⟨Nat.le_of_ble_eq_true rfl, Nat.le_of_ble_eq_true rfl⟩ (fun H locs hP2 hP hS => ?_)
  exact lv_icmp_eq (tgt := 1004) hx hb dL_law_221 (by decide) (fun _ => kk w2 v2 H locs h2 hP hP2 hS) (fun q => absurd rfl q)
set_option maxRecDepth 100000 in
set_option maxHeartbeats 8000000 in
theorem L_street {p : Program} {l : Launch} {e : Env} {s : State} {m : MethodId} {below : List Frame} {meth : Method} {c : Code} {b L : Nat} {xs : Nat → Int32} {G : Gt} {ad ay : Nat → Nat} {bd i : Nat} {w v : va_W} {H : Heap} {locs : List Loc} {ls : Array Slot} {Q : State → Prop} (X : LC p s m meth c b L xs G) (hi : i + 5 ≤ L) (h : ST G ad ay bd w v) (hbd : bd < 2 ^ 29) (hP : va_P G.1 vwCl w H) (hP2 : va_P G.1 vwCl v H) (hDD : DD s ad ay) (hS : va_S (fun q : Nat => s.heap.size ≤ q) s.heap H locs) (hl : lv_has ls 4 [(0, .ref b), (1, .ref (ad 0)), (2, .ref (ay 0)), (3, .int (nI i))]) (kk : LKK p l e s m below meth c b G ad ay bd ls Q) : W p l e room_1 s m #[Value.ref b] below meth c H locs 42 875 Q (F0 m 226 ls []) := by
  obtain ⟨hx, hb, hml, hown, hts, hX, hbl, hK, hL⟩ := X
  have hA : ∀ q : Nat, s.heap.size ≤ q → (fun q : Nat => s.heap.size ≤ q) q := fun _ h => h
  have hbA : ¬ (fun q : Nat => s.heap.size ≤ q) b := Nat.not_le.mpr hbl
  have S0 : CallFix p m c cL_law 4 s #[Value.ref b] wsL_law RL := ⟨hx, hb, hml, hown, hts⟩
  have vi1 : vp_in (nI i + 1) L := by rw [show nI i + 1 = nI (i + 1) from nI_add i 1]; exact vp_in_nI (by omega) (by omega)
  have vi2 : vp_in (nI i + 2) L := by rw [show nI i + 2 = nI (i + 2) from nI_add i 2]; exact vp_in_nI (by omega) (by omega)
  have vi3 : vp_in (nI i + 3) L := by rw [show nI i + 3 = nI (i + 3) from nI_add i 3]; exact vp_in_nI (by omega) (by omega)
  have vi4 : vp_in (nI i + 4) L := by rw [show nI i + 4 = nI (i + 4) from nI_add i 4]; exact vp_in_nI (by omega) (by omega)
  have cw_X5 := show CallW room_1 s #[Value.ref b] RL RX5 31 yX5_street cX5_street 3 (some .int) wsX5_street (rmv 3 65) 0 0 2 from cwV 2 hts gL_law_X5_street rfl rfl rfl (by decide +kernel) ⟨Nat.le_of_ble_eq_true rfl, Nat.le_of_ble_eq_true rfl⟩
  have cw_X6 := show CallW room_1 s #[Value.ref b] RL RX6 35 yX6_street cX6_street 3 (some .int) wsX6_street (rmv 2 45) 0 0 2 from cwV 2 hts gL_law_X6_street rfl rfl rfl (by decide +kernel) ⟨Nat.le_of_ble_eq_true rfl, Nat.le_of_ble_eq_true rfl⟩
  refine lv_aload_n hx hb dL_law_226 rfl (lv_at hl 1 rfl) ?_
  refine lv_aload_n hx hb dL_law_227 rfl (lv_at hl 0 rfl) ?_
  refine lv_iload_n hx hb dL_law_228 rfl (lv_at hl 3 rfl) ?_
  refine lv_iconst (v := 1) hx hb dL_law_229 (by decide) ?_
  refine lv_iadd hx hb dL_law_230 ?_
  refine va_sld hx hb hX hbl hbA hS vi1 dL_law_231 ?_
  refine lv_aload_n hx hb dL_law_232 rfl (lv_at hl 0 rfl) ?_
  refine lv_iload_n hx hb dL_law_233 rfl (lv_at hl 3 rfl) ?_
  refine lv_iconst (v := 2) hx hb dL_law_234 (by decide) ?_
  refine lv_iadd hx hb dL_law_235 ?_
  refine va_sld hx hb hX hbl hbA hS vi2 dL_law_236 ?_
  obtain ⟨r, w2, v2, k5, k6, h2⟩ := c_street (l := l) h hbd (xs (nI i + 1).toNatClampNeg) (xs (nI i + 2).toNatClampNeg)
  refine cLi (As := [.int (xs (nI i + 1).toNatClampNeg), .int (xs (nI i + 2).toNatClampNeg)]) (rest := []) S0 hK hA hP hP2 (hDD w v h.x.2.2.1 h.x.2.2.2).1 hS k5 cw_X5 5 rfl rfl h.x.1 rfl hl.1 rfl (Nat.le_of_ble_eq_true rfl) dL_law_237 ⟨Nat.le_of_ble_eq_true rfl, Nat.le_of_ble_eq_true rfl⟩ (fun H locs hP hP2 hS => ?_)
  refine lv_aload_n hx hb dL_law_240 rfl (lv_at hl 2 rfl) ?_
  refine lv_aload_n hx hb dL_law_241 rfl (lv_at hl 0 rfl) ?_
  refine lv_iload_n hx hb dL_law_242 rfl (lv_at hl 3 rfl) ?_
  refine lv_iconst (v := 1) hx hb dL_law_243 (by decide) ?_
  refine lv_iadd hx hb dL_law_244 ?_
  refine va_sld hx hb hX hbl hbA hS vi1 dL_law_245 ?_
  refine lv_aload_n hx hb dL_law_246 rfl (lv_at hl 0 rfl) ?_
  refine lv_iload_n hx hb dL_law_247 rfl (lv_at hl 3 rfl) ?_
  refine lv_iconst (v := 2) hx hb dL_law_248 (by decide) ?_
  refine lv_iadd hx hb dL_law_249 ?_
  refine va_sld hx hb hX hbl hbA hS vi2 dL_law_250 ?_
  refine cLi (As := [.int (xs (nI i + 1).toNatClampNeg), .int (xs (nI i + 2).toNatClampNeg)]) (rest := [.int r]) S0 hK hA hP2 hP (hDD w2 v h2.x.2.2.1 h.x.2.2.2).2 hS k6 cw_X6 6 rfl rfl h.x.2.1 rfl hl.1 rfl (Nat.le_of_ble_eq_true rfl) dL_law_251 ⟨Nat.le_of_ble_eq_true rfl, Nat.le_of_ble_eq_true rfl⟩ (fun H locs hP2 hP hS => ?_)
  exact lv_icmp_eq (tgt := 1004) hx hb dL_law_254 (by decide) (fun _ => kk w2 v2 H locs h2 hP hP2 hS) (fun q => absurd rfl q)
