set_option maxRecDepth 100000 in
set_option maxHeartbeats 8000000 in
theorem L_years {p : Program} {l : Launch} {e : Env} {s : State} {m : MethodId} {below : List Frame} {meth : Method} {c : Code} {b L : Nat} {xs : Nat → Int32} {G : Gt} {ad ay : Nat → Nat} {bd i : Nat} {w v : va_W} {H : Heap} {locs : List Loc} {ls : Array Slot} {Q : State → Prop} (X : LC p s m meth c b L xs G) (hi : i + 5 ≤ L) (h : ST G ad ay bd w v) (hbd : bd < 2 ^ 29) (hP : va_P G.1 vwCl w H) (hP2 : va_P G.1 vwCl v H) (hDD : DD s ad ay) (hS : va_S (fun q : Nat => s.heap.size ≤ q) s.heap H locs) (hl : lv_has ls 4 [(0, .ref b), (1, .ref (ad 0)), (2, .ref (ay 0)), (3, .int (nI i))]) (kk : LKK p l e s m below meth c b G ad ay bd ls Q) : W p l e room_1 s m #[Value.ref b] below meth c H locs 42 875 Q (F0 m 912 ls []) := by
  obtain ⟨hx, hb, hml, hown, hts, hX, hbl, hK, hL⟩ := X
  have hA : ∀ q : Nat, s.heap.size ≤ q → (fun q : Nat => s.heap.size ≤ q) q := fun _ h => h
  have hbA : ¬ (fun q : Nat => s.heap.size ≤ q) b := Nat.not_le.mpr hbl
  have S0 : CallFix p m c cL_law 4 s #[Value.ref b] wsL_law RL := ⟨hx, hb, hml, hown, hts⟩
  have vi1 : vp_in (nI i + 1) L := by rw [show nI i + 1 = nI (i + 1) from nI_add i 1]; exact vp_in_nI (by omega) (by omega)
  have vi2 : vp_in (nI i + 2) L := by rw [show nI i + 2 = nI (i + 2) from nI_add i 2]; exact vp_in_nI (by omega) (by omega)
  have vi3 : vp_in (nI i + 3) L := by rw [show nI i + 3 = nI (i + 3) from nI_add i 3]; exact vp_in_nI (by omega) (by omega)
  have vi4 : vp_in (nI i + 4) L := by rw [show nI i + 4 = nI (i + 4) from nI_add i 4]; exact vp_in_nI (by omega) (by omega)
  have cw_X5 := show CallW room_1 s #[Value.ref b] RL RX5 123 yX5_years cX5_years 5 (some .int) wsX5_years (rmv 6 133) 0 0 1 from cwV 1 hts gL_law_X5_years rfl rfl rfl (by decide +kernel) ⟨Nat.le_of_ble_eq_true rfl, Nat.le_of_ble_eq_true rfl⟩
  have cw_X6 := show CallW room_1 s #[Value.ref b] RL RX6 126 yX6_years cX6_years 5 (some .int) wsX6_years (rmv 5 120) 0 0 1 from cwV 1 hts gL_law_X6_years rfl rfl rfl (by decide +kernel) ⟨Nat.le_of_ble_eq_true rfl, Nat.le_of_ble_eq_true rfl⟩
  refine lv_aload_n hx hb dL_law_912 rfl (lv_at hl 1 rfl) ?_
  refine lv_aload_n hx hb dL_law_913 rfl (lv_at hl 0 rfl) ?_
  refine lv_iload_n hx hb dL_law_914 rfl (lv_at hl 3 rfl) ?_
  refine lv_iconst (v := 1) hx hb dL_law_915 (by decide) ?_
  refine lv_iadd hx hb dL_law_916 ?_
  refine va_sld hx hb hX hbl hbA hS vi1 dL_law_917 ?_
  obtain ⟨r, w2, v2, k5, k6, h2⟩ := c_years (l := l) h hbd (xs (nI i + 1).toNatClampNeg)
  refine cLi (As := [.int (xs (nI i + 1).toNatClampNeg)]) (rest := []) S0 hK hA hP hP2 (hDD w v h.x.2.2.1 h.x.2.2.2).1 hS k5 cw_X5 5 rfl rfl h.x.1 rfl hl.1 rfl (Nat.le_of_ble_eq_true rfl) dL_law_918 ⟨Nat.le_of_ble_eq_true rfl, Nat.le_of_ble_eq_true rfl⟩ (fun H locs hP hP2 hS => ?_)
  refine lv_aload_n hx hb dL_law_921 rfl (lv_at hl 2 rfl) ?_
  refine lv_aload_n hx hb dL_law_922 rfl (lv_at hl 0 rfl) ?_
  refine lv_iload_n hx hb dL_law_923 rfl (lv_at hl 3 rfl) ?_
  refine lv_iconst (v := 1) hx hb dL_law_924 (by decide) ?_
  refine lv_iadd hx hb dL_law_925 ?_
  refine va_sld hx hb hX hbl hbA hS vi1 dL_law_926 ?_
  refine cLi (As := [.int (xs (nI i + 1).toNatClampNeg)]) (rest := [.int r]) S0 hK hA hP2 hP (hDD w2 v h2.x.2.2.1 h.x.2.2.2).2 hS k6 cw_X6 6 rfl rfl h.x.2.1 rfl hl.1 rfl (Nat.le_of_ble_eq_true rfl) dL_law_927 ⟨Nat.le_of_ble_eq_true rfl, Nat.le_of_ble_eq_true rfl⟩ (fun H locs hP2 hP hS => ?_)
  exact lv_icmp_eq (tgt := 1004) hx hb dL_law_930 (by decide) (fun _ => kk w2 v2 H locs h2 hP hP2 hS) (fun q => absurd rfl q)
set_option maxRecDepth 100000 in
set_option maxHeartbeats 8000000 in
theorem L_keep {p : Program} {l : Launch} {e : Env} {s : State} {m : MethodId} {below : List Frame} {meth : Method} {c : Code} {b L : Nat} {xs : Nat → Int32} {G : Gt} {ad ay : Nat → Nat} {bd i : Nat} {w v : va_W} {H : Heap} {locs : List Loc} {ls : Array Slot} {Q : State → Prop} (X : LC p s m meth c b L xs G) (hi : i + 5 ≤ L) (h : ST G ad ay bd w v) (hbd : bd < 2 ^ 29) (hP : va_P G.1 vwCl w H) (hP2 : va_P G.1 vwCl v H) (hDD : DD s ad ay) (hS : va_S (fun q : Nat => s.heap.size ≤ q) s.heap H locs) (hl : lv_has ls 4 [(0, .ref b), (1, .ref (ad 0)), (2, .ref (ay 0)), (3, .int (nI i))]) (kk : LKK p l e s m below meth c b G ad ay bd ls Q) : W p l e room_1 s m #[Value.ref b] below meth c H locs 42 875 Q (F0 m 935 ls []) := by
  obtain ⟨hx, hb, hml, hown, hts, hX, hbl, hK, hL⟩ := X
  have hA : ∀ q : Nat, s.heap.size ≤ q → (fun q : Nat => s.heap.size ≤ q) q := fun _ h => h
  have hbA : ¬ (fun q : Nat => s.heap.size ≤ q) b := Nat.not_le.mpr hbl
  have S0 : CallFix p m c cL_law 4 s #[Value.ref b] wsL_law RL := ⟨hx, hb, hml, hown, hts⟩
  have vi1 : vp_in (nI i + 1) L := by rw [show nI i + 1 = nI (i + 1) from nI_add i 1]; exact vp_in_nI (by omega) (by omega)
  have vi2 : vp_in (nI i + 2) L := by rw [show nI i + 2 = nI (i + 2) from nI_add i 2]; exact vp_in_nI (by omega) (by omega)
  have vi3 : vp_in (nI i + 3) L := by rw [show nI i + 3 = nI (i + 3) from nI_add i 3]; exact vp_in_nI (by omega) (by omega)
  have vi4 : vp_in (nI i + 4) L := by rw [show nI i + 4 = nI (i + 4) from nI_add i 4]; exact vp_in_nI (by omega) (by omega)
  have cw_X5 := show CallW room_1 s #[Value.ref b] RL RX5 127 yX5_keep cX5_keep 2 (some .int) wsX5_keep (rmv 2 41) 0 0 1 from cwV 1 hts gL_law_X5_keep rfl rfl rfl (by decide +kernel) ⟨Nat.le_of_ble_eq_true rfl, Nat.le_of_ble_eq_true rfl⟩
  have cw_X6 := show CallW room_1 s #[Value.ref b] RL RX6 130 yX6_keep cX6_keep 3 (some .int) wsX6_keep (rmv 1 25) 0 0 1 from cwV 1 hts gL_law_X6_keep rfl rfl rfl (by decide +kernel) ⟨Nat.le_of_ble_eq_true rfl, Nat.le_of_ble_eq_true rfl⟩
  refine lv_aload_n hx hb dL_law_935 rfl (lv_at hl 1 rfl) ?_
  refine lv_aload_n hx hb dL_law_936 rfl (lv_at hl 0 rfl) ?_
  refine lv_iload_n hx hb dL_law_937 rfl (lv_at hl 3 rfl) ?_
  refine lv_iconst (v := 1) hx hb dL_law_938 (by decide) ?_
  refine lv_iadd hx hb dL_law_939 ?_
  refine va_sld hx hb hX hbl hbA hS vi1 dL_law_940 ?_
  obtain ⟨r, w2, v2, k5, k6, h2⟩ := c_keep (l := l) h hbd (xs (nI i + 1).toNatClampNeg)
  refine cLi (As := [.int (xs (nI i + 1).toNatClampNeg)]) (rest := []) S0 hK hA hP hP2 (hDD w v h.x.2.2.1 h.x.2.2.2).1 hS k5 cw_X5 5 rfl rfl h.x.1 rfl hl.1 rfl (Nat.le_of_ble_eq_true rfl) dL_law_941 ⟨Nat.le_of_ble_eq_true rfl, Nat.le_of_ble_eq_true rfl⟩ (fun H locs hP hP2 hS => ?_)
  refine lv_aload_n hx hb dL_law_944 rfl (lv_at hl 2 rfl) ?_
  refine lv_aload_n hx hb dL_law_945 rfl (lv_at hl 0 rfl) ?_
  refine lv_iload_n hx hb dL_law_946 rfl (lv_at hl 3 rfl) ?_
  refine lv_iconst (v := 1) hx hb dL_law_947 (by decide) ?_
  refine lv_iadd hx hb dL_law_948 ?_
  refine va_sld hx hb hX hbl hbA hS vi1 dL_law_949 ?_
  refine cLi (As := [.int (xs (nI i + 1).toNatClampNeg)]) (rest := [.int r]) S0 hK hA hP2 hP (hDD w2 v h2.x.2.2.1 h.x.2.2.2).2 hS k6 cw_X6 6 rfl rfl h.x.2.1 rfl hl.1 rfl (Nat.le_of_ble_eq_true rfl) dL_law_950 ⟨Nat.le_of_ble_eq_true rfl, Nat.le_of_ble_eq_true rfl⟩ (fun H locs hP2 hP hS => ?_)
  exact lv_icmp_eq (tgt := 1004) hx hb dL_law_953 (by decide) (fun _ => kk w2 v2 H locs h2 hP hP2 hS) (fun q => absurd rfl q)
set_option maxRecDepth 100000 in
set_option maxHeartbeats 8000000 in
theorem L_again {p : Program} {l : Launch} {e : Env} {s : State} {m : MethodId} {below : List Frame} {meth : Method} {c : Code} {b L : Nat} {xs : Nat → Int32} {G : Gt} {ad ay : Nat → Nat} {bd i : Nat} {w v : va_W} {H : Heap} {locs : List Loc} {ls : Array Slot} {Q : State → Prop} (X : LC p s m meth c b L xs G) (hi : i + 5 ≤ L) (h : ST G ad ay bd w v) (hbd : bd < 2 ^ 29) (hP : va_P G.1 vwCl w H) (hP2 : va_P G.1 vwCl v H) (hDD : DD s ad ay) (hS : va_S (fun q : Nat => s.heap.size ≤ q) s.heap H locs) (hl : lv_has ls 4 [(0, .ref b), (1, .ref (ad 0)), (2, .ref (ay 0)), (3, .int (nI i))]) (kk : LKK p l e s m below meth c b G ad ay bd ls Q) : W p l e room_1 s m #[Value.ref b] below meth c H locs 42 875 Q (F0 m 958 ls []) := by
  obtain ⟨hx, hb, hml, hown, hts, hX, hbl, hK, hL⟩ := X
  have hA : ∀ q : Nat, s.heap.size ≤ q → (fun q : Nat => s.heap.size ≤ q) q := fun _ h => h
  have hbA : ¬ (fun q : Nat => s.heap.size ≤ q) b := Nat.not_le.mpr hbl
  have S0 : CallFix p m c cL_law 4 s #[Value.ref b] wsL_law RL := ⟨hx, hb, hml, hown, hts⟩
  have vi1 : vp_in (nI i + 1) L := by rw [show nI i + 1 = nI (i + 1) from nI_add i 1]; exact vp_in_nI (by omega) (by omega)
  have vi2 : vp_in (nI i + 2) L := by rw [show nI i + 2 = nI (i + 2) from nI_add i 2]; exact vp_in_nI (by omega) (by omega)
  have vi3 : vp_in (nI i + 3) L := by rw [show nI i + 3 = nI (i + 3) from nI_add i 3]; exact vp_in_nI (by omega) (by omega)
  have vi4 : vp_in (nI i + 4) L := by rw [show nI i + 4 = nI (i + 4) from nI_add i 4]; exact vp_in_nI (by omega) (by omega)
  have cw_X5 := show CallW room_1 s #[Value.ref b] RL RX5 131 yX5_again cX5_again 2 (some .int) wsX5_again (rmv 2 41) 0 0 1 from cwV 1 hts gL_law_X5_again rfl rfl rfl (by decide +kernel) ⟨Nat.le_of_ble_eq_true rfl, Nat.le_of_ble_eq_true rfl⟩
  have cw_X6 := show CallW room_1 s #[Value.ref b] RL RX6 134 yX6_again cX6_again 3 (some .int) wsX6_again (rmv 1 25) 0 0 1 from cwV 1 hts gL_law_X6_again rfl rfl rfl (by decide +kernel) ⟨Nat.le_of_ble_eq_true rfl, Nat.le_of_ble_eq_true rfl⟩
  refine lv_aload_n hx hb dL_law_958 rfl (lv_at hl 1 rfl) ?_
  refine lv_aload_n hx hb dL_law_959 rfl (lv_at hl 0 rfl) ?_
  refine lv_iload_n hx hb dL_law_960 rfl (lv_at hl 3 rfl) ?_
  refine lv_iconst (v := 1) hx hb dL_law_961 (by decide) ?_
  refine lv_iadd hx hb dL_law_962 ?_
  refine va_sld hx hb hX hbl hbA hS vi1 dL_law_963 ?_
  obtain ⟨r, w2, v2, k5, k6, h2⟩ := c_again (l := l) h hbd (xs (nI i + 1).toNatClampNeg)
  refine cLi (As := [.int (xs (nI i + 1).toNatClampNeg)]) (rest := []) S0 hK hA hP hP2 (hDD w v h.x.2.2.1 h.x.2.2.2).1 hS k5 cw_X5 5 rfl rfl h.x.1 rfl hl.1 rfl (Nat.le_of_ble_eq_true rfl) dL_law_964 ⟨Nat.le_of_ble_eq_true rfl, Nat.le_of_ble_eq_true rfl⟩ (fun H locs hP hP2 hS => ?_)
  refine lv_aload_n hx hb dL_law_967 rfl (lv_at hl 2 rfl) ?_
  refine lv_aload_n hx hb dL_law_968 rfl (lv_at hl 0 rfl) ?_
  refine lv_iload_n hx hb dL_law_969 rfl (lv_at hl 3 rfl) ?_
  refine lv_iconst (v := 1) hx hb dL_law_970 (by decide) ?_
  refine lv_iadd hx hb dL_law_971 ?_
  refine va_sld hx hb hX hbl hbA hS vi1 dL_law_972 ?_
  refine cLi (As := [.int (xs (nI i + 1).toNatClampNeg)]) (rest := [.int r]) S0 hK hA hP2 hP (hDD w2 v h2.x.2.2.1 h.x.2.2.2).2 hS k6 cw_X6 6 rfl rfl h.x.2.1 rfl hl.1 rfl (Nat.le_of_ble_eq_true rfl) dL_law_973 ⟨Nat.le_of_ble_eq_true rfl, Nat.le_of_ble_eq_true rfl⟩ (fun H locs hP2 hP hS => ?_)
  exact lv_icmp_eq (tgt := 1004) hx hb dL_law_976 (by decide) (fun _ => kk w2 v2 H locs h2 hP hP2 hS) (fun q => absurd rfl q)
set_option maxRecDepth 100000 in
set_option maxHeartbeats 8000000 in
theorem L_count {p : Program} {l : Launch} {e : Env} {s : State} {m : MethodId} {below : List Frame} {meth : Method} {c : Code} {b L : Nat} {xs : Nat → Int32} {G : Gt} {ad ay : Nat → Nat} {bd i : Nat} {w v : va_W} {H : Heap} {locs : List Loc} {ls : Array Slot} {Q : State → Prop} (X : LC p s m meth c b L xs G) (hi : i + 5 ≤ L) (h : ST G ad ay bd w v) (hbd : bd < 2 ^ 29) (hP : va_P G.1 vwCl w H) (hP2 : va_P G.1 vwCl v H) (hDD : DD s ad ay) (hS : va_S (fun q : Nat => s.heap.size ≤ q) s.heap H locs) (hl : lv_has ls 4 [(0, .ref b), (1, .ref (ad 0)), (2, .ref (ay 0)), (3, .int (nI i))]) (kk : LKK p l e s m below meth c b G ad ay bd ls Q) : W p l e room_1 s m #[Value.ref b] below meth c H locs 42 875 Q (F0 m 981 ls []) := by
  obtain ⟨hx, hb, hml, hown, hts, hX, hbl, hK, hL⟩ := X
  have hA : ∀ q : Nat, s.heap.size ≤ q → (fun q : Nat => s.heap.size ≤ q) q := fun _ h => h
  have hbA : ¬ (fun q : Nat => s.heap.size ≤ q) b := Nat.not_le.mpr hbl
  have S0 : CallFix p m c cL_law 4 s #[Value.ref b] wsL_law RL := ⟨hx, hb, hml, hown, hts⟩
  have vi1 : vp_in (nI i + 1) L := by rw [show nI i + 1 = nI (i + 1) from nI_add i 1]; exact vp_in_nI (by omega) (by omega)
  have vi2 : vp_in (nI i + 2) L := by rw [show nI i + 2 = nI (i + 2) from nI_add i 2]; exact vp_in_nI (by omega) (by omega)
  have vi3 : vp_in (nI i + 3) L := by rw [show nI i + 3 = nI (i + 3) from nI_add i 3]; exact vp_in_nI (by omega) (by omega)
  have vi4 : vp_in (nI i + 4) L := by rw [show nI i + 4 = nI (i + 4) from nI_add i 4]; exact vp_in_nI (by omega) (by omega)
  have cw_X5 := show CallW room_1 s #[Value.ref b] RL RX5 135 yX5_count cX5_count 2 (some .int) wsX5_count (rmv 4 84) 0 0 1 from cwV 1 hts gL_law_X5_count rfl rfl rfl (by decide +kernel) ⟨Nat.le_of_ble_eq_true rfl, Nat.le_of_ble_eq_true rfl⟩
  have cw_X6 := show CallW room_1 s #[Value.ref b] RL RX6 138 yX6_count cX6_count 2 (some .int) wsX6_count (rmv 1 23) 0 0 1 from cwV 1 hts gL_law_X6_count rfl rfl rfl (by decide +kernel) ⟨Nat.le_of_ble_eq_true rfl, Nat.le_of_ble_eq_true rfl⟩
  refine lv_aload_n hx hb dL_law_981 rfl (lv_at hl 1 rfl) ?_
  refine lv_aload_n hx hb dL_law_982 rfl (lv_at hl 0 rfl) ?_
  refine lv_iload_n hx hb dL_law_983 rfl (lv_at hl 3 rfl) ?_
  refine lv_iconst (v := 1) hx hb dL_law_984 (by decide) ?_
  refine lv_iadd hx hb dL_law_985 ?_
  refine va_sld hx hb hX hbl hbA hS vi1 dL_law_986 ?_
  obtain ⟨r, w2, v2, k5, k6, h2⟩ := c_count (l := l) h hbd (xs (nI i + 1).toNatClampNeg)
  refine cLi (As := [.int (xs (nI i + 1).toNatClampNeg)]) (rest := []) S0 hK hA hP hP2 (hDD w v h.x.2.2.1 h.x.2.2.2).1 hS k5 cw_X5 5 rfl rfl h.x.1 rfl hl.1 rfl (Nat.le_of_ble_eq_true rfl) dL_law_987 ⟨Nat.le_of_ble_eq_true rfl, Nat.le_of_ble_eq_true rfl⟩ (fun H locs hP hP2 hS => ?_)
  refine lv_aload_n hx hb dL_law_990 rfl (lv_at hl 2 rfl) ?_
  refine lv_aload_n hx hb dL_law_991 rfl (lv_at hl 0 rfl) ?_
  refine lv_iload_n hx hb dL_law_992 rfl (lv_at hl 3 rfl) ?_
  refine lv_iconst (v := 1) hx hb dL_law_993 (by decide) ?_
  refine lv_iadd hx hb dL_law_994 ?_
  refine va_sld hx hb hX hbl hbA hS vi1 dL_law_995 ?_
  refine cLi (As := [.int (xs (nI i + 1).toNatClampNeg)]) (rest := [.int r]) S0 hK hA hP2 hP (hDD w2 v h2.x.2.2.1 h.x.2.2.2).2 hS k6 cw_X6 6 rfl rfl h.x.2.1 rfl hl.1 rfl (Nat.le_of_ble_eq_true rfl) dL_law_996 ⟨Nat.le_of_ble_eq_true rfl, Nat.le_of_ble_eq_true rfl⟩ (fun H locs hP2 hP hS => ?_)
  exact lv_icmp_eq (tgt := 1004) hx hb dL_law_999 (by decide) (fun _ => kk w2 v2 H locs h2 hP hP2 hS) (fun q => absurd rfl q)
