set_option maxRecDepth 100000 in
set_option maxHeartbeats 8000000 in
theorem L_whose {p : Program} {l : Launch} {e : Env} {s : State} {m : MethodId} {below : List Frame} {meth : Method} {c : Code} {b L : Nat} {xs : Nat → Int32} {G : Gt} {ad ay : Nat → Nat} {bd i : Nat} {w v : va_W} {H : Heap} {locs : List Loc} {ls : Array Slot} {Q : State → Prop} (X : LC p s m meth c b L xs G) (hi : i + 5 ≤ L) (h : ST G ad ay bd w v) (hbd : bd < 2 ^ 29) (hP : va_P G.1 vwCl w H) (hP2 : va_P G.1 vwCl v H) (hDD : DD s ad ay) (hS : va_S (fun q : Nat => s.heap.size ≤ q) s.heap H locs) (hl : lv_has ls 4 [(0, .ref b), (1, .ref (ad 0)), (2, .ref (ay 0)), (3, .int (nI i))]) (kk : LKK p l e s m below meth c b G ad ay bd ls Q) : W p l e room_1 s m #[Value.ref b] below meth c H locs 42 875 Q (F0 m 674 ls []) := by
  obtain ⟨hx, hb, hml, hown, hts, hX, hbl, hK, hL⟩ := X
  have hA : ∀ q : Nat, s.heap.size ≤ q → (fun q : Nat => s.heap.size ≤ q) q := fun _ h => h
  have hbA : ¬ (fun q : Nat => s.heap.size ≤ q) b := Nat.not_le.mpr hbl
  have S0 : CallFix p m c cL_law 4 s #[Value.ref b] wsL_law RL := ⟨hx, hb, hml, hown, hts⟩
  have vi1 : vp_in (nI i + 1) L := by rw [show nI i + 1 = nI (i + 1) from nI_add i 1]; exact vp_in_nI (by omega) (by omega)
  have vi2 : vp_in (nI i + 2) L := by rw [show nI i + 2 = nI (i + 2) from nI_add i 2]; exact vp_in_nI (by omega) (by omega)
  have vi3 : vp_in (nI i + 3) L := by rw [show nI i + 3 = nI (i + 3) from nI_add i 3]; exact vp_in_nI (by omega) (by omega)
  have vi4 : vp_in (nI i + 4) L := by rw [show nI i + 4 = nI (i + 4) from nI_add i 4]; exact vp_in_nI (by omega) (by omega)
  have cw_X5 := show CallW room_1 s #[Value.ref b] RL RX5 100 yX5_whose cX5_whose 6 (some .int) wsX5_whose (rmv 2 46) 0 0 1 from cwV 1 hts gL_law_X5_whose rfl rfl rfl (by decide +kernel) ⟨Nat.le_of_ble_eq_true rfl, Nat.le_of_ble_eq_true rfl⟩
  have cw_X6 := show CallW room_1 s #[Value.ref b] RL RX6 103 yX6_whose cX6_whose 9 (some .int) wsX6_whose (rmv 1 25) 0 0 1 from cwV 1 hts gL_law_X6_whose rfl rfl rfl (by decide +kernel) ⟨Nat.le_of_ble_eq_true rfl, Nat.le_of_ble_eq_true rfl⟩
  refine lv_aload_n hx hb dL_law_674 rfl (lv_at hl 1 rfl) ?_
  refine lv_aload_n hx hb dL_law_675 rfl (lv_at hl 0 rfl) ?_
  refine lv_iload_n hx hb dL_law_676 rfl (lv_at hl 3 rfl) ?_
  refine lv_iconst (v := 1) hx hb dL_law_677 (by decide) ?_
  refine lv_iadd hx hb dL_law_678 ?_
  refine va_sld hx hb hX hbl hbA hS vi1 dL_law_679 ?_
  obtain ⟨r, w2, v2, k5, k6, h2⟩ := c_whose (l := l) h hbd (xs (nI i + 1).toNatClampNeg)
  refine cLi (As := [.int (xs (nI i + 1).toNatClampNeg)]) (rest := []) S0 hK hA hP hP2 (hDD w v h.x.2.2.1 h.x.2.2.2).1 hS k5 cw_X5 5 rfl rfl h.x.1 rfl hl.1 rfl (Nat.le_of_ble_eq_true rfl) dL_law_680 ⟨Nat.le_of_ble_eq_true rfl, Nat.le_of_ble_eq_true rfl⟩ (fun H locs hP hP2 hS => ?_)
  refine lv_aload_n hx hb dL_law_683 rfl (lv_at hl 2 rfl) ?_
  refine lv_aload_n hx hb dL_law_684 rfl (lv_at hl 0 rfl) ?_
  refine lv_iload_n hx hb dL_law_685 rfl (lv_at hl 3 rfl) ?_
  refine lv_iconst (v := 1) hx hb dL_law_686 (by decide) ?_
  refine lv_iadd hx hb dL_law_687 ?_
  refine va_sld hx hb hX hbl hbA hS vi1 dL_law_688 ?_
  refine cLi (As := [.int (xs (nI i + 1).toNatClampNeg)]) (rest := [.int r]) S0 hK hA hP2 hP (hDD w2 v h2.x.2.2.1 h.x.2.2.2).2 hS k6 cw_X6 6 rfl rfl h.x.2.1 rfl hl.1 rfl (Nat.le_of_ble_eq_true rfl) dL_law_689 ⟨Nat.le_of_ble_eq_true rfl, Nat.le_of_ble_eq_true rfl⟩ (fun H locs hP2 hP hS => ?_)
  exact lv_icmp_eq (tgt := 1004) hx hb dL_law_692 (by decide) (fun _ => kk w2 v2 H locs h2 hP hP2 hS) (fun q => absurd rfl q)
set_option maxRecDepth 100000 in
set_option maxHeartbeats 8000000 in
theorem L_share {p : Program} {l : Launch} {e : Env} {s : State} {m : MethodId} {below : List Frame} {meth : Method} {c : Code} {b L : Nat} {xs : Nat → Int32} {G : Gt} {ad ay : Nat → Nat} {bd i : Nat} {w v : va_W} {H : Heap} {locs : List Loc} {ls : Array Slot} {Q : State → Prop} (X : LC p s m meth c b L xs G) (hi : i + 5 ≤ L) (h : ST G ad ay bd w v) (hbd : bd < 2 ^ 29) (hP : va_P G.1 vwCl w H) (hP2 : va_P G.1 vwCl v H) (hDD : DD s ad ay) (hS : va_S (fun q : Nat => s.heap.size ≤ q) s.heap H locs) (hl : lv_has ls 4 [(0, .ref b), (1, .ref (ad 0)), (2, .ref (ay 0)), (3, .int (nI i))]) (kk : LKK p l e s m below meth c b G ad ay bd ls Q) : W p l e room_1 s m #[Value.ref b] below meth c H locs 42 875 Q (F0 m 697 ls []) := by
  obtain ⟨hx, hb, hml, hown, hts, hX, hbl, hK, hL⟩ := X
  have hA : ∀ q : Nat, s.heap.size ≤ q → (fun q : Nat => s.heap.size ≤ q) q := fun _ h => h
  have hbA : ¬ (fun q : Nat => s.heap.size ≤ q) b := Nat.not_le.mpr hbl
  have S0 : CallFix p m c cL_law 4 s #[Value.ref b] wsL_law RL := ⟨hx, hb, hml, hown, hts⟩
  have vi1 : vp_in (nI i + 1) L := by rw [show nI i + 1 = nI (i + 1) from nI_add i 1]; exact vp_in_nI (by omega) (by omega)
  have vi2 : vp_in (nI i + 2) L := by rw [show nI i + 2 = nI (i + 2) from nI_add i 2]; exact vp_in_nI (by omega) (by omega)
  have vi3 : vp_in (nI i + 3) L := by rw [show nI i + 3 = nI (i + 3) from nI_add i 3]; exact vp_in_nI (by omega) (by omega)
  have vi4 : vp_in (nI i + 4) L := by rw [show nI i + 4 = nI (i + 4) from nI_add i 4]; exact vp_in_nI (by omega) (by omega)
  have cw_X5 := show CallW room_1 s #[Value.ref b] RL RX5 104 yX5_share cX5_share 8 (some .int) wsX5_share (rmv 5 114) 0 0 2 from cwV 2 hts gL_law_X5_share rfl rfl rfl (by decide +kernel) ⟨Nat.le_of_ble_eq_true rfl, Nat.le_of_ble_eq_true rfl⟩
  have cw_X6 := show CallW room_1 s #[Value.ref b] RL RX6 108 yX6_share cX6_share 6 (some .int) wsX6_share (rmv 6 137) 0 0 2 from cwV 2 hts gL_law_X6_share rfl rfl rfl (by decide +kernel) ⟨Nat.le_of_ble_eq_true rfl, Nat.le_of_ble_eq_true rfl⟩
  refine lv_aload_n hx hb dL_law_697 rfl (lv_at hl 1 rfl) ?_
  refine lv_aload_n hx hb dL_law_698 rfl (lv_at hl 0 rfl) ?_
  refine lv_iload_n hx hb dL_law_699 rfl (lv_at hl 3 rfl) ?_
  refine lv_iconst (v := 1) hx hb dL_law_700 (by decide) ?_
  refine lv_iadd hx hb dL_law_701 ?_
  refine va_sld hx hb hX hbl hbA hS vi1 dL_law_702 ?_
  refine lv_aload_n hx hb dL_law_703 rfl (lv_at hl 0 rfl) ?_
  refine lv_iload_n hx hb dL_law_704 rfl (lv_at hl 3 rfl) ?_
  refine lv_iconst (v := 2) hx hb dL_law_705 (by decide) ?_
  refine lv_iadd hx hb dL_law_706 ?_
  refine va_sld hx hb hX hbl hbA hS vi2 dL_law_707 ?_
  refine lv_if_eq (tgt := 715) hx hb dL_law_708 (by decide) (fun c0 => ?_) (fun c0 => ?_)
  · refine lv_iconst (v := 0) hx hb dL_law_715 (by decide) ?_
    obtain ⟨r, w2, v2, k5, k6, h2⟩ := c_share (l := l) h hbd (xs (nI i + 1).toNatClampNeg) (0 : Int32)
    refine cLi (As := [.int (xs (nI i + 1).toNatClampNeg), .int (0 : Int32)]) (rest := []) S0 hK hA hP hP2 (hDD w v h.x.2.2.1 h.x.2.2.2).1 hS k5 cw_X5 5 rfl rfl h.x.1 rfl hl.1 rfl (Nat.le_of_ble_eq_true rfl) dL_law_716 ⟨Nat.le_of_ble_eq_true rfl, Nat.le_of_ble_eq_true rfl⟩ (fun H locs hP hP2 hS => ?_)
    refine lv_aload_n hx hb dL_law_719 rfl (lv_at hl 2 rfl) ?_
    refine lv_aload_n hx hb dL_law_720 rfl (lv_at hl 0 rfl) ?_
    refine lv_iload_n hx hb dL_law_721 rfl (lv_at hl 3 rfl) ?_
    refine lv_iconst (v := 1) hx hb dL_law_722 (by decide) ?_
    refine lv_iadd hx hb dL_law_723 ?_
    refine va_sld hx hb hX hbl hbA hS vi1 dL_law_724 ?_
    refine lv_aload_n hx hb dL_law_725 rfl (lv_at hl 0 rfl) ?_
    refine lv_iload_n hx hb dL_law_726 rfl (lv_at hl 3 rfl) ?_
    refine lv_iconst (v := 2) hx hb dL_law_727 (by decide) ?_
    refine lv_iadd hx hb dL_law_728 ?_
    refine va_sld hx hb hX hbl hbA hS vi2 dL_law_729 ?_
    refine lv_if_eq (tgt := 737) hx hb dL_law_730 (by decide) (fun _ => ?_) (fun c1 => absurd c0 c1)
    refine lv_iconst (v := 0) hx hb dL_law_737 (by decide) ?_
    refine cLi (As := [.int (xs (nI i + 1).toNatClampNeg), .int (0 : Int32)]) (rest := [.int r]) S0 hK hA hP2 hP (hDD w2 v h2.x.2.2.1 h.x.2.2.2).2 hS k6 cw_X6 6 rfl rfl h.x.2.1 rfl hl.1 rfl (Nat.le_of_ble_eq_true rfl) dL_law_738 ⟨Nat.le_of_ble_eq_true rfl, Nat.le_of_ble_eq_true rfl⟩ (fun H locs hP2 hP hS => ?_)
    exact lv_icmp_eq (tgt := 1004) hx hb dL_law_741 (by decide) (fun _ => kk w2 v2 H locs h2 hP hP2 hS) (fun q => absurd rfl q)
  · refine lv_iconst (v := 1) hx hb dL_law_711 (by decide) ?_
    refine lv_goto (tgt := 716) hx hb dL_law_712 (by decide) ?_
    obtain ⟨r, w2, v2, k5, k6, h2⟩ := c_share (l := l) h hbd (xs (nI i + 1).toNatClampNeg) (1 : Int32)
    refine cLi (As := [.int (xs (nI i + 1).toNatClampNeg), .int (1 : Int32)]) (rest := []) S0 hK hA hP hP2 (hDD w v h.x.2.2.1 h.x.2.2.2).1 hS k5 cw_X5 5 rfl rfl h.x.1 rfl hl.1 rfl (Nat.le_of_ble_eq_true rfl) dL_law_716 ⟨Nat.le_of_ble_eq_true rfl, Nat.le_of_ble_eq_true rfl⟩ (fun H locs hP hP2 hS => ?_)
    refine lv_aload_n hx hb dL_law_719 rfl (lv_at hl 2 rfl) ?_
    refine lv_aload_n hx hb dL_law_720 rfl (lv_at hl 0 rfl) ?_
    refine lv_iload_n hx hb dL_law_721 rfl (lv_at hl 3 rfl) ?_
    refine lv_iconst (v := 1) hx hb dL_law_722 (by decide) ?_
    refine lv_iadd hx hb dL_law_723 ?_
    refine va_sld hx hb hX hbl hbA hS vi1 dL_law_724 ?_
    refine lv_aload_n hx hb dL_law_725 rfl (lv_at hl 0 rfl) ?_
    refine lv_iload_n hx hb dL_law_726 rfl (lv_at hl 3 rfl) ?_
    refine lv_iconst (v := 2) hx hb dL_law_727 (by decide) ?_
    refine lv_iadd hx hb dL_law_728 ?_
    refine va_sld hx hb hX hbl hbA hS vi2 dL_law_729 ?_
    refine lv_if_eq (tgt := 737) hx hb dL_law_730 (by decide) (fun c1 => absurd c1 c0) (fun _ => ?_)
    refine lv_iconst (v := 1) hx hb dL_law_733 (by decide) ?_
    refine lv_goto (tgt := 738) hx hb dL_law_734 (by decide) ?_
    refine cLi (As := [.int (xs (nI i + 1).toNatClampNeg), .int (1 : Int32)]) (rest := [.int r]) S0 hK hA hP2 hP (hDD w2 v h2.x.2.2.1 h.x.2.2.2).2 hS k6 cw_X6 6 rfl rfl h.x.2.1 rfl hl.1 rfl (Nat.le_of_ble_eq_true rfl) dL_law_738 ⟨Nat.le_of_ble_eq_true rfl, Nat.le_of_ble_eq_true rfl⟩ (fun H locs hP2 hP hS => ?_)
    exact lv_icmp_eq (tgt := 1004) hx hb dL_law_741 (by decide) (fun _ => kk w2 v2 H locs h2 hP hP2 hS) (fun q => absurd rfl q)
set_option maxRecDepth 100000 in
set_option maxHeartbeats 8000000 in
theorem L_rests {p : Program} {l : Launch} {e : Env} {s : State} {m : MethodId} {below : List Frame} {meth : Method} {c : Code} {b L : Nat} {xs : Nat → Int32} {G : Gt} {ad ay : Nat → Nat} {bd i : Nat} {w v : va_W} {H : Heap} {locs : List Loc} {ls : Array Slot} {Q : State → Prop} (X : LC p s m meth c b L xs G) (hi : i + 5 ≤ L) (h : ST G ad ay bd w v) (hbd : bd < 2 ^ 29) (hP : va_P G.1 vwCl w H) (hP2 : va_P G.1 vwCl v H) (hDD : DD s ad ay) (hS : va_S (fun q : Nat => s.heap.size ≤ q) s.heap H locs) (hl : lv_has ls 4 [(0, .ref b), (1, .ref (ad 0)), (2, .ref (ay 0)), (3, .int (nI i))]) (kk : LKK p l e s m below meth c b G ad ay bd ls Q) : W p l e room_1 s m #[Value.ref b] below meth c H locs 42 875 Q (F0 m 746 ls []) := by
  obtain ⟨hx, hb, hml, hown, hts, hX, hbl, hK, hL⟩ := X
  have hA : ∀ q : Nat, s.heap.size ≤ q → (fun q : Nat => s.heap.size ≤ q) q := fun _ h => h
  have hbA : ¬ (fun q : Nat => s.heap.size ≤ q) b := Nat.not_le.mpr hbl
  have S0 : CallFix p m c cL_law 4 s #[Value.ref b] wsL_law RL := ⟨hx, hb, hml, hown, hts⟩
  have vi1 : vp_in (nI i + 1) L := by rw [show nI i + 1 = nI (i + 1) from nI_add i 1]; exact vp_in_nI (by omega) (by omega)
  have vi2 : vp_in (nI i + 2) L := by rw [show nI i + 2 = nI (i + 2) from nI_add i 2]; exact vp_in_nI (by omega) (by omega)
  have vi3 : vp_in (nI i + 3) L := by rw [show nI i + 3 = nI (i + 3) from nI_add i 3]; exact vp_in_nI (by omega) (by omega)
  have vi4 : vp_in (nI i + 4) L := by rw [show nI i + 4 = nI (i + 4) from nI_add i 4]; exact vp_in_nI (by omega) (by omega)
  have cw_X5 := show CallW room_1 s #[Value.ref b] RL RX5 109 yX5_rests cX5_rests 9 (some .int) wsX5_rests (rmv 7 161) 0 0 3 from cwV 3 hts gL_law_X5_rests rfl rfl rfl (by decide +kernel) ⟨Nat.le_of_ble_eq_true rfl, Nat.le_of_ble_eq_true rfl⟩
  have cw_X6 := show CallW room_1 s #[Value.ref b] RL RX6 112 yX6_rests cX6_rests 7 (some .int) wsX6_rests (rmv 7 164) 0 0 3 from cwV 3 hts gL_law_X6_rests rfl rfl rfl (by decide +kernel) ⟨Nat.le_of_ble_eq_true rfl, Nat.le_of_ble_eq_true rfl⟩
  refine lv_aload_n hx hb dL_law_746 rfl (lv_at hl 1 rfl) ?_
  refine lv_aload_n hx hb dL_law_747 rfl (lv_at hl 0 rfl) ?_
  refine lv_iload_n hx hb dL_law_748 rfl (lv_at hl 3 rfl) ?_
  refine lv_iconst (v := 1) hx hb dL_law_749 (by decide) ?_
  refine lv_iadd hx hb dL_law_750 ?_
  refine va_sld hx hb hX hbl hbA hS vi1 dL_law_751 ?_
  refine lv_aload_n hx hb dL_law_752 rfl (lv_at hl 0 rfl) ?_
  refine lv_iload_n hx hb dL_law_753 rfl (lv_at hl 3 rfl) ?_
  refine lv_iconst (v := 2) hx hb dL_law_754 (by decide) ?_
  refine lv_iadd hx hb dL_law_755 ?_
  refine va_sld hx hb hX hbl hbA hS vi2 dL_law_756 ?_
  refine lv_aload_n hx hb dL_law_757 rfl (lv_at hl 0 rfl) ?_
  refine lv_iload_n hx hb dL_law_758 rfl (lv_at hl 3 rfl) ?_
  refine lv_iconst (v := 3) hx hb dL_law_759 (by decide) ?_
  refine lv_iadd hx hb dL_law_760 ?_
  refine va_sld hx hb hX hbl hbA hS vi3 dL_law_761 ?_
  obtain ⟨r, w2, v2, k5, k6, h2⟩ := c_rests (l := l) h hbd (xs (nI i + 1).toNatClampNeg) (xs (nI i + 2).toNatClampNeg) (xs (nI i + 3).toNatClampNeg)
  refine cLi (As := [.int (xs (nI i + 1).toNatClampNeg), .int (xs (nI i + 2).toNatClampNeg), .int (xs (nI i + 3).toNatClampNeg)]) (rest := []) S0 hK hA hP hP2 (hDD w v h.x.2.2.1 h.x.2.2.2).1 hS k5 cw_X5 5 rfl rfl h.x.1 rfl hl.1 rfl (Nat.le_of_ble_eq_true rfl) dL_law_762 ⟨Nat.le_of_ble_eq_true rfl, Nat.le_of_ble_eq_true rfl⟩ (fun H locs hP hP2 hS => ?_)
  refine lv_aload_n hx hb dL_law_765 rfl (lv_at hl 2 rfl) ?_
  refine lv_aload_n hx hb dL_law_766 rfl (lv_at hl 0 rfl) ?_
  refine lv_iload_n hx hb dL_law_767 rfl (lv_at hl 3 rfl) ?_
  refine lv_iconst (v := 1) hx hb dL_law_768 (by decide) ?_
  refine lv_iadd hx hb dL_law_769 ?_
  refine va_sld hx hb hX hbl hbA hS vi1 dL_law_770 ?_
  refine lv_aload_n hx hb dL_law_771 rfl (lv_at hl 0 rfl) ?_
  refine lv_iload_n hx hb dL_law_772 rfl (lv_at hl 3 rfl) ?_
  refine lv_iconst (v := 2) hx hb dL_law_773 (by decide) ?_
  refine lv_iadd hx hb dL_law_774 ?_
  refine va_sld hx hb hX hbl hbA hS vi2 dL_law_775 ?_
  refine lv_aload_n hx hb dL_law_776 rfl (lv_at hl 0 rfl) ?_
  refine lv_iload_n hx hb dL_law_777 rfl (lv_at hl 3 rfl) ?_
  refine lv_iconst (v := 3) hx hb dL_law_778 (by decide) ?_
  refine lv_iadd hx hb dL_law_779 ?_
  refine va_sld hx hb hX hbl hbA hS vi3 dL_law_780 ?_
  refine cLi (As := [.int (xs (nI i + 1).toNatClampNeg), .int (xs (nI i + 2).toNatClampNeg), .int (xs (nI i + 3).toNatClampNeg)]) (rest := [.int r]) S0 hK hA hP2 hP (hDD w2 v h2.x.2.2.1 h.x.2.2.2).2 hS k6 cw_X6 6 rfl rfl h.x.2.1 rfl hl.1 rfl (Nat.le_of_ble_eq_true rfl) dL_law_781 ⟨Nat.le_of_ble_eq_true rfl, Nat.le_of_ble_eq_true rfl⟩ (fun H locs hP2 hP hS => ?_)
  exact lv_icmp_eq (tgt := 1004) hx hb dL_law_784 (by decide) (fun _ => kk w2 v2 H locs h2 hP hP2 hS) (fun q => absurd rfl q)
set_option maxRecDepth 100000 in
set_option maxHeartbeats 8000000 in
theorem L_twice {p : Program} {l : Launch} {e : Env} {s : State} {m : MethodId} {below : List Frame} {meth : Method} {c : Code} {b L : Nat} {xs : Nat → Int32} {G : Gt} {ad ay : Nat → Nat} {bd i : Nat} {w v : va_W} {H : Heap} {locs : List Loc} {ls : Array Slot} {Q : State → Prop} (X : LC p s m meth c b L xs G) (hi : i + 5 ≤ L) (h : ST G ad ay bd w v) (hbd : bd < 2 ^ 29) (hP : va_P G.1 vwCl w H) (hP2 : va_P G.1 vwCl v H) (hDD : DD s ad ay) (hS : va_S (fun q : Nat => s.heap.size ≤ q) s.heap H locs) (hl : lv_has ls 4 [(0, .ref b), (1, .ref (ad 0)), (2, .ref (ay 0)), (3, .int (nI i))]) (kk : LKK p l e s m below meth c b G ad ay bd ls Q) : W p l e room_1 s m #[Value.ref b] below meth c H locs 42 875 Q (F0 m 789 ls []) := by
  obtain ⟨hx, hb, hml, hown, hts, hX, hbl, hK, hL⟩ := X
  have hA : ∀ q : Nat, s.heap.size ≤ q → (fun q : Nat => s.heap.size ≤ q) q := fun _ h => h
  have hbA : ¬ (fun q : Nat => s.heap.size ≤ q) b := Nat.not_le.mpr hbl
  have S0 : CallFix p m c cL_law 4 s #[Value.ref b] wsL_law RL := ⟨hx, hb, hml, hown, hts⟩
  have vi1 : vp_in (nI i + 1) L := by rw [show nI i + 1 = nI (i + 1) from nI_add i 1]; exact vp_in_nI (by omega) (by omega)
  have vi2 : vp_in (nI i + 2) L := by rw [show nI i + 2 = nI (i + 2) from nI_add i 2]; exact vp_in_nI (by omega) (by omega)
  have vi3 : vp_in (nI i + 3) L := by rw [show nI i + 3 = nI (i + 3) from nI_add i 3]; exact vp_in_nI (by omega) (by omega)
  have vi4 : vp_in (nI i + 4) L := by rw [show nI i + 4 = nI (i + 4) from nI_add i 4]; exact vp_in_nI (by omega) (by omega)
  have cw_X5 := show CallW room_1 s #[Value.ref b] RL RX5 113 yX5_twice cX5_twice 9 (some .int) wsX5_twice (rmv 5 115) 0 0 4 from cwV 4 hts gL_law_X5_twice rfl rfl rfl (by decide +kernel) ⟨Nat.le_of_ble_eq_true rfl, Nat.le_of_ble_eq_true rfl⟩
  have cw_X6 := show CallW room_1 s #[Value.ref b] RL RX6 117 yX6_twice cX6_twice 10 (some .int) wsX6_twice (rmv 4 94) 0 0 4 from cwV 4 hts gL_law_X6_twice rfl rfl rfl (by decide +kernel) ⟨Nat.le_of_ble_eq_true rfl, Nat.le_of_ble_eq_true rfl⟩
  refine lv_aload_n hx hb dL_law_789 rfl (lv_at hl 1 rfl) ?_
  refine lv_aload_n hx hb dL_law_790 rfl (lv_at hl 0 rfl) ?_
  refine lv_iload_n hx hb dL_law_791 rfl (lv_at hl 3 rfl) ?_
  refine lv_iconst (v := 1) hx hb dL_law_792 (by decide) ?_
  refine lv_iadd hx hb dL_law_793 ?_
  refine va_sld hx hb hX hbl hbA hS vi1 dL_law_794 ?_
  refine lv_aload_n hx hb dL_law_795 rfl (lv_at hl 0 rfl) ?_
  refine lv_iload_n hx hb dL_law_796 rfl (lv_at hl 3 rfl) ?_
  refine lv_iconst (v := 2) hx hb dL_law_797 (by decide) ?_
  refine lv_iadd hx hb dL_law_798 ?_
  refine va_sld hx hb hX hbl hbA hS vi2 dL_law_799 ?_
  refine lv_aload_n hx hb dL_law_800 rfl (lv_at hl 0 rfl) ?_
  refine lv_iload_n hx hb dL_law_801 rfl (lv_at hl 3 rfl) ?_
  refine lv_iconst (v := 3) hx hb dL_law_802 (by decide) ?_
  refine lv_iadd hx hb dL_law_803 ?_
  refine va_sld hx hb hX hbl hbA hS vi3 dL_law_804 ?_
  refine lv_aload_n hx hb dL_law_805 rfl (lv_at hl 0 rfl) ?_
  refine lv_iload_n hx hb dL_law_806 rfl (lv_at hl 3 rfl) ?_
  refine lv_iconst (v := 4) hx hb dL_law_807 (by decide) ?_
  refine lv_iadd hx hb dL_law_808 ?_
  refine va_sld hx hb hX hbl hbA hS vi4 dL_law_809 ?_
  refine lv_if_eq (tgt := 817) hx hb dL_law_810 (by decide) (fun c0 => ?_) (fun c0 => ?_)
  · refine lv_iconst (v := 0) hx hb dL_law_817 (by decide) ?_
    obtain ⟨r, w2, v2, k5, k6, h2⟩ := c_twice (l := l) h hbd (xs (nI i + 1).toNatClampNeg) (xs (nI i + 2).toNatClampNeg) (xs (nI i + 3).toNatClampNeg) (0 : Int32)
    refine cLi (As := [.int (xs (nI i + 1).toNatClampNeg), .int (xs (nI i + 2).toNatClampNeg), .int (xs (nI i + 3).toNatClampNeg), .int (0 : Int32)]) (rest := []) S0 hK hA hP hP2 (hDD w v h.x.2.2.1 h.x.2.2.2).1 hS k5 cw_X5 5 rfl rfl h.x.1 rfl hl.1 rfl (Nat.le_of_ble_eq_true rfl) dL_law_818 ⟨Nat.le_of_ble_eq_true rfl, Nat.le_of_ble_eq_true rfl⟩ (fun H locs hP hP2 hS => ?_)
    refine lv_aload_n hx hb dL_law_821 rfl (lv_at hl 2 rfl) ?_
    refine lv_aload_n hx hb dL_law_822 rfl (lv_at hl 0 rfl) ?_
    refine lv_iload_n hx hb dL_law_823 rfl (lv_at hl 3 rfl) ?_
    refine lv_iconst (v := 1) hx hb dL_law_824 (by decide) ?_
    refine lv_iadd hx hb dL_law_825 ?_
    refine va_sld hx hb hX hbl hbA hS vi1 dL_law_826 ?_
    refine lv_aload_n hx hb dL_law_827 rfl (lv_at hl 0 rfl) ?_
    refine lv_iload_n hx hb dL_law_828 rfl (lv_at hl 3 rfl) ?_
    refine lv_iconst (v := 2) hx hb dL_law_829 (by decide) ?_
    refine lv_iadd hx hb dL_law_830 ?_
    refine va_sld hx hb hX hbl hbA hS vi2 dL_law_831 ?_
    refine lv_aload_n hx hb dL_law_832 rfl (lv_at hl 0 rfl) ?_
    refine lv_iload_n hx hb dL_law_833 rfl (lv_at hl 3 rfl) ?_
    refine lv_iconst (v := 3) hx hb dL_law_834 (by decide) ?_
    refine lv_iadd hx hb dL_law_835 ?_
    refine va_sld hx hb hX hbl hbA hS vi3 dL_law_836 ?_
    refine lv_aload_n hx hb dL_law_837 rfl (lv_at hl 0 rfl) ?_
    refine lv_iload_n hx hb dL_law_838 rfl (lv_at hl 3 rfl) ?_
    refine lv_iconst (v := 4) hx hb dL_law_839 (by decide) ?_
    refine lv_iadd hx hb dL_law_840 ?_
    refine va_sld hx hb hX hbl hbA hS vi4 dL_law_841 ?_
    refine lv_if_eq (tgt := 849) hx hb dL_law_842 (by decide) (fun _ => ?_) (fun c1 => absurd c0 c1)
    refine lv_iconst (v := 0) hx hb dL_law_849 (by decide) ?_
    refine cLi (As := [.int (xs (nI i + 1).toNatClampNeg), .int (xs (nI i + 2).toNatClampNeg), .int (xs (nI i + 3).toNatClampNeg), .int (0 : Int32)]) (rest := [.int r]) S0 hK hA hP2 hP (hDD w2 v h2.x.2.2.1 h.x.2.2.2).2 hS k6 cw_X6 6 rfl rfl h.x.2.1 rfl hl.1 rfl (Nat.le_of_ble_eq_true rfl) dL_law_850 ⟨Nat.le_of_ble_eq_true rfl, Nat.le_of_ble_eq_true rfl⟩ (fun H locs hP2 hP hS => ?_)
    exact lv_icmp_eq (tgt := 1004) hx hb dL_law_853 (by decide) (fun _ => kk w2 v2 H locs h2 hP hP2 hS) (fun q => absurd rfl q)
  · refine lv_iconst (v := 1) hx hb dL_law_813 (by decide) ?_
    refine lv_goto (tgt := 818) hx hb dL_law_814 (by decide) ?_
    obtain ⟨r, w2, v2, k5, k6, h2⟩ := c_twice (l := l) h hbd (xs (nI i + 1).toNatClampNeg) (xs (nI i + 2).toNatClampNeg) (xs (nI i + 3).toNatClampNeg) (1 : Int32)
    refine cLi (As := [.int (xs (nI i + 1).toNatClampNeg), .int (xs (nI i + 2).toNatClampNeg), .int (xs (nI i + 3).toNatClampNeg), .int (1 : Int32)]) (rest := []) S0 hK hA hP hP2 (hDD w v h.x.2.2.1 h.x.2.2.2).1 hS k5 cw_X5 5 rfl rfl h.x.1 rfl hl.1 rfl (Nat.le_of_ble_eq_true rfl) dL_law_818 ⟨Nat.le_of_ble_eq_true rfl, Nat.le_of_ble_eq_true rfl⟩ (fun H locs hP hP2 hS => ?_)
    refine lv_aload_n hx hb dL_law_821 rfl (lv_at hl 2 rfl) ?_
    refine lv_aload_n hx hb dL_law_822 rfl (lv_at hl 0 rfl) ?_
    refine lv_iload_n hx hb dL_law_823 rfl (lv_at hl 3 rfl) ?_
    refine lv_iconst (v := 1) hx hb dL_law_824 (by decide) ?_
    refine lv_iadd hx hb dL_law_825 ?_
    refine va_sld hx hb hX hbl hbA hS vi1 dL_law_826 ?_
    refine lv_aload_n hx hb dL_law_827 rfl (lv_at hl 0 rfl) ?_
    refine lv_iload_n hx hb dL_law_828 rfl (lv_at hl 3 rfl) ?_
    refine lv_iconst (v := 2) hx hb dL_law_829 (by decide) ?_
    refine lv_iadd hx hb dL_law_830 ?_
    refine va_sld hx hb hX hbl hbA hS vi2 dL_law_831 ?_
    refine lv_aload_n hx hb dL_law_832 rfl (lv_at hl 0 rfl) ?_
    refine lv_iload_n hx hb dL_law_833 rfl (lv_at hl 3 rfl) ?_
    refine lv_iconst (v := 3) hx hb dL_law_834 (by decide) ?_
    refine lv_iadd hx hb dL_law_835 ?_
    refine va_sld hx hb hX hbl hbA hS vi3 dL_law_836 ?_
    refine lv_aload_n hx hb dL_law_837 rfl (lv_at hl 0 rfl) ?_
    refine lv_iload_n hx hb dL_law_838 rfl (lv_at hl 3 rfl) ?_
    refine lv_iconst (v := 4) hx hb dL_law_839 (by decide) ?_
    refine lv_iadd hx hb dL_law_840 ?_
    refine va_sld hx hb hX hbl hbA hS vi4 dL_law_841 ?_
    refine lv_if_eq (tgt := 849) hx hb dL_law_842 (by decide) (fun c1 => absurd c1 c0) (fun _ => ?_)
    refine lv_iconst (v := 1) hx hb dL_law_845 (by decide) ?_
    refine lv_goto (tgt := 850) hx hb dL_law_846 (by decide) ?_
    refine cLi (As := [.int (xs (nI i + 1).toNatClampNeg), .int (xs (nI i + 2).toNatClampNeg), .int (xs (nI i + 3).toNatClampNeg), .int (1 : Int32)]) (rest := [.int r]) S0 hK hA hP2 hP (hDD w2 v h2.x.2.2.1 h.x.2.2.2).2 hS k6 cw_X6 6 rfl rfl h.x.2.1 rfl hl.1 rfl (Nat.le_of_ble_eq_true rfl) dL_law_850 ⟨Nat.le_of_ble_eq_true rfl, Nat.le_of_ble_eq_true rfl⟩ (fun H locs hP2 hP hS => ?_)
    exact lv_icmp_eq (tgt := 1004) hx hb dL_law_853 (by decide) (fun _ => kk w2 v2 H locs h2 hP hP2 hS) (fun q => absurd rfl q)
set_option maxRecDepth 100000 in
set_option maxHeartbeats 8000000 in
theorem L_seed {p : Program} {l : Launch} {e : Env} {s : State} {m : MethodId} {below : List Frame} {meth : Method} {c : Code} {b L : Nat} {xs : Nat → Int32} {G : Gt} {ad ay : Nat → Nat} {bd i : Nat} {w v : va_W} {H : Heap} {locs : List Loc} {ls : Array Slot} {Q : State → Prop} (X : LC p s m meth c b L xs G) (hi : i + 5 ≤ L) (h : ST G ad ay bd w v) (hbd : bd < 2 ^ 29) (hP : va_P G.1 vwCl w H) (hP2 : va_P G.1 vwCl v H) (hDD : DD s ad ay) (hS : va_S (fun q : Nat => s.heap.size ≤ q) s.heap H locs) (hl : lv_has ls 4 [(0, .ref b), (1, .ref (ad 0)), (2, .ref (ay 0)), (3, .int (nI i))]) (kk : LKK p l e s m below meth c b G ad ay bd ls Q) : W p l e room_1 s m #[Value.ref b] below meth c H locs 42 875 Q (F0 m 858 ls []) := by
  obtain ⟨hx, hb, hml, hown, hts, hX, hbl, hK, hL⟩ := X
  have hA : ∀ q : Nat, s.heap.size ≤ q → (fun q : Nat => s.heap.size ≤ q) q := fun _ h => h
  have hbA : ¬ (fun q : Nat => s.heap.size ≤ q) b := Nat.not_le.mpr hbl
  have S0 : CallFix p m c cL_law 4 s #[Value.ref b] wsL_law RL := ⟨hx, hb, hml, hown, hts⟩
  have vi1 : vp_in (nI i + 1) L := by rw [show nI i + 1 = nI (i + 1) from nI_add i 1]; exact vp_in_nI (by omega) (by omega)
  have vi2 : vp_in (nI i + 2) L := by rw [show nI i + 2 = nI (i + 2) from nI_add i 2]; exact vp_in_nI (by omega) (by omega)
  have vi3 : vp_in (nI i + 3) L := by rw [show nI i + 3 = nI (i + 3) from nI_add i 3]; exact vp_in_nI (by omega) (by omega)
  have vi4 : vp_in (nI i + 4) L := by rw [show nI i + 4 = nI (i + 4) from nI_add i 4]; exact vp_in_nI (by omega) (by omega)
  have cw_X5 := show CallW room_1 s #[Value.ref b] RL RX5 118 yX5_seed cX5_seed 5 (some .long) wsX5_seed (rmv 0 0) 0 0 1 from cwV 1 hts gL_law_X5_seed rfl rfl rfl (by decide +kernel) ⟨Nat.le_of_ble_eq_true rfl, Nat.le_of_ble_eq_true rfl⟩
  have cw_X6 := show CallW room_1 s #[Value.ref b] RL RX6 122 yX6_seed cX6_seed 5 (some .long) wsX6_seed (rmv 0 0) 0 0 1 from cwV 1 hts gL_law_X6_seed rfl rfl rfl (by decide +kernel) ⟨Nat.le_of_ble_eq_true rfl, Nat.le_of_ble_eq_true rfl⟩
  have cl85 := hts (.constantLong RL 85 (4294967295)) (List.mem_of_getElem? (i := 6) rfl)
  refine lv_aload_n hx hb dL_law_858 rfl (lv_at hl 1 rfl) ?_
  refine lv_aload_n hx hb dL_law_859 rfl (lv_at hl 0 rfl) ?_
  refine lv_iload_n hx hb dL_law_860 rfl (lv_at hl 3 rfl) ?_
  refine lv_iconst (v := 1) hx hb dL_law_861 (by decide) ?_
  refine lv_iadd hx hb dL_law_862 ?_
  refine va_sld hx hb hX hbl hbA hS vi1 dL_law_863 ?_
  refine lv_i2l (v := (xs (nI i + 1).toNatClampNeg).toInt64) hx hb dL_law_864 rfl ?_
  refine lv_bipush (v := 32) hx hb dL_law_865 (by decide) ?_
  refine lv_lshl (v := (((xs (nI i + 1).toNatClampNeg).toInt64) <<< ((32 : Int32).toInt64 &&& 63))) hx hb dL_law_867 rfl ?_
  refine lv_aload_n hx hb dL_law_868 rfl (lv_at hl 0 rfl) ?_
  refine lv_iload_n hx hb dL_law_869 rfl (lv_at hl 3 rfl) ?_
  refine lv_iconst (v := 2) hx hb dL_law_870 (by decide) ?_
  refine lv_iadd hx hb dL_law_871 ?_
  refine va_sld hx hb hX hbl hbA hS vi2 dL_law_872 ?_
  refine lv_i2l (v := (xs (nI i + 2).toNatClampNeg).toInt64) hx hb dL_law_873 rfl ?_
  refine lv_ldc2 (v := 4294967295) hx hb hown cl85 dL_law_874 ?_
  refine lv_land hx hb dL_law_877 ?_
  refine lv_lor hx hb dL_law_878 ?_
  obtain ⟨r, w2, v2, k5, k6, h2⟩ := c_seed (l := l) h hbd ((((xs (nI i + 1).toNatClampNeg).toInt64) <<< ((32 : Int32).toInt64 &&& 63)) ||| (((xs (nI i + 2).toNatClampNeg).toInt64) &&& (4294967295 : Int64)))
  refine cLl (As := [.long ((((xs (nI i + 1).toNatClampNeg).toInt64) <<< ((32 : Int32).toInt64 &&& 63)) ||| (((xs (nI i + 2).toNatClampNeg).toInt64) &&& (4294967295 : Int64)))]) (rest := []) S0 hK hA hP hP2 (hDD w v h.x.2.2.1 h.x.2.2.2).1 hS k5 cw_X5 5 rfl rfl h.x.1 rfl hl.1 rfl (Nat.le_of_ble_eq_true rfl) dL_law_879 ⟨Nat.le_of_ble_eq_true rfl, Nat.le_of_ble_eq_true rfl⟩ (fun H locs hP hP2 hS => ?_)
  refine lv_aload_n hx hb dL_law_882 rfl (lv_at hl 2 rfl) ?_
  refine lv_aload_n hx hb dL_law_883 rfl (lv_at hl 0 rfl) ?_
  refine lv_iload_n hx hb dL_law_884 rfl (lv_at hl 3 rfl) ?_
  refine lv_iconst (v := 1) hx hb dL_law_885 (by decide) ?_
  refine lv_iadd hx hb dL_law_886 ?_
  refine va_sld hx hb hX hbl hbA hS vi1 dL_law_887 ?_
  refine lv_i2l (v := (xs (nI i + 1).toNatClampNeg).toInt64) hx hb dL_law_888 rfl ?_
  refine lv_bipush (v := 32) hx hb dL_law_889 (by decide) ?_
  refine lv_lshl (v := (((xs (nI i + 1).toNatClampNeg).toInt64) <<< ((32 : Int32).toInt64 &&& 63))) hx hb dL_law_891 rfl ?_
  refine lv_aload_n hx hb dL_law_892 rfl (lv_at hl 0 rfl) ?_
  refine lv_iload_n hx hb dL_law_893 rfl (lv_at hl 3 rfl) ?_
  refine lv_iconst (v := 2) hx hb dL_law_894 (by decide) ?_
  refine lv_iadd hx hb dL_law_895 ?_
  refine va_sld hx hb hX hbl hbA hS vi2 dL_law_896 ?_
  refine lv_i2l (v := (xs (nI i + 2).toNatClampNeg).toInt64) hx hb dL_law_897 rfl ?_
  refine lv_ldc2 (v := 4294967295) hx hb hown cl85 dL_law_898 ?_
  refine lv_land hx hb dL_law_901 ?_
  refine lv_lor hx hb dL_law_902 ?_
  refine cLl (As := [.long ((((xs (nI i + 1).toNatClampNeg).toInt64) <<< ((32 : Int32).toInt64 &&& 63)) ||| (((xs (nI i + 2).toNatClampNeg).toInt64) &&& (4294967295 : Int64)))]) (rest := [.long r]) S0 hK hA hP2 hP (hDD w2 v h2.x.2.2.1 h.x.2.2.2).2 hS k6 cw_X6 6 rfl rfl h.x.2.1 rfl hl.1 rfl (Nat.le_of_ble_eq_true rfl) dL_law_903 ⟨Nat.le_of_ble_eq_true rfl, Nat.le_of_ble_eq_true rfl⟩ (fun H locs hP2 hP hS => ?_)
  refine W.lcmp hx hb dL_law_906 ?_
  exact lv_if_eq (tgt := 1004) hx hb dL_law_907 (by decide) (fun _ => kk w2 v2 H locs h2 hP hP2 hS) (fun q => absurd (cmp_self r) q)
