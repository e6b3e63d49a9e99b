def f_X4_hasBroom (T_br : Int32) (u1 : Int32) : Option (Int32) := if u1 < 0 then (some (0 : Int32)) else (if T_br ≤ u1 then (some (0 : Int32)) else (if (5 : Int32) ≤ u1 then (some (0 : Int32)) else (some (1 : Int32))))
set_option maxRecDepth 100000 in
set_option maxHeartbeats 4000000 in
theorem k_X4_hasBroom (l : Launch) (G : Gt) (t0 t1 t2 t3 t4 t5 t6 : Nat) (T_br : Int32) (T_fa : Int32) (T_fd : Nat → Int32) (T_fp : Nat → Int32) (T_st : Nat → Int32) (T_kd : Nat → Int32) (T_fs : Nat → Int32) (T_fl : Nat → Int32) (u1 : Int32) (r_ : Int32) (h : f_X4_hasBroom T_br u1 = some r_) : CT l yX4_hasBroom wsX4_hasBroom 0 0 G [.ref t0, .int u1] (W_T G t0 t1 t2 t3 t4 t5 t6 T_br T_fa T_fd T_fp T_st T_kd T_fs T_fl) (QI G r_ (W_T G t0 t1 t2 t3 t4 t5 t6 T_br T_fa T_fd T_fp T_st T_kd T_fs T_fl)) := by
  refine met_of cX4_hasBroom 2 (some .boolean) (by decide) rfl (Nat.le_of_ble_eq_true rfl) ?_
  intro p e s m below meth c A ls hx hb hr hml hts hown hlocks hK hA hD hP hS hl
  replace hown : s.vm.findClass RX4 = some m.cls := hown
  replace hl : lv_has ls 2 [(0, .ref t0), (1, .int u1)] := hl
  have S0 : CallFix p m c cX4_hasBroom 2 s _ wsX4_hasBroom RX4 := ⟨hx, hb, hml, hown, hts⟩
  have fl30 := hts (.fieldLink RX4 30 "DustVote$Told" "brooms" "I") (by decide +kernel)
  have inX4 := show ∀ w ∈ wsX40, w ∈ wsX4_hasBroom from by decide +kernel
  unfold f_X4_hasBroom at h
  refine lv_iload_n hx hb dX4_hasBroom_0 rfl (lv_at hl 1 rfl) ?_
  refine lv_if_lt (tgt := 21) hx hb dX4_hasBroom_1 (by decide) (fun cc_1 => ?_) (fun cc_1 => ?_)
  · replace h := if_t cc_1 h
    refine lv_iconst (v := 0) hx hb dX4_hasBroom_21 (by decide) ?_
    cases h
    exact W.zret (ty := .boolean) hx hb hr (by decide) (fun t ht _ => ⟨⟨_, (), rfl, rfl, by show va_P G.1 vwCl _ t.heap; rw [ht]; exact hP⟩, hS.F ht⟩) hS.2.2 dX4_hasBroom_22
  · replace h := if_f cc_1 h
    refine lv_iload_n hx hb dX4_hasBroom_4 rfl (lv_at hl 1 rfl) ?_
    refine lv_aload_n hx hb dX4_hasBroom_5 rfl (lv_at hl 0 rfl) ?_
    refine va_get (ci := 4) (C := RX4) (T := TX4) (N := 8) hx hb hts inX4 hown hK.1 hP 0 rfl rfl 6 (by decide) fl30 (fun _ h9 => h9) rfl dX4_hasBroom_6 ?_
    refine lv_icmp_ge (tgt := 21) hx hb dX4_hasBroom_9 (by decide) (fun cc_2 => ?_) (fun cc_2 => ?_)
    · replace h := if_t cc_2 h
      refine lv_iconst (v := 0) hx hb dX4_hasBroom_21 (by decide) ?_
      cases h
      exact W.zret (ty := .boolean) hx hb hr (by decide) (fun t ht _ => ⟨⟨_, (), rfl, rfl, by show va_P G.1 vwCl _ t.heap; rw [ht]; exact hP⟩, hS.F ht⟩) hS.2.2 dX4_hasBroom_22
    · replace h := if_f cc_2 h
      refine lv_iload_n hx hb dX4_hasBroom_12 rfl (lv_at hl 1 rfl) ?_
      refine lv_iconst (v := 5) hx hb dX4_hasBroom_13 (by decide) ?_
      refine lv_icmp_ge (tgt := 21) hx hb dX4_hasBroom_14 (by decide) (fun cc_3 => ?_) (fun cc_3 => ?_)
      · replace h := if_t cc_3 h
        refine lv_iconst (v := 0) hx hb dX4_hasBroom_21 (by decide) ?_
        cases h
        exact W.zret (ty := .boolean) hx hb hr (by decide) (fun t ht _ => ⟨⟨_, (), rfl, rfl, by show va_P G.1 vwCl _ t.heap; rw [ht]; exact hP⟩, hS.F ht⟩) hS.2.2 dX4_hasBroom_22
      · replace h := if_f cc_3 h
        refine lv_iconst (v := 1) hx hb dX4_hasBroom_17 (by decide) ?_
        refine lv_goto (tgt := 22) hx hb dX4_hasBroom_18 (by decide) ?_
        cases h
        exact W.zret (ty := .boolean) hx hb hr (by decide) (fun t ht _ => ⟨⟨_, (), rfl, rfl, by show va_P G.1 vwCl _ t.heap; rw [ht]; exact hP⟩, hS.F ht⟩) hS.2.2 dX4_hasBroom_22
def f_X2_placeOf (M_pl : Nat → Int32) (T_br : Int32) (u1 : Int32) : Option (Int32) := bnd1 (f_X4_hasBroom T_br u1) (fun rr_1 => if rr_1 = 0 then (some (0 : Int32)) else (bnd1 (rd M_pl 5 u1) (fun zz_4 => some zz_4)))
set_option maxRecDepth 100000 in
set_option maxHeartbeats 4000000 in
theorem k_X2_placeOf (l : Launch) (G : Gt) (m0 m1 m2 m3 t0 t1 t2 t3 t4 t5 t6 : Nat) (M_gi : Int32) (M_be : Int32) (M_da : Int32) (M_du : Nat → Int32) (M_pl : Nat → Int32) (M_de : Nat → Int32) (T_br : Int32) (T_fa : Int32) (T_fd : Nat → Int32) (T_fp : Nat → Int32) (T_st : Nat → Int32) (T_kd : Nat → Int32) (T_fs : Nat → Int32) (T_fl : Nat → Int32) (u1 : Int32) (r_ : Int32) (h : f_X2_placeOf M_pl T_br u1 = some r_) : CT l yX2_placeOf wsX2_placeOf 1 21 G [.ref m0, .int u1] (W_MT G m0 m1 m2 m3 t0 t1 t2 t3 t4 t5 t6 M_gi M_be M_da M_du M_pl M_de T_br T_fa T_fd T_fp T_st T_kd T_fs T_fl) (QI G r_ (W_MT G m0 m1 m2 m3 t0 t1 t2 t3 t4 t5 t6 M_gi M_be M_da M_du M_pl M_de T_br T_fa T_fd T_fp T_st T_kd T_fs T_fl)) := by
  refine met_of cX2_placeOf 2 (some .int) (by decide) rfl (Nat.le_of_ble_eq_true rfl) ?_
  intro p e s m below meth c A ls hx hb hr hml hts hown hlocks hK hA hD hP hS hl
  replace hown : s.vm.findClass RX2 = some m.cls := hown
  replace hl : lv_has ls 2 [(0, .ref m0), (1, .int u1)] := hl
  have S0 : CallFix p m c cX2_placeOf 2 s _ wsX2_placeOf RX2 := ⟨hx, hb, hml, hown, hts⟩
  have fl33 := hts (.fieldLink RX2 33 "DustVote$Moment" "told" "LDustVote$Told;") (by decide +kernel)
  have inX2 := show ∀ w ∈ wsX20, w ∈ wsX2_placeOf from by decide +kernel
  have cw_X4_hasBroom := show CallW (rmv 1 21) s _ RX2 RX4 55 yX4_hasBroom cX4_hasBroom 2 (some .boolean) wsX4_hasBroom (rmv 0 0) 0 0 1 from cwV 1 hts gX2_placeOf_X4_hasBroom rfl rfl rfl (by decide +kernel) ⟨Nat.le_of_ble_eq_true rfl, Nat.le_of_ble_eq_true rfl⟩
  have fl15 := hts (.fieldLink RX2 15 "DustVote$Moment" "place" "[I") (by decide +kernel)
  unfold f_X2_placeOf at h
  refine lv_aload_n hx hb dX2_placeOf_0 rfl (lv_at hl 0 rfl) ?_
  refine va_get (ci := 2) (C := RX2) (T := TX2) (N := 7) hx hb hts inX2 hown hK.1 hP 0 rfl rfl 0 (by decide) fl33 (fun _ h9 => h9) rfl dX2_placeOf_1 ?_
  refine lv_iload_n hx hb dX2_placeOf_4 rfl (lv_at hl 1 rfl) ?_
  obtain ⟨rr_1, ee_2, h⟩ := bnd1_s h
  refine cVi (As := [.int u1]) (rest := []) S0 hK hA hP (va_D_same hD rfl) hS [4, 5, 6, 7, 8, 9, 10] (k_X4_hasBroom l G t0 t1 t2 t3 t4 t5 t6 T_br T_fa T_fd T_fp T_st T_kd T_fs T_fl u1 rr_1 ee_2) cw_X4_hasBroom rfl rfl (Nat.le_of_ble_eq_true rfl) 4 0 rfl rfl rfl rfl hl.1 rfl (Nat.le_of_ble_eq_true rfl) dX2_placeOf_5 ⟨Nat.zero_le _, Nat.zero_le _⟩ (fun H locs hP hS => ?_)
  replace hP : va_P G.1 vwCl (W_MT G m0 m1 m2 m3 t0 t1 t2 t3 t4 t5 t6 M_gi M_be M_da M_du M_pl M_de T_br T_fa T_fd T_fp T_st T_kd T_fs T_fl) H := hP
  refine lv_if_eq (tgt := 20) hx hb dX2_placeOf_8 (by decide) (fun cc_3 => ?_) (fun cc_3 => ?_)
  · replace h := if_t cc_3 h
    refine lv_iconst (v := 0) hx hb dX2_placeOf_20 (by decide) ?_
    cases h
    exact W.iret hx hb hr (fun t ht _ => ⟨⟨_, (), rfl, rfl, by show va_P G.1 vwCl _ t.heap; rw [ht]; exact hP⟩, hS.F ht⟩) hS.2.2 dX2_placeOf_21
  · replace h := if_f cc_3 h
    refine lv_aload_n hx hb dX2_placeOf_11 rfl (lv_at hl 0 rfl) ?_
    refine va_get (ci := 2) (C := RX2) (T := TX2) (N := 7) hx hb hts inX2 hown hK.1 hP 0 rfl rfl 2 (by decide) fl15 (fun _ h9 => h9) rfl dX2_placeOf_12 ?_
    refine lv_iload_n hx hb dX2_placeOf_15 rfl (lv_at hl 1 rfl) ?_
    obtain ⟨zz_4, ee_5, h⟩ := bnd1_s h
    refine wIald hx hb hK hP 2 rfl ee_5 dX2_placeOf_16 ?_
    refine lv_goto (tgt := 21) hx hb dX2_placeOf_17 (by decide) ?_
    cases h
    exact W.iret hx hb hr (fun t ht _ => ⟨⟨_, (), rfl, rfl, by show va_P G.1 vwCl _ t.heap; rw [ht]; exact hP⟩, hS.F ht⟩) hS.2.2 dX2_placeOf_21
def f_X2_broomsIn_32 (M_pl : Nat → Int32) (T_br : Int32) (kk4 : Int32 → Int32 → Int32 → Option (Int32)) (v1 : Int32) (v3 : Int32) (q0 : Int32) (q1 : Int32) : Option (Int32) := kk4 v1 (q0 ||| q1) (v3 + 1)
def f_X2_broomsIn_4 (M_pl : Nat → Int32) (T_br : Int32) : Nat → Int32 → Int32 → Int32 → Option (Int32)
  | 0, _, _, _ => none
  | fu + 1, v1, v2, v3 => if T_br ≤ v3 then (some v2) else (bnd1 (f_X2_placeOf M_pl T_br v3) (fun rr_2 => if rr_2 = v1 then (f_X2_broomsIn_32 M_pl T_br (f_X2_broomsIn_4 M_pl T_br fu) v1 v3 v2 ((1 : Int32) <<< (v3 &&& 31))) else (f_X2_broomsIn_32 M_pl T_br (f_X2_broomsIn_4 M_pl T_br fu) v1 v3 v2 (0 : Int32))))
def f_X2_broomsIn (M_pl : Nat → Int32) (T_br : Int32) (u1 : Int32) : Option (Int32) := f_X2_broomsIn_4 M_pl T_br  130 u1 (0 : Int32) (0 : Int32)
set_option maxRecDepth 100000 in
set_option maxHeartbeats 4000000 in
theorem k_X2_broomsIn (l : Launch) (G : Gt) (m0 m1 m2 m3 t0 t1 t2 t3 t4 t5 t6 : Nat) (M_gi : Int32) (M_be : Int32) (M_da : Int32) (M_du : Nat → Int32) (M_pl : Nat → Int32) (M_de : Nat → Int32) (T_br : Int32) (T_fa : Int32) (T_fd : Nat → Int32) (T_fp : Nat → Int32) (T_st : Nat → Int32) (T_kd : Nat → Int32) (T_fs : Nat → Int32) (T_fl : Nat → Int32) (u1 : Int32) (r_ : Int32) (h : f_X2_broomsIn M_pl T_br u1 = some r_) : CT l yX2_broomsIn wsX2_broomsIn 2 42 G [.ref m0, .int u1] (W_MT G m0 m1 m2 m3 t0 t1 t2 t3 t4 t5 t6 M_gi M_be M_da M_du M_pl M_de T_br T_fa T_fd T_fp T_st T_kd T_fs T_fl) (QI G r_ (W_MT G m0 m1 m2 m3 t0 t1 t2 t3 t4 t5 t6 M_gi M_be M_da M_du M_pl M_de T_br T_fa T_fd T_fp T_st T_kd T_fs T_fl)) := by
  refine met_of cX2_broomsIn 4 (some .int) (by decide) rfl (Nat.le_of_ble_eq_true rfl) ?_
  intro p e s m below meth c A ls hx hb hr hml hts hown hlocks hK hA hD hP hS hl
  replace hown : s.vm.findClass RX2 = some m.cls := hown
  replace hl : lv_has ls 4 [(0, .ref m0), (1, .int u1)] := hl
  have S0 : CallFix p m c cX2_broomsIn 4 s _ wsX2_broomsIn RX2 := ⟨hx, hb, hml, hown, hts⟩
  have fl33 := hts (.fieldLink RX2 33 "DustVote$Moment" "told" "LDustVote$Told;") (by decide +kernel)
  have inX2 := show ∀ w ∈ wsX20, w ∈ wsX2_broomsIn from by decide +kernel
  have fl65 := hK.f (args := List.toArray [.ref m0, .int u1]) (show ("DustVote$Moment", 65, "DustVote$Told", "brooms", "I", "DustVote") ∈ nestF by decide)
  have inX4 := show ∀ w ∈ wsX40, w ∈ wsX2_broomsIn from by decide +kernel
  have cw_X2_placeOf := show CallW (rmv 2 42) s _ RX2 RX2 68 yX2_placeOf cX2_placeOf 2 (some .int) wsX2_placeOf (rmv 1 21) 0 0 1 from cwV 1 hts gX2_broomsIn_X2_placeOf rfl rfl rfl (by decide +kernel) ⟨Nat.le_of_ble_eq_true rfl, Nat.le_of_ble_eq_true rfl⟩
  have J_32 : ∀ (kk4 : Int32 → Int32 → Int32 → Option (Int32)) (hk4 : ∀ (v1 : Int32) (v2 : Int32) (v3 : Int32) (H : Heap) (locs : List Loc) (ls : Array Slot), kk4 v1 v2 v3 = some r_ → va_P G.1 vwCl (W_MT G m0 m1 m2 m3 t0 t1 t2 t3 t4 t5 t6 M_gi M_be M_da M_du M_pl M_de T_br T_fa T_fd T_fp T_st T_kd T_fs T_fl) H → va_S A s.heap H locs → lv_has ls 4 [(0, .ref m0), (1, .int v1), (2, .int v2), (3, .int v3)] → W p l e (rmv 2 42) s m (List.toArray [.ref m0, .int u1]) below meth c H locs 0 0 (MQ below ((QI G r_ (W_MT G m0 m1 m2 m3 t0 t1 t2 t3 t4 t5 t6 M_gi M_be M_da M_du M_pl M_de T_br T_fa T_fd T_fp T_st T_kd T_fs T_fl)) A) (List.toArray [.ref m0, .int u1]) s 0 0 A) (F0 m 4 ls [])), ∀ (v1 : Int32) (v3 : Int32) (q0 : Int32) (q1 : Int32) (H : Heap) (locs : List Loc) (ls : Array Slot), f_X2_broomsIn_32 M_pl T_br kk4 v1 v3 q0 q1 = some r_ → va_P G.1 vwCl (W_MT G m0 m1 m2 m3 t0 t1 t2 t3 t4 t5 t6 M_gi M_be M_da M_du M_pl M_de T_br T_fa T_fd T_fp T_st T_kd T_fs T_fl) H → va_S A s.heap H locs → lv_has ls 4 [(0, .ref m0), (1, .int v1), (3, .int v3)] → W p l e (rmv 2 42) s m (List.toArray [.ref m0, .int u1]) below meth c H locs 0 0 (MQ below ((QI G r_ (W_MT G m0 m1 m2 m3 t0 t1 t2 t3 t4 t5 t6 M_gi M_be M_da M_du M_pl M_de T_br T_fa T_fd T_fp T_st T_kd T_fs T_fl)) A) (List.toArray [.ref m0, .int u1]) s 0 0 A) (F0 m 32 ls [.int q1, .int q0]) := by
    intro kk4 hk4 v1 v3 q0 q1 H locs ls h hP hS hl
    unfold f_X2_broomsIn_32 at h
    refine lv_ior hx hb dX2_broomsIn_32 ?_
    refine lv_istore_n (lv' := [(2, .int (q0 ||| q1)), (0, .ref m0), (1, .int v1), (3, .int v3)]) hx hb dX2_broomsIn_33 rfl hl (by decide) rfl (fun ls hl => ?_)
    refine lv_iinc (v := (v3 + 1)) (lv' := [(3, .int (v3 + 1)), (2, .int (q0 ||| q1)), (0, .ref m0), (1, .int v1)]) hx hb dX2_broomsIn_34 hl (k := 3) rfl rfl (by decide) rfl (fun ls hl => ?_)
    refine lv_goto (tgt := 4) hx hb dX2_broomsIn_37 (by decide) ?_
    exact hk4 v1 (q0 ||| q1) (v3 + 1) _ _ _ h hP hS (lv_sub hl [2, 3, 1, 0] rfl)
  have J_4 : ∀ (fu : Nat), ∀ (v1 : Int32) (v2 : Int32) (v3 : Int32) (H : Heap) (locs : List Loc) (ls : Array Slot), f_X2_broomsIn_4 M_pl T_br fu v1 v2 v3 = some r_ → va_P G.1 vwCl (W_MT G m0 m1 m2 m3 t0 t1 t2 t3 t4 t5 t6 M_gi M_be M_da M_du M_pl M_de T_br T_fa T_fd T_fp T_st T_kd T_fs T_fl) H → va_S A s.heap H locs → lv_has ls 4 [(0, .ref m0), (1, .int v1), (2, .int v2), (3, .int v3)] → W p l e (rmv 2 42) s m (List.toArray [.ref m0, .int u1]) below meth c H locs 0 0 (MQ below ((QI G r_ (W_MT G m0 m1 m2 m3 t0 t1 t2 t3 t4 t5 t6 M_gi M_be M_da M_du M_pl M_de T_br T_fa T_fd T_fp T_st T_kd T_fs T_fl)) A) (List.toArray [.ref m0, .int u1]) s 0 0 A) (F0 m 4 ls []) := by
    intro  fu
    induction fu with
    | zero =>
      intro v1 v2 v3 H locs ls h
      cases h
    | succ fu ih =>
      intro v1 v2 v3 H locs ls h hP hS hl
      rw [f_X2_broomsIn_4] at h
      refine lv_iload_n hx hb dX2_broomsIn_4 rfl (lv_at hl 3 rfl) ?_
      refine lv_aload_n hx hb dX2_broomsIn_5 rfl (lv_at hl 0 rfl) ?_
      refine va_get (ci := 2) (C := RX2) (T := TX2) (N := 7) hx hb hts inX2 hown hK.1 hP 0 rfl rfl 0 (by decide) fl33 (fun _ h9 => h9) rfl dX2_broomsIn_6 ?_
      refine va_getN (ci := 4) (C := RX4) (T := TX4) (N := 8) hx hb hts inX4 hown hK.1 hP 4 rfl rfl 6 (by decide) fl65 (fun _ h9 => h9) rfl dX2_broomsIn_9 ?_
      refine lv_icmp_ge (tgt := 40) hx hb dX2_broomsIn_12 (by decide) (fun cc_1 => ?_) (fun cc_1 => ?_)
      · replace h := if_t cc_1 h
        refine lv_iload_n hx hb dX2_broomsIn_40 rfl (lv_at hl 2 rfl) ?_
        cases h
        exact W.iret hx hb hr (fun t ht _ => ⟨⟨_, (), rfl, rfl, by show va_P G.1 vwCl _ t.heap; rw [ht]; exact hP⟩, hS.F ht⟩) hS.2.2 dX2_broomsIn_41
      · replace h := if_f cc_1 h
        refine lv_iload_n hx hb dX2_broomsIn_15 rfl (lv_at hl 2 rfl) ?_
        refine lv_aload_n hx hb dX2_broomsIn_16 rfl (lv_at hl 0 rfl) ?_
        refine lv_iload_n hx hb dX2_broomsIn_17 rfl (lv_at hl 3 rfl) ?_
        obtain ⟨rr_2, ee_3, h⟩ := bnd1_s h
        refine cFi (As := [.int v3]) (rest := [.int v2]) S0 hK hA hP (va_D_same hD rfl) hS (k_X2_placeOf l G m0 m1 m2 m3 t0 t1 t2 t3 t4 t5 t6 M_gi M_be M_da M_du M_pl M_de T_br T_fa T_fd T_fp T_st T_kd T_fs T_fl v3 rr_2 ee_3) cw_X2_placeOf 2 0 rfl rfl rfl rfl hl.1 rfl (Nat.le_of_ble_eq_true rfl) dX2_broomsIn_18 ⟨Nat.zero_le _, Nat.zero_le _⟩ (fun H locs hP hS => ?_)
        replace hP : va_P G.1 vwCl (W_MT G m0 m1 m2 m3 t0 t1 t2 t3 t4 t5 t6 M_gi M_be M_da M_du M_pl M_de T_br T_fa T_fd T_fp T_st T_kd T_fs T_fl) H := hP
        refine lv_iload_n hx hb dX2_broomsIn_21 rfl (lv_at hl 1 rfl) ?_
        refine lv_icmp_ne (tgt := 31) hx hb dX2_broomsIn_22 (by decide) (fun cc_4 => ?_) (fun cc_4 => ?_)
        · replace h := if_f cc_4 h
          refine lv_iconst (v := 0) hx hb dX2_broomsIn_31 (by decide) ?_
          exact J_32 (f_X2_broomsIn_4 M_pl T_br fu) ih v1 v3 v2 (0 : Int32) _ _ _ h hP hS (lv_sub hl [0, 1, 3] rfl)
        · replace h := if_t cc_4 h
          refine lv_iconst (v := 1) hx hb dX2_broomsIn_25 (by decide) ?_
          refine lv_iload_n hx hb dX2_broomsIn_26 rfl (lv_at hl 3 rfl) ?_
          refine lv_ishl hx hb dX2_broomsIn_27 ?_
          refine lv_goto (tgt := 32) hx hb dX2_broomsIn_28 (by decide) ?_
          exact J_32 (f_X2_broomsIn_4 M_pl T_br fu) ih v1 v3 v2 ((1 : Int32) <<< (v3 &&& 31)) _ _ _ h hP hS (lv_sub hl [0, 1, 3] rfl)
  unfold f_X2_broomsIn at h
  refine lv_iconst (v := 0) hx hb dX2_broomsIn_0 (by decide) ?_
  refine lv_istore_n (lv' := [(2, .int (0 : Int32)), (0, .ref m0), (1, .int u1)]) hx hb dX2_broomsIn_1 rfl hl (by decide) rfl (fun ls hl => ?_)
  refine lv_iconst (v := 0) hx hb dX2_broomsIn_2 (by decide) ?_
  refine lv_istore_n (lv' := [(3, .int (0 : Int32)), (2, .int (0 : Int32)), (0, .ref m0), (1, .int u1)]) hx hb dX2_broomsIn_3 rfl hl (by decide) rfl (fun ls hl => ?_)
  exact J_4  130 u1 (0 : Int32) (0 : Int32) _ _ _ h hP hS (lv_sub hl [2, 3, 1, 0] rfl)
def f_X5_street (T_br : Int32) (N_du : Nat → Int32) (N_pl : Nat → Int32) (u1 : Int32) (u2 : Int32) : Option (Int32) := bnd1 (f_X5_isStreet u1) (fun rr_1 => if rr_1 = 0 then (some ((-1) : Int32)) else (if u2 = 0 then (bnd1 (f_X2_dustIn N_du u1) (fun rr_5 => some rr_5)) else (if u2 = 1 then (bnd1 (f_X2_isDeep N_du u1) (fun rr_8 => if rr_8 = 0 then (some (0 : Int32)) else (some (1 : Int32)))) else (if u2 = 2 then (bnd1 (f_X2_broomsIn N_pl T_br u1) (fun rr_12 => some rr_12)) else (some ((-2) : Int32))))))
set_option maxRecDepth 100000 in
set_option maxHeartbeats 4000000 in
theorem k_X5_street (l : Launch) (G : Gt) (x0 s0 s1 t0 t1 t2 t3 t4 t5 t6 n0 n1 n2 n3 r0 r1 r2 r3 a0 a1 p0 p1 p2 p3 k0 j0 : Nat) (X_ch : Int64) (S_len : Int32) (S_let : Nat → Int32) (T_br : Int32) (T_fa : Int32) (T_fd : Nat → Int32) (T_fp : Nat → Int32) (T_st : Nat → Int32) (T_kd : Nat → Int32) (T_fs : Nat → Int32) (T_fl : Nat → Int32) (N_gi : Int32) (N_be : Int32) (N_da : Int32) (N_du : Nat → Int32) (N_pl : Nat → Int32) (N_de : Nat → Int32) (R_gi : Int32) (R_be : Int32) (R_da : Int32) (R_du : Nat → Int32) (R_pl : Nat → Int32) (R_de : Nat → Int32) (A_fi : Int32) (A_si : Int32) (A_ce : Nat → Int32) (P_si : Int32) (P_be : Nat → Int32) (P_le : Nat → Int32) (P_go : Nat → Int32) (K_sl : Nat → Int32) (J_fi : Nat → Int32) (u1 : Int32) (u2 : Int32) (r_ : Int32) (h : f_X5_street T_br N_du N_pl u1 u2 = some r_) : CT l yX5_street wsX5_street 3 65 G [.ref x0, .int u1, .int u2] (W_F G x0 s0 s1 t0 t1 t2 t3 t4 t5 t6 n0 n1 n2 n3 r0 r1 r2 r3 a0 a1 p0 p1 p2 p3 k0 j0 X_ch S_len S_let T_br T_fa T_fd T_fp T_st T_kd T_fs T_fl N_gi N_be N_da N_du N_pl N_de R_gi R_be R_da R_du R_pl R_de A_fi A_si A_ce P_si P_be P_le P_go K_sl J_fi) (QI G r_ (W_F G x0 s0 s1 t0 t1 t2 t3 t4 t5 t6 n0 n1 n2 n3 r0 r1 r2 r3 a0 a1 p0 p1 p2 p3 k0 j0 X_ch S_len S_let T_br T_fa T_fd T_fp T_st T_kd T_fs T_fl N_gi N_be N_da N_du N_pl N_de R_gi R_be R_da R_du R_pl R_de A_fi A_si A_ce P_si P_be P_le P_go K_sl J_fi)) := by
  refine met_of cX5_street 3 (some .int) (by decide) rfl (Nat.le_of_ble_eq_true rfl) ?_
  intro p e s m below meth c A ls hx hb hr hml hts hown hlocks hK hA hD hP hS hl
  replace hown : s.vm.findClass RX5 = some m.cls := hown
  replace hl : lv_has ls 3 [(0, .ref x0), (1, .int u1), (2, .int u2)] := hl
  have S0 : CallFix p m c cX5_street 3 s _ wsX5_street RX5 := ⟨hx, hb, hml, hown, hts⟩
  have cw_X5_isStreet := show CallB (rmv 3 65) s _ RX5 93 yX5_isStreet cX5_isStreet 1 (some .boolean) wsX5_isStreet (rmv 0 0) 0 0 1 ∧ (Cond.static yX5_isStreet).before _ s = true from va_cwS 1 hts gX5_street_X5_isStreet rfl rfl rfl (by decide +kernel) ⟨Nat.le_of_ble_eq_true rfl, Nat.le_of_ble_eq_true rfl⟩
  have fl28 := hts (.fieldLink RX5 28 "DustVote" "now" "LDustVote$Moment;") (by decide +kernel)
  have inX5 := show ∀ w ∈ wsX50, w ∈ wsX5_street from by decide +kernel
  have cw_X2_dustIn := show CallW (rmv 3 65) s _ RX5 RX2 97 yX2_dustIn cX2_dustIn 2 (some .int) wsX2_dustIn (rmv 1 20) 0 0 1 from cwV 1 hts gX5_street_X2_dustIn rfl rfl rfl (by decide +kernel) ⟨Nat.le_of_ble_eq_true rfl, Nat.le_of_ble_eq_true rfl⟩
  have cw_X2_isDeep := show CallW (rmv 3 65) s _ RX5 RX2 101 yX2_isDeep cX2_isDeep 2 (some .boolean) wsX2_isDeep (rmv 2 41) 0 0 1 from cwV 1 hts gX5_street_X2_isDeep rfl rfl rfl (by decide +kernel) ⟨Nat.le_of_ble_eq_true rfl, Nat.le_of_ble_eq_true rfl⟩
  have cw_X2_broomsIn := show CallW (rmv 3 65) s _ RX5 RX2 104 yX2_broomsIn cX2_broomsIn 4 (some .int) wsX2_broomsIn (rmv 2 42) 0 0 1 from cwV 1 hts gX5_street_X2_broomsIn rfl rfl rfl (by decide +kernel) ⟨Nat.le_of_ble_eq_true rfl, Nat.le_of_ble_eq_true rfl⟩
  unfold f_X5_street at h
  refine lv_iload_n hx hb dX5_street_0 rfl (lv_at hl 1 rfl) ?_
  obtain ⟨rr_1, ee_2, h⟩ := bnd1_s h
  refine cSi (As := [.int u1]) (rest := []) S0 hK hA hP (va_D_same hD rfl) hS [] (k_X5_isStreet l G u1 rr_1 ee_2) cw_X5_isStreet rfl rfl (Nat.le_of_ble_eq_true rfl) rfl hl.1 rfl (Nat.le_of_ble_eq_true rfl) dX5_street_1 ⟨Nat.zero_le _, Nat.zero_le _⟩ (fun H locs hP hS => ?_)
  replace hP : va_P G.1 vwCl (W_F G x0 s0 s1 t0 t1 t2 t3 t4 t5 t6 n0 n1 n2 n3 r0 r1 r2 r3 a0 a1 p0 p1 p2 p3 k0 j0 X_ch S_len S_let T_br T_fa T_fd T_fp T_st T_kd T_fs T_fl N_gi N_be N_da N_du N_pl N_de R_gi R_be R_da R_du R_pl R_de A_fi A_si A_ce P_si P_be P_le P_go K_sl J_fi) H := hP
  refine lv_if_ne (tgt := 9) hx hb dX5_street_4 (by decide) (fun cc_3 => ?_) (fun cc_3 => ?_)
  · replace h := if_f cc_3 h
    refine lv_iload_n hx hb dX5_street_9 rfl (lv_at hl 2 rfl) ?_
    by_cases cc_4 : u2 = 0
    · refine lv_tableIn (off := 26) (tgt := 36) hx hb dX5_street_10 (by rw [cc_4]; decide) (by rw [cc_4]; decide) (by rw [cc_4]; rfl) (by decide) ?_
      replace h := if_t cc_4 h
      refine lv_aload_n hx hb dX5_street_36 rfl (lv_at hl 0 rfl) ?_
      refine va_get (ci := 5) (C := RX5) (T := TX5) (N := 9) hx hb hts inX5 hown hK.1 hP 0 rfl rfl 2 (by decide) fl28 (fun _ h9 => h9) rfl dX5_street_37 ?_
      refine lv_iload_n hx hb dX5_street_40 rfl (lv_at hl 1 rfl) ?_
      obtain ⟨rr_5, ee_6, h⟩ := bnd1_s h
      refine cVi (As := [.int u1]) (rest := []) S0 hK hA hP (va_D_same hD rfl) hS [10, 11, 12, 13, 3, 4, 5, 6, 7, 8, 9] (k_X2_dustIn l G n0 n1 n2 n3 t0 t1 t2 t3 t4 t5 t6 N_gi N_be N_da N_du N_pl N_de T_br T_fa T_fd T_fp T_st T_kd T_fs T_fl u1 rr_5 ee_6) cw_X2_dustIn rfl rfl (Nat.le_of_ble_eq_true rfl) 2 0 rfl rfl rfl rfl hl.1 rfl (Nat.le_of_ble_eq_true rfl) dX5_street_41 ⟨Nat.zero_le _, Nat.zero_le _⟩ (fun H locs hP hS => ?_)
      replace hP : va_P G.1 vwCl (W_F G x0 s0 s1 t0 t1 t2 t3 t4 t5 t6 n0 n1 n2 n3 r0 r1 r2 r3 a0 a1 p0 p1 p2 p3 k0 j0 X_ch S_len S_let T_br T_fa T_fd T_fp T_st T_kd T_fs T_fl N_gi N_be N_da N_du N_pl N_de R_gi R_be R_da R_du R_pl R_de A_fi A_si A_ce P_si P_be P_le P_go K_sl J_fi) H := hP
      cases h
      exact W.iret hx hb hr (fun t ht _ => ⟨⟨_, (), rfl, rfl, by show va_P G.1 vwCl _ t.heap; rw [ht]; exact hP⟩, hS.F ht⟩) hS.2.2 dX5_street_44
    replace h := if_f cc_4 h
    by_cases cc_7 : u2 = 1
    · refine lv_tableIn (off := 35) (tgt := 45) hx hb dX5_street_10 (by rw [cc_7]; decide) (by rw [cc_7]; decide) (by rw [cc_7]; rfl) (by decide) ?_
      replace h := if_t cc_7 h
      refine lv_aload_n hx hb dX5_street_45 rfl (lv_at hl 0 rfl) ?_
      refine va_get (ci := 5) (C := RX5) (T := TX5) (N := 9) hx hb hts inX5 hown hK.1 hP 0 rfl rfl 2 (by decide) fl28 (fun _ h9 => h9) rfl dX5_street_46 ?_
      refine lv_iload_n hx hb dX5_street_49 rfl (lv_at hl 1 rfl) ?_
      obtain ⟨rr_8, ee_9, h⟩ := bnd1_s h
      refine cVi (As := [.int u1]) (rest := []) S0 hK hA hP (va_D_same hD rfl) hS [10, 11, 12, 13, 3, 4, 5, 6, 7, 8, 9] (k_X2_isDeep l G n0 n1 n2 n3 t0 t1 t2 t3 t4 t5 t6 N_gi N_be N_da N_du N_pl N_de T_br T_fa T_fd T_fp T_st T_kd T_fs T_fl u1 rr_8 ee_9) cw_X2_isDeep rfl rfl (Nat.le_of_ble_eq_true rfl) 2 0 rfl rfl rfl rfl hl.1 rfl (Nat.le_of_ble_eq_true rfl) dX5_street_50 ⟨Nat.zero_le _, Nat.zero_le _⟩ (fun H locs hP hS => ?_)
      replace hP : va_P G.1 vwCl (W_F G x0 s0 s1 t0 t1 t2 t3 t4 t5 t6 n0 n1 n2 n3 r0 r1 r2 r3 a0 a1 p0 p1 p2 p3 k0 j0 X_ch S_len S_let T_br T_fa T_fd T_fp T_st T_kd T_fs T_fl N_gi N_be N_da N_du N_pl N_de R_gi R_be R_da R_du R_pl R_de A_fi A_si A_ce P_si P_be P_le P_go K_sl J_fi) H := hP
      refine lv_if_eq (tgt := 60) hx hb dX5_street_53 (by decide) (fun cc_10 => ?_) (fun cc_10 => ?_)
      · replace h := if_t cc_10 h
        refine lv_iconst (v := 0) hx hb dX5_street_60 (by decide) ?_
        cases h
        exact W.iret hx hb hr (fun t ht _ => ⟨⟨_, (), rfl, rfl, by show va_P G.1 vwCl _ t.heap; rw [ht]; exact hP⟩, hS.F ht⟩) hS.2.2 dX5_street_61
      · replace h := if_f cc_10 h
        refine lv_iconst (v := 1) hx hb dX5_street_56 (by decide) ?_
        refine lv_goto (tgt := 61) hx hb dX5_street_57 (by decide) ?_
        cases h
        exact W.iret hx hb hr (fun t ht _ => ⟨⟨_, (), rfl, rfl, by show va_P G.1 vwCl _ t.heap; rw [ht]; exact hP⟩, hS.F ht⟩) hS.2.2 dX5_street_61
    replace h := if_f cc_7 h
    by_cases cc_11 : u2 = 2
    · refine lv_tableIn (off := 52) (tgt := 62) hx hb dX5_street_10 (by rw [cc_11]; decide) (by rw [cc_11]; decide) (by rw [cc_11]; rfl) (by decide) ?_
      replace h := if_t cc_11 h
      refine lv_aload_n hx hb dX5_street_62 rfl (lv_at hl 0 rfl) ?_
      refine va_get (ci := 5) (C := RX5) (T := TX5) (N := 9) hx hb hts inX5 hown hK.1 hP 0 rfl rfl 2 (by decide) fl28 (fun _ h9 => h9) rfl dX5_street_63 ?_
      refine lv_iload_n hx hb dX5_street_66 rfl (lv_at hl 1 rfl) ?_
      obtain ⟨rr_12, ee_13, h⟩ := bnd1_s h
      refine cVi (As := [.int u1]) (rest := []) S0 hK hA hP (va_D_same hD rfl) hS [10, 11, 12, 13, 3, 4, 5, 6, 7, 8, 9] (k_X2_broomsIn l G n0 n1 n2 n3 t0 t1 t2 t3 t4 t5 t6 N_gi N_be N_da N_du N_pl N_de T_br T_fa T_fd T_fp T_st T_kd T_fs T_fl u1 rr_12 ee_13) cw_X2_broomsIn rfl rfl (Nat.le_of_ble_eq_true rfl) 2 0 rfl rfl rfl rfl hl.1 rfl (Nat.le_of_ble_eq_true rfl) dX5_street_67 ⟨Nat.zero_le _, Nat.zero_le _⟩ (fun H locs hP hS => ?_)
      replace hP : va_P G.1 vwCl (W_F G x0 s0 s1 t0 t1 t2 t3 t4 t5 t6 n0 n1 n2 n3 r0 r1 r2 r3 a0 a1 p0 p1 p2 p3 k0 j0 X_ch S_len S_let T_br T_fa T_fd T_fp T_st T_kd T_fs T_fl N_gi N_be N_da N_du N_pl N_de R_gi R_be R_da R_du R_pl R_de A_fi A_si A_ce P_si P_be P_le P_go K_sl J_fi) H := hP
      cases h
      exact W.iret hx hb hr (fun t ht _ => ⟨⟨_, (), rfl, rfl, by show va_P G.1 vwCl _ t.heap; rw [ht]; exact hP⟩, hS.F ht⟩) hS.2.2 dX5_street_70
    replace h := if_f cc_11 h
    refine lv_tableOut (tgt := 71) hx hb dX5_street_10 (by have acc_4 := ne_toInt cc_4 (k := 0) (by decide); have acc_7 := ne_toInt cc_7 (k := 1) (by decide); have acc_11 := ne_toInt cc_11 (k := 2) (by decide); omega) (by decide) ?_
    refine lv_bipush (v := (-2)) hx hb dX5_street_71 (by decide) ?_
    cases h
    exact W.iret hx hb hr (fun t ht _ => ⟨⟨_, (), rfl, rfl, by show va_P G.1 vwCl _ t.heap; rw [ht]; exact hP⟩, hS.F ht⟩) hS.2.2 dX5_street_73
  · replace h := if_t cc_3 h
    refine lv_iconst (v := (-1)) hx hb dX5_street_7 (by decide) ?_
    cases h
    exact W.iret hx hb hr (fun t ht _ => ⟨⟨_, (), rfl, rfl, by show va_P G.1 vwCl _ t.heap; rw [ht]; exact hP⟩, hS.F ht⟩) hS.2.2 dX5_street_8
def f_X4_strengthOf (T_st : Nat → Int32) (u1 : Int32) : Option (Int32) := if u1 < 0 then (some (0 : Int32)) else (if (5 : Int32) ≤ u1 then (some (0 : Int32)) else (bnd1 (rd T_st 5 u1) (fun zz_3 => some zz_3)))
set_option maxRecDepth 100000 in
set_option maxHeartbeats 4000000 in
theorem k_X4_strengthOf (l : Launch) (G : Gt) (t0 t1 t2 t3 t4 t5 t6 : Nat) (T_br : Int32) (T_fa : Int32) (T_fd : Nat → Int32) (T_fp : Nat → Int32) (T_st : Nat → Int32) (T_kd : Nat → Int32) (T_fs : Nat → Int32) (T_fl : Nat → Int32) (u1 : Int32) (r_ : Int32) (h : f_X4_strengthOf T_st u1 = some r_) : CT l yX4_strengthOf wsX4_strengthOf 0 0 G [.ref t0, .int u1] (W_T G t0 t1 t2 t3 t4 t5 t6 T_br T_fa T_fd T_fp T_st T_kd T_fs T_fl) (QI G r_ (W_T G t0 t1 t2 t3 t4 t5 t6 T_br T_fa T_fd T_fp T_st T_kd T_fs T_fl)) := by
  refine met_of cX4_strengthOf 2 (some .int) (by decide) rfl (Nat.le_of_ble_eq_true rfl) ?_
  intro p e s m below meth c A ls hx hb hr hml hts hown hlocks hK hA hD hP hS hl
  replace hown : s.vm.findClass RX4 = some m.cls := hown
  replace hl : lv_has ls 2 [(0, .ref t0), (1, .int u1)] := hl
  have S0 : CallFix p m c cX4_strengthOf 2 s _ wsX4_strengthOf RX4 := ⟨hx, hb, hml, hown, hts⟩
  have fl18 := hts (.fieldLink RX4 18 "DustVote$Told" "strength" "[I") (by decide +kernel)
  have inX4 := show ∀ w ∈ wsX40, w ∈ wsX4_strengthOf from by decide +kernel
  unfold f_X4_strengthOf at h
  refine lv_iload_n hx hb dX4_strengthOf_0 rfl (lv_at hl 1 rfl) ?_
  refine lv_if_lt (tgt := 18) hx hb dX4_strengthOf_1 (by decide) (fun cc_1 => ?_) (fun cc_1 => ?_)
  · replace h := if_t cc_1 h
    refine lv_iconst (v := 0) hx hb dX4_strengthOf_18 (by decide) ?_
    cases h
    exact W.iret hx hb hr (fun t ht _ => ⟨⟨_, (), rfl, rfl, by show va_P G.1 vwCl _ t.heap; rw [ht]; exact hP⟩, hS.F ht⟩) hS.2.2 dX4_strengthOf_19
  · replace h := if_f cc_1 h
    refine lv_iload_n hx hb dX4_strengthOf_4 rfl (lv_at hl 1 rfl) ?_
    refine lv_iconst (v := 5) hx hb dX4_strengthOf_5 (by decide) ?_
    refine lv_icmp_ge (tgt := 18) hx hb dX4_strengthOf_6 (by decide) (fun cc_2 => ?_) (fun cc_2 => ?_)
    · replace h := if_t cc_2 h
      refine lv_iconst (v := 0) hx hb dX4_strengthOf_18 (by decide) ?_
      cases h
      exact W.iret hx hb hr (fun t ht _ => ⟨⟨_, (), rfl, rfl, by show va_P G.1 vwCl _ t.heap; rw [ht]; exact hP⟩, hS.F ht⟩) hS.2.2 dX4_strengthOf_19
    · replace h := if_f cc_2 h
      refine lv_aload_n hx hb dX4_strengthOf_9 rfl (lv_at hl 0 rfl) ?_
      refine va_get (ci := 4) (C := RX4) (T := TX4) (N := 8) hx hb hts inX4 hown hK.1 hP 0 rfl rfl 2 (by decide) fl18 (fun _ h9 => h9) rfl dX4_strengthOf_10 ?_
      refine lv_iload_n hx hb dX4_strengthOf_13 rfl (lv_at hl 1 rfl) ?_
      obtain ⟨zz_3, ee_4, h⟩ := bnd1_s h
      refine wIald hx hb hK hP 3 rfl ee_4 dX4_strengthOf_14 ?_
      refine lv_goto (tgt := 19) hx hb dX4_strengthOf_15 (by decide) ?_
      cases h
      exact W.iret hx hb hr (fun t ht _ => ⟨⟨_, (), rfl, rfl, by show va_P G.1 vwCl _ t.heap; rw [ht]; exact hP⟩, hS.F ht⟩) hS.2.2 dX4_strengthOf_19
