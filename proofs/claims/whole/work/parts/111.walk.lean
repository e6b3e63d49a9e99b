def f_X5_walk (T_br : Int32) (N_gi : Int32) (N_be : Int32) (N_da : Int32) (N_du : Nat → Int32) (N_pl : Nat → Int32) (A_fi : Int32) (A_si : Int32) (A_ce : Nat → Int32) (u1 : Int32) (u2 : Int32) : Option (Int32 × (Nat → Int32) × Int32 × Int32 × (Nat → Int32)) := bnd1 (f_X4_hasBroom T_br u1) (fun rr_1 => if rr_1 = 0 then (some (((-1) : Int32), N_pl, A_fi, A_si, A_ce)) else (bnd1 (f_X5_within u2 (0 : Int32) (1 : Int32)) (fun rr_4 => if rr_4 = 0 then (some (((-2) : Int32), N_pl, A_fi, A_si, A_ce)) else (bnd3 (f_X0_push A_fi A_si A_ce N_gi N_be N_da N_du N_pl) (fun dd_7 dd_8 dd_9 => bnd1 (f_X2_step N_pl T_br u1 u2) (fun dd_11 => bnd1 (f_X2_placeOf dd_11 T_br u1) (fun rr_13 => some (rr_13, dd_11, dd_7, dd_8, dd_9))))))))
set_option maxRecDepth 100000 in
set_option maxHeartbeats 4000000 in
theorem k_X5_walk (l : Launch) (G : Gt) (x0 s0 s1 t0 t1 t2 t3 t4 t5 t6 n0 n1 n2 n3 r0 r1 r2 r3 a0 a1 p0 p1 p2 p3 k0 j0 : Nat) (X_ch : Int64) (S_len : Int32) (S_let : Nat → Int32) (T_br : Int32) (T_fa : Int32) (T_fd : Nat → Int32) (T_fp : Nat → Int32) (T_st : Nat → Int32) (T_kd : Nat → Int32) (T_fs : Nat → Int32) (T_fl : Nat → Int32) (N_gi : Int32) (N_be : Int32) (N_da : Int32) (N_du : Nat → Int32) (N_pl : Nat → Int32) (N_de : Nat → Int32) (R_gi : Int32) (R_be : Int32) (R_da : Int32) (R_du : Nat → Int32) (R_pl : Nat → Int32) (R_de : Nat → Int32) (A_fi : Int32) (A_si : Int32) (A_ce : Nat → Int32) (P_si : Int32) (P_be : Nat → Int32) (P_le : Nat → Int32) (P_go : Nat → Int32) (K_sl : Nat → Int32) (J_fi : Nat → Int32) (u1 : Int32) (u2 : Int32) (r_ : Int32) (o_N_pl : Nat → Int32) (o_A_fi : Int32) (o_A_si : Int32) (o_A_ce : Nat → Int32) (h : f_X5_walk T_br N_gi N_be N_da N_du N_pl A_fi A_si A_ce u1 u2 = some (r_, o_N_pl, o_A_fi, o_A_si, o_A_ce)) : CT l yX5_walk wsX5_walk 3 66 G [.ref x0, .int u1, .int u2] (W_F G x0 s0 s1 t0 t1 t2 t3 t4 t5 t6 n0 n1 n2 n3 r0 r1 r2 r3 a0 a1 p0 p1 p2 p3 k0 j0 X_ch S_len S_let T_br T_fa T_fd T_fp T_st T_kd T_fs T_fl N_gi N_be N_da N_du N_pl N_de R_gi R_be R_da R_du R_pl R_de A_fi A_si A_ce P_si P_be P_le P_go K_sl J_fi) (QI G r_ (W_F G x0 s0 s1 t0 t1 t2 t3 t4 t5 t6 n0 n1 n2 n3 r0 r1 r2 r3 a0 a1 p0 p1 p2 p3 k0 j0 X_ch S_len S_let T_br T_fa T_fd T_fp T_st T_kd T_fs T_fl N_gi N_be N_da N_du o_N_pl N_de R_gi R_be R_da R_du R_pl R_de o_A_fi o_A_si o_A_ce P_si P_be P_le P_go K_sl J_fi)) := by
  refine met_of cX5_walk 3 (some .int) (by decide) rfl (Nat.le_of_ble_eq_true rfl) ?_
  intro p e s m below meth c A ls hx hb hr hml hts hown hlocks hK hA hD hP hS hl
  replace hown : s.vm.findClass RX5 = some m.cls := hown
  replace hl : lv_has ls 3 [(0, .ref x0), (1, .int u1), (2, .int u2)] := hl
  have S0 : CallFix p m c cX5_walk 3 s _ wsX5_walk RX5 := ⟨hx, hb, hml, hown, hts⟩
  have fl19 := hts (.fieldLink RX5 19 "DustVote" "told" "LDustVote$Told;") (by decide +kernel)
  have inX5 := show ∀ w ∈ wsX50, w ∈ wsX5_walk from by decide +kernel
  have cw_X4_hasBroom := show CallW (rmv 3 66) s _ RX5 RX4 107 yX4_hasBroom cX4_hasBroom 2 (some .boolean) wsX4_hasBroom (rmv 0 0) 0 0 1 from cwV 1 hts gX5_walk_X4_hasBroom rfl rfl rfl (by decide +kernel) ⟨Nat.le_of_ble_eq_true rfl, Nat.le_of_ble_eq_true rfl⟩
  have cw_X5_within := show CallB (rmv 3 66) s _ RX5 61 yX5_within cX5_within 3 (some .boolean) wsX5_within (rmv 0 0) 0 0 3 ∧ (Cond.static yX5_within).before _ s = true from va_cwS 3 hts gX5_walk_X5_within rfl rfl rfl (by decide +kernel) ⟨Nat.le_of_ble_eq_true rfl, Nat.le_of_ble_eq_true rfl⟩
  have fl38 := hts (.fieldLink RX5 38 "DustVote" "acts" "LDustVote$ActRow;") (by decide +kernel)
  have fl28 := hts (.fieldLink RX5 28 "DustVote" "now" "LDustVote$Moment;") (by decide +kernel)
  have cw_X0_push := show CallW (rmv 3 66) s _ RX5 RX0 125 yX0_push cX0_push 2 none wsX0_push (rmv 2 41) 0 0 1 from cwV 1 hts gX5_walk_X0_push rfl rfl rfl (by decide +kernel) ⟨Nat.le_of_ble_eq_true rfl, Nat.le_of_ble_eq_true rfl⟩
  have cw_X2_step := show CallW (rmv 3 66) s _ RX5 RX2 136 yX2_step cX2_step 4 none wsX2_step (rmv 2 43) 0 0 2 from cwV 2 hts gX5_walk_X2_step rfl rfl rfl (by decide +kernel) ⟨Nat.le_of_ble_eq_true rfl, Nat.le_of_ble_eq_true rfl⟩
  have cw_X2_placeOf := show CallW (rmv 3 66) s _ RX5 RX2 110 yX2_placeOf cX2_placeOf 2 (some .int) wsX2_placeOf (rmv 1 21) 0 0 1 from cwV 1 hts gX5_walk_X2_placeOf rfl rfl rfl (by decide +kernel) ⟨Nat.le_of_ble_eq_true rfl, Nat.le_of_ble_eq_true rfl⟩
  unfold f_X5_walk at h
  refine lv_aload_n hx hb dX5_walk_0 rfl (lv_at hl 0 rfl) ?_
  refine va_get (ci := 5) (C := RX5) (T := TX5) (N := 9) hx hb hts inX5 hown hK.1 hP 0 rfl rfl 1 (by decide) fl19 (fun _ h9 => h9) rfl dX5_walk_1 ?_
  refine lv_iload_n hx hb dX5_walk_4 rfl (lv_at hl 1 rfl) ?_
  obtain ⟨rr_1, ee_2, h⟩ := bnd1_s h
  refine cVi (As := [.int u1]) (rest := []) S0 hK hA hP (va_D_same hD rfl) hS [3, 4, 5, 6, 7, 8, 9] (k_X4_hasBroom l G t0 t1 t2 t3 t4 t5 t6 T_br T_fa T_fd T_fp T_st T_kd T_fs T_fl u1 rr_1 ee_2) cw_X4_hasBroom rfl rfl (Nat.le_of_ble_eq_true rfl) 4 0 rfl rfl rfl rfl hl.1 rfl (Nat.le_of_ble_eq_true rfl) dX5_walk_5 ⟨Nat.zero_le _, Nat.zero_le _⟩ (fun H locs hP hS => ?_)
  replace hP : va_P G.1 vwCl (W_F G x0 s0 s1 t0 t1 t2 t3 t4 t5 t6 n0 n1 n2 n3 r0 r1 r2 r3 a0 a1 p0 p1 p2 p3 k0 j0 X_ch S_len S_let T_br T_fa T_fd T_fp T_st T_kd T_fs T_fl N_gi N_be N_da N_du N_pl N_de R_gi R_be R_da R_du R_pl R_de A_fi A_si A_ce P_si P_be P_le P_go K_sl J_fi) H := hP
  refine lv_if_ne (tgt := 13) hx hb dX5_walk_8 (by decide) (fun cc_3 => ?_) (fun cc_3 => ?_)
  · replace h := if_f cc_3 h
    refine lv_iload_n hx hb dX5_walk_13 rfl (lv_at hl 2 rfl) ?_
    refine lv_iconst (v := 0) hx hb dX5_walk_14 (by decide) ?_
    refine lv_iconst (v := 1) hx hb dX5_walk_15 (by decide) ?_
    obtain ⟨rr_4, ee_5, h⟩ := bnd1_s h
    refine cSi (As := [.int u2, .int (0 : Int32), .int (1 : Int32)]) (rest := []) S0 hK hA hP (va_D_same hD rfl) hS [] (k_X5_within l G u2 (0 : Int32) (1 : Int32) rr_4 ee_5) cw_X5_within rfl rfl (Nat.le_of_ble_eq_true rfl) rfl hl.1 rfl (Nat.le_of_ble_eq_true rfl) dX5_walk_16 ⟨Nat.zero_le _, Nat.zero_le _⟩ (fun H locs hP hS => ?_)
    replace hP : va_P G.1 vwCl (W_F G x0 s0 s1 t0 t1 t2 t3 t4 t5 t6 n0 n1 n2 n3 r0 r1 r2 r3 a0 a1 p0 p1 p2 p3 k0 j0 X_ch S_len S_let T_br T_fa T_fd T_fp T_st T_kd T_fs T_fl N_gi N_be N_da N_du N_pl N_de R_gi R_be R_da R_du R_pl R_de A_fi A_si A_ce P_si P_be P_le P_go K_sl J_fi) H := hP
    refine lv_if_ne (tgt := 25) hx hb dX5_walk_19 (by decide) (fun cc_6 => ?_) (fun cc_6 => ?_)
    · replace h := if_f cc_6 h
      refine lv_aload_n hx hb dX5_walk_25 rfl (lv_at hl 0 rfl) ?_
      refine va_get (ci := 5) (C := RX5) (T := TX5) (N := 9) hx hb hts inX5 hown hK.1 hP 0 rfl rfl 4 (by decide) fl38 (fun _ h9 => h9) rfl dX5_walk_26 ?_
      refine lv_aload_n hx hb dX5_walk_29 rfl (lv_at hl 0 rfl) ?_
      refine va_get (ci := 5) (C := RX5) (T := TX5) (N := 9) hx hb hts inX5 hown hK.1 hP 0 rfl rfl 2 (by decide) fl28 (fun _ h9 => h9) rfl dX5_walk_30 ?_
      obtain ⟨dd_7, dd_8, dd_9, ee_10, h⟩ := bnd3_s h
      refine cVv (As := [.ref n0]) (rest := []) S0 hK hA hP (va_D_same hD rfl) hS [18, 19, 10, 11, 12, 13] (k_X0_push l G a0 a1 n0 n1 n2 n3 t0 A_fi A_si A_ce N_gi N_be N_da N_du N_pl N_de dd_7 dd_8 dd_9 ee_10) cw_X0_push rfl rfl (Nat.le_of_ble_eq_true rfl) 0 0 rfl rfl rfl rfl hl.1 rfl (Nat.le_of_ble_eq_true rfl) dX5_walk_33 ⟨Nat.zero_le _, Nat.zero_le _⟩ (fun H locs hP hS => ?_)
      replace hP : va_P G.1 vwCl (W_F G x0 s0 s1 t0 t1 t2 t3 t4 t5 t6 n0 n1 n2 n3 r0 r1 r2 r3 a0 a1 p0 p1 p2 p3 k0 j0 X_ch S_len S_let T_br T_fa T_fd T_fp T_st T_kd T_fs T_fl N_gi N_be N_da N_du N_pl N_de R_gi R_be R_da R_du R_pl R_de dd_7 dd_8 dd_9 P_si P_be P_le P_go K_sl J_fi) H := hP
      refine lv_aload_n hx hb dX5_walk_36 rfl (lv_at hl 0 rfl) ?_
      refine va_get (ci := 5) (C := RX5) (T := TX5) (N := 9) hx hb hts inX5 hown hK.1 hP 0 rfl rfl 2 (by decide) fl28 (fun _ h9 => h9) rfl dX5_walk_37 ?_
      refine lv_iload_n hx hb dX5_walk_40 rfl (lv_at hl 1 rfl) ?_
      refine lv_iload_n hx hb dX5_walk_41 rfl (lv_at hl 2 rfl) ?_
      obtain ⟨dd_11, ee_12, h⟩ := bnd1_s h
      refine cVv (As := [.int u1, .int u2]) (rest := []) S0 hK hA hP (va_D_same hD rfl) hS [10, 11, 12, 13, 3, 4, 5, 6, 7, 8, 9] (k_X2_step l G n0 n1 n2 n3 t0 t1 t2 t3 t4 t5 t6 N_gi N_be N_da N_du N_pl N_de T_br T_fa T_fd T_fp T_st T_kd T_fs T_fl u1 u2 dd_11 ee_12) cw_X2_step rfl rfl (Nat.le_of_ble_eq_true rfl) 2 0 rfl rfl rfl rfl hl.1 rfl (Nat.le_of_ble_eq_true rfl) dX5_walk_42 ⟨Nat.zero_le _, Nat.zero_le _⟩ (fun H locs hP hS => ?_)
      replace hP : va_P G.1 vwCl (W_F G x0 s0 s1 t0 t1 t2 t3 t4 t5 t6 n0 n1 n2 n3 r0 r1 r2 r3 a0 a1 p0 p1 p2 p3 k0 j0 X_ch S_len S_let T_br T_fa T_fd T_fp T_st T_kd T_fs T_fl N_gi N_be N_da N_du dd_11 N_de R_gi R_be R_da R_du R_pl R_de dd_7 dd_8 dd_9 P_si P_be P_le P_go K_sl J_fi) H := hP
      refine lv_aload_n hx hb dX5_walk_45 rfl (lv_at hl 0 rfl) ?_
      refine va_get (ci := 5) (C := RX5) (T := TX5) (N := 9) hx hb hts inX5 hown hK.1 hP 0 rfl rfl 2 (by decide) fl28 (fun _ h9 => h9) rfl dX5_walk_46 ?_
      refine lv_iload_n hx hb dX5_walk_49 rfl (lv_at hl 1 rfl) ?_
      obtain ⟨rr_13, ee_14, h⟩ := bnd1_s h
      refine cVi (As := [.int u1]) (rest := []) S0 hK hA hP (va_D_same hD rfl) hS [10, 11, 12, 13, 3, 4, 5, 6, 7, 8, 9] (k_X2_placeOf l G n0 n1 n2 n3 t0 t1 t2 t3 t4 t5 t6 N_gi N_be N_da N_du dd_11 N_de T_br T_fa T_fd T_fp T_st T_kd T_fs T_fl u1 rr_13 ee_14) cw_X2_placeOf rfl rfl (Nat.le_of_ble_eq_true rfl) 2 0 rfl rfl rfl rfl hl.1 rfl (Nat.le_of_ble_eq_true rfl) dX5_walk_50 ⟨Nat.zero_le _, Nat.zero_le _⟩ (fun H locs hP hS => ?_)
      replace hP : va_P G.1 vwCl (W_F G x0 s0 s1 t0 t1 t2 t3 t4 t5 t6 n0 n1 n2 n3 r0 r1 r2 r3 a0 a1 p0 p1 p2 p3 k0 j0 X_ch S_len S_let T_br T_fa T_fd T_fp T_st T_kd T_fs T_fl N_gi N_be N_da N_du dd_11 N_de R_gi R_be R_da R_du R_pl R_de dd_7 dd_8 dd_9 P_si P_be P_le P_go K_sl J_fi) H := hP
      cases h
      exact W.iret hx hb hr (fun t ht _ => ⟨⟨_, (), rfl, rfl, by show va_P G.1 vwCl _ t.heap; rw [ht]; exact hP⟩, hS.F ht⟩) hS.2.2 dX5_walk_53
    · replace h := if_t cc_6 h
      refine lv_bipush (v := (-2)) hx hb dX5_walk_22 (by decide) ?_
      cases h
      exact W.iret hx hb hr (fun t ht _ => ⟨⟨_, (), rfl, rfl, by show va_P G.1 vwCl _ t.heap; rw [ht]; exact hP⟩, hS.F ht⟩) hS.2.2 dX5_walk_24
  · replace h := if_t cc_3 h
    refine lv_iconst (v := (-1)) hx hb dX5_walk_11 (by decide) ?_
    cases h
    exact W.iret hx hb hr (fun t ht _ => ⟨⟨_, (), rfl, rfl, by show va_P G.1 vwCl _ t.heap; rw [ht]; exact hP⟩, hS.F ht⟩) hS.2.2 dX5_walk_12
def f_X2_turnVote (M_gi : Int32) : Option (Int32) := if M_gi = 0 then (some (1 : Int32)) else (some (0 : Int32))
set_option maxRecDepth 100000 in
set_option maxHeartbeats 4000000 in
theorem k_X2_turnVote (l : Launch) (G : Gt) (m0 m1 m2 m3 t0 t1 t2 t3 t4 t5 t6 : Nat) (M_gi : Int32) (M_be : Int32) (M_da : Int32) (M_du : Nat → Int32) (M_pl : Nat → Int32) (M_de : Nat → Int32) (T_br : Int32) (T_fa : Int32) (T_fd : Nat → Int32) (T_fp : Nat → Int32) (T_st : Nat → Int32) (T_kd : Nat → Int32) (T_fs : Nat → Int32) (T_fl : Nat → Int32) (o_M_gi : Int32) (h : f_X2_turnVote M_gi = some o_M_gi) : CT l yX2_turnVote wsX2_turnVote 0 0 G [.ref m0] (W_MT G m0 m1 m2 m3 t0 t1 t2 t3 t4 t5 t6 M_gi M_be M_da M_du M_pl M_de T_br T_fa T_fd T_fp T_st T_kd T_fs T_fl) (QV G (W_MT G m0 m1 m2 m3 t0 t1 t2 t3 t4 t5 t6 o_M_gi M_be M_da M_du M_pl M_de T_br T_fa T_fd T_fp T_st T_kd T_fs T_fl)) := by
  refine met_of cX2_turnVote 1 none (by decide) rfl (Nat.le_of_ble_eq_true rfl) ?_
  intro p e s m below meth c A ls hx hb hr hml hts hown hlocks hK hA hD hP hS hl
  replace hown : s.vm.findClass RX2 = some m.cls := hown
  replace hl : lv_has ls 1 [(0, .ref m0)] := hl
  have S0 : CallFix p m c cX2_turnVote 1 s _ wsX2_turnVote RX2 := ⟨hx, hb, hml, hown, hts⟩
  have fl22 := hts (.fieldLink RX2 22 "DustVote$Moment" "given" "Z") (by decide +kernel)
  have inX2 := show ∀ w ∈ wsX20, w ∈ wsX2_turnVote from by decide +kernel
  unfold f_X2_turnVote at h
  refine lv_aload_n hx hb dX2_turnVote_0 rfl (lv_at hl 0 rfl) ?_
  refine lv_aload_n hx hb dX2_turnVote_1 rfl (lv_at hl 0 rfl) ?_
  refine va_get (ci := 2) (C := RX2) (T := TX2) (N := 7) hx hb hts inX2 hown hK.1 hP 0 rfl rfl 4 (by decide) fl22 (fun _ h9 => h9) rfl dX2_turnVote_2 ?_
  refine lv_if_ne (tgt := 12) hx hb dX2_turnVote_5 (by decide) (fun cc_1 => ?_) (fun cc_1 => ?_)
  · replace h := if_f cc_1 h
    refine lv_iconst (v := 0) hx hb dX2_turnVote_12 (by decide) ?_
    refine va_put (ci := 2) (ty := .boolean) (C := RX2) (T := TX2) (N := 7) hx hb hts inX2 tyX2 tyX2_ok nmX2 hown hK.1 hP (va_D_same hD rfl) hS 0 rfl rfl 4 (by decide) fl22 (fun _ h9 => h9) rfl (by decide +kernel) (by decide) (by decide) (Nat.le_of_ble_eq_true rfl) dX2_turnVote_13 (fun H locs hP _ hS => ?_)
    replace hP : va_P G.1 vwCl (W_MT G m0 m1 m2 m3 t0 t1 t2 t3 t4 t5 t6 (0 : Int32) M_be M_da M_du M_pl M_de T_br T_fa T_fd T_fp T_st T_kd T_fs T_fl) H := hP
    cases h
    exact W.vret hx hb hr (fun t ht _ => ⟨⟨(), rfl, trivial, by show va_P G.1 vwCl _ t.heap; rw [ht]; exact hP⟩, hS.F ht⟩) hS.2.2 dX2_turnVote_16
  · replace h := if_t cc_1 h
    refine lv_iconst (v := 1) hx hb dX2_turnVote_8 (by decide) ?_
    refine lv_goto (tgt := 13) hx hb dX2_turnVote_9 (by decide) ?_
    refine va_put (ci := 2) (ty := .boolean) (C := RX2) (T := TX2) (N := 7) hx hb hts inX2 tyX2 tyX2_ok nmX2 hown hK.1 hP (va_D_same hD rfl) hS 0 rfl rfl 4 (by decide) fl22 (fun _ h9 => h9) rfl (by decide +kernel) (by decide) (by decide) (Nat.le_of_ble_eq_true rfl) dX2_turnVote_13 (fun H locs hP _ hS => ?_)
    replace hP : va_P G.1 vwCl (W_MT G m0 m1 m2 m3 t0 t1 t2 t3 t4 t5 t6 (1 : Int32) M_be M_da M_du M_pl M_de T_br T_fa T_fd T_fp T_st T_kd T_fs T_fl) H := hP
    cases h
    exact W.vret hx hb hr (fun t ht _ => ⟨⟨(), rfl, trivial, by show va_P G.1 vwCl _ t.heap; rw [ht]; exact hP⟩, hS.F ht⟩) hS.2.2 dX2_turnVote_16
def f_X5_vote (N_gi : Int32) (N_be : Int32) (N_da : Int32) (N_du : Nat → Int32) (N_pl : Nat → Int32) (A_fi : Int32) (A_si : Int32) (A_ce : Nat → Int32) : Option (Int32 × Int32 × Int32 × Int32 × (Nat → Int32)) := bnd3 (f_X0_push A_fi A_si A_ce N_gi N_be N_da N_du N_pl) (fun dd_1 dd_2 dd_3 => bnd1 (f_X2_turnVote N_gi) (fun dd_5 => if dd_5 = 0 then (some ((0 : Int32), dd_5, dd_1, dd_2, dd_3)) else (some ((1 : Int32), dd_5, dd_1, dd_2, dd_3))))
set_option maxRecDepth 100000 in
set_option maxHeartbeats 4000000 in
theorem k_X5_vote (l : Launch) (G : Gt) (x0 s0 s1 t0 t1 t2 t3 t4 t5 t6 n0 n1 n2 n3 r0 r1 r2 r3 a0 a1 p0 p1 p2 p3 k0 j0 : Nat) (X_ch : Int64) (S_len : Int32) (S_let : Nat → Int32) (T_br : Int32) (T_fa : Int32) (T_fd : Nat → Int32) (T_fp : Nat → Int32) (T_st : Nat → Int32) (T_kd : Nat → Int32) (T_fs : Nat → Int32) (T_fl : Nat → Int32) (N_gi : Int32) (N_be : Int32) (N_da : Int32) (N_du : Nat → Int32) (N_pl : Nat → Int32) (N_de : Nat → Int32) (R_gi : Int32) (R_be : Int32) (R_da : Int32) (R_du : Nat → Int32) (R_pl : Nat → Int32) (R_de : Nat → Int32) (A_fi : Int32) (A_si : Int32) (A_ce : Nat → Int32) (P_si : Int32) (P_be : Nat → Int32) (P_le : Nat → Int32) (P_go : Nat → Int32) (K_sl : Nat → Int32) (J_fi : Nat → Int32) (r_ : Int32) (o_N_gi : Int32) (o_A_fi : Int32) (o_A_si : Int32) (o_A_ce : Nat → Int32) (h : f_X5_vote N_gi N_be N_da N_du N_pl A_fi A_si A_ce = some (r_, o_N_gi, o_A_fi, o_A_si, o_A_ce)) : CT l yX5_vote wsX5_vote 3 62 G [.ref x0] (W_F G x0 s0 s1 t0 t1 t2 t3 t4 t5 t6 n0 n1 n2 n3 r0 r1 r2 r3 a0 a1 p0 p1 p2 p3 k0 j0 X_ch S_len S_let T_br T_fa T_fd T_fp T_st T_kd T_fs T_fl N_gi N_be N_da N_du N_pl N_de R_gi R_be R_da R_du R_pl R_de A_fi A_si A_ce P_si P_be P_le P_go K_sl J_fi) (QI G r_ (W_F G x0 s0 s1 t0 t1 t2 t3 t4 t5 t6 n0 n1 n2 n3 r0 r1 r2 r3 a0 a1 p0 p1 p2 p3 k0 j0 X_ch S_len S_let T_br T_fa T_fd T_fp T_st T_kd T_fs T_fl o_N_gi N_be N_da N_du N_pl N_de R_gi R_be R_da R_du R_pl R_de o_A_fi o_A_si o_A_ce P_si P_be P_le P_go K_sl J_fi)) := by
  refine met_of cX5_vote 1 (some .int) (by decide) rfl (Nat.le_of_ble_eq_true rfl) ?_
  intro p e s m below meth c A ls hx hb hr hml hts hown hlocks hK hA hD hP hS hl
  replace hown : s.vm.findClass RX5 = some m.cls := hown
  replace hl : lv_has ls 1 [(0, .ref x0)] := hl
  have S0 : CallFix p m c cX5_vote 1 s _ wsX5_vote RX5 := ⟨hx, hb, hml, hown, hts⟩
  have fl38 := hts (.fieldLink RX5 38 "DustVote" "acts" "LDustVote$ActRow;") (by decide +kernel)
  have inX5 := show ∀ w ∈ wsX50, w ∈ wsX5_vote from by decide +kernel
  have fl28 := hts (.fieldLink RX5 28 "DustVote" "now" "LDustVote$Moment;") (by decide +kernel)
  have cw_X0_push := show CallW (rmv 3 62) s _ RX5 RX0 125 yX0_push cX0_push 2 none wsX0_push (rmv 2 41) 0 0 1 from cwV 1 hts gX5_vote_X0_push rfl rfl rfl (by decide +kernel) ⟨Nat.le_of_ble_eq_true rfl, Nat.le_of_ble_eq_true rfl⟩
  have cw_X2_turnVote := show CallW (rmv 3 62) s _ RX5 RX2 139 yX2_turnVote cX2_turnVote 1 none wsX2_turnVote (rmv 0 0) 0 0 0 from cwV 0 hts gX5_vote_X2_turnVote rfl rfl rfl (by decide +kernel) ⟨Nat.le_of_ble_eq_true rfl, Nat.le_of_ble_eq_true rfl⟩
  have fl142 := hK.f (args := List.toArray [.ref x0]) (show ("DustVote", 142, "DustVote$Moment", "given", "Z", "DustVote") ∈ nestF by decide)
  have inX2 := show ∀ w ∈ wsX20, w ∈ wsX5_vote from by decide +kernel
  unfold f_X5_vote at h
  refine lv_aload_n hx hb dX5_vote_0 rfl (lv_at hl 0 rfl) ?_
  refine va_get (ci := 5) (C := RX5) (T := TX5) (N := 9) hx hb hts inX5 hown hK.1 hP 0 rfl rfl 4 (by decide) fl38 (fun _ h9 => h9) rfl dX5_vote_1 ?_
  refine lv_aload_n hx hb dX5_vote_4 rfl (lv_at hl 0 rfl) ?_
  refine va_get (ci := 5) (C := RX5) (T := TX5) (N := 9) hx hb hts inX5 hown hK.1 hP 0 rfl rfl 2 (by decide) fl28 (fun _ h9 => h9) rfl dX5_vote_5 ?_
  obtain ⟨dd_1, dd_2, dd_3, ee_4, h⟩ := bnd3_s h
  refine cVv (As := [.ref n0]) (rest := []) S0 hK hA hP (va_D_same hD rfl) hS [18, 19, 10, 11, 12, 13] (k_X0_push l G a0 a1 n0 n1 n2 n3 t0 A_fi A_si A_ce N_gi N_be N_da N_du N_pl N_de dd_1 dd_2 dd_3 ee_4) cw_X0_push rfl rfl (Nat.le_of_ble_eq_true rfl) 0 0 rfl rfl rfl rfl hl.1 rfl (Nat.le_of_ble_eq_true rfl) dX5_vote_8 ⟨Nat.zero_le _, Nat.zero_le _⟩ (fun H locs hP hS => ?_)
  replace hP : va_P G.1 vwCl (W_F G x0 s0 s1 t0 t1 t2 t3 t4 t5 t6 n0 n1 n2 n3 r0 r1 r2 r3 a0 a1 p0 p1 p2 p3 k0 j0 X_ch S_len S_let T_br T_fa T_fd T_fp T_st T_kd T_fs T_fl N_gi N_be N_da N_du N_pl N_de R_gi R_be R_da R_du R_pl R_de dd_1 dd_2 dd_3 P_si P_be P_le P_go K_sl J_fi) H := hP
  refine lv_aload_n hx hb dX5_vote_11 rfl (lv_at hl 0 rfl) ?_
  refine va_get (ci := 5) (C := RX5) (T := TX5) (N := 9) hx hb hts inX5 hown hK.1 hP 0 rfl rfl 2 (by decide) fl28 (fun _ h9 => h9) rfl dX5_vote_12 ?_
  obtain ⟨dd_5, ee_6, h⟩ := bnd1_s h
  refine cVv (As := []) (rest := []) S0 hK hA hP (va_D_same hD rfl) hS [10, 11, 12, 13, 3, 4, 5, 6, 7, 8, 9] (k_X2_turnVote l G n0 n1 n2 n3 t0 t1 t2 t3 t4 t5 t6 N_gi N_be N_da N_du N_pl N_de T_br T_fa T_fd T_fp T_st T_kd T_fs T_fl dd_5 ee_6) cw_X2_turnVote rfl rfl (Nat.le_of_ble_eq_true rfl) 2 0 rfl rfl rfl rfl hl.1 rfl (Nat.le_of_ble_eq_true rfl) dX5_vote_15 ⟨Nat.zero_le _, Nat.zero_le _⟩ (fun H locs hP hS => ?_)
  replace hP : va_P G.1 vwCl (W_F G x0 s0 s1 t0 t1 t2 t3 t4 t5 t6 n0 n1 n2 n3 r0 r1 r2 r3 a0 a1 p0 p1 p2 p3 k0 j0 X_ch S_len S_let T_br T_fa T_fd T_fp T_st T_kd T_fs T_fl dd_5 N_be N_da N_du N_pl N_de R_gi R_be R_da R_du R_pl R_de dd_1 dd_2 dd_3 P_si P_be P_le P_go K_sl J_fi) H := hP
  refine lv_aload_n hx hb dX5_vote_18 rfl (lv_at hl 0 rfl) ?_
  refine va_get (ci := 5) (C := RX5) (T := TX5) (N := 9) hx hb hts inX5 hown hK.1 hP 0 rfl rfl 2 (by decide) fl28 (fun _ h9 => h9) rfl dX5_vote_19 ?_
  refine va_getN (ci := 2) (C := RX2) (T := TX2) (N := 7) hx hb hts inX2 hown hK.1 hP 10 rfl rfl 4 (by decide) fl142 (fun _ h9 => h9) rfl dX5_vote_22 ?_
  refine lv_if_eq (tgt := 32) hx hb dX5_vote_25 (by decide) (fun cc_7 => ?_) (fun cc_7 => ?_)
  · replace h := if_t cc_7 h
    refine lv_iconst (v := 0) hx hb dX5_vote_32 (by decide) ?_
    cases h
    exact W.iret hx hb hr (fun t ht _ => ⟨⟨_, (), rfl, rfl, by show va_P G.1 vwCl _ t.heap; rw [ht]; exact hP⟩, hS.F ht⟩) hS.2.2 dX5_vote_33
  · replace h := if_f cc_7 h
    refine lv_iconst (v := 1) hx hb dX5_vote_28 (by decide) ?_
    refine lv_goto (tgt := 33) hx hb dX5_vote_29 (by decide) ?_
    cases h
    exact W.iret hx hb hr (fun t ht _ => ⟨⟨_, (), rfl, rfl, by show va_P G.1 vwCl _ t.heap; rw [ht]; exact hP⟩, hS.F ht⟩) hS.2.2 dX5_vote_33
