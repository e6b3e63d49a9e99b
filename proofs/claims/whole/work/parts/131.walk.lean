def f_X5_isAtRest (T_br : Int32) (T_fa : Int32) (T_st : Nat → Int32) (T_kd : Nat → Int32) (T_fs : Nat → Int32) (T_fl : Nat → Int32) (N_gi : Int32) (N_be : Int32) (N_da : Int32) (N_du : Nat → Int32) (N_pl : Nat → Int32) (R_gi : Int32) (R_be : Int32) (R_da : Int32) (R_du : Nat → Int32) (R_pl : Nat → Int32) (R_de : Nat → Int32) (u1 : Int32) (u2 : Int32) (u3 : Int32) : Option (Int32 × Int32 × Int32 × Int32 × (Nat → Int32) × (Nat → Int32) × (Nat → Int32)) := bnd7 (f_X5_gain T_br T_fa T_st T_kd T_fs T_fl N_gi N_be N_da N_du N_pl R_gi R_be R_da R_du R_pl R_de u1 u3) (fun rr_1 dd_2 dd_3 dd_4 dd_5 dd_6 dd_7 => bnd7 (f_X5_gain T_br T_fa T_st T_kd T_fs T_fl N_gi N_be N_da N_du N_pl dd_2 dd_3 dd_4 dd_5 dd_6 dd_7 u1 (u3 ^^^ ((1 : Int32) <<< (u1 &&& 31)))) (fun rr_9 dd_10 dd_11 dd_12 dd_13 dd_14 dd_15 => if rr_1 < rr_9 then (some ((0 : Int32), dd_10, dd_11, dd_12, dd_13, dd_14, dd_15)) else (bnd7 (f_X5_gain T_br T_fa T_st T_kd T_fs T_fl N_gi N_be N_da N_du N_pl dd_10 dd_11 dd_12 dd_13 dd_14 dd_15 u2 u3) (fun rr_18 dd_19 dd_20 dd_21 dd_22 dd_23 dd_24 => bnd7 (f_X5_gain T_br T_fa T_st T_kd T_fs T_fl N_gi N_be N_da N_du N_pl dd_19 dd_20 dd_21 dd_22 dd_23 dd_24 u2 (u3 ^^^ ((1 : Int32) <<< (u2 &&& 31)))) (fun rr_26 dd_27 dd_28 dd_29 dd_30 dd_31 dd_32 => if rr_18 < rr_26 then (some ((0 : Int32), dd_27, dd_28, dd_29, dd_30, dd_31, dd_32)) else (some ((1 : Int32), dd_27, dd_28, dd_29, dd_30, dd_31, dd_32)))))))
set_option maxRecDepth 100000 in
set_option maxHeartbeats 4000000 in
theorem k_X5_isAtRest (l : Launch) (G : Gt) (x0 s0 s1 t0 t1 t2 t3 t4 t5 t6 n0 n1 n2 n3 r0 r1 r2 r3 a0 a1 p0 p1 p2 p3 k0 j0 : Nat) (X_ch : Int64) (S_len : Int32) (S_let : Nat → Int32) (T_br : Int32) (T_fa : Int32) (T_fd : Nat → Int32) (T_fp : Nat → Int32) (T_st : Nat → Int32) (T_kd : Nat → Int32) (T_fs : Nat → Int32) (T_fl : Nat → Int32) (N_gi : Int32) (N_be : Int32) (N_da : Int32) (N_du : Nat → Int32) (N_pl : Nat → Int32) (N_de : Nat → Int32) (R_gi : Int32) (R_be : Int32) (R_da : Int32) (R_du : Nat → Int32) (R_pl : Nat → Int32) (R_de : Nat → Int32) (A_fi : Int32) (A_si : Int32) (A_ce : Nat → Int32) (P_si : Int32) (P_be : Nat → Int32) (P_le : Nat → Int32) (P_go : Nat → Int32) (K_sl : Nat → Int32) (J_fi : Nat → Int32) (u1 : Int32) (u2 : Int32) (u3 : Int32) (r_ : Int32) (o_R_gi : Int32) (o_R_be : Int32) (o_R_da : Int32) (o_R_du : Nat → Int32) (o_R_pl : Nat → Int32) (o_R_de : Nat → Int32) (h : f_X5_isAtRest T_br T_fa T_st T_kd T_fs T_fl N_gi N_be N_da N_du N_pl R_gi R_be R_da R_du R_pl R_de u1 u2 u3 = some (r_, o_R_gi, o_R_be, o_R_da, o_R_du, o_R_pl, o_R_de)) : CT l yX5_isAtRest wsX5_isAtRest 6 138 G [.ref x0, .int u1, .int u2, .int u3] (W_F G x0 s0 s1 t0 t1 t2 t3 t4 t5 t6 n0 n1 n2 n3 r0 r1 r2 r3 a0 a1 p0 p1 p2 p3 k0 j0 X_ch S_len S_let T_br T_fa T_fd T_fp T_st T_kd T_fs T_fl N_gi N_be N_da N_du N_pl N_de R_gi R_be R_da R_du R_pl R_de A_fi A_si A_ce P_si P_be P_le P_go K_sl J_fi) (QI G r_ (W_F G x0 s0 s1 t0 t1 t2 t3 t4 t5 t6 n0 n1 n2 n3 r0 r1 r2 r3 a0 a1 p0 p1 p2 p3 k0 j0 X_ch S_len S_let T_br T_fa T_fd T_fp T_st T_kd T_fs T_fl N_gi N_be N_da N_du N_pl N_de o_R_gi o_R_be o_R_da o_R_du o_R_pl o_R_de A_fi A_si A_ce P_si P_be P_le P_go K_sl J_fi)) := by
  refine met_of cX5_isAtRest 4 (some .boolean) (by decide) rfl (Nat.le_of_ble_eq_true rfl) ?_
  intro p e s m below meth c A ls hx hb hr hml hts hown hlocks hK hA hD hP hS hl
  replace hown : s.vm.findClass RX5 = some m.cls := hown
  replace hl : lv_has ls 4 [(0, .ref x0), (1, .int u1), (2, .int u2), (3, .int u3)] := hl
  have S0 : CallFix p m c cX5_isAtRest 4 s _ wsX5_isAtRest RX5 := ⟨hx, hb, hml, hown, hts⟩
  have cw_X5_gain := show CallW (rmv 6 138) s _ RX5 RX5 268 yX5_gain cX5_gain 5 (some .int) wsX5_gain (rmv 5 114) 0 0 2 from cwV 2 hts gX5_isAtRest_X5_gain rfl rfl rfl (by decide +kernel) ⟨Nat.le_of_ble_eq_true rfl, Nat.le_of_ble_eq_true rfl⟩
  unfold f_X5_isAtRest at h
  refine lv_aload_n hx hb dX5_isAtRest_0 rfl (lv_at hl 0 rfl) ?_
  refine lv_iload_n hx hb dX5_isAtRest_1 rfl (lv_at hl 1 rfl) ?_
  refine lv_iload_n hx hb dX5_isAtRest_2 rfl (lv_at hl 3 rfl) ?_
  obtain ⟨rr_1, dd_2, dd_3, dd_4, dd_5, dd_6, dd_7, ee_8, h⟩ := bnd7_s h
  refine cFi (As := [.int u1, .int u3]) (rest := []) S0 hK hA hP (va_D_same hD rfl) hS (k_X5_gain l G x0 s0 s1 t0 t1 t2 t3 t4 t5 t6 n0 n1 n2 n3 r0 r1 r2 r3 a0 a1 p0 p1 p2 p3 k0 j0 X_ch S_len S_let T_br T_fa T_fd T_fp T_st T_kd T_fs T_fl N_gi N_be N_da N_du N_pl N_de R_gi R_be R_da R_du R_pl R_de A_fi A_si A_ce P_si P_be P_le P_go K_sl J_fi u1 u3 rr_1 dd_2 dd_3 dd_4 dd_5 dd_6 dd_7 ee_8) cw_X5_gain 5 0 rfl rfl rfl rfl hl.1 rfl (Nat.le_of_ble_eq_true rfl) dX5_isAtRest_3 ⟨Nat.zero_le _, Nat.zero_le _⟩ (fun H locs hP hS => ?_)
  replace hP : va_P G.1 vwCl (W_F G x0 s0 s1 t0 t1 t2 t3 t4 t5 t6 n0 n1 n2 n3 r0 r1 r2 r3 a0 a1 p0 p1 p2 p3 k0 j0 X_ch S_len S_let T_br T_fa T_fd T_fp T_st T_kd T_fs T_fl N_gi N_be N_da N_du N_pl N_de dd_2 dd_3 dd_4 dd_5 dd_6 dd_7 A_fi A_si A_ce P_si P_be P_le P_go K_sl J_fi) H := hP
  refine lv_aload_n hx hb dX5_isAtRest_6 rfl (lv_at hl 0 rfl) ?_
  refine lv_iload_n hx hb dX5_isAtRest_7 rfl (lv_at hl 1 rfl) ?_
  refine lv_iload_n hx hb dX5_isAtRest_8 rfl (lv_at hl 3 rfl) ?_
  refine lv_iconst (v := 1) hx hb dX5_isAtRest_9 (by decide) ?_
  refine lv_iload_n hx hb dX5_isAtRest_10 rfl (lv_at hl 1 rfl) ?_
  refine lv_ishl hx hb dX5_isAtRest_11 ?_
  refine lv_ixor hx hb dX5_isAtRest_12 ?_
  obtain ⟨rr_9, dd_10, dd_11, dd_12, dd_13, dd_14, dd_15, ee_16, h⟩ := bnd7_s h
  refine cFi (As := [.int u1, .int (u3 ^^^ ((1 : Int32) <<< (u1 &&& 31)))]) (rest := [.int rr_1]) S0 hK hA hP (va_D_same hD rfl) hS (k_X5_gain l G x0 s0 s1 t0 t1 t2 t3 t4 t5 t6 n0 n1 n2 n3 r0 r1 r2 r3 a0 a1 p0 p1 p2 p3 k0 j0 X_ch S_len S_let T_br T_fa T_fd T_fp T_st T_kd T_fs T_fl N_gi N_be N_da N_du N_pl N_de dd_2 dd_3 dd_4 dd_5 dd_6 dd_7 A_fi A_si A_ce P_si P_be P_le P_go K_sl J_fi u1 (u3 ^^^ ((1 : Int32) <<< (u1 &&& 31))) rr_9 dd_10 dd_11 dd_12 dd_13 dd_14 dd_15 ee_16) cw_X5_gain 5 0 rfl rfl rfl rfl hl.1 rfl (Nat.le_of_ble_eq_true rfl) dX5_isAtRest_13 ⟨Nat.zero_le _, Nat.zero_le _⟩ (fun H locs hP hS => ?_)
  replace hP : va_P G.1 vwCl (W_F G x0 s0 s1 t0 t1 t2 t3 t4 t5 t6 n0 n1 n2 n3 r0 r1 r2 r3 a0 a1 p0 p1 p2 p3 k0 j0 X_ch S_len S_let T_br T_fa T_fd T_fp T_st T_kd T_fs T_fl N_gi N_be N_da N_du N_pl N_de dd_10 dd_11 dd_12 dd_13 dd_14 dd_15 A_fi A_si A_ce P_si P_be P_le P_go K_sl J_fi) H := hP
  refine lv_icmp_lt (tgt := 42) hx hb dX5_isAtRest_16 (by decide) (fun cc_17 => ?_) (fun cc_17 => ?_)
  · replace h := if_t cc_17 h
    refine lv_iconst (v := 0) hx hb dX5_isAtRest_42 (by decide) ?_
    cases h
    exact W.zret (ty := .boolean) hx hb hr (by decide) (fun t ht _ => ⟨⟨_, (), rfl, rfl, by show va_P G.1 vwCl _ t.heap; rw [ht]; exact hP⟩, hS.F ht⟩) hS.2.2 dX5_isAtRest_43
  · replace h := if_f cc_17 h
    refine lv_aload_n hx hb dX5_isAtRest_19 rfl (lv_at hl 0 rfl) ?_
    refine lv_iload_n hx hb dX5_isAtRest_20 rfl (lv_at hl 2 rfl) ?_
    refine lv_iload_n hx hb dX5_isAtRest_21 rfl (lv_at hl 3 rfl) ?_
    obtain ⟨rr_18, dd_19, dd_20, dd_21, dd_22, dd_23, dd_24, ee_25, h⟩ := bnd7_s h
    refine cFi (As := [.int u2, .int u3]) (rest := []) S0 hK hA hP (va_D_same hD rfl) hS (k_X5_gain l G x0 s0 s1 t0 t1 t2 t3 t4 t5 t6 n0 n1 n2 n3 r0 r1 r2 r3 a0 a1 p0 p1 p2 p3 k0 j0 X_ch S_len S_let T_br T_fa T_fd T_fp T_st T_kd T_fs T_fl N_gi N_be N_da N_du N_pl N_de dd_10 dd_11 dd_12 dd_13 dd_14 dd_15 A_fi A_si A_ce P_si P_be P_le P_go K_sl J_fi u2 u3 rr_18 dd_19 dd_20 dd_21 dd_22 dd_23 dd_24 ee_25) cw_X5_gain 5 0 rfl rfl rfl rfl hl.1 rfl (Nat.le_of_ble_eq_true rfl) dX5_isAtRest_22 ⟨Nat.zero_le _, Nat.zero_le _⟩ (fun H locs hP hS => ?_)
    replace hP : va_P G.1 vwCl (W_F G x0 s0 s1 t0 t1 t2 t3 t4 t5 t6 n0 n1 n2 n3 r0 r1 r2 r3 a0 a1 p0 p1 p2 p3 k0 j0 X_ch S_len S_let T_br T_fa T_fd T_fp T_st T_kd T_fs T_fl N_gi N_be N_da N_du N_pl N_de dd_19 dd_20 dd_21 dd_22 dd_23 dd_24 A_fi A_si A_ce P_si P_be P_le P_go K_sl J_fi) H := hP
    refine lv_aload_n hx hb dX5_isAtRest_25 rfl (lv_at hl 0 rfl) ?_
    refine lv_iload_n hx hb dX5_isAtRest_26 rfl (lv_at hl 2 rfl) ?_
    refine lv_iload_n hx hb dX5_isAtRest_27 rfl (lv_at hl 3 rfl) ?_
    refine lv_iconst (v := 1) hx hb dX5_isAtRest_28 (by decide) ?_
    refine lv_iload_n hx hb dX5_isAtRest_29 rfl (lv_at hl 2 rfl) ?_
    refine lv_ishl hx hb dX5_isAtRest_30 ?_
    refine lv_ixor hx hb dX5_isAtRest_31 ?_
    obtain ⟨rr_26, dd_27, dd_28, dd_29, dd_30, dd_31, dd_32, ee_33, h⟩ := bnd7_s h
    refine cFi (As := [.int u2, .int (u3 ^^^ ((1 : Int32) <<< (u2 &&& 31)))]) (rest := [.int rr_18]) S0 hK hA hP (va_D_same hD rfl) hS (k_X5_gain l G x0 s0 s1 t0 t1 t2 t3 t4 t5 t6 n0 n1 n2 n3 r0 r1 r2 r3 a0 a1 p0 p1 p2 p3 k0 j0 X_ch S_len S_let T_br T_fa T_fd T_fp T_st T_kd T_fs T_fl N_gi N_be N_da N_du N_pl N_de dd_19 dd_20 dd_21 dd_22 dd_23 dd_24 A_fi A_si A_ce P_si P_be P_le P_go K_sl J_fi u2 (u3 ^^^ ((1 : Int32) <<< (u2 &&& 31))) rr_26 dd_27 dd_28 dd_29 dd_30 dd_31 dd_32 ee_33) cw_X5_gain 5 0 rfl rfl rfl rfl hl.1 rfl (Nat.le_of_ble_eq_true rfl) dX5_isAtRest_32 ⟨Nat.zero_le _, Nat.zero_le _⟩ (fun H locs hP hS => ?_)
    replace hP : va_P G.1 vwCl (W_F G x0 s0 s1 t0 t1 t2 t3 t4 t5 t6 n0 n1 n2 n3 r0 r1 r2 r3 a0 a1 p0 p1 p2 p3 k0 j0 X_ch S_len S_let T_br T_fa T_fd T_fp T_st T_kd T_fs T_fl N_gi N_be N_da N_du N_pl N_de dd_27 dd_28 dd_29 dd_30 dd_31 dd_32 A_fi A_si A_ce P_si P_be P_le P_go K_sl J_fi) H := hP
    refine lv_icmp_lt (tgt := 42) hx hb dX5_isAtRest_35 (by decide) (fun cc_34 => ?_) (fun cc_34 => ?_)
    · replace h := if_t cc_34 h
      refine lv_iconst (v := 0) hx hb dX5_isAtRest_42 (by decide) ?_
      cases h
      exact W.zret (ty := .boolean) hx hb hr (by decide) (fun t ht _ => ⟨⟨_, (), rfl, rfl, by show va_P G.1 vwCl _ t.heap; rw [ht]; exact hP⟩, hS.F ht⟩) hS.2.2 dX5_isAtRest_43
    · replace h := if_f cc_34 h
      refine lv_iconst (v := 1) hx hb dX5_isAtRest_38 (by decide) ?_
      refine lv_goto (tgt := 43) hx hb dX5_isAtRest_39 (by decide) ?_
      cases h
      exact W.zret (ty := .boolean) hx hb hr (by decide) (fun t ht _ => ⟨⟨_, (), rfl, rfl, by show va_P G.1 vwCl _ t.heap; rw [ht]; exact hP⟩, hS.F ht⟩) hS.2.2 dX5_isAtRest_43
