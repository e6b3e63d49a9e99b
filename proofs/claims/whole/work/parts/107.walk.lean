def f_X5_broom (T_br : Int32) (T_st : Nat → Int32) (T_kd : Nat → Int32) (N_gi : Int32) (N_be : Int32) (N_pl : Nat → Int32) (u1 : Int32) (u2 : Int32) : Option (Int32) := bnd1 (f_X4_hasBroom T_br u1) (fun rr_1 => if rr_1 = 0 then (some ((-1) : Int32)) else (if u2 = 0 then (bnd1 (f_X2_placeOf N_pl T_br u1) (fun rr_5 => some rr_5)) else (if u2 = 1 then (bnd1 (f_X4_strengthOf T_st u1) (fun rr_8 => some rr_8)) else (if u2 = 2 then (bnd1 (f_X4_kindOf T_kd u1) (fun rr_11 => some rr_11)) else (if u2 = 3 then (bnd1 (f_X2_isBent N_be u1) (fun rr_14 => if rr_14 = 0 then (some (0 : Int32)) else (some (1 : Int32)))) else (if u2 = 4 then (bnd1 (f_X2_worksAs N_gi N_be T_kd u1) (fun rr_18 => some rr_18)) else (some ((-2) : Int32))))))))
set_option maxRecDepth 100000 in
set_option maxHeartbeats 4000000 in
theorem k_X5_broom (l : Launch) (G : Gt) (x0 s0 s1 t0 t1 t2 t3 t4 t5 t6 n0 n1 n2 n3 r0 r1 r2 r3 a0 a1 p0 p1 p2 p3 k0 j0 : Nat) (X_ch : Int64) (S_len : Int32) (S_let : Nat → Int32) (T_br : Int32) (T_fa : Int32) (T_fd : Nat → Int32) (T_fp : Nat → Int32) (T_st : Nat → Int32) (T_kd : Nat → Int32) (T_fs : Nat → Int32) (T_fl : Nat → Int32) (N_gi : Int32) (N_be : Int32) (N_da : Int32) (N_du : Nat → Int32) (N_pl : Nat → Int32) (N_de : Nat → Int32) (R_gi : Int32) (R_be : Int32) (R_da : Int32) (R_du : Nat → Int32) (R_pl : Nat → Int32) (R_de : Nat → Int32) (A_fi : Int32) (A_si : Int32) (A_ce : Nat → Int32) (P_si : Int32) (P_be : Nat → Int32) (P_le : Nat → Int32) (P_go : Nat → Int32) (K_sl : Nat → Int32) (J_fi : Nat → Int32) (u1 : Int32) (u2 : Int32) (r_ : Int32) (h : f_X5_broom T_br T_st T_kd N_gi N_be N_pl u1 u2 = some r_) : CT l yX5_broom wsX5_broom 2 43 G [.ref x0, .int u1, .int u2] (W_F G x0 s0 s1 t0 t1 t2 t3 t4 t5 t6 n0 n1 n2 n3 r0 r1 r2 r3 a0 a1 p0 p1 p2 p3 k0 j0 X_ch S_len S_let T_br T_fa T_fd T_fp T_st T_kd T_fs T_fl N_gi N_be N_da N_du N_pl N_de R_gi R_be R_da R_du R_pl R_de A_fi A_si A_ce P_si P_be P_le P_go K_sl J_fi) (QI G r_ (W_F G x0 s0 s1 t0 t1 t2 t3 t4 t5 t6 n0 n1 n2 n3 r0 r1 r2 r3 a0 a1 p0 p1 p2 p3 k0 j0 X_ch S_len S_let T_br T_fa T_fd T_fp T_st T_kd T_fs T_fl N_gi N_be N_da N_du N_pl N_de R_gi R_be R_da R_du R_pl R_de A_fi A_si A_ce P_si P_be P_le P_go K_sl J_fi)) := by
  refine met_of cX5_broom 3 (some .int) (by decide) rfl (Nat.le_of_ble_eq_true rfl) ?_
  intro p e s m below meth c A ls hx hb hr hml hts hown hlocks hK hA hD hP hS hl
  replace hown : s.vm.findClass RX5 = some m.cls := hown
  replace hl : lv_has ls 3 [(0, .ref x0), (1, .int u1), (2, .int u2)] := hl
  have S0 : CallFix p m c cX5_broom 3 s _ wsX5_broom RX5 := ⟨hx, hb, hml, hown, hts⟩
  have fl19 := hts (.fieldLink RX5 19 "DustVote" "told" "LDustVote$Told;") (by decide +kernel)
  have inX5 := show ∀ w ∈ wsX50, w ∈ wsX5_broom from by decide +kernel
  have cw_X4_hasBroom := show CallW (rmv 2 43) s _ RX5 RX4 107 yX4_hasBroom cX4_hasBroom 2 (some .boolean) wsX4_hasBroom (rmv 0 0) 0 0 1 from cwV 1 hts gX5_broom_X4_hasBroom rfl rfl rfl (by decide +kernel) ⟨Nat.le_of_ble_eq_true rfl, Nat.le_of_ble_eq_true rfl⟩
  have fl28 := hts (.fieldLink RX5 28 "DustVote" "now" "LDustVote$Moment;") (by decide +kernel)
  have cw_X2_placeOf := show CallW (rmv 2 43) s _ RX5 RX2 110 yX2_placeOf cX2_placeOf 2 (some .int) wsX2_placeOf (rmv 1 21) 0 0 1 from cwV 1 hts gX5_broom_X2_placeOf rfl rfl rfl (by decide +kernel) ⟨Nat.le_of_ble_eq_true rfl, Nat.le_of_ble_eq_true rfl⟩
  have cw_X4_strengthOf := show CallW (rmv 2 43) s _ RX5 RX4 113 yX4_strengthOf cX4_strengthOf 2 (some .int) wsX4_strengthOf (rmv 0 0) 0 0 1 from cwV 1 hts gX5_broom_X4_strengthOf rfl rfl rfl (by decide +kernel) ⟨Nat.le_of_ble_eq_true rfl, Nat.le_of_ble_eq_true rfl⟩
  have cw_X4_kindOf := show CallW (rmv 2 43) s _ RX5 RX4 116 yX4_kindOf cX4_kindOf 2 (some .int) wsX4_kindOf (rmv 0 0) 0 0 1 from cwV 1 hts gX5_broom_X4_kindOf rfl rfl rfl (by decide +kernel) ⟨Nat.le_of_ble_eq_true rfl, Nat.le_of_ble_eq_true rfl⟩
  have cw_X2_isBent := show CallW (rmv 2 43) s _ RX5 RX2 119 yX2_isBent cX2_isBent 2 (some .boolean) wsX2_isBent (rmv 0 0) 0 0 1 from cwV 1 hts gX5_broom_X2_isBent rfl rfl rfl (by decide +kernel) ⟨Nat.le_of_ble_eq_true rfl, Nat.le_of_ble_eq_true rfl⟩
  have cw_X2_worksAs := show CallW (rmv 2 43) s _ RX5 RX2 122 yX2_worksAs cX2_worksAs 3 (some .int) wsX2_worksAs (rmv 1 21) 0 0 1 from cwV 1 hts gX5_broom_X2_worksAs rfl rfl rfl (by decide +kernel) ⟨Nat.le_of_ble_eq_true rfl, Nat.le_of_ble_eq_true rfl⟩
  unfold f_X5_broom at h
  refine lv_aload_n hx hb dX5_broom_0 rfl (lv_at hl 0 rfl) ?_
  refine va_get (ci := 5) (C := RX5) (T := TX5) (N := 9) hx hb hts inX5 hown hK.1 hP 0 rfl rfl 1 (by decide) fl19 (fun _ h9 => h9) rfl dX5_broom_1 ?_
  refine lv_iload_n hx hb dX5_broom_4 rfl (lv_at hl 1 rfl) ?_
  obtain ⟨rr_1, ee_2, h⟩ := bnd1_s h
  refine cVi (As := [.int u1]) (rest := []) S0 hK hA hP (va_D_same hD rfl) hS [3, 4, 5, 6, 7, 8, 9] (k_X4_hasBroom l G t0 t1 t2 t3 t4 t5 t6 T_br T_fa T_fd T_fp T_st T_kd T_fs T_fl u1 rr_1 ee_2) cw_X4_hasBroom rfl rfl (Nat.le_of_ble_eq_true rfl) 4 0 rfl rfl rfl rfl hl.1 rfl (Nat.le_of_ble_eq_true rfl) dX5_broom_5 ⟨Nat.zero_le _, Nat.zero_le _⟩ (fun H locs hP hS => ?_)
  replace hP : va_P G.1 vwCl (W_F G x0 s0 s1 t0 t1 t2 t3 t4 t5 t6 n0 n1 n2 n3 r0 r1 r2 r3 a0 a1 p0 p1 p2 p3 k0 j0 X_ch S_len S_let T_br T_fa T_fd T_fp T_st T_kd T_fs T_fl N_gi N_be N_da N_du N_pl N_de R_gi R_be R_da R_du R_pl R_de A_fi A_si A_ce P_si P_be P_le P_go K_sl J_fi) H := hP
  refine lv_if_ne (tgt := 13) hx hb dX5_broom_8 (by decide) (fun cc_3 => ?_) (fun cc_3 => ?_)
  · replace h := if_f cc_3 h
    refine lv_iload_n hx hb dX5_broom_13 rfl (lv_at hl 2 rfl) ?_
    by_cases cc_4 : u2 = 0
    · refine lv_tableIn (off := 34) (tgt := 48) hx hb dX5_broom_14 (by rw [cc_4]; decide) (by rw [cc_4]; decide) (by rw [cc_4]; rfl) (by decide) ?_
      replace h := if_t cc_4 h
      refine lv_aload_n hx hb dX5_broom_48 rfl (lv_at hl 0 rfl) ?_
      refine va_get (ci := 5) (C := RX5) (T := TX5) (N := 9) hx hb hts inX5 hown hK.1 hP 0 rfl rfl 2 (by decide) fl28 (fun _ h9 => h9) rfl dX5_broom_49 ?_
      refine lv_iload_n hx hb dX5_broom_52 rfl (lv_at hl 1 rfl) ?_
      obtain ⟨rr_5, ee_6, h⟩ := bnd1_s h
      refine cVi (As := [.int u1]) (rest := []) S0 hK hA hP (va_D_same hD rfl) hS [10, 11, 12, 13, 3, 4, 5, 6, 7, 8, 9] (k_X2_placeOf l G n0 n1 n2 n3 t0 t1 t2 t3 t4 t5 t6 N_gi N_be N_da N_du N_pl N_de T_br T_fa T_fd T_fp T_st T_kd T_fs T_fl u1 rr_5 ee_6) cw_X2_placeOf rfl rfl (Nat.le_of_ble_eq_true rfl) 2 0 rfl rfl rfl rfl hl.1 rfl (Nat.le_of_ble_eq_true rfl) dX5_broom_53 ⟨Nat.zero_le _, Nat.zero_le _⟩ (fun H locs hP hS => ?_)
      replace hP : va_P G.1 vwCl (W_F G x0 s0 s1 t0 t1 t2 t3 t4 t5 t6 n0 n1 n2 n3 r0 r1 r2 r3 a0 a1 p0 p1 p2 p3 k0 j0 X_ch S_len S_let T_br T_fa T_fd T_fp T_st T_kd T_fs T_fl N_gi N_be N_da N_du N_pl N_de R_gi R_be R_da R_du R_pl R_de A_fi A_si A_ce P_si P_be P_le P_go K_sl J_fi) H := hP
      cases h
      exact W.iret hx hb hr (fun t ht _ => ⟨⟨_, (), rfl, rfl, by show va_P G.1 vwCl _ t.heap; rw [ht]; exact hP⟩, hS.F ht⟩) hS.2.2 dX5_broom_56
    replace h := if_f cc_4 h
    by_cases cc_7 : u2 = 1
    · refine lv_tableIn (off := 43) (tgt := 57) hx hb dX5_broom_14 (by rw [cc_7]; decide) (by rw [cc_7]; decide) (by rw [cc_7]; rfl) (by decide) ?_
      replace h := if_t cc_7 h
      refine lv_aload_n hx hb dX5_broom_57 rfl (lv_at hl 0 rfl) ?_
      refine va_get (ci := 5) (C := RX5) (T := TX5) (N := 9) hx hb hts inX5 hown hK.1 hP 0 rfl rfl 1 (by decide) fl19 (fun _ h9 => h9) rfl dX5_broom_58 ?_
      refine lv_iload_n hx hb dX5_broom_61 rfl (lv_at hl 1 rfl) ?_
      obtain ⟨rr_8, ee_9, h⟩ := bnd1_s h
      refine cVi (As := [.int u1]) (rest := []) S0 hK hA hP (va_D_same hD rfl) hS [3, 4, 5, 6, 7, 8, 9] (k_X4_strengthOf l G t0 t1 t2 t3 t4 t5 t6 T_br T_fa T_fd T_fp T_st T_kd T_fs T_fl u1 rr_8 ee_9) cw_X4_strengthOf rfl rfl (Nat.le_of_ble_eq_true rfl) 4 0 rfl rfl rfl rfl hl.1 rfl (Nat.le_of_ble_eq_true rfl) dX5_broom_62 ⟨Nat.zero_le _, Nat.zero_le _⟩ (fun H locs hP hS => ?_)
      replace hP : va_P G.1 vwCl (W_F G x0 s0 s1 t0 t1 t2 t3 t4 t5 t6 n0 n1 n2 n3 r0 r1 r2 r3 a0 a1 p0 p1 p2 p3 k0 j0 X_ch S_len S_let T_br T_fa T_fd T_fp T_st T_kd T_fs T_fl N_gi N_be N_da N_du N_pl N_de R_gi R_be R_da R_du R_pl R_de A_fi A_si A_ce P_si P_be P_le P_go K_sl J_fi) H := hP
      cases h
      exact W.iret hx hb hr (fun t ht _ => ⟨⟨_, (), rfl, rfl, by show va_P G.1 vwCl _ t.heap; rw [ht]; exact hP⟩, hS.F ht⟩) hS.2.2 dX5_broom_65
    replace h := if_f cc_7 h
    by_cases cc_10 : u2 = 2
    · refine lv_tableIn (off := 52) (tgt := 66) hx hb dX5_broom_14 (by rw [cc_10]; decide) (by rw [cc_10]; decide) (by rw [cc_10]; rfl) (by decide) ?_
      replace h := if_t cc_10 h
      refine lv_aload_n hx hb dX5_broom_66 rfl (lv_at hl 0 rfl) ?_
      refine va_get (ci := 5) (C := RX5) (T := TX5) (N := 9) hx hb hts inX5 hown hK.1 hP 0 rfl rfl 1 (by decide) fl19 (fun _ h9 => h9) rfl dX5_broom_67 ?_
      refine lv_iload_n hx hb dX5_broom_70 rfl (lv_at hl 1 rfl) ?_
      obtain ⟨rr_11, ee_12, h⟩ := bnd1_s h
      refine cVi (As := [.int u1]) (rest := []) S0 hK hA hP (va_D_same hD rfl) hS [3, 4, 5, 6, 7, 8, 9] (k_X4_kindOf l G t0 t1 t2 t3 t4 t5 t6 T_br T_fa T_fd T_fp T_st T_kd T_fs T_fl u1 rr_11 ee_12) cw_X4_kindOf rfl rfl (Nat.le_of_ble_eq_true rfl) 4 0 rfl rfl rfl rfl hl.1 rfl (Nat.le_of_ble_eq_true rfl) dX5_broom_71 ⟨Nat.zero_le _, Nat.zero_le _⟩ (fun H locs hP hS => ?_)
      replace hP : va_P G.1 vwCl (W_F G x0 s0 s1 t0 t1 t2 t3 t4 t5 t6 n0 n1 n2 n3 r0 r1 r2 r3 a0 a1 p0 p1 p2 p3 k0 j0 X_ch S_len S_let T_br T_fa T_fd T_fp T_st T_kd T_fs T_fl N_gi N_be N_da N_du N_pl N_de R_gi R_be R_da R_du R_pl R_de A_fi A_si A_ce P_si P_be P_le P_go K_sl J_fi) H := hP
      cases h
      exact W.iret hx hb hr (fun t ht _ => ⟨⟨_, (), rfl, rfl, by show va_P G.1 vwCl _ t.heap; rw [ht]; exact hP⟩, hS.F ht⟩) hS.2.2 dX5_broom_74
    replace h := if_f cc_10 h
    by_cases cc_13 : u2 = 3
    · refine lv_tableIn (off := 61) (tgt := 75) hx hb dX5_broom_14 (by rw [cc_13]; decide) (by rw [cc_13]; decide) (by rw [cc_13]; rfl) (by decide) ?_
      replace h := if_t cc_13 h
      refine lv_aload_n hx hb dX5_broom_75 rfl (lv_at hl 0 rfl) ?_
      refine va_get (ci := 5) (C := RX5) (T := TX5) (N := 9) hx hb hts inX5 hown hK.1 hP 0 rfl rfl 2 (by decide) fl28 (fun _ h9 => h9) rfl dX5_broom_76 ?_
      refine lv_iload_n hx hb dX5_broom_79 rfl (lv_at hl 1 rfl) ?_
      obtain ⟨rr_14, ee_15, h⟩ := bnd1_s h
      refine cVi (As := [.int u1]) (rest := []) S0 hK hA hP (va_D_same hD rfl) hS [10, 11, 12, 13, 3, 4, 5, 6, 7, 8, 9] (k_X2_isBent l G n0 n1 n2 n3 t0 t1 t2 t3 t4 t5 t6 N_gi N_be N_da N_du N_pl N_de T_br T_fa T_fd T_fp T_st T_kd T_fs T_fl u1 rr_14 ee_15) cw_X2_isBent rfl rfl (Nat.le_of_ble_eq_true rfl) 2 0 rfl rfl rfl rfl hl.1 rfl (Nat.le_of_ble_eq_true rfl) dX5_broom_80 ⟨Nat.zero_le _, Nat.zero_le _⟩ (fun H locs hP hS => ?_)
      replace hP : va_P G.1 vwCl (W_F G x0 s0 s1 t0 t1 t2 t3 t4 t5 t6 n0 n1 n2 n3 r0 r1 r2 r3 a0 a1 p0 p1 p2 p3 k0 j0 X_ch S_len S_let T_br T_fa T_fd T_fp T_st T_kd T_fs T_fl N_gi N_be N_da N_du N_pl N_de R_gi R_be R_da R_du R_pl R_de A_fi A_si A_ce P_si P_be P_le P_go K_sl J_fi) H := hP
      refine lv_if_eq (tgt := 90) hx hb dX5_broom_83 (by decide) (fun cc_16 => ?_) (fun cc_16 => ?_)
      · replace h := if_t cc_16 h
        refine lv_iconst (v := 0) hx hb dX5_broom_90 (by decide) ?_
        cases h
        exact W.iret hx hb hr (fun t ht _ => ⟨⟨_, (), rfl, rfl, by show va_P G.1 vwCl _ t.heap; rw [ht]; exact hP⟩, hS.F ht⟩) hS.2.2 dX5_broom_91
      · replace h := if_f cc_16 h
        refine lv_iconst (v := 1) hx hb dX5_broom_86 (by decide) ?_
        refine lv_goto (tgt := 91) hx hb dX5_broom_87 (by decide) ?_
        cases h
        exact W.iret hx hb hr (fun t ht _ => ⟨⟨_, (), rfl, rfl, by show va_P G.1 vwCl _ t.heap; rw [ht]; exact hP⟩, hS.F ht⟩) hS.2.2 dX5_broom_91
    replace h := if_f cc_13 h
    by_cases cc_17 : u2 = 4
    · refine lv_tableIn (off := 78) (tgt := 92) hx hb dX5_broom_14 (by rw [cc_17]; decide) (by rw [cc_17]; decide) (by rw [cc_17]; rfl) (by decide) ?_
      replace h := if_t cc_17 h
      refine lv_aload_n hx hb dX5_broom_92 rfl (lv_at hl 0 rfl) ?_
      refine va_get (ci := 5) (C := RX5) (T := TX5) (N := 9) hx hb hts inX5 hown hK.1 hP 0 rfl rfl 2 (by decide) fl28 (fun _ h9 => h9) rfl dX5_broom_93 ?_
      refine lv_iload_n hx hb dX5_broom_96 rfl (lv_at hl 1 rfl) ?_
      obtain ⟨rr_18, ee_19, h⟩ := bnd1_s h
      refine cVi (As := [.int u1]) (rest := []) S0 hK hA hP (va_D_same hD rfl) hS [10, 11, 12, 13, 3, 4, 5, 6, 7, 8, 9] (k_X2_worksAs l G n0 n1 n2 n3 t0 t1 t2 t3 t4 t5 t6 N_gi N_be N_da N_du N_pl N_de T_br T_fa T_fd T_fp T_st T_kd T_fs T_fl u1 rr_18 ee_19) cw_X2_worksAs rfl rfl (Nat.le_of_ble_eq_true rfl) 2 0 rfl rfl rfl rfl hl.1 rfl (Nat.le_of_ble_eq_true rfl) dX5_broom_97 ⟨Nat.zero_le _, Nat.zero_le _⟩ (fun H locs hP hS => ?_)
      replace hP : va_P G.1 vwCl (W_F G x0 s0 s1 t0 t1 t2 t3 t4 t5 t6 n0 n1 n2 n3 r0 r1 r2 r3 a0 a1 p0 p1 p2 p3 k0 j0 X_ch S_len S_let T_br T_fa T_fd T_fp T_st T_kd T_fs T_fl N_gi N_be N_da N_du N_pl N_de R_gi R_be R_da R_du R_pl R_de A_fi A_si A_ce P_si P_be P_le P_go K_sl J_fi) H := hP
      cases h
      exact W.iret hx hb hr (fun t ht _ => ⟨⟨_, (), rfl, rfl, by show va_P G.1 vwCl _ t.heap; rw [ht]; exact hP⟩, hS.F ht⟩) hS.2.2 dX5_broom_100
    replace h := if_f cc_17 h
    refine lv_tableOut (tgt := 101) hx hb dX5_broom_14 (by have acc_4 := ne_toInt cc_4 (k := 0) (by decide); have acc_7 := ne_toInt cc_7 (k := 1) (by decide); have acc_10 := ne_toInt cc_10 (k := 2) (by decide); have acc_13 := ne_toInt cc_13 (k := 3) (by decide); have acc_17 := ne_toInt cc_17 (k := 4) (by decide); omega) (by decide) ?_
    refine lv_bipush (v := (-2)) hx hb dX5_broom_101 (by decide) ?_
    cases h
    exact W.iret hx hb hr (fun t ht _ => ⟨⟨_, (), rfl, rfl, by show va_P G.1 vwCl _ t.heap; rw [ht]; exact hP⟩, hS.F ht⟩) hS.2.2 dX5_broom_103
  · replace h := if_t cc_3 h
    refine lv_iconst (v := (-1)) hx hb dX5_broom_11 (by decide) ?_
    cases h
    exact W.iret hx hb hr (fun t ht _ => ⟨⟨_, (), rfl, rfl, by show va_P G.1 vwCl _ t.heap; rw [ht]; exact hP⟩, hS.F ht⟩) hS.2.2 dX5_broom_12
def f_X0_spotOf (u1 : Int32) : Option (Int32) := some ((u1 - u1 / (14 : Int32) * (14 : Int32)) * (16 : Int32))
set_option maxRecDepth 100000 in
set_option maxHeartbeats 4000000 in
theorem k_X0_spotOf (l : Launch) (G : Gt) (u1 : Int32) (r_ : Int32) (h : f_X0_spotOf u1 = some r_) : CT l yX0_spotOf wsX0_spotOf 0 0 G [.int u1] (W_0 G) (QI G r_ (W_0 G)) := by
  refine met_of cX0_spotOf 1 (some .int) (by decide) rfl (Nat.le_of_ble_eq_true rfl) ?_
  intro p e s m below meth c A ls hx hb hr hml hts hown hlocks hK hA hD hP hS hl
  replace hown : s.vm.findClass RX0 = some m.cls := hown
  replace hl : lv_has ls 1 [(0, .int u1)] := hl
  have S0 : CallFix p m c cX0_spotOf 1 s _ wsX0_spotOf RX0 := ⟨hx, hb, hml, hown, hts⟩
  unfold f_X0_spotOf at h
  refine lv_iload_n hx hb dX0_spotOf_0 rfl (lv_at hl 0 rfl) ?_
  refine lv_bipush (v := 14) hx hb dX0_spotOf_1 (by decide) ?_
  refine lv_irem hx hb dX0_spotOf_3 (by decide) ?_
  refine lv_bipush (v := 16) hx hb dX0_spotOf_4 (by decide) ?_
  refine lv_imul hx hb dX0_spotOf_6 ?_
  cases h
  exact W.iret hx hb hr (fun t ht _ => ⟨⟨_, (), rfl, rfl, by show va_P G.1 vwCl _ t.heap; rw [ht]; exact hP⟩, hS.F ht⟩) hS.2.2 dX0_spotOf_7
