def f_X5_again (N_gi : Int32) (N_be : Int32) (N_da : Int32) (N_du : Nat → Int32) (N_pl : Nat → Int32) (A_fi : Int32) (A_si : Int32) (K_sl : Nat → Int32) (J_fi : Nat → Int32) (u1 : Int32) : Option (Int32 × Int32 × Int32 × Int32 × (Nat → Int32) × (Nat → Int32) × Int32 × Int32) := bnd1 (f_X5_within u1 (0 : Int32) (1 : Int32)) (fun rr_1 => if rr_1 = 0 then (some (((-1) : Int32), N_gi, N_be, N_da, N_du, N_pl, A_fi, A_si)) else (bnd1 (rd J_fi 2 u1) (fun zz_4 => if zz_4 = 0 then (some (((-3) : Int32), N_gi, N_be, N_da, N_du, N_pl, A_fi, A_si)) else (bnd5 (f_X2_load 32 N_gi N_be N_da N_du N_pl K_sl (u1 * (16 : Int32))) (fun dd_7 dd_8 dd_9 dd_10 dd_11 => bnd2 (f_X0_clear A_fi A_si) (fun dd_13 dd_14 => some (dd_9, dd_7, dd_8, dd_9, dd_10, dd_11, dd_13, dd_14)))))))
set_option maxRecDepth 100000 in
set_option maxHeartbeats 4000000 in
theorem k_X5_again (l : Launch) (G : Gt) (x0 s0 s1 t0 t1 t2 t3 t4 t5 t6 n0 n1 n2 n3 r0 r1 r2 r3 a0 a1 p0 p1 p2 p3 k0 j0 : Nat) (X_ch : Int64) (S_len : Int32) (S_let : Nat → Int32) (T_br : Int32) (T_fa : Int32) (T_fd : Nat → Int32) (T_fp : Nat → Int32) (T_st : Nat → Int32) (T_kd : Nat → Int32) (T_fs : Nat → Int32) (T_fl : Nat → Int32) (N_gi : Int32) (N_be : Int32) (N_da : Int32) (N_du : Nat → Int32) (N_pl : Nat → Int32) (N_de : Nat → Int32) (R_gi : Int32) (R_be : Int32) (R_da : Int32) (R_du : Nat → Int32) (R_pl : Nat → Int32) (R_de : Nat → Int32) (A_fi : Int32) (A_si : Int32) (A_ce : Nat → Int32) (P_si : Int32) (P_be : Nat → Int32) (P_le : Nat → Int32) (P_go : Nat → Int32) (K_sl : Nat → Int32) (J_fi : Nat → Int32) (u1 : Int32) (r_ : Int32) (o_N_gi : Int32) (o_N_be : Int32) (o_N_da : Int32) (o_N_du : Nat → Int32) (o_N_pl : Nat → Int32) (o_A_fi : Int32) (o_A_si : Int32) (h : f_X5_again N_gi N_be N_da N_du N_pl A_fi A_si K_sl J_fi u1 = some (r_, o_N_gi, o_N_be, o_N_da, o_N_du, o_N_pl, o_A_fi, o_A_si)) : CT l yX5_again wsX5_again 2 41 G [.ref x0, .int u1] (W_F G x0 s0 s1 t0 t1 t2 t3 t4 t5 t6 n0 n1 n2 n3 r0 r1 r2 r3 a0 a1 p0 p1 p2 p3 k0 j0 X_ch S_len S_let T_br T_fa T_fd T_fp T_st T_kd T_fs T_fl N_gi N_be N_da N_du N_pl N_de R_gi R_be R_da R_du R_pl R_de A_fi A_si A_ce P_si P_be P_le P_go K_sl J_fi) (QI G r_ (W_F G x0 s0 s1 t0 t1 t2 t3 t4 t5 t6 n0 n1 n2 n3 r0 r1 r2 r3 a0 a1 p0 p1 p2 p3 k0 j0 X_ch S_len S_let T_br T_fa T_fd T_fp T_st T_kd T_fs T_fl o_N_gi o_N_be o_N_da o_N_du o_N_pl N_de R_gi R_be R_da R_du R_pl R_de o_A_fi o_A_si A_ce P_si P_be P_le P_go K_sl J_fi)) := by
  refine met_of cX5_again 2 (some .int) (by decide) rfl (Nat.le_of_ble_eq_true rfl) ?_
  intro p e s m below meth c A ls hx hb hr hml hts hown hlocks hK hA hD hP hS hl
  replace hown : s.vm.findClass RX5 = some m.cls := hown
  replace hl : lv_has ls 2 [(0, .ref x0), (1, .int u1)] := hl
  have S0 : CallFix p m c cX5_again 2 s _ wsX5_again RX5 := ⟨hx, hb, hml, hown, hts⟩
  have cw_X5_within := show CallB (rmv 2 41) s _ RX5 61 yX5_within cX5_within 3 (some .boolean) wsX5_within (rmv 0 0) 0 0 3 ∧ (Cond.static yX5_within).before _ s = true from va_cwS 3 hts gX5_again_X5_within rfl rfl rfl (by decide +kernel) ⟨Nat.le_of_ble_eq_true rfl, Nat.le_of_ble_eq_true rfl⟩
  have fl53 := hts (.fieldLink RX5 53 "DustVote" "filled" "[Z") (by decide +kernel)
  have inX5 := show ∀ w ∈ wsX50, w ∈ wsX5_again from by decide +kernel
  have fl28 := hts (.fieldLink RX5 28 "DustVote" "now" "LDustVote$Moment;") (by decide +kernel)
  have fl49 := hts (.fieldLink RX5 49 "DustVote" "slots" "[I") (by decide +kernel)
  have cw_X2_load := show CallW (rmv 2 41) s _ RX5 RX2 244 yX2_load cX2_load 4 none wsX2_load (rmv 1 18) 0 0 2 from cwV 2 hts gX5_again_X2_load rfl rfl rfl (by decide +kernel) ⟨Nat.le_of_ble_eq_true rfl, Nat.le_of_ble_eq_true rfl⟩
  have fl38 := hts (.fieldLink RX5 38 "DustVote" "acts" "LDustVote$ActRow;") (by decide +kernel)
  have cw_X0_clear := show CallW (rmv 2 41) s _ RX5 RX0 84 yX0_clear cX0_clear 1 none wsX0_clear (rmv 0 0) 0 0 0 from cwV 0 hts gX5_again_X0_clear rfl rfl rfl (by decide +kernel) ⟨Nat.le_of_ble_eq_true rfl, Nat.le_of_ble_eq_true rfl⟩
  have fl241 := hK.f (args := List.toArray [.ref x0, .int u1]) (show ("DustVote", 241, "DustVote$Moment", "dawns", "I", "DustVote") ∈ nestF by decide)
  have inX2 := show ∀ w ∈ wsX20, w ∈ wsX5_again from by decide +kernel
  unfold f_X5_again at h
  refine lv_iload_n hx hb dX5_again_0 rfl (lv_at hl 1 rfl) ?_
  refine lv_iconst (v := 0) hx hb dX5_again_1 (by decide) ?_
  refine lv_iconst (v := 1) hx hb dX5_again_2 (by decide) ?_
  obtain ⟨rr_1, ee_2, h⟩ := bnd1_s h
  refine cSi (As := [.int u1, .int (0 : Int32), .int (1 : Int32)]) (rest := []) S0 hK hA hP (va_D_same hD rfl) hS [] (k_X5_within l G u1 (0 : Int32) (1 : Int32) rr_1 ee_2) cw_X5_within rfl rfl (Nat.le_of_ble_eq_true rfl) rfl hl.1 rfl (Nat.le_of_ble_eq_true rfl) dX5_again_3 ⟨Nat.zero_le _, Nat.zero_le _⟩ (fun H locs hP hS => ?_)
  replace hP : va_P G.1 vwCl (W_F G x0 s0 s1 t0 t1 t2 t3 t4 t5 t6 n0 n1 n2 n3 r0 r1 r2 r3 a0 a1 p0 p1 p2 p3 k0 j0 X_ch S_len S_let T_br T_fa T_fd T_fp T_st T_kd T_fs T_fl N_gi N_be N_da N_du N_pl N_de R_gi R_be R_da R_du R_pl R_de A_fi A_si A_ce P_si P_be P_le P_go K_sl J_fi) H := hP
  refine lv_if_ne (tgt := 11) hx hb dX5_again_6 (by decide) (fun cc_3 => ?_) (fun cc_3 => ?_)
  · replace h := if_f cc_3 h
    refine lv_aload_n hx hb dX5_again_11 rfl (lv_at hl 0 rfl) ?_
    refine va_get (ci := 5) (C := RX5) (T := TX5) (N := 9) hx hb hts inX5 hown hK.1 hP 0 rfl rfl 7 (by decide) fl53 (fun _ h9 => h9) rfl dX5_again_12 ?_
    refine lv_iload_n hx hb dX5_again_15 rfl (lv_at hl 1 rfl) ?_
    obtain ⟨zz_4, ee_5, h⟩ := bnd1_s h
    refine wZald hx hb hK hP 25 rfl ee_5 dX5_again_16 ?_
    refine lv_if_ne (tgt := 23) hx hb dX5_again_17 (by decide) (fun cc_6 => ?_) (fun cc_6 => ?_)
    · replace h := if_f cc_6 h
      refine lv_aload_n hx hb dX5_again_23 rfl (lv_at hl 0 rfl) ?_
      refine va_get (ci := 5) (C := RX5) (T := TX5) (N := 9) hx hb hts inX5 hown hK.1 hP 0 rfl rfl 2 (by decide) fl28 (fun _ h9 => h9) rfl dX5_again_24 ?_
      refine lv_aload_n hx hb dX5_again_27 rfl (lv_at hl 0 rfl) ?_
      refine va_get (ci := 5) (C := RX5) (T := TX5) (N := 9) hx hb hts inX5 hown hK.1 hP 0 rfl rfl 6 (by decide) fl49 (fun _ h9 => h9) rfl dX5_again_28 ?_
      refine lv_iload_n hx hb dX5_again_31 rfl (lv_at hl 1 rfl) ?_
      refine lv_bipush (v := 16) hx hb dX5_again_32 (by decide) ?_
      refine lv_imul hx hb dX5_again_34 ?_
      obtain ⟨dd_7, dd_8, dd_9, dd_10, dd_11, ee_12, h⟩ := bnd5_s h
      refine cVv (As := [.ref k0, .int (u1 * (16 : Int32))]) (rest := []) S0 hK hA hP (va_D_same hD rfl) hS [10, 11, 12, 13, 24] (k_X2_load l G n0 n1 n2 n3 k0 t0 32 N_gi N_be N_da N_du N_pl N_de K_sl (u1 * (16 : Int32)) dd_7 dd_8 dd_9 dd_10 dd_11 ee_12) cw_X2_load rfl rfl (Nat.le_of_ble_eq_true rfl) 2 0 rfl rfl rfl rfl hl.1 rfl (Nat.le_of_ble_eq_true rfl) dX5_again_35 ⟨Nat.zero_le _, Nat.zero_le _⟩ (fun H locs hP hS => ?_)
      replace hP : va_P G.1 vwCl (W_F G x0 s0 s1 t0 t1 t2 t3 t4 t5 t6 n0 n1 n2 n3 r0 r1 r2 r3 a0 a1 p0 p1 p2 p3 k0 j0 X_ch S_len S_let T_br T_fa T_fd T_fp T_st T_kd T_fs T_fl dd_7 dd_8 dd_9 dd_10 dd_11 N_de R_gi R_be R_da R_du R_pl R_de A_fi A_si A_ce P_si P_be P_le P_go K_sl J_fi) H := hP
      refine lv_aload_n hx hb dX5_again_38 rfl (lv_at hl 0 rfl) ?_
      refine va_get (ci := 5) (C := RX5) (T := TX5) (N := 9) hx hb hts inX5 hown hK.1 hP 0 rfl rfl 4 (by decide) fl38 (fun _ h9 => h9) rfl dX5_again_39 ?_
      obtain ⟨dd_13, dd_14, ee_15, h⟩ := bnd2_s h
      refine cVv (As := []) (rest := []) S0 hK hA hP (va_D_same hD rfl) hS [18, 19] (k_X0_clear l G a0 a1 A_fi A_si A_ce dd_13 dd_14 ee_15) cw_X0_clear rfl rfl (Nat.le_of_ble_eq_true rfl) 0 0 rfl rfl rfl rfl hl.1 rfl (Nat.le_of_ble_eq_true rfl) dX5_again_42 ⟨Nat.zero_le _, Nat.zero_le _⟩ (fun H locs hP hS => ?_)
      replace hP : va_P G.1 vwCl (W_F G x0 s0 s1 t0 t1 t2 t3 t4 t5 t6 n0 n1 n2 n3 r0 r1 r2 r3 a0 a1 p0 p1 p2 p3 k0 j0 X_ch S_len S_let T_br T_fa T_fd T_fp T_st T_kd T_fs T_fl dd_7 dd_8 dd_9 dd_10 dd_11 N_de R_gi R_be R_da R_du R_pl R_de dd_13 dd_14 A_ce P_si P_be P_le P_go K_sl J_fi) H := hP
      refine lv_aload_n hx hb dX5_again_45 rfl (lv_at hl 0 rfl) ?_
      refine va_get (ci := 5) (C := RX5) (T := TX5) (N := 9) hx hb hts inX5 hown hK.1 hP 0 rfl rfl 2 (by decide) fl28 (fun _ h9 => h9) rfl dX5_again_46 ?_
      refine va_getN (ci := 2) (C := RX2) (T := TX2) (N := 7) hx hb hts inX2 hown hK.1 hP 10 rfl rfl 6 (by decide) fl241 (fun _ h9 => h9) rfl dX5_again_49 ?_
      cases h
      exact W.iret hx hb hr (fun t ht _ => ⟨⟨_, (), rfl, rfl, by show va_P G.1 vwCl _ t.heap; rw [ht]; exact hP⟩, hS.F ht⟩) hS.2.2 dX5_again_52
    · replace h := if_t cc_6 h
      refine lv_bipush (v := (-3)) hx hb dX5_again_20 (by decide) ?_
      cases h
      exact W.iret hx hb hr (fun t ht _ => ⟨⟨_, (), rfl, rfl, by show va_P G.1 vwCl _ t.heap; rw [ht]; exact hP⟩, hS.F ht⟩) hS.2.2 dX5_again_22
  · replace h := if_t cc_3 h
    refine lv_iconst (v := (-1)) hx hb dX5_again_9 (by decide) ?_
    cases h
    exact W.iret hx hb hr (fun t ht _ => ⟨⟨_, (), rfl, rfl, by show va_P G.1 vwCl _ t.heap; rw [ht]; exact hP⟩, hS.F ht⟩) hS.2.2 dX5_again_10
