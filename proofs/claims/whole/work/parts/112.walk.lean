def f_X2_bow (M_be : Int32) (u1 : Int32) : Option (Int32) := some (M_be ||| u1)
set_option maxRecDepth 100000 in
set_option maxHeartbeats 4000000 in
theorem k_X2_bow (l : Launch) (G : Gt) (m0 m1 m2 m3 t0 t1 t2 t3 t4 t5 t6 : Nat) (M_gi : Int32) (M_be : Int32) (M_da : Int32) (M_du : Nat → Int32) (M_pl : Nat → Int32) (M_de : Nat → Int32) (T_br : Int32) (T_fa : Int32) (T_fd : Nat → Int32) (T_fp : Nat → Int32) (T_st : Nat → Int32) (T_kd : Nat → Int32) (T_fs : Nat → Int32) (T_fl : Nat → Int32) (u1 : Int32) (o_M_be : Int32) (h : f_X2_bow M_be u1 = some o_M_be) : CT l yX2_bow wsX2_bow 0 0 G [.ref m0, .int u1] (W_MT G m0 m1 m2 m3 t0 t1 t2 t3 t4 t5 t6 M_gi M_be M_da M_du M_pl M_de T_br T_fa T_fd T_fp T_st T_kd T_fs T_fl) (QV G (W_MT G m0 m1 m2 m3 t0 t1 t2 t3 t4 t5 t6 M_gi o_M_be M_da M_du M_pl M_de T_br T_fa T_fd T_fp T_st T_kd T_fs T_fl)) := by
  refine met_of cX2_bow 2 none (by decide) rfl (Nat.le_of_ble_eq_true rfl) ?_
  intro p e s m below meth c A ls hx hb hr hml hts hown hlocks hK hA hD hP hS hl
  replace hown : s.vm.findClass RX2 = some m.cls := hown
  replace hl : lv_has ls 2 [(0, .ref m0), (1, .int u1)] := hl
  have S0 : CallFix p m c cX2_bow 2 s _ wsX2_bow RX2 := ⟨hx, hb, hml, hown, hts⟩
  have fl26 := hts (.fieldLink RX2 26 "DustVote$Moment" "bent" "I") (by decide +kernel)
  have inX2 := show ∀ w ∈ wsX20, w ∈ wsX2_bow from by decide +kernel
  unfold f_X2_bow at h
  refine lv_aload_n hx hb dX2_bow_0 rfl (lv_at hl 0 rfl) ?_
  refine lv_dup hx hb dX2_bow_1 rfl ?_
  refine va_get (ci := 2) (C := RX2) (T := TX2) (N := 7) hx hb hts inX2 hown hK.1 hP 0 rfl rfl 5 (by decide) fl26 (fun _ h9 => h9) rfl dX2_bow_2 ?_
  refine lv_iload_n hx hb dX2_bow_5 rfl (lv_at hl 1 rfl) ?_
  refine lv_ior hx hb dX2_bow_6 ?_
  refine va_put (ci := 2) (ty := .int) (C := RX2) (T := TX2) (N := 7) hx hb hts inX2 tyX2 tyX2_ok nmX2 hown hK.1 hP (va_D_same hD rfl) hS 0 rfl rfl 5 (by decide) fl26 (fun _ h9 => h9) rfl (by decide +kernel) rfl rfl (Nat.le_of_ble_eq_true rfl) dX2_bow_7 (fun H locs hP _ hS => ?_)
  replace hP : va_P G.1 vwCl (W_MT G m0 m1 m2 m3 t0 t1 t2 t3 t4 t5 t6 M_gi (M_be ||| u1) M_da M_du M_pl M_de T_br T_fa T_fd T_fp T_st T_kd T_fs T_fl) H := hP
  cases h
  exact W.vret hx hb hr (fun t ht _ => ⟨⟨(), rfl, trivial, by show va_P G.1 vwCl _ t.heap; rw [ht]; exact hP⟩, hS.F ht⟩) hS.2.2 dX2_bow_10
def f_J6_bitCount_0f7a4 (u1 : Int32) : Option (Int32) := nm (u1 - (((u1.toUInt32 >>> ((1 : Int32).toUInt32 &&& Int32.toUInt32 31)).toInt32) &&& (1431655765 : Int32))) (fun zz_1 => nm ((zz_1 &&& (858993459 : Int32)) + (((zz_1.toUInt32 >>> ((2 : Int32).toUInt32 &&& Int32.toUInt32 31)).toInt32) &&& (858993459 : Int32))) (fun zz_3 => nm ((zz_3 + ((zz_3.toUInt32 >>> ((4 : Int32).toUInt32 &&& Int32.toUInt32 31)).toInt32)) &&& (252645135 : Int32)) (fun zz_5 => nm (zz_5 + ((zz_5.toUInt32 >>> ((8 : Int32).toUInt32 &&& Int32.toUInt32 31)).toInt32)) (fun zz_7 => nm (zz_7 + ((zz_7.toUInt32 >>> ((16 : Int32).toUInt32 &&& Int32.toUInt32 31)).toInt32)) (fun zz_9 => some (zz_9 &&& (63 : Int32)))))))
set_option maxRecDepth 100000 in
set_option maxHeartbeats 4000000 in
theorem k_J6_bitCount_0f7a4 (l : Launch) (G : Gt) (u1 : Int32) (r_ : Int32) (h : f_J6_bitCount_0f7a4 u1 = some r_) : CT l yJ6_bitCount_0f7a4 wsJ6_bitCount_0f7a4 0 0 G [.int u1] (W_0 G) (QI G r_ (W_0 G)) := by
  refine met_of cJ6_bitCount_0f7a4 1 (some .int) (by decide) rfl (Nat.le_of_ble_eq_true rfl) ?_
  intro p e s m below meth c A ls hx hb hr hml hts hown hlocks hK hA hD hP hS hl
  replace hown : s.vm.findClass RJ6 = some m.cls := hown
  replace hl : lv_has ls 1 [(0, .int u1)] := hl
  have S0 : CallFix p m c cJ6_bitCount_0f7a4 1 s _ wsJ6_bitCount_0f7a4 RJ6 := ⟨hx, hb, hml, hown, hts⟩
  unfold f_J6_bitCount_0f7a4 at h
  refine lv_iload_n hx hb dJ6_bitCount_0f7a4_0 rfl (lv_at hl 0 rfl) ?_
  refine lv_iload_n hx hb dJ6_bitCount_0f7a4_1 rfl (lv_at hl 0 rfl) ?_
  refine lv_iconst (v := 1) hx hb dJ6_bitCount_0f7a4_2 (by decide) ?_
  refine lv_iushr (v := (u1.toUInt32 >>> ((1 : Int32).toUInt32 &&& Int32.toUInt32 31)).toInt32) hx hb dJ6_bitCount_0f7a4_3 rfl ?_
  refine lv_ldcw (v := 1431655765) hx hb hown (hts (.constant RJ6 265 (1431655765)) (by decide +kernel)) dJ6_bitCount_0f7a4_4 ?_
  refine lv_iand hx hb dJ6_bitCount_0f7a4_7 ?_
  refine lv_isub hx hb dJ6_bitCount_0f7a4_8 ?_
  refine lv_topi (fun zz_1 ee_2 => ?_)
  replace h := nm_s ee_2 h
  refine lv_istore_n (lv' := [(0, .int zz_1)]) hx hb dJ6_bitCount_0f7a4_9 rfl hl (by decide) rfl (fun ls hl => ?_)
  refine lv_iload_n hx hb dJ6_bitCount_0f7a4_10 rfl (lv_at hl 0 rfl) ?_
  refine lv_ldcw (v := 858993459) hx hb hown (hts (.constant RJ6 266 (858993459)) (by decide +kernel)) dJ6_bitCount_0f7a4_11 ?_
  refine lv_iand hx hb dJ6_bitCount_0f7a4_14 ?_
  refine lv_iload_n hx hb dJ6_bitCount_0f7a4_15 rfl (lv_at hl 0 rfl) ?_
  refine lv_iconst (v := 2) hx hb dJ6_bitCount_0f7a4_16 (by decide) ?_
  refine lv_iushr (v := (zz_1.toUInt32 >>> ((2 : Int32).toUInt32 &&& Int32.toUInt32 31)).toInt32) hx hb dJ6_bitCount_0f7a4_17 rfl ?_
  refine lv_ldcw (v := 858993459) hx hb hown (hts (.constant RJ6 266 (858993459)) (by decide +kernel)) dJ6_bitCount_0f7a4_18 ?_
  refine lv_iand hx hb dJ6_bitCount_0f7a4_21 ?_
  refine lv_iadd hx hb dJ6_bitCount_0f7a4_22 ?_
  refine lv_topi (fun zz_3 ee_4 => ?_)
  replace h := nm_s ee_4 h
  refine lv_istore_n (lv' := [(0, .int zz_3)]) hx hb dJ6_bitCount_0f7a4_23 rfl hl (by decide) rfl (fun ls hl => ?_)
  refine lv_iload_n hx hb dJ6_bitCount_0f7a4_24 rfl (lv_at hl 0 rfl) ?_
  refine lv_iload_n hx hb dJ6_bitCount_0f7a4_25 rfl (lv_at hl 0 rfl) ?_
  refine lv_iconst (v := 4) hx hb dJ6_bitCount_0f7a4_26 (by decide) ?_
  refine lv_iushr (v := (zz_3.toUInt32 >>> ((4 : Int32).toUInt32 &&& Int32.toUInt32 31)).toInt32) hx hb dJ6_bitCount_0f7a4_27 rfl ?_
  refine lv_iadd hx hb dJ6_bitCount_0f7a4_28 ?_
  refine lv_ldcw (v := 252645135) hx hb hown (hts (.constant RJ6 267 (252645135)) (by decide +kernel)) dJ6_bitCount_0f7a4_29 ?_
  refine lv_iand hx hb dJ6_bitCount_0f7a4_32 ?_
  refine lv_topi (fun zz_5 ee_6 => ?_)
  replace h := nm_s ee_6 h
  refine lv_istore_n (lv' := [(0, .int zz_5)]) hx hb dJ6_bitCount_0f7a4_33 rfl hl (by decide) rfl (fun ls hl => ?_)
  refine lv_iload_n hx hb dJ6_bitCount_0f7a4_34 rfl (lv_at hl 0 rfl) ?_
  refine lv_iload_n hx hb dJ6_bitCount_0f7a4_35 rfl (lv_at hl 0 rfl) ?_
  refine lv_bipush (v := 8) hx hb dJ6_bitCount_0f7a4_36 (by decide) ?_
  refine lv_iushr (v := (zz_5.toUInt32 >>> ((8 : Int32).toUInt32 &&& Int32.toUInt32 31)).toInt32) hx hb dJ6_bitCount_0f7a4_38 rfl ?_
  refine lv_iadd hx hb dJ6_bitCount_0f7a4_39 ?_
  refine lv_topi (fun zz_7 ee_8 => ?_)
  replace h := nm_s ee_8 h
  refine lv_istore_n (lv' := [(0, .int zz_7)]) hx hb dJ6_bitCount_0f7a4_40 rfl hl (by decide) rfl (fun ls hl => ?_)
  refine lv_iload_n hx hb dJ6_bitCount_0f7a4_41 rfl (lv_at hl 0 rfl) ?_
  refine lv_iload_n hx hb dJ6_bitCount_0f7a4_42 rfl (lv_at hl 0 rfl) ?_
  refine lv_bipush (v := 16) hx hb dJ6_bitCount_0f7a4_43 (by decide) ?_
  refine lv_iushr (v := (zz_7.toUInt32 >>> ((16 : Int32).toUInt32 &&& Int32.toUInt32 31)).toInt32) hx hb dJ6_bitCount_0f7a4_45 rfl ?_
  refine lv_iadd hx hb dJ6_bitCount_0f7a4_46 ?_
  refine lv_topi (fun zz_9 ee_10 => ?_)
  replace h := nm_s ee_10 h
  refine lv_istore_n (lv' := [(0, .int zz_9)]) hx hb dJ6_bitCount_0f7a4_47 rfl hl (by decide) rfl (fun ls hl => ?_)
  refine lv_iload_n hx hb dJ6_bitCount_0f7a4_48 rfl (lv_at hl 0 rfl) ?_
  refine lv_bipush (v := 63) hx hb dJ6_bitCount_0f7a4_49 (by decide) ?_
  refine lv_iand hx hb dJ6_bitCount_0f7a4_51 ?_
  cases h
  exact W.iret hx hb hr (fun t ht _ => ⟨⟨_, (), rfl, rfl, by show va_P G.1 vwCl _ t.heap; rw [ht]; exact hP⟩, hS.F ht⟩) hS.2.2 dJ6_bitCount_0f7a4_52
def f_X5_bend (T_br : Int32) (N_gi : Int32) (N_be : Int32) (N_da : Int32) (N_du : Nat → Int32) (N_pl : Nat → Int32) (A_fi : Int32) (A_si : Int32) (A_ce : Nat → Int32) (u1 : Int32) : Option (Int32 × Int32 × Int32 × Int32 × (Nat → Int32)) := bnd1 (f_X4_hasBroom T_br u1) (fun rr_1 => if rr_1 = 0 then (some (((-1) : Int32), N_be, A_fi, A_si, A_ce)) else (bnd1 (f_X2_isBent N_be u1) (fun rr_4 => if rr_4 = 0 then (bnd3 (f_X0_push A_fi A_si A_ce N_gi N_be N_da N_du N_pl) (fun dd_7 dd_8 dd_9 => bnd1 (f_X2_bow N_be ((1 : Int32) <<< (u1 &&& 31))) (fun dd_11 => bnd1 (f_J6_bitCount_0f7a4 dd_11) (fun rr_13 => some (rr_13, dd_11, dd_7, dd_8, dd_9))))) else (some (((-3) : Int32), N_be, A_fi, A_si, A_ce)))))
set_option maxRecDepth 100000 in
set_option maxHeartbeats 4000000 in
theorem k_X5_bend (l : Launch) (G : Gt) (x0 s0 s1 t0 t1 t2 t3 t4 t5 t6 n0 n1 n2 n3 r0 r1 r2 r3 a0 a1 p0 p1 p2 p3 k0 j0 : Nat) (X_ch : Int64) (S_len : Int32) (S_let : Nat → Int32) (T_br : Int32) (T_fa : Int32) (T_fd : Nat → Int32) (T_fp : Nat → Int32) (T_st : Nat → Int32) (T_kd : Nat → Int32) (T_fs : Nat → Int32) (T_fl : Nat → Int32) (N_gi : Int32) (N_be : Int32) (N_da : Int32) (N_du : Nat → Int32) (N_pl : Nat → Int32) (N_de : Nat → Int32) (R_gi : Int32) (R_be : Int32) (R_da : Int32) (R_du : Nat → Int32) (R_pl : Nat → Int32) (R_de : Nat → Int32) (A_fi : Int32) (A_si : Int32) (A_ce : Nat → Int32) (P_si : Int32) (P_be : Nat → Int32) (P_le : Nat → Int32) (P_go : Nat → Int32) (K_sl : Nat → Int32) (J_fi : Nat → Int32) (u1 : Int32) (r_ : Int32) (o_N_be : Int32) (o_A_fi : Int32) (o_A_si : Int32) (o_A_ce : Nat → Int32) (h : f_X5_bend T_br N_gi N_be N_da N_du N_pl A_fi A_si A_ce u1 = some (r_, o_N_be, o_A_fi, o_A_si, o_A_ce)) : CT l yX5_bend wsX5_bend 3 62 G [.ref x0, .int u1] (W_F G x0 s0 s1 t0 t1 t2 t3 t4 t5 t6 n0 n1 n2 n3 r0 r1 r2 r3 a0 a1 p0 p1 p2 p3 k0 j0 X_ch S_len S_let T_br T_fa T_fd T_fp T_st T_kd T_fs T_fl N_gi N_be N_da N_du N_pl N_de R_gi R_be R_da R_du R_pl R_de A_fi A_si A_ce P_si P_be P_le P_go K_sl J_fi) (QI G r_ (W_F G x0 s0 s1 t0 t1 t2 t3 t4 t5 t6 n0 n1 n2 n3 r0 r1 r2 r3 a0 a1 p0 p1 p2 p3 k0 j0 X_ch S_len S_let T_br T_fa T_fd T_fp T_st T_kd T_fs T_fl N_gi o_N_be N_da N_du N_pl N_de R_gi R_be R_da R_du R_pl R_de o_A_fi o_A_si o_A_ce P_si P_be P_le P_go K_sl J_fi)) := by
  refine met_of cX5_bend 2 (some .int) (by decide) rfl (Nat.le_of_ble_eq_true rfl) ?_
  intro p e s m below meth c A ls hx hb hr hml hts hown hlocks hK hA hD hP hS hl
  replace hown : s.vm.findClass RX5 = some m.cls := hown
  replace hl : lv_has ls 2 [(0, .ref x0), (1, .int u1)] := hl
  have S0 : CallFix p m c cX5_bend 2 s _ wsX5_bend RX5 := ⟨hx, hb, hml, hown, hts⟩
  have fl19 := hts (.fieldLink RX5 19 "DustVote" "told" "LDustVote$Told;") (by decide +kernel)
  have inX5 := show ∀ w ∈ wsX50, w ∈ wsX5_bend from by decide +kernel
  have cw_X4_hasBroom := show CallW (rmv 3 62) s _ RX5 RX4 107 yX4_hasBroom cX4_hasBroom 2 (some .boolean) wsX4_hasBroom (rmv 0 0) 0 0 1 from cwV 1 hts gX5_bend_X4_hasBroom rfl rfl rfl (by decide +kernel) ⟨Nat.le_of_ble_eq_true rfl, Nat.le_of_ble_eq_true rfl⟩
  have fl28 := hts (.fieldLink RX5 28 "DustVote" "now" "LDustVote$Moment;") (by decide +kernel)
  have cw_X2_isBent := show CallW (rmv 3 62) s _ RX5 RX2 119 yX2_isBent cX2_isBent 2 (some .boolean) wsX2_isBent (rmv 0 0) 0 0 1 from cwV 1 hts gX5_bend_X2_isBent rfl rfl rfl (by decide +kernel) ⟨Nat.le_of_ble_eq_true rfl, Nat.le_of_ble_eq_true rfl⟩
  have fl38 := hts (.fieldLink RX5 38 "DustVote" "acts" "LDustVote$ActRow;") (by decide +kernel)
  have cw_X0_push := show CallW (rmv 3 62) s _ RX5 RX0 125 yX0_push cX0_push 2 none wsX0_push (rmv 2 41) 0 0 1 from cwV 1 hts gX5_bend_X0_push rfl rfl rfl (by decide +kernel) ⟨Nat.le_of_ble_eq_true rfl, Nat.le_of_ble_eq_true rfl⟩
  have cw_X2_bow := show CallW (rmv 3 62) s _ RX5 RX2 146 yX2_bow cX2_bow 2 none wsX2_bow (rmv 0 0) 0 0 1 from cwV 1 hts gX5_bend_X2_bow rfl rfl rfl (by decide +kernel) ⟨Nat.le_of_ble_eq_true rfl, Nat.le_of_ble_eq_true rfl⟩
  have fl149 := hK.f (args := List.toArray [.ref x0, .int u1]) (show ("DustVote", 149, "DustVote$Moment", "bent", "I", "DustVote") ∈ nestF by decide)
  have inX2 := show ∀ w ∈ wsX20, w ∈ wsX5_bend from by decide +kernel
  have cw_J6_bitCount_0f7a4 := show CallB (rmv 3 62) s _ RX5 152 yJ6_bitCount_0f7a4 cJ6_bitCount_0f7a4 1 (some .int) wsJ6_bitCount_0f7a4 (rmv 0 0) 0 0 1 ∧ (Cond.static yJ6_bitCount_0f7a4).before _ s = true from va_cwS 1 hts gX5_bend_J6_bitCount_0f7a4 rfl rfl rfl (by decide +kernel) ⟨Nat.le_of_ble_eq_true rfl, Nat.le_of_ble_eq_true rfl⟩
  unfold f_X5_bend at h
  refine lv_aload_n hx hb dX5_bend_0 rfl (lv_at hl 0 rfl) ?_
  refine va_get (ci := 5) (C := RX5) (T := TX5) (N := 9) hx hb hts inX5 hown hK.1 hP 0 rfl rfl 1 (by decide) fl19 (fun _ h9 => h9) rfl dX5_bend_1 ?_
  refine lv_iload_n hx hb dX5_bend_4 rfl (lv_at hl 1 rfl) ?_
  obtain ⟨rr_1, ee_2, h⟩ := bnd1_s h
  refine cVi (As := [.int u1]) (rest := []) S0 hK hA hP (va_D_same hD rfl) hS [3, 4, 5, 6, 7, 8, 9] (k_X4_hasBroom l G t0 t1 t2 t3 t4 t5 t6 T_br T_fa T_fd T_fp T_st T_kd T_fs T_fl u1 rr_1 ee_2) cw_X4_hasBroom rfl rfl (Nat.le_of_ble_eq_true rfl) 4 0 rfl rfl rfl rfl hl.1 rfl (Nat.le_of_ble_eq_true rfl) dX5_bend_5 ⟨Nat.zero_le _, Nat.zero_le _⟩ (fun H locs hP hS => ?_)
  replace hP : va_P G.1 vwCl (W_F G x0 s0 s1 t0 t1 t2 t3 t4 t5 t6 n0 n1 n2 n3 r0 r1 r2 r3 a0 a1 p0 p1 p2 p3 k0 j0 X_ch S_len S_let T_br T_fa T_fd T_fp T_st T_kd T_fs T_fl N_gi N_be N_da N_du N_pl N_de R_gi R_be R_da R_du R_pl R_de A_fi A_si A_ce P_si P_be P_le P_go K_sl J_fi) H := hP
  refine lv_if_ne (tgt := 13) hx hb dX5_bend_8 (by decide) (fun cc_3 => ?_) (fun cc_3 => ?_)
  · replace h := if_f cc_3 h
    refine lv_aload_n hx hb dX5_bend_13 rfl (lv_at hl 0 rfl) ?_
    refine va_get (ci := 5) (C := RX5) (T := TX5) (N := 9) hx hb hts inX5 hown hK.1 hP 0 rfl rfl 2 (by decide) fl28 (fun _ h9 => h9) rfl dX5_bend_14 ?_
    refine lv_iload_n hx hb dX5_bend_17 rfl (lv_at hl 1 rfl) ?_
    obtain ⟨rr_4, ee_5, h⟩ := bnd1_s h
    refine cVi (As := [.int u1]) (rest := []) S0 hK hA hP (va_D_same hD rfl) hS [10, 11, 12, 13, 3, 4, 5, 6, 7, 8, 9] (k_X2_isBent l G n0 n1 n2 n3 t0 t1 t2 t3 t4 t5 t6 N_gi N_be N_da N_du N_pl N_de T_br T_fa T_fd T_fp T_st T_kd T_fs T_fl u1 rr_4 ee_5) cw_X2_isBent rfl rfl (Nat.le_of_ble_eq_true rfl) 2 0 rfl rfl rfl rfl hl.1 rfl (Nat.le_of_ble_eq_true rfl) dX5_bend_18 ⟨Nat.zero_le _, Nat.zero_le _⟩ (fun H locs hP hS => ?_)
    replace hP : va_P G.1 vwCl (W_F G x0 s0 s1 t0 t1 t2 t3 t4 t5 t6 n0 n1 n2 n3 r0 r1 r2 r3 a0 a1 p0 p1 p2 p3 k0 j0 X_ch S_len S_let T_br T_fa T_fd T_fp T_st T_kd T_fs T_fl N_gi N_be N_da N_du N_pl N_de R_gi R_be R_da R_du R_pl R_de A_fi A_si A_ce P_si P_be P_le P_go K_sl J_fi) H := hP
    refine lv_if_eq (tgt := 27) hx hb dX5_bend_21 (by decide) (fun cc_6 => ?_) (fun cc_6 => ?_)
    · replace h := if_t cc_6 h
      refine lv_aload_n hx hb dX5_bend_27 rfl (lv_at hl 0 rfl) ?_
      refine va_get (ci := 5) (C := RX5) (T := TX5) (N := 9) hx hb hts inX5 hown hK.1 hP 0 rfl rfl 4 (by decide) fl38 (fun _ h9 => h9) rfl dX5_bend_28 ?_
      refine lv_aload_n hx hb dX5_bend_31 rfl (lv_at hl 0 rfl) ?_
      refine va_get (ci := 5) (C := RX5) (T := TX5) (N := 9) hx hb hts inX5 hown hK.1 hP 0 rfl rfl 2 (by decide) fl28 (fun _ h9 => h9) rfl dX5_bend_32 ?_
      obtain ⟨dd_7, dd_8, dd_9, ee_10, h⟩ := bnd3_s h
      refine cVv (As := [.ref n0]) (rest := []) S0 hK hA hP (va_D_same hD rfl) hS [18, 19, 10, 11, 12, 13] (k_X0_push l G a0 a1 n0 n1 n2 n3 t0 A_fi A_si A_ce N_gi N_be N_da N_du N_pl N_de dd_7 dd_8 dd_9 ee_10) cw_X0_push rfl rfl (Nat.le_of_ble_eq_true rfl) 0 0 rfl rfl rfl rfl hl.1 rfl (Nat.le_of_ble_eq_true rfl) dX5_bend_35 ⟨Nat.zero_le _, Nat.zero_le _⟩ (fun H locs hP hS => ?_)
      replace hP : va_P G.1 vwCl (W_F G x0 s0 s1 t0 t1 t2 t3 t4 t5 t6 n0 n1 n2 n3 r0 r1 r2 r3 a0 a1 p0 p1 p2 p3 k0 j0 X_ch S_len S_let T_br T_fa T_fd T_fp T_st T_kd T_fs T_fl N_gi N_be N_da N_du N_pl N_de R_gi R_be R_da R_du R_pl R_de dd_7 dd_8 dd_9 P_si P_be P_le P_go K_sl J_fi) H := hP
      refine lv_aload_n hx hb dX5_bend_38 rfl (lv_at hl 0 rfl) ?_
      refine va_get (ci := 5) (C := RX5) (T := TX5) (N := 9) hx hb hts inX5 hown hK.1 hP 0 rfl rfl 2 (by decide) fl28 (fun _ h9 => h9) rfl dX5_bend_39 ?_
      refine lv_iconst (v := 1) hx hb dX5_bend_42 (by decide) ?_
      refine lv_iload_n hx hb dX5_bend_43 rfl (lv_at hl 1 rfl) ?_
      refine lv_ishl hx hb dX5_bend_44 ?_
      obtain ⟨dd_11, ee_12, h⟩ := bnd1_s h
      refine cVv (As := [.int ((1 : Int32) <<< (u1 &&& 31))]) (rest := []) S0 hK hA hP (va_D_same hD rfl) hS [10, 11, 12, 13, 3, 4, 5, 6, 7, 8, 9] (k_X2_bow l G n0 n1 n2 n3 t0 t1 t2 t3 t4 t5 t6 N_gi N_be N_da N_du N_pl N_de T_br T_fa T_fd T_fp T_st T_kd T_fs T_fl ((1 : Int32) <<< (u1 &&& 31)) dd_11 ee_12) cw_X2_bow rfl rfl (Nat.le_of_ble_eq_true rfl) 2 0 rfl rfl rfl rfl hl.1 rfl (Nat.le_of_ble_eq_true rfl) dX5_bend_45 ⟨Nat.zero_le _, Nat.zero_le _⟩ (fun H locs hP hS => ?_)
      replace hP : va_P G.1 vwCl (W_F G x0 s0 s1 t0 t1 t2 t3 t4 t5 t6 n0 n1 n2 n3 r0 r1 r2 r3 a0 a1 p0 p1 p2 p3 k0 j0 X_ch S_len S_let T_br T_fa T_fd T_fp T_st T_kd T_fs T_fl N_gi dd_11 N_da N_du N_pl N_de R_gi R_be R_da R_du R_pl R_de dd_7 dd_8 dd_9 P_si P_be P_le P_go K_sl J_fi) H := hP
      refine lv_aload_n hx hb dX5_bend_48 rfl (lv_at hl 0 rfl) ?_
      refine va_get (ci := 5) (C := RX5) (T := TX5) (N := 9) hx hb hts inX5 hown hK.1 hP 0 rfl rfl 2 (by decide) fl28 (fun _ h9 => h9) rfl dX5_bend_49 ?_
      refine va_getN (ci := 2) (C := RX2) (T := TX2) (N := 7) hx hb hts inX2 hown hK.1 hP 10 rfl rfl 5 (by decide) fl149 (fun _ h9 => h9) rfl dX5_bend_52 ?_
      obtain ⟨rr_13, ee_14, h⟩ := bnd1_s h
      refine cSi (As := [.int dd_11]) (rest := []) S0 hK hA hP (va_D_same hD rfl) hS [] (k_J6_bitCount_0f7a4 l G dd_11 rr_13 ee_14) cw_J6_bitCount_0f7a4 rfl rfl (Nat.le_of_ble_eq_true rfl) rfl hl.1 rfl (Nat.le_of_ble_eq_true rfl) dX5_bend_55 ⟨Nat.zero_le _, Nat.zero_le _⟩ (fun H locs hP hS => ?_)
      replace hP : va_P G.1 vwCl (W_F G x0 s0 s1 t0 t1 t2 t3 t4 t5 t6 n0 n1 n2 n3 r0 r1 r2 r3 a0 a1 p0 p1 p2 p3 k0 j0 X_ch S_len S_let T_br T_fa T_fd T_fp T_st T_kd T_fs T_fl N_gi dd_11 N_da N_du N_pl N_de R_gi R_be R_da R_du R_pl R_de dd_7 dd_8 dd_9 P_si P_be P_le P_go K_sl J_fi) H := hP
      cases h
      exact W.iret hx hb hr (fun t ht _ => ⟨⟨_, (), rfl, rfl, by show va_P G.1 vwCl _ t.heap; rw [ht]; exact hP⟩, hS.F ht⟩) hS.2.2 dX5_bend_58
    · replace h := if_f cc_6 h
      refine lv_bipush (v := (-3)) hx hb dX5_bend_24 (by decide) ?_
      cases h
      exact W.iret hx hb hr (fun t ht _ => ⟨⟨_, (), rfl, rfl, by show va_P G.1 vwCl _ t.heap; rw [ht]; exact hP⟩, hS.F ht⟩) hS.2.2 dX5_bend_26
  · replace h := if_t cc_3 h
    refine lv_iconst (v := (-1)) hx hb dX5_bend_11 (by decide) ?_
    cases h
    exact W.iret hx hb hr (fun t ht _ => ⟨⟨_, (), rfl, rfl, by show va_P G.1 vwCl _ t.heap; rw [ht]; exact hP⟩, hS.F ht⟩) hS.2.2 dX5_bend_12
def f_X2_empty (M_du : Nat → Int32) (u1 : Int32) : Option ((Nat → Int32)) := bnd1 (f_X5_isStreet u1) (fun rr_1 => if rr_1 = 0 then (some M_du) else (bnd1 (wr M_du 8 u1 (0 : Int32)) (fun dd_4 => some dd_4)))
set_option maxRecDepth 100000 in
set_option maxHeartbeats 4000000 in
theorem k_X2_empty (l : Launch) (G : Gt) (m0 m1 m2 m3 t0 t1 t2 t3 t4 t5 t6 : Nat) (M_gi : Int32) (M_be : Int32) (M_da : Int32) (M_du : Nat → Int32) (M_pl : Nat → Int32) (M_de : Nat → Int32) (T_br : Int32) (T_fa : Int32) (T_fd : Nat → Int32) (T_fp : Nat → Int32) (T_st : Nat → Int32) (T_kd : Nat → Int32) (T_fs : Nat → Int32) (T_fl : Nat → Int32) (u1 : Int32) (o_M_du : Nat → Int32) (h : f_X2_empty M_du u1 = some o_M_du) : CT l yX2_empty wsX2_empty 1 20 G [.ref m0, .int u1] (W_MT G m0 m1 m2 m3 t0 t1 t2 t3 t4 t5 t6 M_gi M_be M_da M_du M_pl M_de T_br T_fa T_fd T_fp T_st T_kd T_fs T_fl) (QV G (W_MT G m0 m1 m2 m3 t0 t1 t2 t3 t4 t5 t6 M_gi M_be M_da o_M_du M_pl M_de T_br T_fa T_fd T_fp T_st T_kd T_fs T_fl)) := by
  refine met_of cX2_empty 2 none (by decide) rfl (Nat.le_of_ble_eq_true rfl) ?_
  intro p e s m below meth c A ls hx hb hr hml hts hown hlocks hK hA hD hP hS hl
  replace hown : s.vm.findClass RX2 = some m.cls := hown
  replace hl : lv_has ls 2 [(0, .ref m0), (1, .int u1)] := hl
  have S0 : CallFix p m c cX2_empty 2 s _ wsX2_empty RX2 := ⟨hx, hb, hml, hown, hts⟩
  have cw_X5_isStreet := show va_CN (rmv 1 20) s _ RX2 51 yX5_isStreet "DustVote" cX5_isStreet 1 (some .boolean) wsX5_isStreet (rmv 0 0) 0 0 1 ∧ (Cond.static yX5_isStreet).before _ s = true ∧ True from ⟨va_cnB 1 hts gX2_empty_X5_isStreet_n51 rfl rfl rfl (hK.m (by decide)) (hts (.initialized RX5) (by decide +kernel)) (by decide +kernel) ⟨Nat.le_of_ble_eq_true rfl, Nat.le_of_ble_eq_true rfl⟩, hts (.static yX5_isStreet) (by decide +kernel), trivial⟩
  have fl9 := hts (.fieldLink RX2 9 "DustVote$Moment" "dust" "[I") (by decide +kernel)
  have inX2 := show ∀ w ∈ wsX20, w ∈ wsX2_empty from by decide +kernel
  unfold f_X2_empty at h
  refine lv_iload_n hx hb dX2_empty_0 rfl (lv_at hl 1 rfl) ?_
  obtain ⟨rr_1, ee_2, h⟩ := bnd1_s h
  refine cNi (As := [.int u1]) (rest := []) S0 hK hA hP (va_D_same hD rfl) hS [] (k_X5_isStreet l G u1 rr_1 ee_2) cw_X5_isStreet rfl rfl (Nat.le_of_ble_eq_true rfl) rfl hl.1 rfl (Nat.le_of_ble_eq_true rfl) dX2_empty_1 ⟨Nat.zero_le _, Nat.zero_le _⟩ (fun H locs hP hS => ?_)
  replace hP : va_P G.1 vwCl (W_MT G m0 m1 m2 m3 t0 t1 t2 t3 t4 t5 t6 M_gi M_be M_da M_du M_pl M_de T_br T_fa T_fd T_fp T_st T_kd T_fs T_fl) H := hP
  refine lv_if_eq (tgt := 14) hx hb dX2_empty_4 (by decide) (fun cc_3 => ?_) (fun cc_3 => ?_)
  · replace h := if_t cc_3 h
    cases h
    exact W.vret hx hb hr (fun t ht _ => ⟨⟨(), rfl, trivial, by show va_P G.1 vwCl _ t.heap; rw [ht]; exact hP⟩, hS.F ht⟩) hS.2.2 dX2_empty_14
  · replace h := if_f cc_3 h
    refine lv_aload_n hx hb dX2_empty_7 rfl (lv_at hl 0 rfl) ?_
    refine va_get (ci := 2) (C := RX2) (T := TX2) (N := 7) hx hb hts inX2 hown hK.1 hP 0 rfl rfl 1 (by decide) fl9 (fun _ h9 => h9) rfl dX2_empty_8 ?_
    refine lv_iload_n hx hb dX2_empty_11 rfl (lv_at hl 1 rfl) ?_
    refine lv_iconst (v := 0) hx hb dX2_empty_12 (by decide) ?_
    obtain ⟨dd_4, ee_5, h⟩ := bnd1_s h
    refine wIast hx hb hK hP (va_D_same hD rfl) hS 1 rfl ee_5 dX2_empty_13 (fun H locs hP hS => ?_)
    replace hP : va_P G.1 vwCl (W_MT G m0 m1 m2 m3 t0 t1 t2 t3 t4 t5 t6 M_gi M_be M_da dd_4 M_pl M_de T_br T_fa T_fd T_fp T_st T_kd T_fs T_fl) H := hP
    cases h
    exact W.vret hx hb hr (fun t ht _ => ⟨⟨(), rfl, trivial, by show va_P G.1 vwCl _ t.heap; rw [ht]; exact hP⟩, hS.F ht⟩) hS.2.2 dX2_empty_14
