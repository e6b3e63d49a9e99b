def f_X5_judge_39 (T_br : Int32) (T_fa : Int32) (T_st : Nat → Int32) (T_kd : Nat → Int32) (T_fs : Nat → Int32) (T_fl : Nat → Int32) (N_gi : Int32) (N_be : Int32) (N_da : Int32) (N_du : Nat → Int32) (N_pl : Nat → Int32) : Nat → Int32 → Int64 → Int32 → Int32 → Int32 → Int32 → (Nat → Int32) → (Nat → Int32) → (Nat → Int32) → Option (Int32 × Int32 × Int32 × Int32 × (Nat → Int32) × (Nat → Int32) × (Nat → Int32))
  | 0, _, _, _, _, _, _, _, _, _ => none
  | fu + 1, v1, v2, v5, R_gi, R_be, R_da, R_du, R_pl, R_de => if v1 ≤ v5 then (some (((-9) : Int32), R_gi, R_be, R_da, R_du, R_pl, R_de)) else (bnd1 (f_X5_power (1000 : Int32) ((v1 - (1 : Int32)) - v5)) (fun rr_2 => if (if rr_2 < (1 : Int64) then (1 : Int64) else rr_2) = 0 then none else (nm (((v2 / (if rr_2 < (1 : Int64) then (1 : Int64) else rr_2)) - (v2 / (if rr_2 < (1 : Int64) then (1 : Int64) else rr_2)) / (1000 : Int64) * (1000 : Int64)).toInt32) (fun zz_5 => bnd7 (f_X5_isSo T_br T_fa T_st T_kd T_fs T_fl R_gi R_be R_da R_du R_pl R_de (zz_5 / (100 : Int32)) ((zz_5 / (10 : Int32)) - (zz_5 / (10 : Int32)) / (10 : Int32) * (10 : Int32)) (zz_5 - zz_5 / (10 : Int32) * (10 : Int32))) (fun rr_7 dd_8 dd_9 dd_10 dd_11 dd_12 dd_13 => if rr_7 = 0 then (some (v5, dd_8, dd_9, dd_10, dd_11, dd_12, dd_13)) else (f_X5_judge_39 T_br T_fa T_st T_kd T_fs T_fl N_gi N_be N_da N_du N_pl fu v1 v2 (v5 + 1) dd_8 dd_9 dd_10 dd_11 dd_12 dd_13))))))
def f_X5_judge (T_br : Int32) (T_fa : Int32) (T_st : Nat → Int32) (T_kd : Nat → Int32) (T_fs : Nat → Int32) (T_fl : Nat → Int32) (N_gi : Int32) (N_be : Int32) (N_da : Int32) (N_du : Nat → Int32) (N_pl : Nat → Int32) (R_gi : Int32) (R_be : Int32) (R_da : Int32) (R_du : Nat → Int32) (R_pl : Nat → Int32) (R_de : Nat → Int32) (u1 : Int32) (u2 : Int64) : Option (Int32 × Int32 × Int32 × Int32 × (Nat → Int32) × (Nat → Int32) × (Nat → Int32)) := bnd1 (f_X5_within u1 (1 : Int32) (4 : Int32)) (fun rr_16 => if rr_16 = 0 then (some (((-2) : Int32), R_gi, R_be, R_da, R_du, R_pl, R_de)) else (if (lg_cmp u2 (0 : Int64)) < 0 then (some (((-2) : Int32), R_gi, R_be, R_da, R_du, R_pl, R_de)) else (bnd1 (f_X5_power (1000 : Int32) u1) (fun rr_20 => if (lg_cmp u2 rr_20) < 0 then (bnd5 (f_X5_fromNow N_gi N_be N_da N_du N_pl R_gi R_be R_da R_du R_pl) (fun dd_23 dd_24 dd_25 dd_26 dd_27 => f_X5_judge_39 T_br T_fa T_st T_kd T_fs T_fl N_gi N_be N_da N_du N_pl  130 u1 u2 (0 : Int32) dd_23 dd_24 dd_25 dd_26 dd_27 R_de)) else (some (((-2) : Int32), R_gi, R_be, R_da, R_du, R_pl, R_de))))))
set_option maxRecDepth 100000 in
set_option maxHeartbeats 4000000 in
theorem k_X5_judge (l : Launch) (G : Gt) (x0 s0 s1 t0 t1 t2 t3 t4 t5 t6 n0 n1 n2 n3 r0 r1 r2 r3 a0 a1 p0 p1 p2 p3 k0 j0 : Nat) (X_ch : Int64) (S_len : Int32) (S_let : Nat → Int32) (T_br : Int32) (T_fa : Int32) (T_fd : Nat → Int32) (T_fp : Nat → Int32) (T_st : Nat → Int32) (T_kd : Nat → Int32) (T_fs : Nat → Int32) (T_fl : Nat → Int32) (N_gi : Int32) (N_be : Int32) (N_da : Int32) (N_du : Nat → Int32) (N_pl : Nat → Int32) (N_de : Nat → Int32) (R_gi : Int32) (R_be : Int32) (R_da : Int32) (R_du : Nat → Int32) (R_pl : Nat → Int32) (R_de : Nat → Int32) (A_fi : Int32) (A_si : Int32) (A_ce : Nat → Int32) (P_si : Int32) (P_be : Nat → Int32) (P_le : Nat → Int32) (P_go : Nat → Int32) (K_sl : Nat → Int32) (J_fi : Nat → Int32) (u1 : Int32) (u2 : Int64) (r_ : Int32) (o_R_gi : Int32) (o_R_be : Int32) (o_R_da : Int32) (o_R_du : Nat → Int32) (o_R_pl : Nat → Int32) (o_R_de : Nat → Int32) (h : f_X5_judge T_br T_fa T_st T_kd T_fs T_fl N_gi N_be N_da N_du N_pl R_gi R_be R_da R_du R_pl R_de u1 u2 = some (r_, o_R_gi, o_R_be, o_R_da, o_R_du, o_R_pl, o_R_de)) : CT l yX5_judge wsX5_judge 6 135 G [.ref x0, .int u1, .long u2] (W_F G x0 s0 s1 t0 t1 t2 t3 t4 t5 t6 n0 n1 n2 n3 r0 r1 r2 r3 a0 a1 p0 p1 p2 p3 k0 j0 X_ch S_len S_let T_br T_fa T_fd T_fp T_st T_kd T_fs T_fl N_gi N_be N_da N_du N_pl N_de R_gi R_be R_da R_du R_pl R_de A_fi A_si A_ce P_si P_be P_le P_go K_sl J_fi) (QI G r_ (W_F G x0 s0 s1 t0 t1 t2 t3 t4 t5 t6 n0 n1 n2 n3 r0 r1 r2 r3 a0 a1 p0 p1 p2 p3 k0 j0 X_ch S_len S_let T_br T_fa T_fd T_fp T_st T_kd T_fs T_fl N_gi N_be N_da N_du N_pl N_de o_R_gi o_R_be o_R_da o_R_du o_R_pl o_R_de A_fi A_si A_ce P_si P_be P_le P_go K_sl J_fi)) := by
  refine met_of cX5_judge 7 (some .int) (by decide) rfl (Nat.le_of_ble_eq_true rfl) ?_
  intro p e s m below meth c A ls hx hb hr hml hts hown hlocks hK hA hD hP hS hl
  replace hown : s.vm.findClass RX5 = some m.cls := hown
  replace hl : lv_has ls 7 [(0, .ref x0), (1, .int u1), (2, .long u2)] := hl
  have S0 : CallFix p m c cX5_judge 7 s _ wsX5_judge RX5 := ⟨hx, hb, hml, hown, hts⟩
  have cw_X5_power := show CallB (rmv 6 135) s _ RX5 187 yX5_power cX5_power 5 (some .long) wsX5_power (rmv 0 0) 0 0 2 ∧ (Cond.static yX5_power).before _ s = true from va_cwS 2 hts gX5_judge_X5_power rfl rfl rfl (by decide +kernel) ⟨Nat.le_of_ble_eq_true rfl, Nat.le_of_ble_eq_true rfl⟩
  have jmax1 := hts (.methodLink RX5 191 Lib.MathLoose.max_long.x) (by decide +kernel)
  have jmax2 := hts (.static Lib.MathLoose.max_long.x) (by decide +kernel)
  have jmax3 := hts (.initialized "java/lang/Math") (by decide +kernel)
  have jmax4 := hts (.code Lib.MathLoose.max_long.x Lib.MathLoose.max_long.code 4 (some .long)) (by decide +kernel)
  have cl197 := hts (.constantLong RX5 197 (1000)) (by decide +kernel)
  have cw_X5_isSo := show CallW (rmv 6 135) s _ RX5 RX5 199 yX5_isSo cX5_isSo 5 (some .boolean) wsX5_isSo (rmv 5 111) 0 0 4 from cwV 4 hts gX5_judge_X5_isSo rfl rfl rfl (by decide +kernel) ⟨Nat.le_of_ble_eq_true rfl, Nat.le_of_ble_eq_true rfl⟩
  have cw_X5_within := show CallB (rmv 6 135) s _ RX5 61 yX5_within cX5_within 3 (some .boolean) wsX5_within (rmv 0 0) 0 0 3 ∧ (Cond.static yX5_within).before _ s = true from va_cwS 3 hts gX5_judge_X5_within rfl rfl rfl (by decide +kernel) ⟨Nat.le_of_ble_eq_true rfl, Nat.le_of_ble_eq_true rfl⟩
  have cw_X5_fromNow := show CallW (rmv 6 135) s _ RX5 RX5 173 yX5_fromNow cX5_fromNow 1 (some (.object "DustVote$Moment")) wsX5_fromNow (rmv 2 39) 0 0 0 from cwV 0 hts gX5_judge_X5_fromNow rfl rfl rfl (by decide +kernel) ⟨Nat.le_of_ble_eq_true rfl, Nat.le_of_ble_eq_true rfl⟩
  have J_39 : ∀ (fu : Nat), ∀ (v1 : Int32) (v2 : Int64) (v5 : Int32) (R_gi : Int32) (R_be : Int32) (R_da : Int32) (R_du : Nat → Int32) (R_pl : Nat → Int32) (R_de : Nat → Int32) (H : Heap) (locs : List Loc) (ls : Array Slot), f_X5_judge_39 T_br T_fa T_st T_kd T_fs T_fl N_gi N_be N_da N_du N_pl fu v1 v2 v5 R_gi R_be R_da R_du R_pl R_de = some (r_, o_R_gi, o_R_be, o_R_da, o_R_du, o_R_pl, o_R_de) → va_P G.1 vwCl (W_F G x0 s0 s1 t0 t1 t2 t3 t4 t5 t6 n0 n1 n2 n3 r0 r1 r2 r3 a0 a1 p0 p1 p2 p3 k0 j0 X_ch S_len S_let T_br T_fa T_fd T_fp T_st T_kd T_fs T_fl N_gi N_be N_da N_du N_pl N_de R_gi R_be R_da R_du R_pl R_de A_fi A_si A_ce P_si P_be P_le P_go K_sl J_fi) H → va_S A s.heap H locs → lv_has ls 7 [(0, .ref x0), (1, .int v1), (2, .long v2), (4, .ref r0), (5, .int v5)] → W p l e (rmv 6 135) s m (List.toArray [.ref x0, .int u1, .long u2]) below meth c H locs 0 0 (MQ below ((QI G r_ (W_F G x0 s0 s1 t0 t1 t2 t3 t4 t5 t6 n0 n1 n2 n3 r0 r1 r2 r3 a0 a1 p0 p1 p2 p3 k0 j0 X_ch S_len S_let T_br T_fa T_fd T_fp T_st T_kd T_fs T_fl N_gi N_be N_da N_du N_pl N_de o_R_gi o_R_be o_R_da o_R_du o_R_pl o_R_de A_fi A_si A_ce P_si P_be P_le P_go K_sl J_fi)) A) (List.toArray [.ref x0, .int u1, .long u2]) s 0 0 A) (F0 m 39 ls []) := by
    intro  fu
    induction fu with
    | zero =>
      intro v1 v2 v5 R_gi R_be R_da R_du R_pl R_de H locs ls h
      cases h
    | succ fu ih =>
      intro v1 v2 v5 R_gi R_be R_da R_du R_pl R_de H locs ls h hP hS hl
      rw [f_X5_judge_39] at h
      refine lv_iload hx hb dX5_judge_39 (lv_at hl 4 rfl) ?_
      refine lv_iload_n hx hb dX5_judge_41 rfl (lv_at hl 1 rfl) ?_
      refine lv_icmp_ge (tgt := 106) hx hb dX5_judge_42 (by decide) (fun cc_1 => ?_) (fun cc_1 => ?_)
      · replace h := if_t cc_1 h
        refine lv_bipush (v := (-9)) hx hb dX5_judge_106 (by decide) ?_
        cases h
        exact W.iret hx hb hr (fun t ht _ => ⟨⟨_, (), rfl, rfl, by show va_P G.1 vwCl _ t.heap; rw [ht]; exact hP⟩, hS.F ht⟩) hS.2.2 dX5_judge_108
      · replace h := if_f cc_1 h
        refine lv_lload_n hx hb dX5_judge_45 rfl (lv_at hl 2 rfl) ?_
        refine lv_lconst (v := 1) hx hb dX5_judge_46 (by decide) ?_
        refine lv_sipush (v := 1000) hx hb dX5_judge_47 (by decide) ?_
        refine lv_iload_n hx hb dX5_judge_50 rfl (lv_at hl 1 rfl) ?_
        refine lv_iconst (v := 1) hx hb dX5_judge_51 (by decide) ?_
        refine lv_isub hx hb dX5_judge_52 ?_
        refine lv_iload hx hb dX5_judge_53 (lv_at hl 4 rfl) ?_
        refine lv_isub hx hb dX5_judge_55 ?_
        obtain ⟨rr_2, ee_3, h⟩ := bnd1_s h
        refine cSl (As := [.int (1000 : Int32), .int ((v1 - (1 : Int32)) - v5)]) (rest := [.long (1 : Int64), .long v2]) S0 hK hA hP (va_D_same hD rfl) hS [] (k_X5_power l G (1000 : Int32) ((v1 - (1 : Int32)) - v5) rr_2 ee_3) cw_X5_power rfl rfl (Nat.le_of_ble_eq_true rfl) rfl hl.1 rfl (Nat.le_of_ble_eq_true rfl) dX5_judge_56 ⟨Nat.zero_le _, Nat.zero_le _⟩ (fun H locs hP hS => ?_)
        replace hP : va_P G.1 vwCl (W_F G x0 s0 s1 t0 t1 t2 t3 t4 t5 t6 n0 n1 n2 n3 r0 r1 r2 r3 a0 a1 p0 p1 p2 p3 k0 j0 X_ch S_len S_let T_br T_fa T_fd T_fp T_st T_kd T_fs T_fl N_gi N_be N_da N_du N_pl N_de R_gi R_be R_da R_du R_pl R_de A_fi A_si A_ce P_si P_be P_le P_go K_sl J_fi) H := hP
        refine va_mmax_long hx hb (hml.trans hl.1.symm) hown jmax1 jmax2 jmax3 jmax4 (Nat.le_of_ble_eq_true rfl) (Nat.le_of_ble_eq_true rfl) (Nat.zero_le _) (Nat.zero_le _) dX5_judge_59 ?_
        by_cases cc_4 : (if rr_2 < (1 : Int64) then (1 : Int64) else rr_2) = 0
        · cases (if_t cc_4 h)
        replace h := if_f cc_4 h
        refine lv_ldiv hx hb dX5_judge_62 cc_4 ?_
        refine lv_ldc2 (v := 1000) hx hb hown cl197 dX5_judge_63 ?_
        refine lv_lrem hx hb dX5_judge_66 (by decide) ?_
        refine lv_l2i (v := ((v2 / (if rr_2 < (1 : Int64) then (1 : Int64) else rr_2)) - (v2 / (if rr_2 < (1 : Int64) then (1 : Int64) else rr_2)) / (1000 : Int64) * (1000 : Int64)).toInt32) hx hb dX5_judge_67 rfl ?_
        refine lv_topi (fun zz_5 ee_6 => ?_)
        replace h := nm_s ee_6 h
        refine lv_istore (lv' := [(6, .int zz_5), (0, .ref x0), (1, .int v1), (2, .long v2), (4, .ref r0), (5, .int v5)]) hx hb dX5_judge_68 hl (by decide) rfl (fun ls hl => ?_)
        refine lv_aload_n hx hb dX5_judge_70 rfl (lv_at hl 1 rfl) ?_
        refine lv_aload hx hb dX5_judge_71 (lv_at hl 4 rfl) ?_
        refine lv_iload hx hb dX5_judge_73 (lv_at hl 0 rfl) ?_
        refine lv_bipush (v := 100) hx hb dX5_judge_75 (by decide) ?_
        refine lv_idiv hx hb dX5_judge_77 (by decide) ?_
        refine lv_iload hx hb dX5_judge_78 (lv_at hl 0 rfl) ?_
        refine lv_bipush (v := 10) hx hb dX5_judge_80 (by decide) ?_
        refine lv_idiv hx hb dX5_judge_82 (by decide) ?_
        refine lv_bipush (v := 10) hx hb dX5_judge_83 (by decide) ?_
        refine lv_irem hx hb dX5_judge_85 (by decide) ?_
        refine lv_iload hx hb dX5_judge_86 (lv_at hl 0 rfl) ?_
        refine lv_bipush (v := 10) hx hb dX5_judge_88 (by decide) ?_
        refine lv_irem hx hb dX5_judge_90 (by decide) ?_
        obtain ⟨rr_7, dd_8, dd_9, dd_10, dd_11, dd_12, dd_13, ee_14, h⟩ := bnd7_s h
        refine cFi (As := [.ref r0, .int (zz_5 / (100 : Int32)), .int ((zz_5 / (10 : Int32)) - (zz_5 / (10 : Int32)) / (10 : Int32) * (10 : Int32)), .int (zz_5 - zz_5 / (10 : Int32) * (10 : Int32))]) (rest := []) S0 hK hA hP (va_D_same hD rfl) hS (k_X5_isSo l G x0 s0 s1 t0 t1 t2 t3 t4 t5 t6 n0 n1 n2 n3 r0 r1 r2 r3 a0 a1 p0 p1 p2 p3 k0 j0 X_ch S_len S_let T_br T_fa T_fd T_fp T_st T_kd T_fs T_fl N_gi N_be N_da N_du N_pl N_de R_gi R_be R_da R_du R_pl R_de A_fi A_si A_ce P_si P_be P_le P_go K_sl J_fi (zz_5 / (100 : Int32)) ((zz_5 / (10 : Int32)) - (zz_5 / (10 : Int32)) / (10 : Int32) * (10 : Int32)) (zz_5 - zz_5 / (10 : Int32) * (10 : Int32)) rr_7 dd_8 dd_9 dd_10 dd_11 dd_12 dd_13 ee_14) cw_X5_isSo 5 0 rfl rfl rfl rfl hl.1 rfl (Nat.le_of_ble_eq_true rfl) dX5_judge_91 ⟨Nat.zero_le _, Nat.zero_le _⟩ (fun H locs hP hS => ?_)
        replace hP : va_P G.1 vwCl (W_F G x0 s0 s1 t0 t1 t2 t3 t4 t5 t6 n0 n1 n2 n3 r0 r1 r2 r3 a0 a1 p0 p1 p2 p3 k0 j0 X_ch S_len S_let T_br T_fa T_fd T_fp T_st T_kd T_fs T_fl N_gi N_be N_da N_du N_pl N_de dd_8 dd_9 dd_10 dd_11 dd_12 dd_13 A_fi A_si A_ce P_si P_be P_le P_go K_sl J_fi) H := hP
        refine lv_if_ne (tgt := 100) hx hb dX5_judge_94 (by decide) (fun cc_15 => ?_) (fun cc_15 => ?_)
        · replace h := if_f cc_15 h
          refine lv_iinc (v := (v5 + 1)) (lv' := [(5, .int (v5 + 1)), (6, .int zz_5), (0, .ref x0), (1, .int v1), (2, .long v2), (4, .ref r0)]) hx hb dX5_judge_100 hl (k := 5) rfl rfl (by decide) rfl (fun ls hl => ?_)
          refine lv_goto (tgt := 39) hx hb dX5_judge_103 (by decide) ?_
          exact ih v1 v2 (v5 + 1) dd_8 dd_9 dd_10 dd_11 dd_12 dd_13 _ _ _ h hP hS (lv_sub hl [2, 3, 4, 5, 0] rfl)
        · replace h := if_t cc_15 h
          refine lv_iload hx hb dX5_judge_97 (lv_at hl 5 rfl) ?_
          cases h
          exact W.iret hx hb hr (fun t ht _ => ⟨⟨_, (), rfl, rfl, by show va_P G.1 vwCl _ t.heap; rw [ht]; exact hP⟩, hS.F ht⟩) hS.2.2 dX5_judge_99
  unfold f_X5_judge at h
  refine lv_iload_n hx hb dX5_judge_0 rfl (lv_at hl 1 rfl) ?_
  refine lv_iconst (v := 1) hx hb dX5_judge_1 (by decide) ?_
  refine lv_iconst (v := 4) hx hb dX5_judge_2 (by decide) ?_
  obtain ⟨rr_16, ee_17, h⟩ := bnd1_s h
  refine cSi (As := [.int u1, .int (1 : Int32), .int (4 : Int32)]) (rest := []) S0 hK hA hP (va_D_same hD rfl) hS [] (k_X5_within l G u1 (1 : Int32) (4 : Int32) rr_16 ee_17) cw_X5_within rfl rfl (Nat.le_of_ble_eq_true rfl) rfl hl.1 rfl (Nat.le_of_ble_eq_true rfl) dX5_judge_3 ⟨Nat.zero_le _, Nat.zero_le _⟩ (fun H locs hP hS => ?_)
  replace hP : va_P G.1 vwCl (W_F G x0 s0 s1 t0 t1 t2 t3 t4 t5 t6 n0 n1 n2 n3 r0 r1 r2 r3 a0 a1 p0 p1 p2 p3 k0 j0 X_ch S_len S_let T_br T_fa T_fd T_fp T_st T_kd T_fs T_fl N_gi N_be N_da N_du N_pl N_de R_gi R_be R_da R_du R_pl R_de A_fi A_si A_ce P_si P_be P_le P_go K_sl J_fi) H := hP
  refine lv_if_eq (tgt := 27) hx hb dX5_judge_6 (by decide) (fun cc_18 => ?_) (fun cc_18 => ?_)
  · replace h := if_t cc_18 h
    refine lv_bipush (v := (-2)) hx hb dX5_judge_27 (by decide) ?_
    cases h
    exact W.iret hx hb hr (fun t ht _ => ⟨⟨_, (), rfl, rfl, by show va_P G.1 vwCl _ t.heap; rw [ht]; exact hP⟩, hS.F ht⟩) hS.2.2 dX5_judge_29
  · replace h := if_f cc_18 h
    refine lv_lload_n hx hb dX5_judge_9 rfl (lv_at hl 2 rfl) ?_
    refine lv_lconst (v := 0) hx hb dX5_judge_10 (by decide) ?_
    refine W.lcmp hx hb dX5_judge_11 ?_
    refine lv_if_lt (tgt := 27) hx hb dX5_judge_12 (by decide) (fun cc_19 => ?_) (fun cc_19 => ?_)
    · replace h := if_t cc_19 h
      refine lv_bipush (v := (-2)) hx hb dX5_judge_27 (by decide) ?_
      cases h
      exact W.iret hx hb hr (fun t ht _ => ⟨⟨_, (), rfl, rfl, by show va_P G.1 vwCl _ t.heap; rw [ht]; exact hP⟩, hS.F ht⟩) hS.2.2 dX5_judge_29
    · replace h := if_f cc_19 h
      refine lv_lload_n hx hb dX5_judge_15 rfl (lv_at hl 2 rfl) ?_
      refine lv_sipush (v := 1000) hx hb dX5_judge_16 (by decide) ?_
      refine lv_iload_n hx hb dX5_judge_19 rfl (lv_at hl 1 rfl) ?_
      obtain ⟨rr_20, ee_21, h⟩ := bnd1_s h
      refine cSl (As := [.int (1000 : Int32), .int u1]) (rest := [.long u2]) S0 hK hA hP (va_D_same hD rfl) hS [] (k_X5_power l G (1000 : Int32) u1 rr_20 ee_21) cw_X5_power rfl rfl (Nat.le_of_ble_eq_true rfl) rfl hl.1 rfl (Nat.le_of_ble_eq_true rfl) dX5_judge_20 ⟨Nat.zero_le _, Nat.zero_le _⟩ (fun H locs hP hS => ?_)
      replace hP : va_P G.1 vwCl (W_F G x0 s0 s1 t0 t1 t2 t3 t4 t5 t6 n0 n1 n2 n3 r0 r1 r2 r3 a0 a1 p0 p1 p2 p3 k0 j0 X_ch S_len S_let T_br T_fa T_fd T_fp T_st T_kd T_fs T_fl N_gi N_be N_da N_du N_pl N_de R_gi R_be R_da R_du R_pl R_de A_fi A_si A_ce P_si P_be P_le P_go K_sl J_fi) H := hP
      refine W.lcmp hx hb dX5_judge_23 ?_
      refine lv_if_lt (tgt := 30) hx hb dX5_judge_24 (by decide) (fun cc_22 => ?_) (fun cc_22 => ?_)
      · replace h := if_t cc_22 h
        refine lv_aload_n hx hb dX5_judge_30 rfl (lv_at hl 0 rfl) ?_
        obtain ⟨dd_23, dd_24, dd_25, dd_26, dd_27, ee_28, h⟩ := bnd5_s h
        refine cFr (As := []) (rest := []) S0 hK hA hP (va_D_same hD rfl) hS (k_X5_fromNow l G x0 s0 s1 t0 t1 t2 t3 t4 t5 t6 n0 n1 n2 n3 r0 r1 r2 r3 a0 a1 p0 p1 p2 p3 k0 j0 X_ch S_len S_let T_br T_fa T_fd T_fp T_st T_kd T_fs T_fl N_gi N_be N_da N_du N_pl N_de R_gi R_be R_da R_du R_pl R_de A_fi A_si A_ce P_si P_be P_le P_go K_sl J_fi dd_23 dd_24 dd_25 dd_26 dd_27 ee_28) cw_X5_fromNow 5 0 rfl rfl rfl rfl hl.1 rfl (Nat.le_of_ble_eq_true rfl) dX5_judge_31 ⟨Nat.zero_le _, Nat.zero_le _⟩ (fun H locs hP hS => ?_)
        replace hP : va_P G.1 vwCl (W_F G x0 s0 s1 t0 t1 t2 t3 t4 t5 t6 n0 n1 n2 n3 r0 r1 r2 r3 a0 a1 p0 p1 p2 p3 k0 j0 X_ch S_len S_let T_br T_fa T_fd T_fp T_st T_kd T_fs T_fl N_gi N_be N_da N_du N_pl N_de dd_23 dd_24 dd_25 dd_26 dd_27 R_de A_fi A_si A_ce P_si P_be P_le P_go K_sl J_fi) H := hP
        refine lv_astore (lv' := [(4, .ref r0), (0, .ref x0), (1, .int u1), (2, .long u2)]) hx hb dX5_judge_34 hl (by decide) rfl (fun ls hl => ?_)
        refine lv_iconst (v := 0) hx hb dX5_judge_36 (by decide) ?_
        refine lv_istore (lv' := [(5, .int (0 : Int32)), (4, .ref r0), (0, .ref x0), (1, .int u1), (2, .long u2)]) hx hb dX5_judge_37 hl (by decide) rfl (fun ls hl => ?_)
        exact J_39  130 u1 u2 (0 : Int32) dd_23 dd_24 dd_25 dd_26 dd_27 R_de _ _ _ h hP hS (lv_sub hl [2, 3, 4, 1, 0] rfl)
      · replace h := if_f cc_22 h
        refine lv_bipush (v := (-2)) hx hb dX5_judge_27 (by decide) ?_
        cases h
        exact W.iret hx hb hr (fun t ht _ => ⟨⟨_, (), rfl, rfl, by show va_P G.1 vwCl _ t.heap; rw [ht]; exact hP⟩, hS.F ht⟩) hS.2.2 dX5_judge_29
