def f_X5_years_23 (T_br : Int32) (T_fa : Int32) (T_st : Nat → Int32) (T_kd : Nat → Int32) (T_fs : Nat → Int32) (T_fl : Nat → Int32) (N_gi : Int32) (N_be : Int32) (N_da : Int32) (N_du : Nat → Int32) (N_pl : Nat → Int32) : Nat → Int32 → Int32 → Int32 → Int64 → Int32 → Int32 → Int32 → (Nat → Int32) → (Nat → Int32) → (Nat → Int32) → Option (Int32 × Int64 × Int32 × Int32 × Int32 × (Nat → Int32) × (Nat → Int32) × (Nat → Int32))
  | 0, _, _, _, _, _, _, _, _, _, _ => none
  | fu + 1, v1, v3, v4, X_ch, R_gi, R_be, R_da, R_du, R_pl, R_de => if v1 ≤ v4 then (some (v3, X_ch, R_gi, R_be, R_da, R_du, R_pl, R_de)) else (nm ((X_ch * (6364136223846793005 : Int64)) + (1442695040888963407 : Int64)) (fun zz_2 => bnd5 (f_X5_happen T_br T_fa T_st T_kd T_fs T_fl R_gi R_be R_da R_du R_pl R_de ((((zz_2.toUInt64 >>> ((33 : Int32).toInt64.toUInt64 &&& Int64.toUInt64 63)).toInt64) - ((zz_2.toUInt64 >>> ((33 : Int32).toInt64.toUInt64 &&& Int64.toUInt64 63)).toInt64) / (32 : Int64) * (32 : Int64)).toInt32)) (fun dd_4 dd_5 dd_6 dd_7 dd_8 => bnd1 (f_X2_allDust dd_6) (fun rr_10 => f_X5_years_23 T_br T_fa T_st T_kd T_fs T_fl N_gi N_be N_da N_du N_pl fu v1 (v3 + rr_10) (v4 + 1) zz_2 dd_4 R_be dd_5 dd_6 dd_7 dd_8))))
def f_X5_years (X_ch : Int64) (T_br : Int32) (T_fa : Int32) (T_st : Nat → Int32) (T_kd : Nat → Int32) (T_fs : Nat → Int32) (T_fl : Nat → Int32) (N_gi : Int32) (N_be : Int32) (N_da : Int32) (N_du : Nat → Int32) (N_pl : Nat → Int32) (R_gi : Int32) (R_be : Int32) (R_da : Int32) (R_du : Nat → Int32) (R_pl : Nat → Int32) (R_de : Nat → Int32) (u1 : Int32) : Option (Int32 × Int64 × Int32 × Int32 × Int32 × (Nat → Int32) × (Nat → Int32) × (Nat → Int32)) := bnd1 (f_X5_within u1 (1 : Int32) (30 : Int32)) (fun rr_12 => if rr_12 = 0 then (some (((-2) : Int32), X_ch, R_gi, R_be, R_da, R_du, R_pl, R_de)) else (bnd5 (f_X5_fromNow N_gi N_be N_da N_du N_pl R_gi R_be R_da R_du R_pl) (fun dd_15 dd_16 dd_17 dd_18 dd_19 => f_X5_years_23 T_br T_fa T_st T_kd T_fs T_fl N_gi N_be N_da N_du N_pl  130 u1 (0 : Int32) (0 : Int32) X_ch dd_15 dd_16 dd_17 dd_18 dd_19 R_de)))
set_option maxRecDepth 100000 in
set_option maxHeartbeats 4000000 in
theorem k_X5_years (l : Launch) (G : Gt) (x0 s0 s1 t0 t1 t2 t3 t4 t5 t6 n0 n1 n2 n3 r0 r1 r2 r3 a0 a1 p0 p1 p2 p3 k0 j0 : Nat) (X_ch : Int64) (S_len : Int32) (S_let : Nat → Int32) (T_br : Int32) (T_fa : Int32) (T_fd : Nat → Int32) (T_fp : Nat → Int32) (T_st : Nat → Int32) (T_kd : Nat → Int32) (T_fs : Nat → Int32) (T_fl : Nat → Int32) (N_gi : Int32) (N_be : Int32) (N_da : Int32) (N_du : Nat → Int32) (N_pl : Nat → Int32) (N_de : Nat → Int32) (R_gi : Int32) (R_be : Int32) (R_da : Int32) (R_du : Nat → Int32) (R_pl : Nat → Int32) (R_de : Nat → Int32) (A_fi : Int32) (A_si : Int32) (A_ce : Nat → Int32) (P_si : Int32) (P_be : Nat → Int32) (P_le : Nat → Int32) (P_go : Nat → Int32) (K_sl : Nat → Int32) (J_fi : Nat → Int32) (u1 : Int32) (r_ : Int32) (o_X_ch : Int64) (o_R_gi : Int32) (o_R_be : Int32) (o_R_da : Int32) (o_R_du : Nat → Int32) (o_R_pl : Nat → Int32) (o_R_de : Nat → Int32) (h : f_X5_years X_ch T_br T_fa T_st T_kd T_fs T_fl N_gi N_be N_da N_du N_pl R_gi R_be R_da R_du R_pl R_de u1 = some (r_, o_X_ch, o_R_gi, o_R_be, o_R_da, o_R_du, o_R_pl, o_R_de)) : CT l yX5_years wsX5_years 6 133 G [.ref x0, .int u1] (W_F G x0 s0 s1 t0 t1 t2 t3 t4 t5 t6 n0 n1 n2 n3 r0 r1 r2 r3 a0 a1 p0 p1 p2 p3 k0 j0 X_ch S_len S_let T_br T_fa T_fd T_fp T_st T_kd T_fs T_fl N_gi N_be N_da N_du N_pl N_de R_gi R_be R_da R_du R_pl R_de A_fi A_si A_ce P_si P_be P_le P_go K_sl J_fi) (QI G r_ (W_F G x0 s0 s1 t0 t1 t2 t3 t4 t5 t6 n0 n1 n2 n3 r0 r1 r2 r3 a0 a1 p0 p1 p2 p3 k0 j0 o_X_ch S_len S_let T_br T_fa T_fd T_fp T_st T_kd T_fs T_fl N_gi N_be N_da N_du N_pl N_de o_R_gi o_R_be o_R_da o_R_du o_R_pl o_R_de A_fi A_si A_ce P_si P_be P_le P_go K_sl J_fi)) := by
  refine met_of cX5_years 5 (some .int) (by decide) rfl (Nat.le_of_ble_eq_true rfl) ?_
  intro p e s m below meth c A ls hx hb hr hml hts hown hlocks hK hA hD hP hS hl
  replace hown : s.vm.findClass RX5 = some m.cls := hown
  replace hl : lv_has ls 5 [(0, .ref x0), (1, .int u1)] := hl
  have S0 : CallFix p m c cX5_years 5 s _ wsX5_years RX5 := ⟨hx, hb, hml, hown, hts⟩
  have fl57 := hts (.fieldLink RX5 57 "DustVote" "chance" "J") (by decide +kernel)
  have inX5 := show ∀ w ∈ wsX50, w ∈ wsX5_years from by decide +kernel
  have cl227 := hts (.constantLong RX5 227 (6364136223846793005)) (by decide +kernel)
  have cl229 := hts (.constantLong RX5 229 (1442695040888963407)) (by decide +kernel)
  have cl231 := hts (.constantLong RX5 231 (32)) (by decide +kernel)
  have cw_X5_happen := show CallW (rmv 6 133) s _ RX5 RX5 233 yX5_happen cX5_happen 3 none wsX5_happen (rmv 5 111) 0 0 2 from cwV 2 hts gX5_years_X5_happen rfl rfl rfl (by decide +kernel) ⟨Nat.le_of_ble_eq_true rfl, Nat.le_of_ble_eq_true rfl⟩
  have cw_X2_allDust := show CallW (rmv 6 133) s _ RX5 RX2 133 yX2_allDust cX2_allDust 3 (some .int) wsX2_allDust (rmv 0 0) 0 0 0 from cwV 0 hts gX5_years_X2_allDust rfl rfl rfl (by decide +kernel) ⟨Nat.le_of_ble_eq_true rfl, Nat.le_of_ble_eq_true rfl⟩
  have cw_X5_within := show CallB (rmv 6 133) s _ RX5 61 yX5_within cX5_within 3 (some .boolean) wsX5_within (rmv 0 0) 0 0 3 ∧ (Cond.static yX5_within).before _ s = true from va_cwS 3 hts gX5_years_X5_within rfl rfl rfl (by decide +kernel) ⟨Nat.le_of_ble_eq_true rfl, Nat.le_of_ble_eq_true rfl⟩
  have cw_X5_fromNow := show CallW (rmv 6 133) s _ RX5 RX5 173 yX5_fromNow cX5_fromNow 1 (some (.object "DustVote$Moment")) wsX5_fromNow (rmv 2 39) 0 0 0 from cwV 0 hts gX5_years_X5_fromNow rfl rfl rfl (by decide +kernel) ⟨Nat.le_of_ble_eq_true rfl, Nat.le_of_ble_eq_true rfl⟩
  have J_23 : ∀ (fu : Nat), ∀ (v1 : Int32) (v3 : Int32) (v4 : Int32) (X_ch : Int64) (R_gi : Int32) (R_be : Int32) (R_da : Int32) (R_du : Nat → Int32) (R_pl : Nat → Int32) (R_de : Nat → Int32) (H : Heap) (locs : List Loc) (ls : Array Slot), f_X5_years_23 T_br T_fa T_st T_kd T_fs T_fl N_gi N_be N_da N_du N_pl fu v1 v3 v4 X_ch R_gi R_be R_da R_du R_pl R_de = some (r_, o_X_ch, o_R_gi, o_R_be, o_R_da, o_R_du, o_R_pl, o_R_de) → va_P G.1 vwCl (W_F G x0 s0 s1 t0 t1 t2 t3 t4 t5 t6 n0 n1 n2 n3 r0 r1 r2 r3 a0 a1 p0 p1 p2 p3 k0 j0 X_ch S_len S_let T_br T_fa T_fd T_fp T_st T_kd T_fs T_fl N_gi N_be N_da N_du N_pl N_de R_gi R_be R_da R_du R_pl R_de A_fi A_si A_ce P_si P_be P_le P_go K_sl J_fi) H → va_S A s.heap H locs → lv_has ls 5 [(0, .ref x0), (1, .int v1), (2, .ref r0), (3, .int v3), (4, .int v4)] → W p l e (rmv 6 133) s m (List.toArray [.ref x0, .int u1]) below meth c H locs 0 0 (MQ below ((QI G r_ (W_F G x0 s0 s1 t0 t1 t2 t3 t4 t5 t6 n0 n1 n2 n3 r0 r1 r2 r3 a0 a1 p0 p1 p2 p3 k0 j0 o_X_ch S_len S_let T_br T_fa T_fd T_fp T_st T_kd T_fs T_fl N_gi N_be N_da N_du N_pl N_de o_R_gi o_R_be o_R_da o_R_du o_R_pl o_R_de A_fi A_si A_ce P_si P_be P_le P_go K_sl J_fi)) A) (List.toArray [.ref x0, .int u1]) s 0 0 A) (F0 m 23 ls []) := by
    intro  fu
    induction fu with
    | zero =>
      intro v1 v3 v4 X_ch R_gi R_be R_da R_du R_pl R_de H locs ls h
      cases h
    | succ fu ih =>
      intro v1 v3 v4 X_ch R_gi R_be R_da R_du R_pl R_de H locs ls h hP hS hl
      rw [f_X5_years_23] at h
      refine lv_iload hx hb dX5_years_23 (lv_at hl 4 rfl) ?_
      refine lv_iload_n hx hb dX5_years_25 rfl (lv_at hl 1 rfl) ?_
      refine lv_icmp_ge (tgt := 75) hx hb dX5_years_26 (by decide) (fun cc_1 => ?_) (fun cc_1 => ?_)
      · replace h := if_t cc_1 h
        refine lv_iload_n hx hb dX5_years_75 rfl (lv_at hl 3 rfl) ?_
        cases h
        exact W.iret hx hb hr (fun t ht _ => ⟨⟨_, (), rfl, rfl, by show va_P G.1 vwCl _ t.heap; rw [ht]; exact hP⟩, hS.F ht⟩) hS.2.2 dX5_years_76
      · replace h := if_f cc_1 h
        refine lv_aload_n hx hb dX5_years_29 rfl (lv_at hl 0 rfl) ?_
        refine lv_aload_n hx hb dX5_years_30 rfl (lv_at hl 0 rfl) ?_
        refine va_get (ci := 5) (C := RX5) (T := TX5) (N := 9) hx hb hts inX5 hown hK.1 hP 0 rfl rfl 8 (by decide) fl57 (fun _ h9 => h9) rfl dX5_years_31 ?_
        refine lv_ldc2 (v := 6364136223846793005) hx hb hown cl227 dX5_years_34 ?_
        refine lv_lmul hx hb dX5_years_37 ?_
        refine lv_ldc2 (v := 1442695040888963407) hx hb hown cl229 dX5_years_38 ?_
        refine lv_ladd hx hb dX5_years_41 ?_
        refine lv_topl (fun zz_2 ee_3 => ?_)
        replace h := nm_s ee_3 h
        refine va_put (ci := 5) (ty := .long) (C := RX5) (T := TX5) (N := 9) hx hb hts inX5 tyX5 tyX5_ok nmX5 hown hK.1 hP (va_D_same hD rfl) hS 0 rfl rfl 8 (by decide) fl57 (fun _ h9 => h9) rfl (by decide +kernel) rfl rfl (Nat.le_of_ble_eq_true rfl) dX5_years_42 (fun H locs hP _ hS => ?_)
        replace hP : va_P G.1 vwCl (W_F G x0 s0 s1 t0 t1 t2 t3 t4 t5 t6 n0 n1 n2 n3 r0 r1 r2 r3 a0 a1 p0 p1 p2 p3 k0 j0 zz_2 S_len S_let T_br T_fa T_fd T_fp T_st T_kd T_fs T_fl N_gi N_be N_da N_du N_pl N_de R_gi R_be R_da R_du R_pl R_de A_fi A_si A_ce P_si P_be P_le P_go K_sl J_fi) H := hP
        refine lv_aload_n hx hb dX5_years_45 rfl (lv_at hl 0 rfl) ?_
        refine lv_aload_n hx hb dX5_years_46 rfl (lv_at hl 2 rfl) ?_
        refine lv_aload_n hx hb dX5_years_47 rfl (lv_at hl 0 rfl) ?_
        refine va_get (ci := 5) (C := RX5) (T := TX5) (N := 9) hx hb hts inX5 hown hK.1 hP 0 rfl rfl 8 (by decide) fl57 (fun _ h9 => h9) rfl dX5_years_48 ?_
        refine lv_bipush (v := 33) hx hb dX5_years_51 (by decide) ?_
        refine lv_lushr (v := (zz_2.toUInt64 >>> ((33 : Int32).toInt64.toUInt64 &&& Int64.toUInt64 63)).toInt64) hx hb dX5_years_53 rfl ?_
        refine lv_ldc2 (v := 32) hx hb hown cl231 dX5_years_54 ?_
        refine lv_lrem hx hb dX5_years_57 (by decide) ?_
        refine lv_l2i (v := (((zz_2.toUInt64 >>> ((33 : Int32).toInt64.toUInt64 &&& Int64.toUInt64 63)).toInt64) - ((zz_2.toUInt64 >>> ((33 : Int32).toInt64.toUInt64 &&& Int64.toUInt64 63)).toInt64) / (32 : Int64) * (32 : Int64)).toInt32) hx hb dX5_years_58 rfl ?_
        obtain ⟨dd_4, dd_5, dd_6, dd_7, dd_8, ee_9, h⟩ := bnd5_s h
        refine cFv (As := [.ref r0, .int ((((zz_2.toUInt64 >>> ((33 : Int32).toInt64.toUInt64 &&& Int64.toUInt64 63)).toInt64) - ((zz_2.toUInt64 >>> ((33 : Int32).toInt64.toUInt64 &&& Int64.toUInt64 63)).toInt64) / (32 : Int64) * (32 : Int64)).toInt32)]) (rest := []) S0 hK hA hP (va_D_same hD rfl) hS (k_X5_happen l G x0 s0 s1 t0 t1 t2 t3 t4 t5 t6 n0 n1 n2 n3 r0 r1 r2 r3 a0 a1 p0 p1 p2 p3 k0 j0 zz_2 S_len S_let T_br T_fa T_fd T_fp T_st T_kd T_fs T_fl N_gi N_be N_da N_du N_pl N_de R_gi R_be R_da R_du R_pl R_de A_fi A_si A_ce P_si P_be P_le P_go K_sl J_fi ((((zz_2.toUInt64 >>> ((33 : Int32).toInt64.toUInt64 &&& Int64.toUInt64 63)).toInt64) - ((zz_2.toUInt64 >>> ((33 : Int32).toInt64.toUInt64 &&& Int64.toUInt64 63)).toInt64) / (32 : Int64) * (32 : Int64)).toInt32) dd_4 dd_5 dd_6 dd_7 dd_8 ee_9) cw_X5_happen 5 0 rfl rfl rfl rfl hl.1 rfl (Nat.le_of_ble_eq_true rfl) dX5_years_59 ⟨Nat.zero_le _, Nat.zero_le _⟩ (fun H locs hP hS => ?_)
        replace hP : va_P G.1 vwCl (W_F G x0 s0 s1 t0 t1 t2 t3 t4 t5 t6 n0 n1 n2 n3 r0 r1 r2 r3 a0 a1 p0 p1 p2 p3 k0 j0 zz_2 S_len S_let T_br T_fa T_fd T_fp T_st T_kd T_fs T_fl N_gi N_be N_da N_du N_pl N_de dd_4 R_be dd_5 dd_6 dd_7 dd_8 A_fi A_si A_ce P_si P_be P_le P_go K_sl J_fi) H := hP
        refine lv_iload_n hx hb dX5_years_62 rfl (lv_at hl 3 rfl) ?_
        refine lv_aload_n hx hb dX5_years_63 rfl (lv_at hl 2 rfl) ?_
        obtain ⟨rr_10, ee_11, h⟩ := bnd1_s h
        refine cVi (As := []) (rest := [.int v3]) S0 hK hA hP (va_D_same hD rfl) hS [14, 15, 16, 17, 3, 4, 5, 6, 7, 8, 9] (k_X2_allDust l G r0 r1 r2 r3 t0 t1 t2 t3 t4 t5 t6 dd_4 R_be dd_5 dd_6 dd_7 dd_8 T_br T_fa T_fd T_fp T_st T_kd T_fs T_fl rr_10 ee_11) cw_X2_allDust rfl rfl (Nat.le_of_ble_eq_true rfl) 2 0 rfl rfl rfl rfl hl.1 rfl (Nat.le_of_ble_eq_true rfl) dX5_years_64 ⟨Nat.zero_le _, Nat.zero_le _⟩ (fun H locs hP hS => ?_)
        replace hP : va_P G.1 vwCl (W_F G x0 s0 s1 t0 t1 t2 t3 t4 t5 t6 n0 n1 n2 n3 r0 r1 r2 r3 a0 a1 p0 p1 p2 p3 k0 j0 zz_2 S_len S_let T_br T_fa T_fd T_fp T_st T_kd T_fs T_fl N_gi N_be N_da N_du N_pl N_de dd_4 R_be dd_5 dd_6 dd_7 dd_8 A_fi A_si A_ce P_si P_be P_le P_go K_sl J_fi) H := hP
        refine lv_iadd hx hb dX5_years_67 ?_
        refine lv_istore_n (lv' := [(3, .int (v3 + rr_10)), (0, .ref x0), (1, .int v1), (2, .ref r0), (4, .int v4)]) hx hb dX5_years_68 rfl hl (by decide) rfl (fun ls hl => ?_)
        refine lv_iinc (v := (v4 + 1)) (lv' := [(4, .int (v4 + 1)), (3, .int (v3 + rr_10)), (0, .ref x0), (1, .int v1), (2, .ref r0)]) hx hb dX5_years_69 hl (k := 4) rfl rfl (by decide) rfl (fun ls hl => ?_)
        refine lv_goto (tgt := 23) hx hb dX5_years_72 (by decide) ?_
        exact ih v1 (v3 + rr_10) (v4 + 1) zz_2 dd_4 R_be dd_5 dd_6 dd_7 dd_8 _ _ _ h hP hS (lv_sub hl [2, 3, 4, 1, 0] rfl)
  unfold f_X5_years at h
  refine lv_iload_n hx hb dX5_years_0 rfl (lv_at hl 1 rfl) ?_
  refine lv_iconst (v := 1) hx hb dX5_years_1 (by decide) ?_
  refine lv_bipush (v := 30) hx hb dX5_years_2 (by decide) ?_
  obtain ⟨rr_12, ee_13, h⟩ := bnd1_s h
  refine cSi (As := [.int u1, .int (1 : Int32), .int (30 : Int32)]) (rest := []) S0 hK hA hP (va_D_same hD rfl) hS [] (k_X5_within l G u1 (1 : Int32) (30 : Int32) rr_12 ee_13) cw_X5_within rfl rfl (Nat.le_of_ble_eq_true rfl) rfl hl.1 rfl (Nat.le_of_ble_eq_true rfl) dX5_years_4 ⟨Nat.zero_le _, Nat.zero_le _⟩ (fun H locs hP hS => ?_)
  replace hP : va_P G.1 vwCl (W_F G x0 s0 s1 t0 t1 t2 t3 t4 t5 t6 n0 n1 n2 n3 r0 r1 r2 r3 a0 a1 p0 p1 p2 p3 k0 j0 X_ch S_len S_let T_br T_fa T_fd T_fp T_st T_kd T_fs T_fl N_gi N_be N_da N_du N_pl N_de R_gi R_be R_da R_du R_pl R_de A_fi A_si A_ce P_si P_be P_le P_go K_sl J_fi) H := hP
  refine lv_if_ne (tgt := 13) hx hb dX5_years_7 (by decide) (fun cc_14 => ?_) (fun cc_14 => ?_)
  · replace h := if_f cc_14 h
    refine lv_aload_n hx hb dX5_years_13 rfl (lv_at hl 0 rfl) ?_
    obtain ⟨dd_15, dd_16, dd_17, dd_18, dd_19, ee_20, h⟩ := bnd5_s h
    refine cFr (As := []) (rest := []) S0 hK hA hP (va_D_same hD rfl) hS (k_X5_fromNow l G x0 s0 s1 t0 t1 t2 t3 t4 t5 t6 n0 n1 n2 n3 r0 r1 r2 r3 a0 a1 p0 p1 p2 p3 k0 j0 X_ch S_len S_let T_br T_fa T_fd T_fp T_st T_kd T_fs T_fl N_gi N_be N_da N_du N_pl N_de R_gi R_be R_da R_du R_pl R_de A_fi A_si A_ce P_si P_be P_le P_go K_sl J_fi dd_15 dd_16 dd_17 dd_18 dd_19 ee_20) cw_X5_fromNow 5 0 rfl rfl rfl rfl hl.1 rfl (Nat.le_of_ble_eq_true rfl) dX5_years_14 ⟨Nat.zero_le _, Nat.zero_le _⟩ (fun H locs hP hS => ?_)
    replace hP : va_P G.1 vwCl (W_F G x0 s0 s1 t0 t1 t2 t3 t4 t5 t6 n0 n1 n2 n3 r0 r1 r2 r3 a0 a1 p0 p1 p2 p3 k0 j0 X_ch S_len S_let T_br T_fa T_fd T_fp T_st T_kd T_fs T_fl N_gi N_be N_da N_du N_pl N_de dd_15 dd_16 dd_17 dd_18 dd_19 R_de A_fi A_si A_ce P_si P_be P_le P_go K_sl J_fi) H := hP
    refine lv_astore_n (lv' := [(2, .ref r0), (0, .ref x0), (1, .int u1)]) hx hb dX5_years_17 rfl hl (by decide) rfl (fun ls hl => ?_)
    refine lv_iconst (v := 0) hx hb dX5_years_18 (by decide) ?_
    refine lv_istore_n (lv' := [(3, .int (0 : Int32)), (2, .ref r0), (0, .ref x0), (1, .int u1)]) hx hb dX5_years_19 rfl hl (by decide) rfl (fun ls hl => ?_)
    refine lv_iconst (v := 0) hx hb dX5_years_20 (by decide) ?_
    refine lv_istore (lv' := [(4, .int (0 : Int32)), (3, .int (0 : Int32)), (2, .ref r0), (0, .ref x0), (1, .int u1)]) hx hb dX5_years_21 hl (by decide) rfl (fun ls hl => ?_)
    exact J_23  130 u1 (0 : Int32) (0 : Int32) X_ch dd_15 dd_16 dd_17 dd_18 dd_19 R_de _ _ _ h hP hS (lv_sub hl [3, 4, 2, 1, 0] rfl)
  · replace h := if_t cc_14 h
    refine lv_bipush (v := (-2)) hx hb dX5_years_10 (by decide) ?_
    cases h
    exact W.iret hx hb hr (fun t ht _ => ⟨⟨_, (), rfl, rfl, by show va_P G.1 vwCl _ t.heap; rw [ht]; exact hP⟩, hS.F ht⟩) hS.2.2 dX5_years_12
