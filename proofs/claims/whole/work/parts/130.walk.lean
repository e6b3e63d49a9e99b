def f_X5_gain_21 (T_br : Int32) (T_fa : Int32) (T_st : Nat → Int32) (T_kd : Nat → Int32) (T_fs : Nat → Int32) (T_fl : Nat → Int32) (N_gi : Int32) (N_be : Int32) (N_da : Int32) (N_du : Nat → Int32) (N_pl : Nat → Int32) (v1 : Int32) (q0 : Int32) (R_gi : Int32) (R_be : Int32) (R_da : Int32) (R_du : Nat → Int32) (R_pl : Nat → Int32) (R_de : Nat → Int32) : Option (Int32 × Int32 × Int32 × Int32 × (Nat → Int32) × (Nat → Int32) × (Nat → Int32)) := bnd1 (f_X2_placeOf R_pl T_br v1) (fun rr_1 => bnd1 (f_X2_dustIn R_du rr_1) (fun rr_3 => some ((((20 : Int32) - rr_3) - q0), R_gi, R_be, R_da, R_du, R_pl, R_de)))
def f_X5_gain (T_br : Int32) (T_fa : Int32) (T_st : Nat → Int32) (T_kd : Nat → Int32) (T_fs : Nat → Int32) (T_fl : Nat → Int32) (N_gi : Int32) (N_be : Int32) (N_da : Int32) (N_du : Nat → Int32) (N_pl : Nat → Int32) (R_gi : Int32) (R_be : Int32) (R_da : Int32) (R_du : Nat → Int32) (R_pl : Nat → Int32) (R_de : Nat → Int32) (u1 : Int32) (u2 : Int32) : Option (Int32 × Int32 × Int32 × Int32 × (Nat → Int32) × (Nat → Int32) × (Nat → Int32)) := bnd6 (f_X5_behind T_br T_fa T_st T_kd T_fs T_fl N_gi N_be N_da N_du N_pl R_gi R_be R_da R_du R_pl R_de (3 : Int32) u2) (fun dd_5 dd_6 dd_7 dd_8 dd_9 dd_10 => if ((u2 >>> (u1 &&& 31)) &&& (1 : Int32)) = (1 : Int32) then (f_X5_gain_21 T_br T_fa T_st T_kd T_fs T_fl N_gi N_be N_da N_du N_pl  u1 (4 : Int32) dd_5 dd_6 dd_7 dd_8 dd_9 dd_10) else (f_X5_gain_21 T_br T_fa T_st T_kd T_fs T_fl N_gi N_be N_da N_du N_pl  u1 (0 : Int32) dd_5 dd_6 dd_7 dd_8 dd_9 dd_10))
set_option maxRecDepth 100000 in
set_option maxHeartbeats 4000000 in
theorem k_X5_gain (l : Launch) (G : Gt) (x0 s0 s1 t0 t1 t2 t3 t4 t5 t6 n0 n1 n2 n3 r0 r1 r2 r3 a0 a1 p0 p1 p2 p3 k0 j0 : Nat) (X_ch : Int64) (S_len : Int32) (S_let : Nat → Int32) (T_br : Int32) (T_fa : Int32) (T_fd : Nat → Int32) (T_fp : Nat → Int32) (T_st : Nat → Int32) (T_kd : Nat → Int32) (T_fs : Nat → Int32) (T_fl : Nat → Int32) (N_gi : Int32) (N_be : Int32) (N_da : Int32) (N_du : Nat → Int32) (N_pl : Nat → Int32) (N_de : Nat → Int32) (R_gi : Int32) (R_be : Int32) (R_da : Int32) (R_du : Nat → Int32) (R_pl : Nat → Int32) (R_de : Nat → Int32) (A_fi : Int32) (A_si : Int32) (A_ce : Nat → Int32) (P_si : Int32) (P_be : Nat → Int32) (P_le : Nat → Int32) (P_go : Nat → Int32) (K_sl : Nat → Int32) (J_fi : Nat → Int32) (u1 : Int32) (u2 : Int32) (r_ : Int32) (o_R_gi : Int32) (o_R_be : Int32) (o_R_da : Int32) (o_R_du : Nat → Int32) (o_R_pl : Nat → Int32) (o_R_de : Nat → Int32) (h : f_X5_gain T_br T_fa T_st T_kd T_fs T_fl N_gi N_be N_da N_du N_pl R_gi R_be R_da R_du R_pl R_de u1 u2 = some (r_, o_R_gi, o_R_be, o_R_da, o_R_du, o_R_pl, o_R_de)) : CT l yX5_gain wsX5_gain 5 114 G [.ref x0, .int u1, .int u2] (W_F G x0 s0 s1 t0 t1 t2 t3 t4 t5 t6 n0 n1 n2 n3 r0 r1 r2 r3 a0 a1 p0 p1 p2 p3 k0 j0 X_ch S_len S_let T_br T_fa T_fd T_fp T_st T_kd T_fs T_fl N_gi N_be N_da N_du N_pl N_de R_gi R_be R_da R_du R_pl R_de A_fi A_si A_ce P_si P_be P_le P_go K_sl J_fi) (QI G r_ (W_F G x0 s0 s1 t0 t1 t2 t3 t4 t5 t6 n0 n1 n2 n3 r0 r1 r2 r3 a0 a1 p0 p1 p2 p3 k0 j0 X_ch S_len S_let T_br T_fa T_fd T_fp T_st T_kd T_fs T_fl N_gi N_be N_da N_du N_pl N_de o_R_gi o_R_be o_R_da o_R_du o_R_pl o_R_de A_fi A_si A_ce P_si P_be P_le P_go K_sl J_fi)) := by
  refine met_of cX5_gain 5 (some .int) (by decide) rfl (Nat.le_of_ble_eq_true rfl) ?_
  intro p e s m below meth c A ls hx hb hr hml hts hown hlocks hK hA hD hP hS hl
  replace hown : s.vm.findClass RX5 = some m.cls := hown
  replace hl : lv_has ls 5 [(0, .ref x0), (1, .int u1), (2, .int u2)] := hl
  have S0 : CallFix p m c cX5_gain 5 s _ wsX5_gain RX5 := ⟨hx, hb, hml, hown, hts⟩
  have cw_X2_placeOf := show CallW (rmv 5 114) s _ RX5 RX2 110 yX2_placeOf cX2_placeOf 2 (some .int) wsX2_placeOf (rmv 1 21) 0 0 1 from cwV 1 hts gX5_gain_X2_placeOf rfl rfl rfl (by decide +kernel) ⟨Nat.le_of_ble_eq_true rfl, Nat.le_of_ble_eq_true rfl⟩
  have cw_X2_dustIn := show CallW (rmv 5 114) s _ RX5 RX2 97 yX2_dustIn cX2_dustIn 2 (some .int) wsX2_dustIn (rmv 1 20) 0 0 1 from cwV 1 hts gX5_gain_X2_dustIn rfl rfl rfl (by decide +kernel) ⟨Nat.le_of_ble_eq_true rfl, Nat.le_of_ble_eq_true rfl⟩
  have cw_X5_behind := show CallW (rmv 5 114) s _ RX5 RX5 166 yX5_behind cX5_behind 5 (some (.object "DustVote$Moment")) wsX5_behind (rmv 4 90) 0 0 2 from cwV 2 hts gX5_gain_X5_behind rfl rfl rfl (by decide +kernel) ⟨Nat.le_of_ble_eq_true rfl, Nat.le_of_ble_eq_true rfl⟩
  have J_21 : ∀ (v1 : Int32) (q0 : Int32) (R_gi : Int32) (R_be : Int32) (R_da : Int32) (R_du : Nat → Int32) (R_pl : Nat → Int32) (R_de : Nat → Int32) (H : Heap) (locs : List Loc) (ls : Array Slot), f_X5_gain_21 T_br T_fa T_st T_kd T_fs T_fl N_gi N_be N_da N_du N_pl v1 q0 R_gi R_be R_da R_du R_pl R_de = some (r_, o_R_gi, o_R_be, o_R_da, o_R_du, o_R_pl, o_R_de) → va_P G.1 vwCl (W_F G x0 s0 s1 t0 t1 t2 t3 t4 t5 t6 n0 n1 n2 n3 r0 r1 r2 r3 a0 a1 p0 p1 p2 p3 k0 j0 X_ch S_len S_let T_br T_fa T_fd T_fp T_st T_kd T_fs T_fl N_gi N_be N_da N_du N_pl N_de R_gi R_be R_da R_du R_pl R_de A_fi A_si A_ce P_si P_be P_le P_go K_sl J_fi) H → va_S A s.heap H locs → lv_has ls 5 [(1, .int v1), (3, .ref r0)] → W p l e (rmv 5 114) s m (List.toArray [.ref x0, .int u1, .int u2]) below meth c H locs 0 0 (MQ below ((QI G r_ (W_F G x0 s0 s1 t0 t1 t2 t3 t4 t5 t6 n0 n1 n2 n3 r0 r1 r2 r3 a0 a1 p0 p1 p2 p3 k0 j0 X_ch S_len S_let T_br T_fa T_fd T_fp T_st T_kd T_fs T_fl N_gi N_be N_da N_du N_pl N_de o_R_gi o_R_be o_R_da o_R_du o_R_pl o_R_de A_fi A_si A_ce P_si P_be P_le P_go K_sl J_fi)) A) (List.toArray [.ref x0, .int u1, .int u2]) s 0 0 A) (F0 m 21 ls [.int q0]) := by
    intro v1 q0 R_gi R_be R_da R_du R_pl R_de H locs ls h hP hS hl
    unfold f_X5_gain_21 at h
    refine lv_istore (lv' := [(4, .int q0), (1, .int v1), (3, .ref r0)]) hx hb dX5_gain_21 hl (by decide) rfl (fun ls hl => ?_)
    refine lv_bipush (v := 20) hx hb dX5_gain_23 (by decide) ?_
    refine lv_aload_n hx hb dX5_gain_25 rfl (lv_at hl 2 rfl) ?_
    refine lv_aload_n hx hb dX5_gain_26 rfl (lv_at hl 2 rfl) ?_
    refine lv_iload_n hx hb dX5_gain_27 rfl (lv_at hl 1 rfl) ?_
    obtain ⟨rr_1, ee_2, h⟩ := bnd1_s h
    refine cVi (As := [.int v1]) (rest := [.ref r0, .int (20 : Int32)]) S0 hK hA hP (va_D_same hD rfl) hS [14, 15, 16, 17, 3, 4, 5, 6, 7, 8, 9] (k_X2_placeOf l G r0 r1 r2 r3 t0 t1 t2 t3 t4 t5 t6 R_gi R_be R_da R_du R_pl R_de T_br T_fa T_fd T_fp T_st T_kd T_fs T_fl v1 rr_1 ee_2) cw_X2_placeOf rfl rfl (Nat.le_of_ble_eq_true rfl) 2 0 rfl rfl rfl rfl hl.1 rfl (Nat.le_of_ble_eq_true rfl) dX5_gain_28 ⟨Nat.zero_le _, Nat.zero_le _⟩ (fun H locs hP hS => ?_)
    replace hP : va_P G.1 vwCl (W_F G x0 s0 s1 t0 t1 t2 t3 t4 t5 t6 n0 n1 n2 n3 r0 r1 r2 r3 a0 a1 p0 p1 p2 p3 k0 j0 X_ch S_len S_let T_br T_fa T_fd T_fp T_st T_kd T_fs T_fl N_gi N_be N_da N_du N_pl N_de R_gi R_be R_da R_du R_pl R_de A_fi A_si A_ce P_si P_be P_le P_go K_sl J_fi) H := hP
    obtain ⟨rr_3, ee_4, h⟩ := bnd1_s h
    refine cVi (As := [.int rr_1]) (rest := [.int (20 : Int32)]) S0 hK hA hP (va_D_same hD rfl) hS [14, 15, 16, 17, 3, 4, 5, 6, 7, 8, 9] (k_X2_dustIn l G r0 r1 r2 r3 t0 t1 t2 t3 t4 t5 t6 R_gi R_be R_da R_du R_pl R_de T_br T_fa T_fd T_fp T_st T_kd T_fs T_fl rr_1 rr_3 ee_4) cw_X2_dustIn rfl rfl (Nat.le_of_ble_eq_true rfl) 2 0 rfl rfl rfl rfl hl.1 rfl (Nat.le_of_ble_eq_true rfl) dX5_gain_31 ⟨Nat.zero_le _, Nat.zero_le _⟩ (fun H locs hP hS => ?_)
    replace hP : va_P G.1 vwCl (W_F G x0 s0 s1 t0 t1 t2 t3 t4 t5 t6 n0 n1 n2 n3 r0 r1 r2 r3 a0 a1 p0 p1 p2 p3 k0 j0 X_ch S_len S_let T_br T_fa T_fd T_fp T_st T_kd T_fs T_fl N_gi N_be N_da N_du N_pl N_de R_gi R_be R_da R_du R_pl R_de A_fi A_si A_ce P_si P_be P_le P_go K_sl J_fi) H := hP
    refine lv_isub hx hb dX5_gain_34 ?_
    refine lv_iload hx hb dX5_gain_35 (lv_at hl 0 rfl) ?_
    refine lv_isub hx hb dX5_gain_37 ?_
    cases h
    exact W.iret hx hb hr (fun t ht _ => ⟨⟨_, (), rfl, rfl, by show va_P G.1 vwCl _ t.heap; rw [ht]; exact hP⟩, hS.F ht⟩) hS.2.2 dX5_gain_38
  unfold f_X5_gain at h
  refine lv_aload_n hx hb dX5_gain_0 rfl (lv_at hl 0 rfl) ?_
  refine lv_iconst (v := 3) hx hb dX5_gain_1 (by decide) ?_
  refine lv_iload_n hx hb dX5_gain_2 rfl (lv_at hl 2 rfl) ?_
  obtain ⟨dd_5, dd_6, dd_7, dd_8, dd_9, dd_10, ee_11, h⟩ := bnd6_s h
  refine cFr (As := [.int (3 : Int32), .int u2]) (rest := []) S0 hK hA hP (va_D_same hD rfl) hS (k_X5_behind l G x0 s0 s1 t0 t1 t2 t3 t4 t5 t6 n0 n1 n2 n3 r0 r1 r2 r3 a0 a1 p0 p1 p2 p3 k0 j0 X_ch S_len S_let T_br T_fa T_fd T_fp T_st T_kd T_fs T_fl N_gi N_be N_da N_du N_pl N_de R_gi R_be R_da R_du R_pl R_de A_fi A_si A_ce P_si P_be P_le P_go K_sl J_fi (3 : Int32) u2 dd_5 dd_6 dd_7 dd_8 dd_9 dd_10 ee_11) cw_X5_behind 5 0 rfl rfl rfl rfl hl.1 rfl (Nat.le_of_ble_eq_true rfl) dX5_gain_3 ⟨Nat.zero_le _, Nat.zero_le _⟩ (fun H locs hP hS => ?_)
  replace hP : va_P G.1 vwCl (W_F G x0 s0 s1 t0 t1 t2 t3 t4 t5 t6 n0 n1 n2 n3 r0 r1 r2 r3 a0 a1 p0 p1 p2 p3 k0 j0 X_ch S_len S_let T_br T_fa T_fd T_fp T_st T_kd T_fs T_fl N_gi N_be N_da N_du N_pl N_de dd_5 dd_6 dd_7 dd_8 dd_9 dd_10 A_fi A_si A_ce P_si P_be P_le P_go K_sl J_fi) H := hP
  refine lv_astore_n (lv' := [(3, .ref r0), (0, .ref x0), (1, .int u1), (2, .int u2)]) hx hb dX5_gain_6 rfl hl (by decide) rfl (fun ls hl => ?_)
  refine lv_iload_n hx hb dX5_gain_7 rfl (lv_at hl 3 rfl) ?_
  refine lv_iload_n hx hb dX5_gain_8 rfl (lv_at hl 2 rfl) ?_
  refine lv_ishr hx hb dX5_gain_9 ?_
  refine lv_iconst (v := 1) hx hb dX5_gain_10 (by decide) ?_
  refine lv_iand hx hb dX5_gain_11 ?_
  refine lv_iconst (v := 1) hx hb dX5_gain_12 (by decide) ?_
  refine lv_icmp_ne (tgt := 20) hx hb dX5_gain_13 (by decide) (fun cc_12 => ?_) (fun cc_12 => ?_)
  · replace h := if_f cc_12 h
    refine lv_iconst (v := 0) hx hb dX5_gain_20 (by decide) ?_
    exact J_21  u1 (0 : Int32) dd_5 dd_6 dd_7 dd_8 dd_9 dd_10 _ _ _ h hP hS (lv_sub hl [2, 0] rfl)
  · replace h := if_t cc_12 h
    refine lv_iconst (v := 4) hx hb dX5_gain_16 (by decide) ?_
    refine lv_goto (tgt := 21) hx hb dX5_gain_17 (by decide) ?_
    exact J_21  u1 (4 : Int32) dd_5 dd_6 dd_7 dd_8 dd_9 dd_10 _ _ _ h hP hS (lv_sub hl [2, 0] rfl)
