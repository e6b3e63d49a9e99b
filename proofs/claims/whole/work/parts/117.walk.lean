def f_X5_knee_19 (T_br : Int32) (T_fa : Int32) (T_st : Nat → Int32) (T_kd : Nat → Int32) (T_fs : Nat → Int32) (T_fl : Nat → Int32) (N_gi : Int32) (N_be : Int32) (N_da : Int32) (N_du : Nat → Int32) (N_pl : Nat → Int32) : Nat → Int32 → Int32 → Int32 → Int32 → Int32 → (Nat → Int32) → (Nat → Int32) → (Nat → Int32) → Option (Int32 × Int32 × Int32 × Int32 × (Nat → Int32) × (Nat → Int32) × (Nat → Int32))
  | 0, _, _, _, _, _, _, _, _ => none
  | fu + 1, v1, v3, R_gi, R_be, R_da, R_du, R_pl, R_de => if (30 : Int32) < v3 then (some (((-9) : Int32), R_gi, R_be, R_da, R_du, R_pl, R_de)) else (bnd1 (f_X2_firstDeep R_du) (fun rr_2 => if rr_2 = ((-9) : Int32) then (bnd3 (f_X2_passDawn R_gi R_be R_da R_du R_pl R_de T_br T_fa T_st T_kd T_fs T_fl (31 : Int32) (1 : Int32)) (fun dd_5 dd_6 dd_7 => f_X5_knee_19 T_br T_fa T_st T_kd T_fs T_fl N_gi N_be N_da N_du N_pl fu v1 (v3 + 1) R_gi R_be dd_5 dd_6 R_pl dd_7)) else (if v1 = 0 then (some (v3, R_gi, R_be, R_da, R_du, R_pl, R_de)) else (some (rr_2, R_gi, R_be, R_da, R_du, R_pl, R_de)))))
def f_X5_knee (T_br : Int32) (T_fa : Int32) (T_st : Nat → Int32) (T_kd : Nat → Int32) (T_fs : Nat → Int32) (T_fl : Nat → Int32) (N_gi : Int32) (N_be : Int32) (N_da : Int32) (N_du : Nat → Int32) (N_pl : Nat → Int32) (R_gi : Int32) (R_be : Int32) (R_da : Int32) (R_du : Nat → Int32) (R_pl : Nat → Int32) (R_de : Nat → Int32) (u1 : Int32) : Option (Int32 × Int32 × Int32 × Int32 × (Nat → Int32) × (Nat → Int32) × (Nat → Int32)) := bnd1 (f_X5_within u1 (0 : Int32) (1 : Int32)) (fun rr_10 => if rr_10 = 0 then (some (((-2) : Int32), R_gi, R_be, R_da, R_du, R_pl, R_de)) else (bnd5 (f_X5_fromNow N_gi N_be N_da N_du N_pl R_gi R_be R_da R_du R_pl) (fun dd_13 dd_14 dd_15 dd_16 dd_17 => f_X5_knee_19 T_br T_fa T_st T_kd T_fs T_fl N_gi N_be N_da N_du N_pl  130 u1 (0 : Int32) dd_13 dd_14 dd_15 dd_16 dd_17 R_de)))
set_option maxRecDepth 100000 in
set_option maxHeartbeats 4000000 in
theorem k_X5_knee (l : Launch) (G : Gt) (x0 s0 s1 t0 t1 t2 t3 t4 t5 t6 n0 n1 n2 n3 r0 r1 r2 r3 a0 a1 p0 p1 p2 p3 k0 j0 : Nat) (X_ch : Int64) (S_len : Int32) (S_let : Nat → Int32) (T_br : Int32) (T_fa : Int32) (T_fd : Nat → Int32) (T_fp : Nat → Int32) (T_st : Nat → Int32) (T_kd : Nat → Int32) (T_fs : Nat → Int32) (T_fl : Nat → Int32) (N_gi : Int32) (N_be : Int32) (N_da : Int32) (N_du : Nat → Int32) (N_pl : Nat → Int32) (N_de : Nat → Int32) (R_gi : Int32) (R_be : Int32) (R_da : Int32) (R_du : Nat → Int32) (R_pl : Nat → Int32) (R_de : Nat → Int32) (A_fi : Int32) (A_si : Int32) (A_ce : Nat → Int32) (P_si : Int32) (P_be : Nat → Int32) (P_le : Nat → Int32) (P_go : Nat → Int32) (K_sl : Nat → Int32) (J_fi : Nat → Int32) (u1 : Int32) (r_ : Int32) (o_R_gi : Int32) (o_R_be : Int32) (o_R_da : Int32) (o_R_du : Nat → Int32) (o_R_pl : Nat → Int32) (o_R_de : Nat → Int32) (h : f_X5_knee T_br T_fa T_st T_kd T_fs T_fl N_gi N_be N_da N_du N_pl R_gi R_be R_da R_du R_pl R_de u1 = some (r_, o_R_gi, o_R_be, o_R_da, o_R_du, o_R_pl, o_R_de)) : CT l yX5_knee wsX5_knee 4 90 G [.ref x0, .int u1] (W_F G x0 s0 s1 t0 t1 t2 t3 t4 t5 t6 n0 n1 n2 n3 r0 r1 r2 r3 a0 a1 p0 p1 p2 p3 k0 j0 X_ch S_len S_let T_br T_fa T_fd T_fp T_st T_kd T_fs T_fl N_gi N_be N_da N_du N_pl N_de R_gi R_be R_da R_du R_pl R_de A_fi A_si A_ce P_si P_be P_le P_go K_sl J_fi) (QI G r_ (W_F G x0 s0 s1 t0 t1 t2 t3 t4 t5 t6 n0 n1 n2 n3 r0 r1 r2 r3 a0 a1 p0 p1 p2 p3 k0 j0 X_ch S_len S_let T_br T_fa T_fd T_fp T_st T_kd T_fs T_fl N_gi N_be N_da N_du N_pl N_de o_R_gi o_R_be o_R_da o_R_du o_R_pl o_R_de A_fi A_si A_ce P_si P_be P_le P_go K_sl J_fi)) := by
  refine met_of cX5_knee 5 (some .int) (by decide) rfl (Nat.le_of_ble_eq_true rfl) ?_
  intro p e s m below meth c A ls hx hb hr hml hts hown hlocks hK hA hD hP hS hl
  replace hown : s.vm.findClass RX5 = some m.cls := hown
  replace hl : lv_has ls 5 [(0, .ref x0), (1, .int u1)] := hl
  have S0 : CallFix p m c cX5_knee 5 s _ wsX5_knee RX5 := ⟨hx, hb, hml, hown, hts⟩
  have cw_X2_firstDeep := show CallW (rmv 4 90) s _ RX5 RX2 177 yX2_firstDeep cX2_firstDeep 2 (some .int) wsX2_firstDeep (rmv 3 62) 0 0 0 from cwV 0 hts gX5_knee_X2_firstDeep rfl rfl rfl (by decide +kernel) ⟨Nat.le_of_ble_eq_true rfl, Nat.le_of_ble_eq_true rfl⟩
  have cw_X2_passDawn := show CallW (rmv 4 90) s _ RX5 RX2 129 yX2_passDawn cX2_passDawn 4 none wsX2_passDawn (rmv 3 67) 0 0 2 from cwV 2 hts gX5_knee_X2_passDawn rfl rfl rfl (by decide +kernel) ⟨Nat.le_of_ble_eq_true rfl, Nat.le_of_ble_eq_true rfl⟩
  have cw_X5_within := show CallB (rmv 4 90) s _ RX5 61 yX5_within cX5_within 3 (some .boolean) wsX5_within (rmv 0 0) 0 0 3 ∧ (Cond.static yX5_within).before _ s = true from va_cwS 3 hts gX5_knee_X5_within rfl rfl rfl (by decide +kernel) ⟨Nat.le_of_ble_eq_true rfl, Nat.le_of_ble_eq_true rfl⟩
  have cw_X5_fromNow := show CallW (rmv 4 90) s _ RX5 RX5 173 yX5_fromNow cX5_fromNow 1 (some (.object "DustVote$Moment")) wsX5_fromNow (rmv 2 39) 0 0 0 from cwV 0 hts gX5_knee_X5_fromNow rfl rfl rfl (by decide +kernel) ⟨Nat.le_of_ble_eq_true rfl, Nat.le_of_ble_eq_true rfl⟩
  have J_19 : ∀ (fu : Nat), ∀ (v1 : Int32) (v3 : Int32) (R_gi : Int32) (R_be : Int32) (R_da : Int32) (R_du : Nat → Int32) (R_pl : Nat → Int32) (R_de : Nat → Int32) (H : Heap) (locs : List Loc) (ls : Array Slot), f_X5_knee_19 T_br T_fa T_st T_kd T_fs T_fl N_gi N_be N_da N_du N_pl fu v1 v3 R_gi R_be R_da R_du R_pl R_de = some (r_, o_R_gi, o_R_be, o_R_da, o_R_du, o_R_pl, o_R_de) → va_P G.1 vwCl (W_F G x0 s0 s1 t0 t1 t2 t3 t4 t5 t6 n0 n1 n2 n3 r0 r1 r2 r3 a0 a1 p0 p1 p2 p3 k0 j0 X_ch S_len S_let T_br T_fa T_fd T_fp T_st T_kd T_fs T_fl N_gi N_be N_da N_du N_pl N_de R_gi R_be R_da R_du R_pl R_de A_fi A_si A_ce P_si P_be P_le P_go K_sl J_fi) H → va_S A s.heap H locs → lv_has ls 5 [(1, .int v1), (2, .ref r0), (3, .int v3)] → W p l e (rmv 4 90) s m (List.toArray [.ref x0, .int u1]) below meth c H locs 0 0 (MQ below ((QI G r_ (W_F G x0 s0 s1 t0 t1 t2 t3 t4 t5 t6 n0 n1 n2 n3 r0 r1 r2 r3 a0 a1 p0 p1 p2 p3 k0 j0 X_ch S_len S_let T_br T_fa T_fd T_fp T_st T_kd T_fs T_fl N_gi N_be N_da N_du N_pl N_de o_R_gi o_R_be o_R_da o_R_du o_R_pl o_R_de A_fi A_si A_ce P_si P_be P_le P_go K_sl J_fi)) A) (List.toArray [.ref x0, .int u1]) s 0 0 A) (F0 m 19 ls []) := by
    intro  fu
    induction fu with
    | zero =>
      intro v1 v3 R_gi R_be R_da R_du R_pl R_de H locs ls h
      cases h
    | succ fu ih =>
      intro v1 v3 R_gi R_be R_da R_du R_pl R_de H locs ls h hP hS hl
      rw [f_X5_knee_19] at h
      refine lv_iload_n hx hb dX5_knee_19 rfl (lv_at hl 2 rfl) ?_
      refine lv_bipush (v := 30) hx hb dX5_knee_20 (by decide) ?_
      refine lv_icmp_gt (tgt := 62) hx hb dX5_knee_22 (by decide) (fun cc_1 => ?_) (fun cc_1 => ?_)
      · replace h := if_t cc_1 h
        refine lv_bipush (v := (-9)) hx hb dX5_knee_62 (by decide) ?_
        cases h
        exact W.iret hx hb hr (fun t ht _ => ⟨⟨_, (), rfl, rfl, by show va_P G.1 vwCl _ t.heap; rw [ht]; exact hP⟩, hS.F ht⟩) hS.2.2 dX5_knee_64
      · replace h := if_f cc_1 h
        refine lv_aload_n hx hb dX5_knee_25 rfl (lv_at hl 1 rfl) ?_
        obtain ⟨rr_2, ee_3, h⟩ := bnd1_s h
        refine cVi (As := []) (rest := []) S0 hK hA hP (va_D_same hD rfl) hS [14, 15, 16, 17, 3, 4, 5, 6, 7, 8, 9] (k_X2_firstDeep l G r0 r1 r2 r3 t0 t1 t2 t3 t4 t5 t6 R_gi R_be R_da R_du R_pl R_de T_br T_fa T_fd T_fp T_st T_kd T_fs T_fl rr_2 ee_3) cw_X2_firstDeep rfl rfl (Nat.le_of_ble_eq_true rfl) 2 0 rfl rfl rfl rfl hl.1 rfl (Nat.le_of_ble_eq_true rfl) dX5_knee_26 ⟨Nat.zero_le _, Nat.zero_le _⟩ (fun H locs hP hS => ?_)
        replace hP : va_P G.1 vwCl (W_F G x0 s0 s1 t0 t1 t2 t3 t4 t5 t6 n0 n1 n2 n3 r0 r1 r2 r3 a0 a1 p0 p1 p2 p3 k0 j0 X_ch S_len S_let T_br T_fa T_fd T_fp T_st T_kd T_fs T_fl N_gi N_be N_da N_du N_pl N_de R_gi R_be R_da R_du R_pl R_de A_fi A_si A_ce P_si P_be P_le P_go K_sl J_fi) H := hP
        refine lv_istore (lv' := [(4, .int rr_2), (1, .int v1), (2, .ref r0), (3, .int v3)]) hx hb dX5_knee_29 hl (by decide) rfl (fun ls hl => ?_)
        refine lv_iload hx hb dX5_knee_31 (lv_at hl 0 rfl) ?_
        refine lv_bipush (v := (-9)) hx hb dX5_knee_33 (by decide) ?_
        refine lv_icmp_eq (tgt := 49) hx hb dX5_knee_35 (by decide) (fun cc_4 => ?_) (fun cc_4 => ?_)
        · replace h := if_t cc_4 h
          refine lv_aload_n hx hb dX5_knee_49 rfl (lv_at hl 2 rfl) ?_
          refine lv_bipush (v := 31) hx hb dX5_knee_50 (by decide) ?_
          refine lv_iconst (v := 1) hx hb dX5_knee_52 (by decide) ?_
          obtain ⟨dd_5, dd_6, dd_7, ee_8, h⟩ := bnd3_s h
          refine cVv (As := [.int (31 : Int32), .int (1 : Int32)]) (rest := []) S0 hK hA hP (va_D_same hD rfl) hS [14, 15, 16, 17, 3, 4, 5, 6, 7, 8, 9] (k_X2_passDawn l G r0 r1 r2 r3 t0 t1 t2 t3 t4 t5 t6 R_gi R_be R_da R_du R_pl R_de T_br T_fa T_fd T_fp T_st T_kd T_fs T_fl (31 : Int32) (1 : Int32) dd_5 dd_6 dd_7 ee_8) cw_X2_passDawn rfl rfl (Nat.le_of_ble_eq_true rfl) 2 0 rfl rfl rfl rfl hl.1 rfl (Nat.le_of_ble_eq_true rfl) dX5_knee_53 ⟨Nat.zero_le _, Nat.zero_le _⟩ (fun H locs hP hS => ?_)
          replace hP : va_P G.1 vwCl (W_F G x0 s0 s1 t0 t1 t2 t3 t4 t5 t6 n0 n1 n2 n3 r0 r1 r2 r3 a0 a1 p0 p1 p2 p3 k0 j0 X_ch S_len S_let T_br T_fa T_fd T_fp T_st T_kd T_fs T_fl N_gi N_be N_da N_du N_pl N_de R_gi R_be dd_5 dd_6 R_pl dd_7 A_fi A_si A_ce P_si P_be P_le P_go K_sl J_fi) H := hP
          refine lv_iinc (v := (v3 + 1)) (lv' := [(3, .int (v3 + 1)), (4, .int rr_2), (1, .int v1), (2, .ref r0)]) hx hb dX5_knee_56 hl (k := 3) rfl rfl (by decide) rfl (fun ls hl => ?_)
          refine lv_goto (tgt := 19) hx hb dX5_knee_59 (by decide) ?_
          exact ih v1 (v3 + 1) R_gi R_be dd_5 dd_6 R_pl dd_7 _ _ _ h hP hS (lv_sub hl [2, 3, 0] rfl)
        · replace h := if_f cc_4 h
          refine lv_iload_n hx hb dX5_knee_38 rfl (lv_at hl 1 rfl) ?_
          refine lv_if_ne (tgt := 46) hx hb dX5_knee_39 (by decide) (fun cc_9 => ?_) (fun cc_9 => ?_)
          · replace h := if_f cc_9 h
            refine lv_iload hx hb dX5_knee_46 (lv_at hl 0 rfl) ?_
            cases h
            exact W.iret hx hb hr (fun t ht _ => ⟨⟨_, (), rfl, rfl, by show va_P G.1 vwCl _ t.heap; rw [ht]; exact hP⟩, hS.F ht⟩) hS.2.2 dX5_knee_48
          · replace h := if_t cc_9 h
            refine lv_iload_n hx hb dX5_knee_42 rfl (lv_at hl 3 rfl) ?_
            refine lv_goto (tgt := 48) hx hb dX5_knee_43 (by decide) ?_
            cases h
            exact W.iret hx hb hr (fun t ht _ => ⟨⟨_, (), rfl, rfl, by show va_P G.1 vwCl _ t.heap; rw [ht]; exact hP⟩, hS.F ht⟩) hS.2.2 dX5_knee_48
  unfold f_X5_knee at h
  refine lv_iload_n hx hb dX5_knee_0 rfl (lv_at hl 1 rfl) ?_
  refine lv_iconst (v := 0) hx hb dX5_knee_1 (by decide) ?_
  refine lv_iconst (v := 1) hx hb dX5_knee_2 (by decide) ?_
  obtain ⟨rr_10, ee_11, h⟩ := bnd1_s h
  refine cSi (As := [.int u1, .int (0 : Int32), .int (1 : Int32)]) (rest := []) S0 hK hA hP (va_D_same hD rfl) hS [] (k_X5_within l G u1 (0 : Int32) (1 : Int32) rr_10 ee_11) cw_X5_within rfl rfl (Nat.le_of_ble_eq_true rfl) rfl hl.1 rfl (Nat.le_of_ble_eq_true rfl) dX5_knee_3 ⟨Nat.zero_le _, Nat.zero_le _⟩ (fun H locs hP hS => ?_)
  replace hP : va_P G.1 vwCl (W_F G x0 s0 s1 t0 t1 t2 t3 t4 t5 t6 n0 n1 n2 n3 r0 r1 r2 r3 a0 a1 p0 p1 p2 p3 k0 j0 X_ch S_len S_let T_br T_fa T_fd T_fp T_st T_kd T_fs T_fl N_gi N_be N_da N_du N_pl N_de R_gi R_be R_da R_du R_pl R_de A_fi A_si A_ce P_si P_be P_le P_go K_sl J_fi) H := hP
  refine lv_if_ne (tgt := 12) hx hb dX5_knee_6 (by decide) (fun cc_12 => ?_) (fun cc_12 => ?_)
  · replace h := if_f cc_12 h
    refine lv_aload_n hx hb dX5_knee_12 rfl (lv_at hl 0 rfl) ?_
    obtain ⟨dd_13, dd_14, dd_15, dd_16, dd_17, ee_18, h⟩ := bnd5_s h
    refine cFr (As := []) (rest := []) S0 hK hA hP (va_D_same hD rfl) hS (k_X5_fromNow l G x0 s0 s1 t0 t1 t2 t3 t4 t5 t6 n0 n1 n2 n3 r0 r1 r2 r3 a0 a1 p0 p1 p2 p3 k0 j0 X_ch S_len S_let T_br T_fa T_fd T_fp T_st T_kd T_fs T_fl N_gi N_be N_da N_du N_pl N_de R_gi R_be R_da R_du R_pl R_de A_fi A_si A_ce P_si P_be P_le P_go K_sl J_fi dd_13 dd_14 dd_15 dd_16 dd_17 ee_18) cw_X5_fromNow 5 0 rfl rfl rfl rfl hl.1 rfl (Nat.le_of_ble_eq_true rfl) dX5_knee_13 ⟨Nat.zero_le _, Nat.zero_le _⟩ (fun H locs hP hS => ?_)
    replace hP : va_P G.1 vwCl (W_F G x0 s0 s1 t0 t1 t2 t3 t4 t5 t6 n0 n1 n2 n3 r0 r1 r2 r3 a0 a1 p0 p1 p2 p3 k0 j0 X_ch S_len S_let T_br T_fa T_fd T_fp T_st T_kd T_fs T_fl N_gi N_be N_da N_du N_pl N_de dd_13 dd_14 dd_15 dd_16 dd_17 R_de A_fi A_si A_ce P_si P_be P_le P_go K_sl J_fi) H := hP
    refine lv_astore_n (lv' := [(2, .ref r0), (0, .ref x0), (1, .int u1)]) hx hb dX5_knee_16 rfl hl (by decide) rfl (fun ls hl => ?_)
    refine lv_iconst (v := 0) hx hb dX5_knee_17 (by decide) ?_
    refine lv_istore_n (lv' := [(3, .int (0 : Int32)), (2, .ref r0), (0, .ref x0), (1, .int u1)]) hx hb dX5_knee_18 rfl hl (by decide) rfl (fun ls hl => ?_)
    exact J_19  130 u1 (0 : Int32) dd_13 dd_14 dd_15 dd_16 dd_17 R_de _ _ _ h hP hS (lv_sub hl [3, 1, 0] rfl)
  · replace h := if_t cc_12 h
    refine lv_bipush (v := (-2)) hx hb dX5_knee_9 (by decide) ?_
    cases h
    exact W.iret hx hb hr (fun t ht _ => ⟨⟨_, (), rfl, rfl, by show va_P G.1 vwCl _ t.heap; rw [ht]; exact hP⟩, hS.F ht⟩) hS.2.2 dX5_knee_11
