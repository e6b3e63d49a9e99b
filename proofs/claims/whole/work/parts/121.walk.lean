def f_X5_power_5 : Nat → Int32 → Int32 → Int64 → Int32 → Option (Int64)
  | 0, _, _, _, _ => none
  | fu + 1, v0, v1, v2, v4 => if v1 ≤ v4 then (some v2) else (f_X5_power_5 fu v0 v1 (v2 * (v0.toInt64)) (v4 + 1))
def f_X5_power (u1 : Int32) (u2 : Int32) : Option (Int64) := f_X5_power_5  130 u1 u2 (1 : Int64) (0 : Int32)
set_option maxRecDepth 100000 in
set_option maxHeartbeats 4000000 in
theorem k_X5_power (l : Launch) (G : Gt) (u1 : Int32) (u2 : Int32) (r_ : Int64) (h : f_X5_power u1 u2 = some r_) : CT l yX5_power wsX5_power 0 0 G [.int u1, .int u2] (W_0 G) (QL G r_ (W_0 G)) := by
  refine met_of cX5_power 5 (some .long) (by decide) rfl (Nat.le_of_ble_eq_true rfl) ?_
  intro p e s m below meth c A ls hx hb hr hml hts hown hlocks hK hA hD hP hS hl
  replace hown : s.vm.findClass RX5 = some m.cls := hown
  replace hl : lv_has ls 5 [(0, .int u1), (1, .int u2)] := hl
  have S0 : CallFix p m c cX5_power 5 s _ wsX5_power RX5 := ⟨hx, hb, hml, hown, hts⟩
  have J_5 : ∀ (fu : Nat), ∀ (v0 : Int32) (v1 : Int32) (v2 : Int64) (v4 : Int32) (H : Heap) (locs : List Loc) (ls : Array Slot), f_X5_power_5 fu v0 v1 v2 v4 = some r_ → va_P G.1 vwCl (W_0 G) H → va_S A s.heap H locs → lv_has ls 5 [(0, .int v0), (1, .int v1), (2, .long v2), (4, .int v4)] → W p l e (rmv 0 0) s m (List.toArray [.int u1, .int u2]) below meth c H locs 0 0 (MQ below ((QL G r_ (W_0 G)) A) (List.toArray [.int u1, .int u2]) s 0 0 A) (F0 m 5 ls []) := by
    intro  fu
    induction fu with
    | zero =>
      intro v0 v1 v2 v4 H locs ls h
      cases h
    | succ fu ih =>
      intro v0 v1 v2 v4 H locs ls h hP hS hl
      rw [f_X5_power_5] at h
      refine lv_iload hx hb dX5_power_5 (lv_at hl 3 rfl) ?_
      refine lv_iload_n hx hb dX5_power_7 rfl (lv_at hl 1 rfl) ?_
      refine lv_icmp_ge (tgt := 22) hx hb dX5_power_8 (by decide) (fun cc_1 => ?_) (fun cc_1 => ?_)
      · replace h := if_t cc_1 h
        refine lv_lload_n hx hb dX5_power_22 rfl (lv_at hl 2 rfl) ?_
        cases h
        exact W.lret hx hb hr (fun t ht _ => ⟨⟨_, (), rfl, rfl, by show va_P G.1 vwCl _ t.heap; rw [ht]; exact hP⟩, hS.F ht⟩) hS.2.2 dX5_power_23
      · replace h := if_f cc_1 h
        refine lv_lload_n hx hb dX5_power_11 rfl (lv_at hl 2 rfl) ?_
        refine lv_iload_n hx hb dX5_power_12 rfl (lv_at hl 0 rfl) ?_
        refine lv_i2l (v := v0.toInt64) hx hb dX5_power_13 rfl ?_
        refine lv_lmul hx hb dX5_power_14 ?_
        refine lv_lstore_n (lv' := [(2, .long (v2 * (v0.toInt64))), (0, .int v0), (1, .int v1), (4, .int v4)]) hx hb dX5_power_15 rfl hl (by decide) rfl (fun ls hl => ?_)
        refine lv_iinc (v := (v4 + 1)) (lv' := [(4, .int (v4 + 1)), (2, .long (v2 * (v0.toInt64))), (0, .int v0), (1, .int v1)]) hx hb dX5_power_16 hl (k := 3) rfl rfl (by decide) rfl (fun ls hl => ?_)
        refine lv_goto (tgt := 5) hx hb dX5_power_19 (by decide) ?_
        exact ih v0 v1 (v2 * (v0.toInt64)) (v4 + 1) _ _ _ h hP hS (lv_sub hl [2, 3, 1, 0] rfl)
  unfold f_X5_power at h
  refine lv_lconst (v := 1) hx hb dX5_power_0 (by decide) ?_
  refine lv_lstore_n (lv' := [(2, .long (1 : Int64)), (0, .int u1), (1, .int u2)]) hx hb dX5_power_1 rfl hl (by decide) rfl (fun ls hl => ?_)
  refine lv_iconst (v := 0) hx hb dX5_power_2 (by decide) ?_
  refine lv_istore (lv' := [(4, .int (0 : Int32)), (2, .long (1 : Int64)), (0, .int u1), (1, .int u2)]) hx hb dX5_power_3 hl (by decide) rfl (fun ls hl => ?_)
  exact J_5  130 u1 u2 (1 : Int64) (0 : Int32) _ _ _ h hP hS (lv_sub hl [2, 3, 1, 0] rfl)
def f_X5_tryStep (T_br : Int32) (R_pl : Nat → Int32) (u2 : Int32) (u3 : Int32) : Option (Int32 × (Nat → Int32)) := bnd1 (f_X4_hasBroom T_br u2) (fun rr_1 => if rr_1 = 0 then (some ((0 : Int32), R_pl)) else (bnd1 (f_X5_within u3 (0 : Int32) (1 : Int32)) (fun rr_4 => if rr_4 = 0 then (some ((0 : Int32), R_pl)) else (bnd1 (f_X2_step R_pl T_br u2 u3) (fun dd_7 => some ((1 : Int32), dd_7))))))
set_option maxRecDepth 100000 in
set_option maxHeartbeats 4000000 in
theorem k_X5_tryStep (l : Launch) (G : Gt) (x0 s0 s1 t0 t1 t2 t3 t4 t5 t6 n0 n1 n2 n3 r0 r1 r2 r3 a0 a1 p0 p1 p2 p3 k0 j0 : Nat) (X_ch : Int64) (S_len : Int32) (S_let : Nat → Int32) (T_br : Int32) (T_fa : Int32) (T_fd : Nat → Int32) (T_fp : Nat → Int32) (T_st : Nat → Int32) (T_kd : Nat → Int32) (T_fs : Nat → Int32) (T_fl : Nat → Int32) (N_gi : Int32) (N_be : Int32) (N_da : Int32) (N_du : Nat → Int32) (N_pl : Nat → Int32) (N_de : Nat → Int32) (R_gi : Int32) (R_be : Int32) (R_da : Int32) (R_du : Nat → Int32) (R_pl : Nat → Int32) (R_de : Nat → Int32) (A_fi : Int32) (A_si : Int32) (A_ce : Nat → Int32) (P_si : Int32) (P_be : Nat → Int32) (P_le : Nat → Int32) (P_go : Nat → Int32) (K_sl : Nat → Int32) (J_fi : Nat → Int32) (u2 : Int32) (u3 : Int32) (r_ : Int32) (o_R_pl : Nat → Int32) (h : f_X5_tryStep T_br R_pl u2 u3 = some (r_, o_R_pl)) : CT l yX5_tryStep wsX5_tryStep 3 66 G [.ref x0, .ref r0, .int u2, .int u3] (W_F G x0 s0 s1 t0 t1 t2 t3 t4 t5 t6 n0 n1 n2 n3 r0 r1 r2 r3 a0 a1 p0 p1 p2 p3 k0 j0 X_ch S_len S_let T_br T_fa T_fd T_fp T_st T_kd T_fs T_fl N_gi N_be N_da N_du N_pl N_de R_gi R_be R_da R_du R_pl R_de A_fi A_si A_ce P_si P_be P_le P_go K_sl J_fi) (QI G r_ (W_F G x0 s0 s1 t0 t1 t2 t3 t4 t5 t6 n0 n1 n2 n3 r0 r1 r2 r3 a0 a1 p0 p1 p2 p3 k0 j0 X_ch S_len S_let T_br T_fa T_fd T_fp T_st T_kd T_fs T_fl N_gi N_be N_da N_du N_pl N_de R_gi R_be R_da R_du o_R_pl R_de A_fi A_si A_ce P_si P_be P_le P_go K_sl J_fi)) := by
  refine met_of cX5_tryStep 4 (some .boolean) (by decide) rfl (Nat.le_of_ble_eq_true rfl) ?_
  intro p e s m below meth c A ls hx hb hr hml hts hown hlocks hK hA hD hP hS hl
  replace hown : s.vm.findClass RX5 = some m.cls := hown
  replace hl : lv_has ls 4 [(0, .ref x0), (1, .ref r0), (2, .int u2), (3, .int u3)] := hl
  have S0 : CallFix p m c cX5_tryStep 4 s _ wsX5_tryStep RX5 := ⟨hx, hb, hml, hown, hts⟩
  have fl19 := hts (.fieldLink RX5 19 "DustVote" "told" "LDustVote$Told;") (by decide +kernel)
  have inX5 := show ∀ w ∈ wsX50, w ∈ wsX5_tryStep from by decide +kernel
  have cw_X4_hasBroom := show CallW (rmv 3 66) s _ RX5 RX4 107 yX4_hasBroom cX4_hasBroom 2 (some .boolean) wsX4_hasBroom (rmv 0 0) 0 0 1 from cwV 1 hts gX5_tryStep_X4_hasBroom rfl rfl rfl (by decide +kernel) ⟨Nat.le_of_ble_eq_true rfl, Nat.le_of_ble_eq_true rfl⟩
  have cw_X5_within := show CallB (rmv 3 66) s _ RX5 61 yX5_within cX5_within 3 (some .boolean) wsX5_within (rmv 0 0) 0 0 3 ∧ (Cond.static yX5_within).before _ s = true from va_cwS 3 hts gX5_tryStep_X5_within rfl rfl rfl (by decide +kernel) ⟨Nat.le_of_ble_eq_true rfl, Nat.le_of_ble_eq_true rfl⟩
  have cw_X2_step := show CallW (rmv 3 66) s _ RX5 RX2 136 yX2_step cX2_step 4 none wsX2_step (rmv 2 43) 0 0 2 from cwV 2 hts gX5_tryStep_X2_step rfl rfl rfl (by decide +kernel) ⟨Nat.le_of_ble_eq_true rfl, Nat.le_of_ble_eq_true rfl⟩
  unfold f_X5_tryStep at h
  refine lv_aload_n hx hb dX5_tryStep_0 rfl (lv_at hl 0 rfl) ?_
  refine va_get (ci := 5) (C := RX5) (T := TX5) (N := 9) hx hb hts inX5 hown hK.1 hP 0 rfl rfl 1 (by decide) fl19 (fun _ h9 => h9) rfl dX5_tryStep_1 ?_
  refine lv_iload_n hx hb dX5_tryStep_4 rfl (lv_at hl 2 rfl) ?_
  obtain ⟨rr_1, ee_2, h⟩ := bnd1_s h
  refine cVi (As := [.int u2]) (rest := []) S0 hK hA hP (va_D_same hD rfl) hS [3, 4, 5, 6, 7, 8, 9] (k_X4_hasBroom l G t0 t1 t2 t3 t4 t5 t6 T_br T_fa T_fd T_fp T_st T_kd T_fs T_fl u2 rr_1 ee_2) cw_X4_hasBroom rfl rfl (Nat.le_of_ble_eq_true rfl) 4 0 rfl rfl rfl rfl hl.1 rfl (Nat.le_of_ble_eq_true rfl) dX5_tryStep_5 ⟨Nat.zero_le _, Nat.zero_le _⟩ (fun H locs hP hS => ?_)
  replace hP : va_P G.1 vwCl (W_F G x0 s0 s1 t0 t1 t2 t3 t4 t5 t6 n0 n1 n2 n3 r0 r1 r2 r3 a0 a1 p0 p1 p2 p3 k0 j0 X_ch S_len S_let T_br T_fa T_fd T_fp T_st T_kd T_fs T_fl N_gi N_be N_da N_du N_pl N_de R_gi R_be R_da R_du R_pl R_de A_fi A_si A_ce P_si P_be P_le P_go K_sl J_fi) H := hP
  refine lv_if_eq (tgt := 20) hx hb dX5_tryStep_8 (by decide) (fun cc_3 => ?_) (fun cc_3 => ?_)
  · replace h := if_t cc_3 h
    refine lv_iconst (v := 0) hx hb dX5_tryStep_20 (by decide) ?_
    cases h
    exact W.zret (ty := .boolean) hx hb hr (by decide) (fun t ht _ => ⟨⟨_, (), rfl, rfl, by show va_P G.1 vwCl _ t.heap; rw [ht]; exact hP⟩, hS.F ht⟩) hS.2.2 dX5_tryStep_21
  · replace h := if_f cc_3 h
    refine lv_iload_n hx hb dX5_tryStep_11 rfl (lv_at hl 3 rfl) ?_
    refine lv_iconst (v := 0) hx hb dX5_tryStep_12 (by decide) ?_
    refine lv_iconst (v := 1) hx hb dX5_tryStep_13 (by decide) ?_
    obtain ⟨rr_4, ee_5, h⟩ := bnd1_s h
    refine cSi (As := [.int u3, .int (0 : Int32), .int (1 : Int32)]) (rest := []) S0 hK hA hP (va_D_same hD rfl) hS [] (k_X5_within l G u3 (0 : Int32) (1 : Int32) rr_4 ee_5) cw_X5_within rfl rfl (Nat.le_of_ble_eq_true rfl) rfl hl.1 rfl (Nat.le_of_ble_eq_true rfl) dX5_tryStep_14 ⟨Nat.zero_le _, Nat.zero_le _⟩ (fun H locs hP hS => ?_)
    replace hP : va_P G.1 vwCl (W_F G x0 s0 s1 t0 t1 t2 t3 t4 t5 t6 n0 n1 n2 n3 r0 r1 r2 r3 a0 a1 p0 p1 p2 p3 k0 j0 X_ch S_len S_let T_br T_fa T_fd T_fp T_st T_kd T_fs T_fl N_gi N_be N_da N_du N_pl N_de R_gi R_be R_da R_du R_pl R_de A_fi A_si A_ce P_si P_be P_le P_go K_sl J_fi) H := hP
    refine lv_if_ne (tgt := 22) hx hb dX5_tryStep_17 (by decide) (fun cc_6 => ?_) (fun cc_6 => ?_)
    · replace h := if_f cc_6 h
      refine lv_aload_n hx hb dX5_tryStep_22 rfl (lv_at hl 1 rfl) ?_
      refine lv_iload_n hx hb dX5_tryStep_23 rfl (lv_at hl 2 rfl) ?_
      refine lv_iload_n hx hb dX5_tryStep_24 rfl (lv_at hl 3 rfl) ?_
      obtain ⟨dd_7, ee_8, h⟩ := bnd1_s h
      refine cVv (As := [.int u2, .int u3]) (rest := []) S0 hK hA hP (va_D_same hD rfl) hS [14, 15, 16, 17, 3, 4, 5, 6, 7, 8, 9] (k_X2_step l G r0 r1 r2 r3 t0 t1 t2 t3 t4 t5 t6 R_gi R_be R_da R_du R_pl R_de T_br T_fa T_fd T_fp T_st T_kd T_fs T_fl u2 u3 dd_7 ee_8) cw_X2_step rfl rfl (Nat.le_of_ble_eq_true rfl) 2 0 rfl rfl rfl rfl hl.1 rfl (Nat.le_of_ble_eq_true rfl) dX5_tryStep_25 ⟨Nat.zero_le _, Nat.zero_le _⟩ (fun H locs hP hS => ?_)
      replace hP : va_P G.1 vwCl (W_F G x0 s0 s1 t0 t1 t2 t3 t4 t5 t6 n0 n1 n2 n3 r0 r1 r2 r3 a0 a1 p0 p1 p2 p3 k0 j0 X_ch S_len S_let T_br T_fa T_fd T_fp T_st T_kd T_fs T_fl N_gi N_be N_da N_du N_pl N_de R_gi R_be R_da R_du dd_7 R_de A_fi A_si A_ce P_si P_be P_le P_go K_sl J_fi) H := hP
      refine lv_iconst (v := 1) hx hb dX5_tryStep_28 (by decide) ?_
      cases h
      exact W.zret (ty := .boolean) hx hb hr (by decide) (fun t ht _ => ⟨⟨_, (), rfl, rfl, by show va_P G.1 vwCl _ t.heap; rw [ht]; exact hP⟩, hS.F ht⟩) hS.2.2 dX5_tryStep_29
    · replace h := if_t cc_6 h
      refine lv_iconst (v := 0) hx hb dX5_tryStep_20 (by decide) ?_
      cases h
      exact W.zret (ty := .boolean) hx hb hr (by decide) (fun t ht _ => ⟨⟨_, (), rfl, rfl, by show va_P G.1 vwCl _ t.heap; rw [ht]; exact hP⟩, hS.F ht⟩) hS.2.2 dX5_tryStep_21
def f_X5_tryDawn (T_br : Int32) (T_fa : Int32) (T_st : Nat → Int32) (T_kd : Nat → Int32) (T_fs : Nat → Int32) (T_fl : Nat → Int32) (R_gi : Int32) (R_be : Int32) (R_da : Int32) (R_du : Nat → Int32) (R_pl : Nat → Int32) (R_de : Nat → Int32) : Option (Int32 × Int32 × (Nat → Int32) × (Nat → Int32)) := bnd3 (f_X2_passDawn R_gi R_be R_da R_du R_pl R_de T_br T_fa T_st T_kd T_fs T_fl (31 : Int32) (1 : Int32)) (fun dd_1 dd_2 dd_3 => some ((1 : Int32), dd_1, dd_2, dd_3))
set_option maxRecDepth 100000 in
set_option maxHeartbeats 4000000 in
theorem k_X5_tryDawn (l : Launch) (G : Gt) (x0 s0 s1 t0 t1 t2 t3 t4 t5 t6 n0 n1 n2 n3 r0 r1 r2 r3 a0 a1 p0 p1 p2 p3 k0 j0 : Nat) (X_ch : Int64) (S_len : Int32) (S_let : Nat → Int32) (T_br : Int32) (T_fa : Int32) (T_fd : Nat → Int32) (T_fp : Nat → Int32) (T_st : Nat → Int32) (T_kd : Nat → Int32) (T_fs : Nat → Int32) (T_fl : Nat → Int32) (N_gi : Int32) (N_be : Int32) (N_da : Int32) (N_du : Nat → Int32) (N_pl : Nat → Int32) (N_de : Nat → Int32) (R_gi : Int32) (R_be : Int32) (R_da : Int32) (R_du : Nat → Int32) (R_pl : Nat → Int32) (R_de : Nat → Int32) (A_fi : Int32) (A_si : Int32) (A_ce : Nat → Int32) (P_si : Int32) (P_be : Nat → Int32) (P_le : Nat → Int32) (P_go : Nat → Int32) (K_sl : Nat → Int32) (J_fi : Nat → Int32) (r_ : Int32) (o_R_da : Int32) (o_R_du : Nat → Int32) (o_R_de : Nat → Int32) (h : f_X5_tryDawn T_br T_fa T_st T_kd T_fs T_fl R_gi R_be R_da R_du R_pl R_de = some (r_, o_R_da, o_R_du, o_R_de)) : CT l yX5_tryDawn wsX5_tryDawn 4 90 G [.ref x0, .ref r0] (W_F G x0 s0 s1 t0 t1 t2 t3 t4 t5 t6 n0 n1 n2 n3 r0 r1 r2 r3 a0 a1 p0 p1 p2 p3 k0 j0 X_ch S_len S_let T_br T_fa T_fd T_fp T_st T_kd T_fs T_fl N_gi N_be N_da N_du N_pl N_de R_gi R_be R_da R_du R_pl R_de A_fi A_si A_ce P_si P_be P_le P_go K_sl J_fi) (QI G r_ (W_F G x0 s0 s1 t0 t1 t2 t3 t4 t5 t6 n0 n1 n2 n3 r0 r1 r2 r3 a0 a1 p0 p1 p2 p3 k0 j0 X_ch S_len S_let T_br T_fa T_fd T_fp T_st T_kd T_fs T_fl N_gi N_be N_da N_du N_pl N_de R_gi R_be o_R_da o_R_du R_pl o_R_de A_fi A_si A_ce P_si P_be P_le P_go K_sl J_fi)) := by
  refine met_of cX5_tryDawn 2 (some .boolean) (by decide) rfl (Nat.le_of_ble_eq_true rfl) ?_
  intro p e s m below meth c A ls hx hb hr hml hts hown hlocks hK hA hD hP hS hl
  replace hown : s.vm.findClass RX5 = some m.cls := hown
  replace hl : lv_has ls 2 [(0, .ref x0), (1, .ref r0)] := hl
  have S0 : CallFix p m c cX5_tryDawn 2 s _ wsX5_tryDawn RX5 := ⟨hx, hb, hml, hown, hts⟩
  have cw_X2_passDawn := show CallW (rmv 4 90) s _ RX5 RX2 129 yX2_passDawn cX2_passDawn 4 none wsX2_passDawn (rmv 3 67) 0 0 2 from cwV 2 hts gX5_tryDawn_X2_passDawn rfl rfl rfl (by decide +kernel) ⟨Nat.le_of_ble_eq_true rfl, Nat.le_of_ble_eq_true rfl⟩
  unfold f_X5_tryDawn at h
  refine lv_aload_n hx hb dX5_tryDawn_0 rfl (lv_at hl 1 rfl) ?_
  refine lv_bipush (v := 31) hx hb dX5_tryDawn_1 (by decide) ?_
  refine lv_iconst (v := 1) hx hb dX5_tryDawn_3 (by decide) ?_
  obtain ⟨dd_1, dd_2, dd_3, ee_4, h⟩ := bnd3_s h
  refine cVv (As := [.int (31 : Int32), .int (1 : Int32)]) (rest := []) S0 hK hA hP (va_D_same hD rfl) hS [14, 15, 16, 17, 3, 4, 5, 6, 7, 8, 9] (k_X2_passDawn l G r0 r1 r2 r3 t0 t1 t2 t3 t4 t5 t6 R_gi R_be R_da R_du R_pl R_de T_br T_fa T_fd T_fp T_st T_kd T_fs T_fl (31 : Int32) (1 : Int32) dd_1 dd_2 dd_3 ee_4) cw_X2_passDawn rfl rfl (Nat.le_of_ble_eq_true rfl) 2 0 rfl rfl rfl rfl hl.1 rfl (Nat.le_of_ble_eq_true rfl) dX5_tryDawn_4 ⟨Nat.zero_le _, Nat.zero_le _⟩ (fun H locs hP hS => ?_)
  replace hP : va_P G.1 vwCl (W_F G x0 s0 s1 t0 t1 t2 t3 t4 t5 t6 n0 n1 n2 n3 r0 r1 r2 r3 a0 a1 p0 p1 p2 p3 k0 j0 X_ch S_len S_let T_br T_fa T_fd T_fp T_st T_kd T_fs T_fl N_gi N_be N_da N_du N_pl N_de R_gi R_be dd_1 dd_2 R_pl dd_3 A_fi A_si A_ce P_si P_be P_le P_go K_sl J_fi) H := hP
  refine lv_iconst (v := 1) hx hb dX5_tryDawn_7 (by decide) ?_
  cases h
  exact W.zret (ty := .boolean) hx hb hr (by decide) (fun t ht _ => ⟨⟨_, (), rfl, rfl, by show va_P G.1 vwCl _ t.heap; rw [ht]; exact hP⟩, hS.F ht⟩) hS.2.2 dX5_tryDawn_8
def f_X5_tryVote (R_gi : Int32) : Option (Int32 × Int32) := bnd1 (f_X2_turnVote R_gi) (fun dd_1 => some ((1 : Int32), dd_1))
set_option maxRecDepth 100000 in
set_option maxHeartbeats 4000000 in
theorem k_X5_tryVote (l : Launch) (G : Gt) (x0 s0 s1 t0 t1 t2 t3 t4 t5 t6 n0 n1 n2 n3 r0 r1 r2 r3 a0 a1 p0 p1 p2 p3 k0 j0 : Nat) (X_ch : Int64) (S_len : Int32) (S_let : Nat → Int32) (T_br : Int32) (T_fa : Int32) (T_fd : Nat → Int32) (T_fp : Nat → Int32) (T_st : Nat → Int32) (T_kd : Nat → Int32) (T_fs : Nat → Int32) (T_fl : Nat → Int32) (N_gi : Int32) (N_be : Int32) (N_da : Int32) (N_du : Nat → Int32) (N_pl : Nat → Int32) (N_de : Nat → Int32) (R_gi : Int32) (R_be : Int32) (R_da : Int32) (R_du : Nat → Int32) (R_pl : Nat → Int32) (R_de : Nat → Int32) (A_fi : Int32) (A_si : Int32) (A_ce : Nat → Int32) (P_si : Int32) (P_be : Nat → Int32) (P_le : Nat → Int32) (P_go : Nat → Int32) (K_sl : Nat → Int32) (J_fi : Nat → Int32) (r_ : Int32) (o_R_gi : Int32) (h : f_X5_tryVote R_gi = some (r_, o_R_gi)) : CT l yX5_tryVote wsX5_tryVote 1 20 G [.ref x0, .ref r0] (W_F G x0 s0 s1 t0 t1 t2 t3 t4 t5 t6 n0 n1 n2 n3 r0 r1 r2 r3 a0 a1 p0 p1 p2 p3 k0 j0 X_ch S_len S_let T_br T_fa T_fd T_fp T_st T_kd T_fs T_fl N_gi N_be N_da N_du N_pl N_de R_gi R_be R_da R_du R_pl R_de A_fi A_si A_ce P_si P_be P_le P_go K_sl J_fi) (QI G r_ (W_F G x0 s0 s1 t0 t1 t2 t3 t4 t5 t6 n0 n1 n2 n3 r0 r1 r2 r3 a0 a1 p0 p1 p2 p3 k0 j0 X_ch S_len S_let T_br T_fa T_fd T_fp T_st T_kd T_fs T_fl N_gi N_be N_da N_du N_pl N_de o_R_gi R_be R_da R_du R_pl R_de A_fi A_si A_ce P_si P_be P_le P_go K_sl J_fi)) := by
  refine met_of cX5_tryVote 2 (some .boolean) (by decide) rfl (Nat.le_of_ble_eq_true rfl) ?_
  intro p e s m below meth c A ls hx hb hr hml hts hown hlocks hK hA hD hP hS hl
  replace hown : s.vm.findClass RX5 = some m.cls := hown
  replace hl : lv_has ls 2 [(0, .ref x0), (1, .ref r0)] := hl
  have S0 : CallFix p m c cX5_tryVote 2 s _ wsX5_tryVote RX5 := ⟨hx, hb, hml, hown, hts⟩
  have cw_X2_turnVote := show CallW (rmv 1 20) s _ RX5 RX2 139 yX2_turnVote cX2_turnVote 1 none wsX2_turnVote (rmv 0 0) 0 0 0 from cwV 0 hts gX5_tryVote_X2_turnVote rfl rfl rfl (by decide +kernel) ⟨Nat.le_of_ble_eq_true rfl, Nat.le_of_ble_eq_true rfl⟩
  unfold f_X5_tryVote at h
  refine lv_aload_n hx hb dX5_tryVote_0 rfl (lv_at hl 1 rfl) ?_
  obtain ⟨dd_1, ee_2, h⟩ := bnd1_s h
  refine cVv (As := []) (rest := []) S0 hK hA hP (va_D_same hD rfl) hS [14, 15, 16, 17, 3, 4, 5, 6, 7, 8, 9] (k_X2_turnVote l G r0 r1 r2 r3 t0 t1 t2 t3 t4 t5 t6 R_gi R_be R_da R_du R_pl R_de T_br T_fa T_fd T_fp T_st T_kd T_fs T_fl dd_1 ee_2) cw_X2_turnVote rfl rfl (Nat.le_of_ble_eq_true rfl) 2 0 rfl rfl rfl rfl hl.1 rfl (Nat.le_of_ble_eq_true rfl) dX5_tryVote_1 ⟨Nat.zero_le _, Nat.zero_le _⟩ (fun H locs hP hS => ?_)
  replace hP : va_P G.1 vwCl (W_F G x0 s0 s1 t0 t1 t2 t3 t4 t5 t6 n0 n1 n2 n3 r0 r1 r2 r3 a0 a1 p0 p1 p2 p3 k0 j0 X_ch S_len S_let T_br T_fa T_fd T_fp T_st T_kd T_fs T_fl N_gi N_be N_da N_du N_pl N_de dd_1 R_be R_da R_du R_pl R_de A_fi A_si A_ce P_si P_be P_le P_go K_sl J_fi) H := hP
  refine lv_iconst (v := 1) hx hb dX5_tryVote_4 (by decide) ?_
  cases h
  exact W.zret (ty := .boolean) hx hb hr (by decide) (fun t ht _ => ⟨⟨_, (), rfl, rfl, by show va_P G.1 vwCl _ t.heap; rw [ht]; exact hP⟩, hS.F ht⟩) hS.2.2 dX5_tryVote_5
