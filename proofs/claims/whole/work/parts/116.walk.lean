def f_X5_knees (T_br : Int32) (T_fa : Int32) (T_st : Nat → Int32) (T_kd : Nat → Int32) (T_fs : Nat → Int32) (T_fl : Nat → Int32) (N_gi : Int32) (N_be : Int32) (N_da : Int32) (N_du : Nat → Int32) (N_pl : Nat → Int32) (R_gi : Int32) (R_be : Int32) (R_da : Int32) (R_du : Nat → Int32) (R_pl : Nat → Int32) (R_de : Nat → Int32) (u1 : Int32) : Option (Int32 × Int32 × Int32 × Int32 × (Nat → Int32) × (Nat → Int32) × (Nat → Int32)) := bnd1 (f_X5_within u1 (0 : Int32) (30 : Int32)) (fun rr_1 => if rr_1 = 0 then (some (((-2) : Int32), R_gi, R_be, R_da, R_du, R_pl, R_de)) else (bnd6 (f_X5_behind T_br T_fa T_st T_kd T_fs T_fl N_gi N_be N_da N_du N_pl R_gi R_be R_da R_du R_pl R_de u1 (31 : Int32)) (fun dd_4 dd_5 dd_6 dd_7 dd_8 dd_9 => bnd1 (f_X2_deepStreets dd_7) (fun rr_11 => some (rr_11, dd_4, dd_5, dd_6, dd_7, dd_8, dd_9)))))
set_option maxRecDepth 100000 in
set_option maxHeartbeats 4000000 in
theorem k_X5_knees (l : Launch) (G : Gt) (x0 s0 s1 t0 t1 t2 t3 t4 t5 t6 n0 n1 n2 n3 r0 r1 r2 r3 a0 a1 p0 p1 p2 p3 k0 j0 : Nat) (X_ch : Int64) (S_len : Int32) (S_let : Nat → Int32) (T_br : Int32) (T_fa : Int32) (T_fd : Nat → Int32) (T_fp : Nat → Int32) (T_st : Nat → Int32) (T_kd : Nat → Int32) (T_fs : Nat → Int32) (T_fl : Nat → Int32) (N_gi : Int32) (N_be : Int32) (N_da : Int32) (N_du : Nat → Int32) (N_pl : Nat → Int32) (N_de : Nat → Int32) (R_gi : Int32) (R_be : Int32) (R_da : Int32) (R_du : Nat → Int32) (R_pl : Nat → Int32) (R_de : Nat → Int32) (A_fi : Int32) (A_si : Int32) (A_ce : Nat → Int32) (P_si : Int32) (P_be : Nat → Int32) (P_le : Nat → Int32) (P_go : Nat → Int32) (K_sl : Nat → Int32) (J_fi : Nat → Int32) (u1 : Int32) (r_ : Int32) (o_R_gi : Int32) (o_R_be : Int32) (o_R_da : Int32) (o_R_du : Nat → Int32) (o_R_pl : Nat → Int32) (o_R_de : Nat → Int32) (h : f_X5_knees T_br T_fa T_st T_kd T_fs T_fl N_gi N_be N_da N_du N_pl R_gi R_be R_da R_du R_pl R_de u1 = some (r_, o_R_gi, o_R_be, o_R_da, o_R_du, o_R_pl, o_R_de)) : CT l yX5_knees wsX5_knees 5 114 G [.ref x0, .int u1] (W_F G x0 s0 s1 t0 t1 t2 t3 t4 t5 t6 n0 n1 n2 n3 r0 r1 r2 r3 a0 a1 p0 p1 p2 p3 k0 j0 X_ch S_len S_let T_br T_fa T_fd T_fp T_st T_kd T_fs T_fl N_gi N_be N_da N_du N_pl N_de R_gi R_be R_da R_du R_pl R_de A_fi A_si A_ce P_si P_be P_le P_go K_sl J_fi) (QI G r_ (W_F G x0 s0 s1 t0 t1 t2 t3 t4 t5 t6 n0 n1 n2 n3 r0 r1 r2 r3 a0 a1 p0 p1 p2 p3 k0 j0 X_ch S_len S_let T_br T_fa T_fd T_fp T_st T_kd T_fs T_fl N_gi N_be N_da N_du N_pl N_de o_R_gi o_R_be o_R_da o_R_du o_R_pl o_R_de A_fi A_si A_ce P_si P_be P_le P_go K_sl J_fi)) := by
  refine met_of cX5_knees 2 (some .int) (by decide) rfl (Nat.le_of_ble_eq_true rfl) ?_
  intro p e s m below meth c A ls hx hb hr hml hts hown hlocks hK hA hD hP hS hl
  replace hown : s.vm.findClass RX5 = some m.cls := hown
  replace hl : lv_has ls 2 [(0, .ref x0), (1, .int u1)] := hl
  have S0 : CallFix p m c cX5_knees 2 s _ wsX5_knees RX5 := ⟨hx, hb, hml, hown, hts⟩
  have cw_X5_within := show CallB (rmv 5 114) s _ RX5 61 yX5_within cX5_within 3 (some .boolean) wsX5_within (rmv 0 0) 0 0 3 ∧ (Cond.static yX5_within).before _ s = true from va_cwS 3 hts gX5_knees_X5_within rfl rfl rfl (by decide +kernel) ⟨Nat.le_of_ble_eq_true rfl, Nat.le_of_ble_eq_true rfl⟩
  have cw_X5_behind := show CallW (rmv 5 114) s _ RX5 RX5 166 yX5_behind cX5_behind 5 (some (.object "DustVote$Moment")) wsX5_behind (rmv 4 90) 0 0 2 from cwV 2 hts gX5_knees_X5_behind rfl rfl rfl (by decide +kernel) ⟨Nat.le_of_ble_eq_true rfl, Nat.le_of_ble_eq_true rfl⟩
  have cw_X2_deepStreets := show CallW (rmv 5 114) s _ RX5 RX2 170 yX2_deepStreets cX2_deepStreets 3 (some .int) wsX2_deepStreets (rmv 3 62) 0 0 0 from cwV 0 hts gX5_knees_X2_deepStreets rfl rfl rfl (by decide +kernel) ⟨Nat.le_of_ble_eq_true rfl, Nat.le_of_ble_eq_true rfl⟩
  unfold f_X5_knees at h
  refine lv_iload_n hx hb dX5_knees_0 rfl (lv_at hl 1 rfl) ?_
  refine lv_iconst (v := 0) hx hb dX5_knees_1 (by decide) ?_
  refine lv_bipush (v := 30) hx hb dX5_knees_2 (by decide) ?_
  obtain ⟨rr_1, ee_2, h⟩ := bnd1_s h
  refine cSi (As := [.int u1, .int (0 : Int32), .int (30 : Int32)]) (rest := []) S0 hK hA hP (va_D_same hD rfl) hS [] (k_X5_within l G u1 (0 : Int32) (30 : Int32) rr_1 ee_2) cw_X5_within rfl rfl (Nat.le_of_ble_eq_true rfl) rfl hl.1 rfl (Nat.le_of_ble_eq_true rfl) dX5_knees_4 ⟨Nat.zero_le _, Nat.zero_le _⟩ (fun H locs hP hS => ?_)
  replace hP : va_P G.1 vwCl (W_F G x0 s0 s1 t0 t1 t2 t3 t4 t5 t6 n0 n1 n2 n3 r0 r1 r2 r3 a0 a1 p0 p1 p2 p3 k0 j0 X_ch S_len S_let T_br T_fa T_fd T_fp T_st T_kd T_fs T_fl N_gi N_be N_da N_du N_pl N_de R_gi R_be R_da R_du R_pl R_de A_fi A_si A_ce P_si P_be P_le P_go K_sl J_fi) H := hP
  refine lv_if_ne (tgt := 13) hx hb dX5_knees_7 (by decide) (fun cc_3 => ?_) (fun cc_3 => ?_)
  · replace h := if_f cc_3 h
    refine lv_aload_n hx hb dX5_knees_13 rfl (lv_at hl 0 rfl) ?_
    refine lv_iload_n hx hb dX5_knees_14 rfl (lv_at hl 1 rfl) ?_
    refine lv_bipush (v := 31) hx hb dX5_knees_15 (by decide) ?_
    obtain ⟨dd_4, dd_5, dd_6, dd_7, dd_8, dd_9, ee_10, h⟩ := bnd6_s h
    refine cFr (As := [.int u1, .int (31 : Int32)]) (rest := []) S0 hK hA hP (va_D_same hD rfl) hS (k_X5_behind l G x0 s0 s1 t0 t1 t2 t3 t4 t5 t6 n0 n1 n2 n3 r0 r1 r2 r3 a0 a1 p0 p1 p2 p3 k0 j0 X_ch S_len S_let T_br T_fa T_fd T_fp T_st T_kd T_fs T_fl N_gi N_be N_da N_du N_pl N_de R_gi R_be R_da R_du R_pl R_de A_fi A_si A_ce P_si P_be P_le P_go K_sl J_fi u1 (31 : Int32) dd_4 dd_5 dd_6 dd_7 dd_8 dd_9 ee_10) cw_X5_behind 5 0 rfl rfl rfl rfl hl.1 rfl (Nat.le_of_ble_eq_true rfl) dX5_knees_17 ⟨Nat.zero_le _, Nat.zero_le _⟩ (fun H locs hP hS => ?_)
    replace hP : va_P G.1 vwCl (W_F G x0 s0 s1 t0 t1 t2 t3 t4 t5 t6 n0 n1 n2 n3 r0 r1 r2 r3 a0 a1 p0 p1 p2 p3 k0 j0 X_ch S_len S_let T_br T_fa T_fd T_fp T_st T_kd T_fs T_fl N_gi N_be N_da N_du N_pl N_de dd_4 dd_5 dd_6 dd_7 dd_8 dd_9 A_fi A_si A_ce P_si P_be P_le P_go K_sl J_fi) H := hP
    obtain ⟨rr_11, ee_12, h⟩ := bnd1_s h
    refine cVi (As := []) (rest := []) S0 hK hA hP (va_D_same hD rfl) hS [14, 15, 16, 17, 3, 4, 5, 6, 7, 8, 9] (k_X2_deepStreets l G r0 r1 r2 r3 t0 t1 t2 t3 t4 t5 t6 dd_4 dd_5 dd_6 dd_7 dd_8 dd_9 T_br T_fa T_fd T_fp T_st T_kd T_fs T_fl rr_11 ee_12) cw_X2_deepStreets rfl rfl (Nat.le_of_ble_eq_true rfl) 2 0 rfl rfl rfl rfl hl.1 rfl (Nat.le_of_ble_eq_true rfl) dX5_knees_20 ⟨Nat.zero_le _, Nat.zero_le _⟩ (fun H locs hP hS => ?_)
    replace hP : va_P G.1 vwCl (W_F G x0 s0 s1 t0 t1 t2 t3 t4 t5 t6 n0 n1 n2 n3 r0 r1 r2 r3 a0 a1 p0 p1 p2 p3 k0 j0 X_ch S_len S_let T_br T_fa T_fd T_fp T_st T_kd T_fs T_fl N_gi N_be N_da N_du N_pl N_de dd_4 dd_5 dd_6 dd_7 dd_8 dd_9 A_fi A_si A_ce P_si P_be P_le P_go K_sl J_fi) H := hP
    cases h
    exact W.iret hx hb hr (fun t ht _ => ⟨⟨_, (), rfl, rfl, by show va_P G.1 vwCl _ t.heap; rw [ht]; exact hP⟩, hS.F ht⟩) hS.2.2 dX5_knees_23
  · replace h := if_t cc_3 h
    refine lv_bipush (v := (-2)) hx hb dX5_knees_10 (by decide) ?_
    cases h
    exact W.iret hx hb hr (fun t ht _ => ⟨⟨_, (), rfl, rfl, by show va_P G.1 vwCl _ t.heap; rw [ht]; exact hP⟩, hS.F ht⟩) hS.2.2 dX5_knees_12
def f_X2_firstDeep_2 (M_du : Nat → Int32) : Nat → Int32 → Option (Int32)
  | 0, _ => none
  | fu + 1, v1 => if (8 : Int32) ≤ v1 then (some ((-9) : Int32)) else (bnd1 (f_X2_isDeep M_du v1) (fun rr_2 => if rr_2 = 0 then (f_X2_firstDeep_2 M_du fu (v1 + 1)) else (some v1)))
def f_X2_firstDeep (M_du : Nat → Int32) : Option (Int32) := f_X2_firstDeep_2 M_du  130 (0 : Int32)
set_option maxRecDepth 100000 in
set_option maxHeartbeats 4000000 in
theorem k_X2_firstDeep (l : Launch) (G : Gt) (m0 m1 m2 m3 t0 t1 t2 t3 t4 t5 t6 : Nat) (M_gi : Int32) (M_be : Int32) (M_da : Int32) (M_du : Nat → Int32) (M_pl : Nat → Int32) (M_de : Nat → Int32) (T_br : Int32) (T_fa : Int32) (T_fd : Nat → Int32) (T_fp : Nat → Int32) (T_st : Nat → Int32) (T_kd : Nat → Int32) (T_fs : Nat → Int32) (T_fl : Nat → Int32) (r_ : Int32) (h : f_X2_firstDeep M_du = some r_) : CT l yX2_firstDeep wsX2_firstDeep 3 62 G [.ref m0] (W_MT G m0 m1 m2 m3 t0 t1 t2 t3 t4 t5 t6 M_gi M_be M_da M_du M_pl M_de T_br T_fa T_fd T_fp T_st T_kd T_fs T_fl) (QI G r_ (W_MT G m0 m1 m2 m3 t0 t1 t2 t3 t4 t5 t6 M_gi M_be M_da M_du M_pl M_de T_br T_fa T_fd T_fp T_st T_kd T_fs T_fl)) := by
  refine met_of cX2_firstDeep 2 (some .int) (by decide) rfl (Nat.le_of_ble_eq_true rfl) ?_
  intro p e s m below meth c A ls hx hb hr hml hts hown hlocks hK hA hD hP hS hl
  replace hown : s.vm.findClass RX2 = some m.cls := hown
  replace hl : lv_has ls 2 [(0, .ref m0)] := hl
  have S0 : CallFix p m c cX2_firstDeep 2 s _ wsX2_firstDeep RX2 := ⟨hx, hb, hml, hown, hts⟩
  have cw_X2_isDeep := show CallW (rmv 3 62) s _ RX2 RX2 62 yX2_isDeep cX2_isDeep 2 (some .boolean) wsX2_isDeep (rmv 2 41) 0 0 1 from cwV 1 hts gX2_firstDeep_X2_isDeep rfl rfl rfl (by decide +kernel) ⟨Nat.le_of_ble_eq_true rfl, Nat.le_of_ble_eq_true rfl⟩
  have J_2 : ∀ (fu : Nat), ∀ (v1 : Int32) (H : Heap) (locs : List Loc) (ls : Array Slot), f_X2_firstDeep_2 M_du fu v1 = some r_ → va_P G.1 vwCl (W_MT G m0 m1 m2 m3 t0 t1 t2 t3 t4 t5 t6 M_gi M_be M_da M_du M_pl M_de T_br T_fa T_fd T_fp T_st T_kd T_fs T_fl) H → va_S A s.heap H locs → lv_has ls 2 [(0, .ref m0), (1, .int v1)] → W p l e (rmv 3 62) s m (List.toArray [.ref m0]) below meth c H locs 0 0 (MQ below ((QI G r_ (W_MT G m0 m1 m2 m3 t0 t1 t2 t3 t4 t5 t6 M_gi M_be M_da M_du M_pl M_de T_br T_fa T_fd T_fp T_st T_kd T_fs T_fl)) A) (List.toArray [.ref m0]) s 0 0 A) (F0 m 2 ls []) := by
    intro  fu
    induction fu with
    | zero =>
      intro v1 H locs ls h
      cases h
    | succ fu ih =>
      intro v1 H locs ls h hP hS hl
      rw [f_X2_firstDeep_2] at h
      refine lv_iload_n hx hb dX2_firstDeep_2 rfl (lv_at hl 1 rfl) ?_
      refine lv_bipush (v := 8) hx hb dX2_firstDeep_3 (by decide) ?_
      refine lv_icmp_ge (tgt := 24) hx hb dX2_firstDeep_5 (by decide) (fun cc_1 => ?_) (fun cc_1 => ?_)
      · replace h := if_t cc_1 h
        refine lv_bipush (v := (-9)) hx hb dX2_firstDeep_24 (by decide) ?_
        cases h
        exact W.iret hx hb hr (fun t ht _ => ⟨⟨_, (), rfl, rfl, by show va_P G.1 vwCl _ t.heap; rw [ht]; exact hP⟩, hS.F ht⟩) hS.2.2 dX2_firstDeep_26
      · replace h := if_f cc_1 h
        refine lv_aload_n hx hb dX2_firstDeep_8 rfl (lv_at hl 0 rfl) ?_
        refine lv_iload_n hx hb dX2_firstDeep_9 rfl (lv_at hl 1 rfl) ?_
        obtain ⟨rr_2, ee_3, h⟩ := bnd1_s h
        refine cFi (As := [.int v1]) (rest := []) S0 hK hA hP (va_D_same hD rfl) hS (k_X2_isDeep l G m0 m1 m2 m3 t0 t1 t2 t3 t4 t5 t6 M_gi M_be M_da M_du M_pl M_de T_br T_fa T_fd T_fp T_st T_kd T_fs T_fl v1 rr_2 ee_3) cw_X2_isDeep 2 0 rfl rfl rfl rfl hl.1 rfl (Nat.le_of_ble_eq_true rfl) dX2_firstDeep_10 ⟨Nat.zero_le _, Nat.zero_le _⟩ (fun H locs hP hS => ?_)
        replace hP : va_P G.1 vwCl (W_MT G m0 m1 m2 m3 t0 t1 t2 t3 t4 t5 t6 M_gi M_be M_da M_du M_pl M_de T_br T_fa T_fd T_fp T_st T_kd T_fs T_fl) H := hP
        refine lv_if_eq (tgt := 18) hx hb dX2_firstDeep_13 (by decide) (fun cc_4 => ?_) (fun cc_4 => ?_)
        · replace h := if_t cc_4 h
          refine lv_iinc (v := (v1 + 1)) (lv' := [(1, .int (v1 + 1)), (0, .ref m0)]) hx hb dX2_firstDeep_18 hl (k := 1) rfl rfl (by decide) rfl (fun ls hl => ?_)
          refine lv_goto (tgt := 2) hx hb dX2_firstDeep_21 (by decide) ?_
          exact ih (v1 + 1) _ _ _ h hP hS (lv_sub hl [1, 0] rfl)
        · replace h := if_f cc_4 h
          refine lv_iload_n hx hb dX2_firstDeep_16 rfl (lv_at hl 1 rfl) ?_
          cases h
          exact W.iret hx hb hr (fun t ht _ => ⟨⟨_, (), rfl, rfl, by show va_P G.1 vwCl _ t.heap; rw [ht]; exact hP⟩, hS.F ht⟩) hS.2.2 dX2_firstDeep_17
  unfold f_X2_firstDeep at h
  refine lv_iconst (v := 0) hx hb dX2_firstDeep_0 (by decide) ?_
  refine lv_istore_n (lv' := [(1, .int (0 : Int32)), (0, .ref m0)]) hx hb dX2_firstDeep_1 rfl hl (by decide) rfl (fun ls hl => ?_)
  exact J_2  130 (0 : Int32) _ _ _ h hP hS (lv_sub hl [1, 0] rfl)
