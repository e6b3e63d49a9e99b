def f_X5_staysShallow_13 (T_br : Int32) (T_fa : Int32) (T_st : Nat → Int32) (T_kd : Nat → Int32) (T_fs : Nat → Int32) (T_fl : Nat → Int32) (N_gi : Int32) (N_be : Int32) (N_da : Int32) (N_du : Nat → Int32) (N_pl : Nat → Int32) : Nat → Int32 → Int32 → Int32 → Int32 → Int32 → (Nat → Int32) → (Nat → Int32) → (Nat → Int32) → Option (Int32 × Int32 × Int32 × Int32 × (Nat → Int32) × (Nat → Int32) × (Nat → Int32))
  | 0, _, _, _, _, _, _, _, _ => none
  | fu + 1, v2, v4, R_gi, R_be, R_da, R_du, R_pl, R_de => if v2 ≤ v4 then (some ((1 : Int32), R_gi, R_be, R_da, R_du, R_pl, R_de)) else (bnd3 (f_X2_passDawn R_gi R_be R_da R_du R_pl R_de T_br T_fa T_st T_kd T_fs T_fl (31 : Int32) (1 : Int32)) (fun dd_2 dd_3 dd_4 => bnd1 (f_X2_firstDeep dd_3) (fun rr_6 => if rr_6 = ((-9) : Int32) then (f_X5_staysShallow_13 T_br T_fa T_st T_kd T_fs T_fl N_gi N_be N_da N_du N_pl fu v2 (v4 + 1) R_gi R_be dd_2 dd_3 R_pl dd_4) else (some ((0 : Int32), R_gi, R_be, dd_2, dd_3, R_pl, dd_4)))))
def f_X5_staysShallow (T_br : Int32) (T_fa : Int32) (T_st : Nat → Int32) (T_kd : Nat → Int32) (T_fs : Nat → Int32) (T_fl : Nat → Int32) (N_gi : Int32) (N_be : Int32) (N_da : Int32) (N_du : Nat → Int32) (N_pl : Nat → Int32) (R_gi : Int32) (R_be : Int32) (R_da : Int32) (R_du : Nat → Int32) (R_pl : Nat → Int32) (R_de : Nat → Int32) (u1 : Int32) (u2 : Int32) : Option (Int32 × Int32 × Int32 × Int32 × (Nat → Int32) × (Nat → Int32) × (Nat → Int32)) := bnd5 (f_X5_fromNow N_gi N_be N_da N_du N_pl R_gi R_be R_da R_du R_pl) (fun dd_9 dd_10 dd_11 dd_12 dd_13 => bnd1 (f_X2_bow dd_10 u1) (fun dd_15 => f_X5_staysShallow_13 T_br T_fa T_st T_kd T_fs T_fl N_gi N_be N_da N_du N_pl  130 u2 (0 : Int32) dd_9 dd_15 dd_11 dd_12 dd_13 R_de))
set_option maxRecDepth 100000 in
set_option maxHeartbeats 4000000 in
theorem k_X5_staysShallow (l : Launch) (G : Gt) (x0 s0 s1 t0 t1 t2 t3 t4 t5 t6 n0 n1 n2 n3 r0 r1 r2 r3 a0 a1 p0 p1 p2 p3 k0 j0 : Nat) (X_ch : Int64) (S_len : Int32) (S_let : Nat → Int32) (T_br : Int32) (T_fa : Int32) (T_fd : Nat → Int32) (T_fp : Nat → Int32) (T_st : Nat → Int32) (T_kd : Nat → Int32) (T_fs : Nat → Int32) (T_fl : Nat → Int32) (N_gi : Int32) (N_be : Int32) (N_da : Int32) (N_du : Nat → Int32) (N_pl : Nat → Int32) (N_de : Nat → Int32) (R_gi : Int32) (R_be : Int32) (R_da : Int32) (R_du : Nat → Int32) (R_pl : Nat → Int32) (R_de : Nat → Int32) (A_fi : Int32) (A_si : Int32) (A_ce : Nat → Int32) (P_si : Int32) (P_be : Nat → Int32) (P_le : Nat → Int32) (P_go : Nat → Int32) (K_sl : Nat → Int32) (J_fi : Nat → Int32) (u1 : Int32) (u2 : Int32) (r_ : Int32) (o_R_gi : Int32) (o_R_be : Int32) (o_R_da : Int32) (o_R_du : Nat → Int32) (o_R_pl : Nat → Int32) (o_R_de : Nat → Int32) (h : f_X5_staysShallow T_br T_fa T_st T_kd T_fs T_fl N_gi N_be N_da N_du N_pl R_gi R_be R_da R_du R_pl R_de u1 u2 = some (r_, o_R_gi, o_R_be, o_R_da, o_R_du, o_R_pl, o_R_de)) : CT l yX5_staysShallow wsX5_staysShallow 4 90 G [.ref x0, .int u1, .int u2] (W_F G x0 s0 s1 t0 t1 t2 t3 t4 t5 t6 n0 n1 n2 n3 r0 r1 r2 r3 a0 a1 p0 p1 p2 p3 k0 j0 X_ch S_len S_let T_br T_fa T_fd T_fp T_st T_kd T_fs T_fl N_gi N_be N_da N_du N_pl N_de R_gi R_be R_da R_du R_pl R_de A_fi A_si A_ce P_si P_be P_le P_go K_sl J_fi) (QI G r_ (W_F G x0 s0 s1 t0 t1 t2 t3 t4 t5 t6 n0 n1 n2 n3 r0 r1 r2 r3 a0 a1 p0 p1 p2 p3 k0 j0 X_ch S_len S_let T_br T_fa T_fd T_fp T_st T_kd T_fs T_fl N_gi N_be N_da N_du N_pl N_de o_R_gi o_R_be o_R_da o_R_du o_R_pl o_R_de A_fi A_si A_ce P_si P_be P_le P_go K_sl J_fi)) := by
  refine met_of cX5_staysShallow 5 (some .boolean) (by decide) rfl (Nat.le_of_ble_eq_true rfl) ?_
  intro p e s m below meth c A ls hx hb hr hml hts hown hlocks hK hA hD hP hS hl
  replace hown : s.vm.findClass RX5 = some m.cls := hown
  replace hl : lv_has ls 5 [(0, .ref x0), (1, .int u1), (2, .int u2)] := hl
  have S0 : CallFix p m c cX5_staysShallow 5 s _ wsX5_staysShallow RX5 := ⟨hx, hb, hml, hown, hts⟩
  have cw_X2_passDawn := show CallW (rmv 4 90) s _ RX5 RX2 129 yX2_passDawn cX2_passDawn 4 none wsX2_passDawn (rmv 3 67) 0 0 2 from cwV 2 hts gX5_staysShallow_X2_passDawn rfl rfl rfl (by decide +kernel) ⟨Nat.le_of_ble_eq_true rfl, Nat.le_of_ble_eq_true rfl⟩
  have cw_X2_firstDeep := show CallW (rmv 4 90) s _ RX5 RX2 177 yX2_firstDeep cX2_firstDeep 2 (some .int) wsX2_firstDeep (rmv 3 62) 0 0 0 from cwV 0 hts gX5_staysShallow_X2_firstDeep rfl rfl rfl (by decide +kernel) ⟨Nat.le_of_ble_eq_true rfl, Nat.le_of_ble_eq_true rfl⟩
  have cw_X5_fromNow := show CallW (rmv 4 90) s _ RX5 RX5 173 yX5_fromNow cX5_fromNow 1 (some (.object "DustVote$Moment")) wsX5_fromNow (rmv 2 39) 0 0 0 from cwV 0 hts gX5_staysShallow_X5_fromNow rfl rfl rfl (by decide +kernel) ⟨Nat.le_of_ble_eq_true rfl, Nat.le_of_ble_eq_true rfl⟩
  have cw_X2_bow := show CallW (rmv 4 90) s _ RX5 RX2 146 yX2_bow cX2_bow 2 none wsX2_bow (rmv 0 0) 0 0 1 from cwV 1 hts gX5_staysShallow_X2_bow rfl rfl rfl (by decide +kernel) ⟨Nat.le_of_ble_eq_true rfl, Nat.le_of_ble_eq_true rfl⟩
  have J_13 : ∀ (fu : Nat), ∀ (v2 : Int32) (v4 : Int32) (R_gi : Int32) (R_be : Int32) (R_da : Int32) (R_du : Nat → Int32) (R_pl : Nat → Int32) (R_de : Nat → Int32) (H : Heap) (locs : List Loc) (ls : Array Slot), f_X5_staysShallow_13 T_br T_fa T_st T_kd T_fs T_fl N_gi N_be N_da N_du N_pl fu v2 v4 R_gi R_be R_da R_du R_pl R_de = some (r_, o_R_gi, o_R_be, o_R_da, o_R_du, o_R_pl, o_R_de) → va_P G.1 vwCl (W_F G x0 s0 s1 t0 t1 t2 t3 t4 t5 t6 n0 n1 n2 n3 r0 r1 r2 r3 a0 a1 p0 p1 p2 p3 k0 j0 X_ch S_len S_let T_br T_fa T_fd T_fp T_st T_kd T_fs T_fl N_gi N_be N_da N_du N_pl N_de R_gi R_be R_da R_du R_pl R_de A_fi A_si A_ce P_si P_be P_le P_go K_sl J_fi) H → va_S A s.heap H locs → lv_has ls 5 [(2, .int v2), (3, .ref r0), (4, .int v4)] → W p l e (rmv 4 90) s m (List.toArray [.ref x0, .int u1, .int u2]) below meth c H locs 0 0 (MQ below ((QI G r_ (W_F G x0 s0 s1 t0 t1 t2 t3 t4 t5 t6 n0 n1 n2 n3 r0 r1 r2 r3 a0 a1 p0 p1 p2 p3 k0 j0 X_ch S_len S_let T_br T_fa T_fd T_fp T_st T_kd T_fs T_fl N_gi N_be N_da N_du N_pl N_de o_R_gi o_R_be o_R_da o_R_du o_R_pl o_R_de A_fi A_si A_ce P_si P_be P_le P_go K_sl J_fi)) A) (List.toArray [.ref x0, .int u1, .int u2]) s 0 0 A) (F0 m 13 ls []) := by
    intro  fu
    induction fu with
    | zero =>
      intro v2 v4 R_gi R_be R_da R_du R_pl R_de H locs ls h
      cases h
    | succ fu ih =>
      intro v2 v4 R_gi R_be R_da R_du R_pl R_de H locs ls h hP hS hl
      rw [f_X5_staysShallow_13] at h
      refine lv_iload hx hb dX5_staysShallow_13 (lv_at hl 2 rfl) ?_
      refine lv_iload_n hx hb dX5_staysShallow_15 rfl (lv_at hl 0 rfl) ?_
      refine lv_icmp_ge (tgt := 43) hx hb dX5_staysShallow_16 (by decide) (fun cc_1 => ?_) (fun cc_1 => ?_)
      · replace h := if_t cc_1 h
        refine lv_iconst (v := 1) hx hb dX5_staysShallow_43 (by decide) ?_
        cases h
        exact W.zret (ty := .boolean) hx hb hr (by decide) (fun t ht _ => ⟨⟨_, (), rfl, rfl, by show va_P G.1 vwCl _ t.heap; rw [ht]; exact hP⟩, hS.F ht⟩) hS.2.2 dX5_staysShallow_44
      · replace h := if_f cc_1 h
        refine lv_aload_n hx hb dX5_staysShallow_19 rfl (lv_at hl 1 rfl) ?_
        refine lv_bipush (v := 31) hx hb dX5_staysShallow_20 (by decide) ?_
        refine lv_iconst (v := 1) hx hb dX5_staysShallow_22 (by decide) ?_
        obtain ⟨dd_2, dd_3, dd_4, ee_5, h⟩ := bnd3_s h
        refine cVv (As := [.int (31 : Int32), .int (1 : Int32)]) (rest := []) S0 hK hA hP (va_D_same hD rfl) hS [14, 15, 16, 17, 3, 4, 5, 6, 7, 8, 9] (k_X2_passDawn l G r0 r1 r2 r3 t0 t1 t2 t3 t4 t5 t6 R_gi R_be R_da R_du R_pl R_de T_br T_fa T_fd T_fp T_st T_kd T_fs T_fl (31 : Int32) (1 : Int32) dd_2 dd_3 dd_4 ee_5) cw_X2_passDawn rfl rfl (Nat.le_of_ble_eq_true rfl) 2 0 rfl rfl rfl rfl hl.1 rfl (Nat.le_of_ble_eq_true rfl) dX5_staysShallow_23 ⟨Nat.zero_le _, Nat.zero_le _⟩ (fun H locs hP hS => ?_)
        replace hP : va_P G.1 vwCl (W_F G x0 s0 s1 t0 t1 t2 t3 t4 t5 t6 n0 n1 n2 n3 r0 r1 r2 r3 a0 a1 p0 p1 p2 p3 k0 j0 X_ch S_len S_let T_br T_fa T_fd T_fp T_st T_kd T_fs T_fl N_gi N_be N_da N_du N_pl N_de R_gi R_be dd_2 dd_3 R_pl dd_4 A_fi A_si A_ce P_si P_be P_le P_go K_sl J_fi) H := hP
        refine lv_aload_n hx hb dX5_staysShallow_26 rfl (lv_at hl 1 rfl) ?_
        obtain ⟨rr_6, ee_7, h⟩ := bnd1_s h
        refine cVi (As := []) (rest := []) S0 hK hA hP (va_D_same hD rfl) hS [14, 15, 16, 17, 3, 4, 5, 6, 7, 8, 9] (k_X2_firstDeep l G r0 r1 r2 r3 t0 t1 t2 t3 t4 t5 t6 R_gi R_be dd_2 dd_3 R_pl dd_4 T_br T_fa T_fd T_fp T_st T_kd T_fs T_fl rr_6 ee_7) cw_X2_firstDeep rfl rfl (Nat.le_of_ble_eq_true rfl) 2 0 rfl rfl rfl rfl hl.1 rfl (Nat.le_of_ble_eq_true rfl) dX5_staysShallow_27 ⟨Nat.zero_le _, Nat.zero_le _⟩ (fun H locs hP hS => ?_)
        replace hP : va_P G.1 vwCl (W_F G x0 s0 s1 t0 t1 t2 t3 t4 t5 t6 n0 n1 n2 n3 r0 r1 r2 r3 a0 a1 p0 p1 p2 p3 k0 j0 X_ch S_len S_let T_br T_fa T_fd T_fp T_st T_kd T_fs T_fl N_gi N_be N_da N_du N_pl N_de R_gi R_be dd_2 dd_3 R_pl dd_4 A_fi A_si A_ce P_si P_be P_le P_go K_sl J_fi) H := hP
        refine lv_bipush (v := (-9)) hx hb dX5_staysShallow_30 (by decide) ?_
        refine lv_icmp_eq (tgt := 37) hx hb dX5_staysShallow_32 (by decide) (fun cc_8 => ?_) (fun cc_8 => ?_)
        · replace h := if_t cc_8 h
          refine lv_iinc (v := (v4 + 1)) (lv' := [(4, .int (v4 + 1)), (2, .int v2), (3, .ref r0)]) hx hb dX5_staysShallow_37 hl (k := 2) rfl rfl (by decide) rfl (fun ls hl => ?_)
          refine lv_goto (tgt := 13) hx hb dX5_staysShallow_40 (by decide) ?_
          exact ih v2 (v4 + 1) R_gi R_be dd_2 dd_3 R_pl dd_4 _ _ _ h hP hS (lv_sub hl [1, 2, 0] rfl)
        · replace h := if_f cc_8 h
          refine lv_iconst (v := 0) hx hb dX5_staysShallow_35 (by decide) ?_
          cases h
          exact W.zret (ty := .boolean) hx hb hr (by decide) (fun t ht _ => ⟨⟨_, (), rfl, rfl, by show va_P G.1 vwCl _ t.heap; rw [ht]; exact hP⟩, hS.F ht⟩) hS.2.2 dX5_staysShallow_36
  unfold f_X5_staysShallow at h
  refine lv_aload_n hx hb dX5_staysShallow_0 rfl (lv_at hl 0 rfl) ?_
  obtain ⟨dd_9, dd_10, dd_11, dd_12, dd_13, ee_14, h⟩ := bnd5_s h
  refine cFr (As := []) (rest := []) S0 hK hA hP (va_D_same hD rfl) hS (k_X5_fromNow l G x0 s0 s1 t0 t1 t2 t3 t4 t5 t6 n0 n1 n2 n3 r0 r1 r2 r3 a0 a1 p0 p1 p2 p3 k0 j0 X_ch S_len S_let T_br T_fa T_fd T_fp T_st T_kd T_fs T_fl N_gi N_be N_da N_du N_pl N_de R_gi R_be R_da R_du R_pl R_de A_fi A_si A_ce P_si P_be P_le P_go K_sl J_fi dd_9 dd_10 dd_11 dd_12 dd_13 ee_14) cw_X5_fromNow 5 0 rfl rfl rfl rfl hl.1 rfl (Nat.le_of_ble_eq_true rfl) dX5_staysShallow_1 ⟨Nat.zero_le _, Nat.zero_le _⟩ (fun H locs hP hS => ?_)
  replace hP : va_P G.1 vwCl (W_F G x0 s0 s1 t0 t1 t2 t3 t4 t5 t6 n0 n1 n2 n3 r0 r1 r2 r3 a0 a1 p0 p1 p2 p3 k0 j0 X_ch S_len S_let T_br T_fa T_fd T_fp T_st T_kd T_fs T_fl N_gi N_be N_da N_du N_pl N_de dd_9 dd_10 dd_11 dd_12 dd_13 R_de A_fi A_si A_ce P_si P_be P_le P_go K_sl J_fi) H := hP
  refine lv_astore_n (lv' := [(3, .ref r0), (0, .ref x0), (1, .int u1), (2, .int u2)]) hx hb dX5_staysShallow_4 rfl hl (by decide) rfl (fun ls hl => ?_)
  refine lv_aload_n hx hb dX5_staysShallow_5 rfl (lv_at hl 0 rfl) ?_
  refine lv_iload_n hx hb dX5_staysShallow_6 rfl (lv_at hl 2 rfl) ?_
  obtain ⟨dd_15, ee_16, h⟩ := bnd1_s h
  refine cVv (As := [.int u1]) (rest := []) S0 hK hA hP (va_D_same hD rfl) hS [14, 15, 16, 17, 3, 4, 5, 6, 7, 8, 9] (k_X2_bow l G r0 r1 r2 r3 t0 t1 t2 t3 t4 t5 t6 dd_9 dd_10 dd_11 dd_12 dd_13 R_de T_br T_fa T_fd T_fp T_st T_kd T_fs T_fl u1 dd_15 ee_16) cw_X2_bow rfl rfl (Nat.le_of_ble_eq_true rfl) 2 0 rfl rfl rfl rfl hl.1 rfl (Nat.le_of_ble_eq_true rfl) dX5_staysShallow_7 ⟨Nat.zero_le _, Nat.zero_le _⟩ (fun H locs hP hS => ?_)
  replace hP : va_P G.1 vwCl (W_F G x0 s0 s1 t0 t1 t2 t3 t4 t5 t6 n0 n1 n2 n3 r0 r1 r2 r3 a0 a1 p0 p1 p2 p3 k0 j0 X_ch S_len S_let T_br T_fa T_fd T_fp T_st T_kd T_fs T_fl N_gi N_be N_da N_du N_pl N_de dd_9 dd_15 dd_11 dd_12 dd_13 R_de A_fi A_si A_ce P_si P_be P_le P_go K_sl J_fi) H := hP
  refine lv_iconst (v := 0) hx hb dX5_staysShallow_10 (by decide) ?_
  refine lv_istore (lv' := [(4, .int (0 : Int32)), (3, .ref r0), (0, .ref x0), (1, .int u1), (2, .int u2)]) hx hb dX5_staysShallow_11 hl (by decide) rfl (fun ls hl => ?_)
  exact J_13  130 u2 (0 : Int32) dd_9 dd_15 dd_11 dd_12 dd_13 R_de _ _ _ h hP hS (lv_sub hl [4, 1, 0] rfl)
