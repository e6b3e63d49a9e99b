def f_X5_isDeepBehind_9 (T_br : Int32) (T_fa : Int32) (T_st : Nat → Int32) (T_kd : Nat → Int32) (T_fs : Nat → Int32) (T_fl : Nat → Int32) (N_gi : Int32) (N_be : Int32) (N_da : Int32) (N_du : Nat → Int32) (N_pl : Nat → Int32) : Nat → Int32 → Int32 → Int32 → Int32 → Int32 → Int32 → Int32 → (Nat → Int32) → (Nat → Int32) → (Nat → Int32) → Option (Int32 × Int32 × Int32 × Int32 × (Nat → Int32) × (Nat → Int32) × (Nat → Int32))
  | 0, _, _, _, _, _, _, _, _, _, _ => none
  | fu + 1, v1, v2, v3, v5, R_gi, R_be, R_da, R_du, R_pl, R_de => if v2 ≤ v5 then (bnd1 (f_X2_isDeep R_du v1) (fun rr_2 => bnd1 (zr rr_2) (fun zz_4 => some (zz_4, R_gi, R_be, R_da, R_du, R_pl, R_de)))) else (bnd3 (f_X2_passDawn R_gi R_be R_da R_du R_pl R_de T_br T_fa T_st T_kd T_fs T_fl (31 : Int32) ((1 : Int32) + ((v3 >>> (v5 &&& 31)) &&& (1 : Int32)))) (fun dd_6 dd_7 dd_8 => f_X5_isDeepBehind_9 T_br T_fa T_st T_kd T_fs T_fl N_gi N_be N_da N_du N_pl fu v1 v2 v3 (v5 + 1) R_gi R_be dd_6 dd_7 R_pl dd_8))
def f_X5_isDeepBehind (T_br : Int32) (T_fa : Int32) (T_st : Nat → Int32) (T_kd : Nat → Int32) (T_fs : Nat → Int32) (T_fl : Nat → Int32) (N_gi : Int32) (N_be : Int32) (N_da : Int32) (N_du : Nat → Int32) (N_pl : Nat → Int32) (R_gi : Int32) (R_be : Int32) (R_da : Int32) (R_du : Nat → Int32) (R_pl : Nat → Int32) (R_de : Nat → Int32) (u1 : Int32) (u2 : Int32) (u3 : Int32) : Option (Int32 × Int32 × Int32 × Int32 × (Nat → Int32) × (Nat → Int32) × (Nat → Int32)) := bnd5 (f_X5_fromNow N_gi N_be N_da N_du N_pl R_gi R_be R_da R_du R_pl) (fun dd_10 dd_11 dd_12 dd_13 dd_14 => f_X5_isDeepBehind_9 T_br T_fa T_st T_kd T_fs T_fl N_gi N_be N_da N_du N_pl  130 u1 u2 u3 (0 : Int32) dd_10 dd_11 dd_12 dd_13 dd_14 R_de)
set_option maxRecDepth 100000 in
set_option maxHeartbeats 4000000 in
theorem k_X5_isDeepBehind (l : Launch) (G : Gt) (x0 s0 s1 t0 t1 t2 t3 t4 t5 t6 n0 n1 n2 n3 r0 r1 r2 r3 a0 a1 p0 p1 p2 p3 k0 j0 : Nat) (X_ch : Int64) (S_len : Int32) (S_let : Nat → Int32) (T_br : Int32) (T_fa : Int32) (T_fd : Nat → Int32) (T_fp : Nat → Int32) (T_st : Nat → Int32) (T_kd : Nat → Int32) (T_fs : Nat → Int32) (T_fl : Nat → Int32) (N_gi : Int32) (N_be : Int32) (N_da : Int32) (N_du : Nat → Int32) (N_pl : Nat → Int32) (N_de : Nat → Int32) (R_gi : Int32) (R_be : Int32) (R_da : Int32) (R_du : Nat → Int32) (R_pl : Nat → Int32) (R_de : Nat → Int32) (A_fi : Int32) (A_si : Int32) (A_ce : Nat → Int32) (P_si : Int32) (P_be : Nat → Int32) (P_le : Nat → Int32) (P_go : Nat → Int32) (K_sl : Nat → Int32) (J_fi : Nat → Int32) (u1 : Int32) (u2 : Int32) (u3 : Int32) (r_ : Int32) (o_R_gi : Int32) (o_R_be : Int32) (o_R_da : Int32) (o_R_du : Nat → Int32) (o_R_pl : Nat → Int32) (o_R_de : Nat → Int32) (h : f_X5_isDeepBehind T_br T_fa T_st T_kd T_fs T_fl N_gi N_be N_da N_du N_pl R_gi R_be R_da R_du R_pl R_de u1 u2 u3 = some (r_, o_R_gi, o_R_be, o_R_da, o_R_du, o_R_pl, o_R_de)) : CT l yX5_isDeepBehind wsX5_isDeepBehind 4 90 G [.ref x0, .int u1, .int u2, .int u3] (W_F G x0 s0 s1 t0 t1 t2 t3 t4 t5 t6 n0 n1 n2 n3 r0 r1 r2 r3 a0 a1 p0 p1 p2 p3 k0 j0 X_ch S_len S_let T_br T_fa T_fd T_fp T_st T_kd T_fs T_fl N_gi N_be N_da N_du N_pl N_de R_gi R_be R_da R_du R_pl R_de A_fi A_si A_ce P_si P_be P_le P_go K_sl J_fi) (QI G r_ (W_F G x0 s0 s1 t0 t1 t2 t3 t4 t5 t6 n0 n1 n2 n3 r0 r1 r2 r3 a0 a1 p0 p1 p2 p3 k0 j0 X_ch S_len S_let T_br T_fa T_fd T_fp T_st T_kd T_fs T_fl N_gi N_be N_da N_du N_pl N_de o_R_gi o_R_be o_R_da o_R_du o_R_pl o_R_de A_fi A_si A_ce P_si P_be P_le P_go K_sl J_fi)) := by
  refine met_of cX5_isDeepBehind 6 (some .boolean) (by decide) rfl (Nat.le_of_ble_eq_true rfl) ?_
  intro p e s m below meth c A ls hx hb hr hml hts hown hlocks hK hA hD hP hS hl
  replace hown : s.vm.findClass RX5 = some m.cls := hown
  replace hl : lv_has ls 6 [(0, .ref x0), (1, .int u1), (2, .int u2), (3, .int u3)] := hl
  have S0 : CallFix p m c cX5_isDeepBehind 6 s _ wsX5_isDeepBehind RX5 := ⟨hx, hb, hml, hown, hts⟩
  have cw_X2_isDeep := show CallW (rmv 4 90) s _ RX5 RX2 101 yX2_isDeep cX2_isDeep 2 (some .boolean) wsX2_isDeep (rmv 2 41) 0 0 1 from cwV 1 hts gX5_isDeepBehind_X2_isDeep rfl rfl rfl (by decide +kernel) ⟨Nat.le_of_ble_eq_true rfl, Nat.le_of_ble_eq_true rfl⟩
  have cw_X2_passDawn := show CallW (rmv 4 90) s _ RX5 RX2 129 yX2_passDawn cX2_passDawn 4 none wsX2_passDawn (rmv 3 67) 0 0 2 from cwV 2 hts gX5_isDeepBehind_X2_passDawn rfl rfl rfl (by decide +kernel) ⟨Nat.le_of_ble_eq_true rfl, Nat.le_of_ble_eq_true rfl⟩
  have cw_X5_fromNow := show CallW (rmv 4 90) s _ RX5 RX5 173 yX5_fromNow cX5_fromNow 1 (some (.object "DustVote$Moment")) wsX5_fromNow (rmv 2 39) 0 0 0 from cwV 0 hts gX5_isDeepBehind_X5_fromNow rfl rfl rfl (by decide +kernel) ⟨Nat.le_of_ble_eq_true rfl, Nat.le_of_ble_eq_true rfl⟩
  have J_9 : ∀ (fu : Nat), ∀ (v1 : Int32) (v2 : Int32) (v3 : Int32) (v5 : Int32) (R_gi : Int32) (R_be : Int32) (R_da : Int32) (R_du : Nat → Int32) (R_pl : Nat → Int32) (R_de : Nat → Int32) (H : Heap) (locs : List Loc) (ls : Array Slot), f_X5_isDeepBehind_9 T_br T_fa T_st T_kd T_fs T_fl N_gi N_be N_da N_du N_pl fu v1 v2 v3 v5 R_gi R_be R_da R_du R_pl R_de = some (r_, o_R_gi, o_R_be, o_R_da, o_R_du, o_R_pl, o_R_de) → va_P G.1 vwCl (W_F G x0 s0 s1 t0 t1 t2 t3 t4 t5 t6 n0 n1 n2 n3 r0 r1 r2 r3 a0 a1 p0 p1 p2 p3 k0 j0 X_ch S_len S_let T_br T_fa T_fd T_fp T_st T_kd T_fs T_fl N_gi N_be N_da N_du N_pl N_de R_gi R_be R_da R_du R_pl R_de A_fi A_si A_ce P_si P_be P_le P_go K_sl J_fi) H → va_S A s.heap H locs → lv_has ls 6 [(1, .int v1), (2, .int v2), (3, .int v3), (4, .ref r0), (5, .int v5)] → W p l e (rmv 4 90) s m (List.toArray [.ref x0, .int u1, .int u2, .int u3]) below meth c H locs 0 0 (MQ below ((QI G r_ (W_F G x0 s0 s1 t0 t1 t2 t3 t4 t5 t6 n0 n1 n2 n3 r0 r1 r2 r3 a0 a1 p0 p1 p2 p3 k0 j0 X_ch S_len S_let T_br T_fa T_fd T_fp T_st T_kd T_fs T_fl N_gi N_be N_da N_du N_pl N_de o_R_gi o_R_be o_R_da o_R_du o_R_pl o_R_de A_fi A_si A_ce P_si P_be P_le P_go K_sl J_fi)) A) (List.toArray [.ref x0, .int u1, .int u2, .int u3]) s 0 0 A) (F0 m 9 ls []) := by
    intro  fu
    induction fu with
    | zero =>
      intro v1 v2 v3 v5 R_gi R_be R_da R_du R_pl R_de H locs ls h
      cases h
    | succ fu ih =>
      intro v1 v2 v3 v5 R_gi R_be R_da R_du R_pl R_de H locs ls h hP hS hl
      rw [f_X5_isDeepBehind_9] at h
      refine lv_iload hx hb dX5_isDeepBehind_9 (lv_at hl 4 rfl) ?_
      refine lv_iload_n hx hb dX5_isDeepBehind_11 rfl (lv_at hl 1 rfl) ?_
      refine lv_icmp_ge (tgt := 36) hx hb dX5_isDeepBehind_12 (by decide) (fun cc_1 => ?_) (fun cc_1 => ?_)
      · replace h := if_t cc_1 h
        refine lv_aload hx hb dX5_isDeepBehind_36 (lv_at hl 3 rfl) ?_
        refine lv_iload_n hx hb dX5_isDeepBehind_38 rfl (lv_at hl 0 rfl) ?_
        obtain ⟨rr_2, ee_3, h⟩ := bnd1_s h
        refine cVi (As := [.int v1]) (rest := []) S0 hK hA hP (va_D_same hD rfl) hS [14, 15, 16, 17, 3, 4, 5, 6, 7, 8, 9] (k_X2_isDeep l G r0 r1 r2 r3 t0 t1 t2 t3 t4 t5 t6 R_gi R_be R_da R_du R_pl R_de T_br T_fa T_fd T_fp T_st T_kd T_fs T_fl v1 rr_2 ee_3) cw_X2_isDeep rfl rfl (Nat.le_of_ble_eq_true rfl) 2 0 rfl rfl rfl rfl hl.1 rfl (Nat.le_of_ble_eq_true rfl) dX5_isDeepBehind_39 ⟨Nat.zero_le _, Nat.zero_le _⟩ (fun H locs hP hS => ?_)
        replace hP : va_P G.1 vwCl (W_F G x0 s0 s1 t0 t1 t2 t3 t4 t5 t6 n0 n1 n2 n3 r0 r1 r2 r3 a0 a1 p0 p1 p2 p3 k0 j0 X_ch S_len S_let T_br T_fa T_fd T_fp T_st T_kd T_fs T_fl N_gi N_be N_da N_du N_pl N_de R_gi R_be R_da R_du R_pl R_de A_fi A_si A_ce P_si P_be P_le P_go K_sl J_fi) H := hP
        obtain ⟨zz_4, ee_5, h⟩ := bnd1_s h
        obtain ⟨rfl, gee_5, -⟩ := zr_s ee_5
        cases h
        exact W.zret (ty := .boolean) hx hb hr gee_5 (fun t ht _ => ⟨⟨_, (), rfl, rfl, by show va_P G.1 vwCl _ t.heap; rw [ht]; exact hP⟩, hS.F ht⟩) hS.2.2 dX5_isDeepBehind_42
      · replace h := if_f cc_1 h
        refine lv_aload hx hb dX5_isDeepBehind_15 (lv_at hl 3 rfl) ?_
        refine lv_bipush (v := 31) hx hb dX5_isDeepBehind_17 (by decide) ?_
        refine lv_iconst (v := 1) hx hb dX5_isDeepBehind_19 (by decide) ?_
        refine lv_iload_n hx hb dX5_isDeepBehind_20 rfl (lv_at hl 2 rfl) ?_
        refine lv_iload hx hb dX5_isDeepBehind_21 (lv_at hl 4 rfl) ?_
        refine lv_ishr hx hb dX5_isDeepBehind_23 ?_
        refine lv_iconst (v := 1) hx hb dX5_isDeepBehind_24 (by decide) ?_
        refine lv_iand hx hb dX5_isDeepBehind_25 ?_
        refine lv_iadd hx hb dX5_isDeepBehind_26 ?_
        obtain ⟨dd_6, dd_7, dd_8, ee_9, h⟩ := bnd3_s h
        refine cVv (As := [.int (31 : Int32), .int ((1 : Int32) + ((v3 >>> (v5 &&& 31)) &&& (1 : Int32)))]) (rest := []) S0 hK hA hP (va_D_same hD rfl) hS [14, 15, 16, 17, 3, 4, 5, 6, 7, 8, 9] (k_X2_passDawn l G r0 r1 r2 r3 t0 t1 t2 t3 t4 t5 t6 R_gi R_be R_da R_du R_pl R_de T_br T_fa T_fd T_fp T_st T_kd T_fs T_fl (31 : Int32) ((1 : Int32) + ((v3 >>> (v5 &&& 31)) &&& (1 : Int32))) dd_6 dd_7 dd_8 ee_9) cw_X2_passDawn rfl rfl (Nat.le_of_ble_eq_true rfl) 2 0 rfl rfl rfl rfl hl.1 rfl (Nat.le_of_ble_eq_true rfl) dX5_isDeepBehind_27 ⟨Nat.zero_le _, Nat.zero_le _⟩ (fun H locs hP hS => ?_)
        replace hP : va_P G.1 vwCl (W_F G x0 s0 s1 t0 t1 t2 t3 t4 t5 t6 n0 n1 n2 n3 r0 r1 r2 r3 a0 a1 p0 p1 p2 p3 k0 j0 X_ch S_len S_let T_br T_fa T_fd T_fp T_st T_kd T_fs T_fl N_gi N_be N_da N_du N_pl N_de R_gi R_be dd_6 dd_7 R_pl dd_8 A_fi A_si A_ce P_si P_be P_le P_go K_sl J_fi) H := hP
        refine lv_iinc (v := (v5 + 1)) (lv' := [(5, .int (v5 + 1)), (1, .int v1), (2, .int v2), (3, .int v3), (4, .ref r0)]) hx hb dX5_isDeepBehind_30 hl (k := 4) rfl rfl (by decide) rfl (fun ls hl => ?_)
        refine lv_goto (tgt := 9) hx hb dX5_isDeepBehind_33 (by decide) ?_
        exact ih v1 v2 v3 (v5 + 1) R_gi R_be dd_6 dd_7 R_pl dd_8 _ _ _ h hP hS (lv_sub hl [1, 2, 3, 4, 0] rfl)
  unfold f_X5_isDeepBehind at h
  refine lv_aload_n hx hb dX5_isDeepBehind_0 rfl (lv_at hl 0 rfl) ?_
  obtain ⟨dd_10, dd_11, dd_12, dd_13, dd_14, ee_15, h⟩ := bnd5_s h
  refine cFr (As := []) (rest := []) S0 hK hA hP (va_D_same hD rfl) hS (k_X5_fromNow l G x0 s0 s1 t0 t1 t2 t3 t4 t5 t6 n0 n1 n2 n3 r0 r1 r2 r3 a0 a1 p0 p1 p2 p3 k0 j0 X_ch S_len S_let T_br T_fa T_fd T_fp T_st T_kd T_fs T_fl N_gi N_be N_da N_du N_pl N_de R_gi R_be R_da R_du R_pl R_de A_fi A_si A_ce P_si P_be P_le P_go K_sl J_fi dd_10 dd_11 dd_12 dd_13 dd_14 ee_15) cw_X5_fromNow 5 0 rfl rfl rfl rfl hl.1 rfl (Nat.le_of_ble_eq_true rfl) dX5_isDeepBehind_1 ⟨Nat.zero_le _, Nat.zero_le _⟩ (fun H locs hP hS => ?_)
  replace hP : va_P G.1 vwCl (W_F G x0 s0 s1 t0 t1 t2 t3 t4 t5 t6 n0 n1 n2 n3 r0 r1 r2 r3 a0 a1 p0 p1 p2 p3 k0 j0 X_ch S_len S_let T_br T_fa T_fd T_fp T_st T_kd T_fs T_fl N_gi N_be N_da N_du N_pl N_de dd_10 dd_11 dd_12 dd_13 dd_14 R_de A_fi A_si A_ce P_si P_be P_le P_go K_sl J_fi) H := hP
  refine lv_astore (lv' := [(4, .ref r0), (0, .ref x0), (1, .int u1), (2, .int u2), (3, .int u3)]) hx hb dX5_isDeepBehind_4 hl (by decide) rfl (fun ls hl => ?_)
  refine lv_iconst (v := 0) hx hb dX5_isDeepBehind_6 (by decide) ?_
  refine lv_istore (lv' := [(5, .int (0 : Int32)), (4, .ref r0), (0, .ref x0), (1, .int u1), (2, .int u2), (3, .int u3)]) hx hb dX5_isDeepBehind_7 hl (by decide) rfl (fun ls hl => ?_)
  exact J_9  130 u1 u2 u3 (0 : Int32) dd_10 dd_11 dd_12 dd_13 dd_14 R_de _ _ _ h hP hS (lv_sub hl [3, 4, 5, 1, 0] rfl)
