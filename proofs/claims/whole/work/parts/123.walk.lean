def f_X5_isSo (T_br : Int32) (T_fa : Int32) (T_st : Nat → Int32) (T_kd : Nat → Int32) (T_fs : Nat → Int32) (T_fl : Nat → Int32) (R_gi : Int32) (R_be : Int32) (R_da : Int32) (R_du : Nat → Int32) (R_pl : Nat → Int32) (R_de : Nat → Int32) (u2 : Int32) (u3 : Int32) (u4 : Int32) : Option (Int32 × Int32 × Int32 × Int32 × (Nat → Int32) × (Nat → Int32) × (Nat → Int32)) := if u2 = (1 : Int32) then (bnd2 (f_X5_tryStep T_br R_pl u3 u4) (fun rr_45 dd_46 => bnd1 (zr rr_45) (fun zz_48 => some (zz_48, R_gi, R_be, R_da, R_du, dd_46, R_de)))) else (if u2 = (5 : Int32) then (bnd1 (f_X5_isStreet u3) (fun rr_39 => if rr_39 = 0 then (some ((0 : Int32), R_gi, R_be, R_da, R_du, R_pl, R_de)) else (bnd1 (f_X2_dustIn R_du u3) (fun rr_42 => if rr_42 < u4 then (some ((0 : Int32), R_gi, R_be, R_da, R_du, R_pl, R_de)) else (some ((1 : Int32), R_gi, R_be, R_da, R_du, R_pl, R_de)))))) else (if u3 = 0 then (if u2 = 0 then (if u4 = 0 then (bnd4 (f_X5_tryDawn T_br T_fa T_st T_kd T_fs T_fl R_gi R_be R_da R_du R_pl R_de) (fun rr_6 dd_7 dd_8 dd_9 => if rr_6 = 0 then (some ((0 : Int32), R_gi, R_be, dd_7, dd_8, R_pl, dd_9)) else (some ((1 : Int32), R_gi, R_be, dd_7, dd_8, R_pl, dd_9)))) else (some ((0 : Int32), R_gi, R_be, R_da, R_du, R_pl, R_de))) else (if u2 = 1 then (some ((0 : Int32), R_gi, R_be, R_da, R_du, R_pl, R_de)) else (if u2 = 2 then (if u4 = 0 then (bnd2 (f_X5_tryVote R_gi) (fun rr_15 dd_16 => if rr_15 = 0 then (some ((0 : Int32), dd_16, R_be, R_da, R_du, R_pl, R_de)) else (some ((1 : Int32), dd_16, R_be, R_da, R_du, R_pl, R_de)))) else (some ((0 : Int32), R_gi, R_be, R_da, R_du, R_pl, R_de))) else (if u2 = 3 then (bnd2 (f_X5_tryBow T_br R_be u4) (fun rr_20 dd_21 => bnd1 (zr rr_20) (fun zz_23 => some (zz_23, R_gi, dd_21, R_da, R_du, R_pl, R_de)))) else (if u2 = 4 then (bnd2 (f_X5_tryEmpty R_du u4) (fun rr_26 dd_27 => bnd1 (zr rr_26) (fun zz_29 => some (zz_29, R_gi, R_be, R_da, dd_27, R_pl, R_de)))) else (if u2 = 5 then (some ((0 : Int32), R_gi, R_be, R_da, R_du, R_pl, R_de)) else (if u2 = 6 then (bnd1 (f_X5_isStreet u4) (fun rr_33 => if rr_33 = 0 then (some ((0 : Int32), R_gi, R_be, R_da, R_du, R_pl, R_de)) else (bnd1 (f_X2_isDeep R_du u4) (fun rr_36 => if rr_36 = 0 then (some ((0 : Int32), R_gi, R_be, R_da, R_du, R_pl, R_de)) else (some ((1 : Int32), R_gi, R_be, R_da, R_du, R_pl, R_de)))))) else (some ((0 : Int32), R_gi, R_be, R_da, R_du, R_pl, R_de))))))))) else (some ((0 : Int32), R_gi, R_be, R_da, R_du, R_pl, R_de))))
set_option maxRecDepth 100000 in
set_option maxHeartbeats 4000000 in
theorem k_X5_isSo (l : Launch) (G : Gt) (x0 s0 s1 t0 t1 t2 t3 t4 t5 t6 n0 n1 n2 n3 r0 r1 r2 r3 a0 a1 p0 p1 p2 p3 k0 j0 : Nat) (X_ch : Int64) (S_len : Int32) (S_let : Nat → Int32) (T_br : Int32) (T_fa : Int32) (T_fd : Nat → Int32) (T_fp : Nat → Int32) (T_st : Nat → Int32) (T_kd : Nat → Int32) (T_fs : Nat → Int32) (T_fl : Nat → Int32) (N_gi : Int32) (N_be : Int32) (N_da : Int32) (N_du : Nat → Int32) (N_pl : Nat → Int32) (N_de : Nat → Int32) (R_gi : Int32) (R_be : Int32) (R_da : Int32) (R_du : Nat → Int32) (R_pl : Nat → Int32) (R_de : Nat → Int32) (A_fi : Int32) (A_si : Int32) (A_ce : Nat → Int32) (P_si : Int32) (P_be : Nat → Int32) (P_le : Nat → Int32) (P_go : Nat → Int32) (K_sl : Nat → Int32) (J_fi : Nat → Int32) (u2 : Int32) (u3 : Int32) (u4 : Int32) (r_ : Int32) (o_R_gi : Int32) (o_R_be : Int32) (o_R_da : Int32) (o_R_du : Nat → Int32) (o_R_pl : Nat → Int32) (o_R_de : Nat → Int32) (h : f_X5_isSo T_br T_fa T_st T_kd T_fs T_fl R_gi R_be R_da R_du R_pl R_de u2 u3 u4 = some (r_, o_R_gi, o_R_be, o_R_da, o_R_du, o_R_pl, o_R_de)) : CT l yX5_isSo wsX5_isSo 5 111 G [.ref x0, .ref r0, .int u2, .int u3, .int u4] (W_F G x0 s0 s1 t0 t1 t2 t3 t4 t5 t6 n0 n1 n2 n3 r0 r1 r2 r3 a0 a1 p0 p1 p2 p3 k0 j0 X_ch S_len S_let T_br T_fa T_fd T_fp T_st T_kd T_fs T_fl N_gi N_be N_da N_du N_pl N_de R_gi R_be R_da R_du R_pl R_de A_fi A_si A_ce P_si P_be P_le P_go K_sl J_fi) (QI G r_ (W_F G x0 s0 s1 t0 t1 t2 t3 t4 t5 t6 n0 n1 n2 n3 r0 r1 r2 r3 a0 a1 p0 p1 p2 p3 k0 j0 X_ch S_len S_let T_br T_fa T_fd T_fp T_st T_kd T_fs T_fl N_gi N_be N_da N_du N_pl N_de o_R_gi o_R_be o_R_da o_R_du o_R_pl o_R_de A_fi A_si A_ce P_si P_be P_le P_go K_sl J_fi)) := by
  refine met_of cX5_isSo 5 (some .boolean) (by decide) rfl (Nat.le_of_ble_eq_true rfl) ?_
  intro p e s m below meth c A ls hx hb hr hml hts hown hlocks hK hA hD hP hS hl
  replace hown : s.vm.findClass RX5 = some m.cls := hown
  replace hl : lv_has ls 5 [(0, .ref x0), (1, .ref r0), (2, .int u2), (3, .int u3), (4, .int u4)] := hl
  have S0 : CallFix p m c cX5_isSo 5 s _ wsX5_isSo RX5 := ⟨hx, hb, hml, hown, hts⟩
  have cw_X5_tryDawn := show CallW (rmv 5 111) s _ RX5 RX5 254 yX5_tryDawn cX5_tryDawn 2 (some .boolean) wsX5_tryDawn (rmv 4 90) 0 0 1 from cwV 1 hts gX5_isSo_X5_tryDawn rfl rfl rfl (by decide +kernel) ⟨Nat.le_of_ble_eq_true rfl, Nat.le_of_ble_eq_true rfl⟩
  have cw_X5_tryVote := show CallW (rmv 5 111) s _ RX5 RX5 258 yX5_tryVote cX5_tryVote 2 (some .boolean) wsX5_tryVote (rmv 1 20) 0 0 1 from cwV 1 hts gX5_isSo_X5_tryVote rfl rfl rfl (by decide +kernel) ⟨Nat.le_of_ble_eq_true rfl, Nat.le_of_ble_eq_true rfl⟩
  have cw_X5_tryBow := show CallW (rmv 5 111) s _ RX5 RX5 261 yX5_tryBow cX5_tryBow 3 (some .boolean) wsX5_tryBow (rmv 1 21) 0 0 2 from cwV 2 hts gX5_isSo_X5_tryBow rfl rfl rfl (by decide +kernel) ⟨Nat.le_of_ble_eq_true rfl, Nat.le_of_ble_eq_true rfl⟩
  have cw_X5_tryEmpty := show CallW (rmv 5 111) s _ RX5 RX5 265 yX5_tryEmpty cX5_tryEmpty 3 (some .boolean) wsX5_tryEmpty (rmv 2 41) 0 0 2 from cwV 2 hts gX5_isSo_X5_tryEmpty rfl rfl rfl (by decide +kernel) ⟨Nat.le_of_ble_eq_true rfl, Nat.le_of_ble_eq_true rfl⟩
  have cw_X5_isStreet := show CallB (rmv 5 111) s _ RX5 93 yX5_isStreet cX5_isStreet 1 (some .boolean) wsX5_isStreet (rmv 0 0) 0 0 1 ∧ (Cond.static yX5_isStreet).before _ s = true from va_cwS 1 hts gX5_isSo_X5_isStreet rfl rfl rfl (by decide +kernel) ⟨Nat.le_of_ble_eq_true rfl, Nat.le_of_ble_eq_true rfl⟩
  have cw_X2_isDeep := show CallW (rmv 5 111) s _ RX5 RX2 101 yX2_isDeep cX2_isDeep 2 (some .boolean) wsX2_isDeep (rmv 2 41) 0 0 1 from cwV 1 hts gX5_isSo_X2_isDeep rfl rfl rfl (by decide +kernel) ⟨Nat.le_of_ble_eq_true rfl, Nat.le_of_ble_eq_true rfl⟩
  have cw_X2_dustIn := show CallW (rmv 5 111) s _ RX5 RX2 97 yX2_dustIn cX2_dustIn 2 (some .int) wsX2_dustIn (rmv 1 20) 0 0 1 from cwV 1 hts gX5_isSo_X2_dustIn rfl rfl rfl (by decide +kernel) ⟨Nat.le_of_ble_eq_true rfl, Nat.le_of_ble_eq_true rfl⟩
  have cw_X5_tryStep := show CallW (rmv 5 111) s _ RX5 RX5 250 yX5_tryStep cX5_tryStep 4 (some .boolean) wsX5_tryStep (rmv 3 66) 0 0 3 from cwV 3 hts gX5_isSo_X5_tryStep rfl rfl rfl (by decide +kernel) ⟨Nat.le_of_ble_eq_true rfl, Nat.le_of_ble_eq_true rfl⟩
  unfold f_X5_isSo at h
  refine lv_iload_n hx hb dX5_isSo_0 rfl (lv_at hl 2 rfl) ?_
  refine lv_iconst (v := 1) hx hb dX5_isSo_1 (by decide) ?_
  refine lv_icmp_ne (tgt := 14) hx hb dX5_isSo_2 (by decide) (fun cc_1 => ?_) (fun cc_1 => ?_)
  · replace h := if_f cc_1 h
    refine lv_iload_n hx hb dX5_isSo_14 rfl (lv_at hl 2 rfl) ?_
    refine lv_iconst (v := 5) hx hb dX5_isSo_15 (by decide) ?_
    refine lv_icmp_ne (tgt := 42) hx hb dX5_isSo_16 (by decide) (fun cc_2 => ?_) (fun cc_2 => ?_)
    · replace h := if_f cc_2 h
      refine lv_iload_n hx hb dX5_isSo_42 rfl (lv_at hl 3 rfl) ?_
      refine lv_if_eq (tgt := 48) hx hb dX5_isSo_43 (by decide) (fun cc_3 => ?_) (fun cc_3 => ?_)
      · replace h := if_t cc_3 h
        refine lv_iload_n hx hb dX5_isSo_48 rfl (lv_at hl 2 rfl) ?_
        by_cases cc_4 : u2 = 0
        · refine lv_tableIn (off := 43) (tgt := 92) hx hb dX5_isSo_49 (by rw [cc_4]; decide) (by rw [cc_4]; decide) (by rw [cc_4]; rfl) (by decide) ?_
          replace h := if_t cc_4 h
          refine lv_iload hx hb dX5_isSo_92 (lv_at hl 4 rfl) ?_
          refine lv_if_ne (tgt := 109) hx hb dX5_isSo_94 (by decide) (fun cc_5 => ?_) (fun cc_5 => ?_)
          · replace h := if_f cc_5 h
            refine lv_iconst (v := 0) hx hb dX5_isSo_109 (by decide) ?_
            cases h
            exact W.zret (ty := .boolean) hx hb hr (by decide) (fun t ht _ => ⟨⟨_, (), rfl, rfl, by show va_P G.1 vwCl _ t.heap; rw [ht]; exact hP⟩, hS.F ht⟩) hS.2.2 dX5_isSo_110
          · replace h := if_t cc_5 h
            refine lv_aload_n hx hb dX5_isSo_97 rfl (lv_at hl 0 rfl) ?_
            refine lv_aload_n hx hb dX5_isSo_98 rfl (lv_at hl 1 rfl) ?_
            obtain ⟨rr_6, dd_7, dd_8, dd_9, ee_10, h⟩ := bnd4_s h
            refine cFi (As := [.ref r0]) (rest := []) S0 hK hA hP (va_D_same hD rfl) hS (k_X5_tryDawn l G x0 s0 s1 t0 t1 t2 t3 t4 t5 t6 n0 n1 n2 n3 r0 r1 r2 r3 a0 a1 p0 p1 p2 p3 k0 j0 X_ch S_len S_let T_br T_fa T_fd T_fp T_st T_kd T_fs T_fl N_gi N_be N_da N_du N_pl N_de R_gi R_be R_da R_du R_pl R_de A_fi A_si A_ce P_si P_be P_le P_go K_sl J_fi rr_6 dd_7 dd_8 dd_9 ee_10) cw_X5_tryDawn 5 0 rfl rfl rfl rfl hl.1 rfl (Nat.le_of_ble_eq_true rfl) dX5_isSo_99 ⟨Nat.zero_le _, Nat.zero_le _⟩ (fun H locs hP hS => ?_)
            replace hP : va_P G.1 vwCl (W_F G x0 s0 s1 t0 t1 t2 t3 t4 t5 t6 n0 n1 n2 n3 r0 r1 r2 r3 a0 a1 p0 p1 p2 p3 k0 j0 X_ch S_len S_let T_br T_fa T_fd T_fp T_st T_kd T_fs T_fl N_gi N_be N_da N_du N_pl N_de R_gi R_be dd_7 dd_8 R_pl dd_9 A_fi A_si A_ce P_si P_be P_le P_go K_sl J_fi) H := hP
            refine lv_if_eq (tgt := 109) hx hb dX5_isSo_102 (by decide) (fun cc_11 => ?_) (fun cc_11 => ?_)
            · replace h := if_t cc_11 h
              refine lv_iconst (v := 0) hx hb dX5_isSo_109 (by decide) ?_
              cases h
              exact W.zret (ty := .boolean) hx hb hr (by decide) (fun t ht _ => ⟨⟨_, (), rfl, rfl, by show va_P G.1 vwCl _ t.heap; rw [ht]; exact hP⟩, hS.F ht⟩) hS.2.2 dX5_isSo_110
            · replace h := if_f cc_11 h
              refine lv_iconst (v := 1) hx hb dX5_isSo_105 (by decide) ?_
              refine lv_goto (tgt := 110) hx hb dX5_isSo_106 (by decide) ?_
              cases h
              exact W.zret (ty := .boolean) hx hb hr (by decide) (fun t ht _ => ⟨⟨_, (), rfl, rfl, by show va_P G.1 vwCl _ t.heap; rw [ht]; exact hP⟩, hS.F ht⟩) hS.2.2 dX5_isSo_110
        replace h := if_f cc_4 h
        by_cases cc_12 : u2 = 1
        · refine lv_tableIn (off := 120) (tgt := 169) hx hb dX5_isSo_49 (by rw [cc_12]; decide) (by rw [cc_12]; decide) (by rw [cc_12]; rfl) (by decide) ?_
          replace h := if_t cc_12 h
          refine lv_iconst (v := 0) hx hb dX5_isSo_169 (by decide) ?_
          cases h
          exact W.zret (ty := .boolean) hx hb hr (by decide) (fun t ht _ => ⟨⟨_, (), rfl, rfl, by show va_P G.1 vwCl _ t.heap; rw [ht]; exact hP⟩, hS.F ht⟩) hS.2.2 dX5_isSo_170
        replace h := if_f cc_12 h
        by_cases cc_13 : u2 = 2
        · refine lv_tableIn (off := 62) (tgt := 111) hx hb dX5_isSo_49 (by rw [cc_13]; decide) (by rw [cc_13]; decide) (by rw [cc_13]; rfl) (by decide) ?_
          replace h := if_t cc_13 h
          refine lv_iload hx hb dX5_isSo_111 (lv_at hl 4 rfl) ?_
          refine lv_if_ne (tgt := 128) hx hb dX5_isSo_113 (by decide) (fun cc_14 => ?_) (fun cc_14 => ?_)
          · replace h := if_f cc_14 h
            refine lv_iconst (v := 0) hx hb dX5_isSo_128 (by decide) ?_
            cases h
            exact W.zret (ty := .boolean) hx hb hr (by decide) (fun t ht _ => ⟨⟨_, (), rfl, rfl, by show va_P G.1 vwCl _ t.heap; rw [ht]; exact hP⟩, hS.F ht⟩) hS.2.2 dX5_isSo_129
          · replace h := if_t cc_14 h
            refine lv_aload_n hx hb dX5_isSo_116 rfl (lv_at hl 0 rfl) ?_
            refine lv_aload_n hx hb dX5_isSo_117 rfl (lv_at hl 1 rfl) ?_
            obtain ⟨rr_15, dd_16, ee_17, h⟩ := bnd2_s h
            refine cFi (As := [.ref r0]) (rest := []) S0 hK hA hP (va_D_same hD rfl) hS (k_X5_tryVote l G x0 s0 s1 t0 t1 t2 t3 t4 t5 t6 n0 n1 n2 n3 r0 r1 r2 r3 a0 a1 p0 p1 p2 p3 k0 j0 X_ch S_len S_let T_br T_fa T_fd T_fp T_st T_kd T_fs T_fl N_gi N_be N_da N_du N_pl N_de R_gi R_be R_da R_du R_pl R_de A_fi A_si A_ce P_si P_be P_le P_go K_sl J_fi rr_15 dd_16 ee_17) cw_X5_tryVote 5 0 rfl rfl rfl rfl hl.1 rfl (Nat.le_of_ble_eq_true rfl) dX5_isSo_118 ⟨Nat.zero_le _, Nat.zero_le _⟩ (fun H locs hP hS => ?_)
            replace hP : va_P G.1 vwCl (W_F G x0 s0 s1 t0 t1 t2 t3 t4 t5 t6 n0 n1 n2 n3 r0 r1 r2 r3 a0 a1 p0 p1 p2 p3 k0 j0 X_ch S_len S_let T_br T_fa T_fd T_fp T_st T_kd T_fs T_fl N_gi N_be N_da N_du N_pl N_de dd_16 R_be R_da R_du R_pl R_de A_fi A_si A_ce P_si P_be P_le P_go K_sl J_fi) H := hP
            refine lv_if_eq (tgt := 128) hx hb dX5_isSo_121 (by decide) (fun cc_18 => ?_) (fun cc_18 => ?_)
            · replace h := if_t cc_18 h
              refine lv_iconst (v := 0) hx hb dX5_isSo_128 (by decide) ?_
              cases h
              exact W.zret (ty := .boolean) hx hb hr (by decide) (fun t ht _ => ⟨⟨_, (), rfl, rfl, by show va_P G.1 vwCl _ t.heap; rw [ht]; exact hP⟩, hS.F ht⟩) hS.2.2 dX5_isSo_129
            · replace h := if_f cc_18 h
              refine lv_iconst (v := 1) hx hb dX5_isSo_124 (by decide) ?_
              refine lv_goto (tgt := 129) hx hb dX5_isSo_125 (by decide) ?_
              cases h
              exact W.zret (ty := .boolean) hx hb hr (by decide) (fun t ht _ => ⟨⟨_, (), rfl, rfl, by show va_P G.1 vwCl _ t.heap; rw [ht]; exact hP⟩, hS.F ht⟩) hS.2.2 dX5_isSo_129
        replace h := if_f cc_13 h
        by_cases cc_19 : u2 = 3
        · refine lv_tableIn (off := 81) (tgt := 130) hx hb dX5_isSo_49 (by rw [cc_19]; decide) (by rw [cc_19]; decide) (by rw [cc_19]; rfl) (by decide) ?_
          replace h := if_t cc_19 h
          refine lv_aload_n hx hb dX5_isSo_130 rfl (lv_at hl 0 rfl) ?_
          refine lv_aload_n hx hb dX5_isSo_131 rfl (lv_at hl 1 rfl) ?_
          refine lv_iload hx hb dX5_isSo_132 (lv_at hl 4 rfl) ?_
          obtain ⟨rr_20, dd_21, ee_22, h⟩ := bnd2_s h
          refine cFi (As := [.ref r0, .int u4]) (rest := []) S0 hK hA hP (va_D_same hD rfl) hS (k_X5_tryBow l G x0 s0 s1 t0 t1 t2 t3 t4 t5 t6 n0 n1 n2 n3 r0 r1 r2 r3 a0 a1 p0 p1 p2 p3 k0 j0 X_ch S_len S_let T_br T_fa T_fd T_fp T_st T_kd T_fs T_fl N_gi N_be N_da N_du N_pl N_de R_gi R_be R_da R_du R_pl R_de A_fi A_si A_ce P_si P_be P_le P_go K_sl J_fi u4 rr_20 dd_21 ee_22) cw_X5_tryBow 5 0 rfl rfl rfl rfl hl.1 rfl (Nat.le_of_ble_eq_true rfl) dX5_isSo_134 ⟨Nat.zero_le _, Nat.zero_le _⟩ (fun H locs hP hS => ?_)
          replace hP : va_P G.1 vwCl (W_F G x0 s0 s1 t0 t1 t2 t3 t4 t5 t6 n0 n1 n2 n3 r0 r1 r2 r3 a0 a1 p0 p1 p2 p3 k0 j0 X_ch S_len S_let T_br T_fa T_fd T_fp T_st T_kd T_fs T_fl N_gi N_be N_da N_du N_pl N_de R_gi dd_21 R_da R_du R_pl R_de A_fi A_si A_ce P_si P_be P_le P_go K_sl J_fi) H := hP
          obtain ⟨zz_23, ee_24, h⟩ := bnd1_s h
          obtain ⟨rfl, gee_24, -⟩ := zr_s ee_24
          cases h
          exact W.zret (ty := .boolean) hx hb hr gee_24 (fun t ht _ => ⟨⟨_, (), rfl, rfl, by show va_P G.1 vwCl _ t.heap; rw [ht]; exact hP⟩, hS.F ht⟩) hS.2.2 dX5_isSo_137
        replace h := if_f cc_19 h
        by_cases cc_25 : u2 = 4
        · refine lv_tableIn (off := 89) (tgt := 138) hx hb dX5_isSo_49 (by rw [cc_25]; decide) (by rw [cc_25]; decide) (by rw [cc_25]; rfl) (by decide) ?_
          replace h := if_t cc_25 h
          refine lv_aload_n hx hb dX5_isSo_138 rfl (lv_at hl 0 rfl) ?_
          refine lv_aload_n hx hb dX5_isSo_139 rfl (lv_at hl 1 rfl) ?_
          refine lv_iload hx hb dX5_isSo_140 (lv_at hl 4 rfl) ?_
          obtain ⟨rr_26, dd_27, ee_28, h⟩ := bnd2_s h
          refine cFi (As := [.ref r0, .int u4]) (rest := []) S0 hK hA hP (va_D_same hD rfl) hS (k_X5_tryEmpty l G x0 s0 s1 t0 t1 t2 t3 t4 t5 t6 n0 n1 n2 n3 r0 r1 r2 r3 a0 a1 p0 p1 p2 p3 k0 j0 X_ch S_len S_let T_br T_fa T_fd T_fp T_st T_kd T_fs T_fl N_gi N_be N_da N_du N_pl N_de R_gi R_be R_da R_du R_pl R_de A_fi A_si A_ce P_si P_be P_le P_go K_sl J_fi u4 rr_26 dd_27 ee_28) cw_X5_tryEmpty 5 0 rfl rfl rfl rfl hl.1 rfl (Nat.le_of_ble_eq_true rfl) dX5_isSo_142 ⟨Nat.zero_le _, Nat.zero_le _⟩ (fun H locs hP hS => ?_)
          replace hP : va_P G.1 vwCl (W_F G x0 s0 s1 t0 t1 t2 t3 t4 t5 t6 n0 n1 n2 n3 r0 r1 r2 r3 a0 a1 p0 p1 p2 p3 k0 j0 X_ch S_len S_let T_br T_fa T_fd T_fp T_st T_kd T_fs T_fl N_gi N_be N_da N_du N_pl N_de R_gi R_be R_da dd_27 R_pl R_de A_fi A_si A_ce P_si P_be P_le P_go K_sl J_fi) H := hP
          obtain ⟨zz_29, ee_30, h⟩ := bnd1_s h
          obtain ⟨rfl, gee_30, -⟩ := zr_s ee_30
          cases h
          exact W.zret (ty := .boolean) hx hb hr gee_30 (fun t ht _ => ⟨⟨_, (), rfl, rfl, by show va_P G.1 vwCl _ t.heap; rw [ht]; exact hP⟩, hS.F ht⟩) hS.2.2 dX5_isSo_145
        replace h := if_f cc_25 h
        by_cases cc_31 : u2 = 5
        · refine lv_tableIn (off := 120) (tgt := 169) hx hb dX5_isSo_49 (by rw [cc_31]; decide) (by rw [cc_31]; decide) (by rw [cc_31]; rfl) (by decide) ?_
          replace h := if_t cc_31 h
          refine lv_iconst (v := 0) hx hb dX5_isSo_169 (by decide) ?_
          cases h
          exact W.zret (ty := .boolean) hx hb hr (by decide) (fun t ht _ => ⟨⟨_, (), rfl, rfl, by show va_P G.1 vwCl _ t.heap; rw [ht]; exact hP⟩, hS.F ht⟩) hS.2.2 dX5_isSo_170
        replace h := if_f cc_31 h
        by_cases cc_32 : u2 = 6
        · refine lv_tableIn (off := 97) (tgt := 146) hx hb dX5_isSo_49 (by rw [cc_32]; decide) (by rw [cc_32]; decide) (by rw [cc_32]; rfl) (by decide) ?_
          replace h := if_t cc_32 h
          refine lv_iload hx hb dX5_isSo_146 (lv_at hl 4 rfl) ?_
          obtain ⟨rr_33, ee_34, h⟩ := bnd1_s h
          refine cSi (As := [.int u4]) (rest := []) S0 hK hA hP (va_D_same hD rfl) hS [] (k_X5_isStreet l G u4 rr_33 ee_34) cw_X5_isStreet rfl rfl (Nat.le_of_ble_eq_true rfl) rfl hl.1 rfl (Nat.le_of_ble_eq_true rfl) dX5_isSo_148 ⟨Nat.zero_le _, Nat.zero_le _⟩ (fun H locs hP hS => ?_)
          replace hP : va_P G.1 vwCl (W_F G x0 s0 s1 t0 t1 t2 t3 t4 t5 t6 n0 n1 n2 n3 r0 r1 r2 r3 a0 a1 p0 p1 p2 p3 k0 j0 X_ch S_len S_let T_br T_fa T_fd T_fp T_st T_kd T_fs T_fl N_gi N_be N_da N_du N_pl N_de R_gi R_be R_da R_du R_pl R_de A_fi A_si A_ce P_si P_be P_le P_go K_sl J_fi) H := hP
          refine lv_if_eq (tgt := 167) hx hb dX5_isSo_151 (by decide) (fun cc_35 => ?_) (fun cc_35 => ?_)
          · replace h := if_t cc_35 h
            refine lv_iconst (v := 0) hx hb dX5_isSo_167 (by decide) ?_
            cases h
            exact W.zret (ty := .boolean) hx hb hr (by decide) (fun t ht _ => ⟨⟨_, (), rfl, rfl, by show va_P G.1 vwCl _ t.heap; rw [ht]; exact hP⟩, hS.F ht⟩) hS.2.2 dX5_isSo_168
          · replace h := if_f cc_35 h
            refine lv_aload_n hx hb dX5_isSo_154 rfl (lv_at hl 1 rfl) ?_
            refine lv_iload hx hb dX5_isSo_155 (lv_at hl 4 rfl) ?_
            obtain ⟨rr_36, ee_37, h⟩ := bnd1_s h
            refine cVi (As := [.int u4]) (rest := []) S0 hK hA hP (va_D_same hD rfl) hS [14, 15, 16, 17, 3, 4, 5, 6, 7, 8, 9] (k_X2_isDeep l G r0 r1 r2 r3 t0 t1 t2 t3 t4 t5 t6 R_gi R_be R_da R_du R_pl R_de T_br T_fa T_fd T_fp T_st T_kd T_fs T_fl u4 rr_36 ee_37) cw_X2_isDeep rfl rfl (Nat.le_of_ble_eq_true rfl) 2 0 rfl rfl rfl rfl hl.1 rfl (Nat.le_of_ble_eq_true rfl) dX5_isSo_157 ⟨Nat.zero_le _, Nat.zero_le _⟩ (fun H locs hP hS => ?_)
            replace hP : va_P G.1 vwCl (W_F G x0 s0 s1 t0 t1 t2 t3 t4 t5 t6 n0 n1 n2 n3 r0 r1 r2 r3 a0 a1 p0 p1 p2 p3 k0 j0 X_ch S_len S_let T_br T_fa T_fd T_fp T_st T_kd T_fs T_fl N_gi N_be N_da N_du N_pl N_de R_gi R_be R_da R_du R_pl R_de A_fi A_si A_ce P_si P_be P_le P_go K_sl J_fi) H := hP
            refine lv_if_eq (tgt := 167) hx hb dX5_isSo_160 (by decide) (fun cc_38 => ?_) (fun cc_38 => ?_)
            · replace h := if_t cc_38 h
              refine lv_iconst (v := 0) hx hb dX5_isSo_167 (by decide) ?_
              cases h
              exact W.zret (ty := .boolean) hx hb hr (by decide) (fun t ht _ => ⟨⟨_, (), rfl, rfl, by show va_P G.1 vwCl _ t.heap; rw [ht]; exact hP⟩, hS.F ht⟩) hS.2.2 dX5_isSo_168
            · replace h := if_f cc_38 h
              refine lv_iconst (v := 1) hx hb dX5_isSo_163 (by decide) ?_
              refine lv_goto (tgt := 168) hx hb dX5_isSo_164 (by decide) ?_
              cases h
              exact W.zret (ty := .boolean) hx hb hr (by decide) (fun t ht _ => ⟨⟨_, (), rfl, rfl, by show va_P G.1 vwCl _ t.heap; rw [ht]; exact hP⟩, hS.F ht⟩) hS.2.2 dX5_isSo_168
        replace h := if_f cc_32 h
        refine lv_tableOut (tgt := 169) hx hb dX5_isSo_49 (by have acc_4 := ne_toInt cc_4 (k := 0) (by decide); have acc_12 := ne_toInt cc_12 (k := 1) (by decide); have acc_13 := ne_toInt cc_13 (k := 2) (by decide); have acc_19 := ne_toInt cc_19 (k := 3) (by decide); have acc_25 := ne_toInt cc_25 (k := 4) (by decide); have acc_31 := ne_toInt cc_31 (k := 5) (by decide); have acc_32 := ne_toInt cc_32 (k := 6) (by decide); omega) (by decide) ?_
        refine lv_iconst (v := 0) hx hb dX5_isSo_169 (by decide) ?_
        cases h
        exact W.zret (ty := .boolean) hx hb hr (by decide) (fun t ht _ => ⟨⟨_, (), rfl, rfl, by show va_P G.1 vwCl _ t.heap; rw [ht]; exact hP⟩, hS.F ht⟩) hS.2.2 dX5_isSo_170
      · replace h := if_f cc_3 h
        refine lv_iconst (v := 0) hx hb dX5_isSo_46 (by decide) ?_
        cases h
        exact W.zret (ty := .boolean) hx hb hr (by decide) (fun t ht _ => ⟨⟨_, (), rfl, rfl, by show va_P G.1 vwCl _ t.heap; rw [ht]; exact hP⟩, hS.F ht⟩) hS.2.2 dX5_isSo_47
    · replace h := if_t cc_2 h
      refine lv_iload_n hx hb dX5_isSo_19 rfl (lv_at hl 3 rfl) ?_
      obtain ⟨rr_39, ee_40, h⟩ := bnd1_s h
      refine cSi (As := [.int u3]) (rest := []) S0 hK hA hP (va_D_same hD rfl) hS [] (k_X5_isStreet l G u3 rr_39 ee_40) cw_X5_isStreet rfl rfl (Nat.le_of_ble_eq_true rfl) rfl hl.1 rfl (Nat.le_of_ble_eq_true rfl) dX5_isSo_20 ⟨Nat.zero_le _, Nat.zero_le _⟩ (fun H locs hP hS => ?_)
      replace hP : va_P G.1 vwCl (W_F G x0 s0 s1 t0 t1 t2 t3 t4 t5 t6 n0 n1 n2 n3 r0 r1 r2 r3 a0 a1 p0 p1 p2 p3 k0 j0 X_ch S_len S_let T_br T_fa T_fd T_fp T_st T_kd T_fs T_fl N_gi N_be N_da N_du N_pl N_de R_gi R_be R_da R_du R_pl R_de A_fi A_si A_ce P_si P_be P_le P_go K_sl J_fi) H := hP
      refine lv_if_eq (tgt := 40) hx hb dX5_isSo_23 (by decide) (fun cc_41 => ?_) (fun cc_41 => ?_)
      · replace h := if_t cc_41 h
        refine lv_iconst (v := 0) hx hb dX5_isSo_40 (by decide) ?_
        cases h
        exact W.zret (ty := .boolean) hx hb hr (by decide) (fun t ht _ => ⟨⟨_, (), rfl, rfl, by show va_P G.1 vwCl _ t.heap; rw [ht]; exact hP⟩, hS.F ht⟩) hS.2.2 dX5_isSo_41
      · replace h := if_f cc_41 h
        refine lv_aload_n hx hb dX5_isSo_26 rfl (lv_at hl 1 rfl) ?_
        refine lv_iload_n hx hb dX5_isSo_27 rfl (lv_at hl 3 rfl) ?_
        obtain ⟨rr_42, ee_43, h⟩ := bnd1_s h
        refine cVi (As := [.int u3]) (rest := []) S0 hK hA hP (va_D_same hD rfl) hS [14, 15, 16, 17, 3, 4, 5, 6, 7, 8, 9] (k_X2_dustIn l G r0 r1 r2 r3 t0 t1 t2 t3 t4 t5 t6 R_gi R_be R_da R_du R_pl R_de T_br T_fa T_fd T_fp T_st T_kd T_fs T_fl u3 rr_42 ee_43) cw_X2_dustIn rfl rfl (Nat.le_of_ble_eq_true rfl) 2 0 rfl rfl rfl rfl hl.1 rfl (Nat.le_of_ble_eq_true rfl) dX5_isSo_28 ⟨Nat.zero_le _, Nat.zero_le _⟩ (fun H locs hP hS => ?_)
        replace hP : va_P G.1 vwCl (W_F G x0 s0 s1 t0 t1 t2 t3 t4 t5 t6 n0 n1 n2 n3 r0 r1 r2 r3 a0 a1 p0 p1 p2 p3 k0 j0 X_ch S_len S_let T_br T_fa T_fd T_fp T_st T_kd T_fs T_fl N_gi N_be N_da N_du N_pl N_de R_gi R_be R_da R_du R_pl R_de A_fi A_si A_ce P_si P_be P_le P_go K_sl J_fi) H := hP
        refine lv_iload hx hb dX5_isSo_31 (lv_at hl 4 rfl) ?_
        refine lv_icmp_lt (tgt := 40) hx hb dX5_isSo_33 (by decide) (fun cc_44 => ?_) (fun cc_44 => ?_)
        · replace h := if_t cc_44 h
          refine lv_iconst (v := 0) hx hb dX5_isSo_40 (by decide) ?_
          cases h
          exact W.zret (ty := .boolean) hx hb hr (by decide) (fun t ht _ => ⟨⟨_, (), rfl, rfl, by show va_P G.1 vwCl _ t.heap; rw [ht]; exact hP⟩, hS.F ht⟩) hS.2.2 dX5_isSo_41
        · replace h := if_f cc_44 h
          refine lv_iconst (v := 1) hx hb dX5_isSo_36 (by decide) ?_
          refine lv_goto (tgt := 41) hx hb dX5_isSo_37 (by decide) ?_
          cases h
          exact W.zret (ty := .boolean) hx hb hr (by decide) (fun t ht _ => ⟨⟨_, (), rfl, rfl, by show va_P G.1 vwCl _ t.heap; rw [ht]; exact hP⟩, hS.F ht⟩) hS.2.2 dX5_isSo_41
  · replace h := if_t cc_1 h
    refine lv_aload_n hx hb dX5_isSo_5 rfl (lv_at hl 0 rfl) ?_
    refine lv_aload_n hx hb dX5_isSo_6 rfl (lv_at hl 1 rfl) ?_
    refine lv_iload_n hx hb dX5_isSo_7 rfl (lv_at hl 3 rfl) ?_
    refine lv_iload hx hb dX5_isSo_8 (lv_at hl 4 rfl) ?_
    obtain ⟨rr_45, dd_46, ee_47, h⟩ := bnd2_s h
    refine cFi (As := [.ref r0, .int u3, .int u4]) (rest := []) S0 hK hA hP (va_D_same hD rfl) hS (k_X5_tryStep l G x0 s0 s1 t0 t1 t2 t3 t4 t5 t6 n0 n1 n2 n3 r0 r1 r2 r3 a0 a1 p0 p1 p2 p3 k0 j0 X_ch S_len S_let T_br T_fa T_fd T_fp T_st T_kd T_fs T_fl N_gi N_be N_da N_du N_pl N_de R_gi R_be R_da R_du R_pl R_de A_fi A_si A_ce P_si P_be P_le P_go K_sl J_fi u3 u4 rr_45 dd_46 ee_47) cw_X5_tryStep 5 0 rfl rfl rfl rfl hl.1 rfl (Nat.le_of_ble_eq_true rfl) dX5_isSo_10 ⟨Nat.zero_le _, Nat.zero_le _⟩ (fun H locs hP hS => ?_)
    replace hP : va_P G.1 vwCl (W_F G x0 s0 s1 t0 t1 t2 t3 t4 t5 t6 n0 n1 n2 n3 r0 r1 r2 r3 a0 a1 p0 p1 p2 p3 k0 j0 X_ch S_len S_let T_br T_fa T_fd T_fp T_st T_kd T_fs T_fl N_gi N_be N_da N_du N_pl N_de R_gi R_be R_da R_du dd_46 R_de A_fi A_si A_ce P_si P_be P_le P_go K_sl J_fi) H := hP
    obtain ⟨zz_48, ee_49, h⟩ := bnd1_s h
    obtain ⟨rfl, gee_49, -⟩ := zr_s ee_49
    cases h
    exact W.zret (ty := .boolean) hx hb hr gee_49 (fun t ht _ => ⟨⟨_, (), rfl, rfl, by show va_P G.1 vwCl _ t.heap; rw [ht]; exact hP⟩, hS.F ht⟩) hS.2.2 dX5_isSo_13
