def f_X6_bend (Y_br : Int32) (Y_ac : Int32) (Y_nx : Int32) (Y_now : Nat → Int32) (Y_row : Nat → Int32) (u1 : Int32) : Option (Int32 × Int32 × Int32 × (Nat → Int32) × (Nat → Int32)) := bnd1 (f_X6_isBroom Y_br u1) (fun rr_1 => if rr_1 = 0 then (some (((-1) : Int32), Y_ac, Y_nx, Y_now, Y_row)) else (bnd1 (rd Y_now 32 (14 : Int32)) (fun zz_4 => bnd1 (f_X6_has zz_4 u1) (fun rr_6 => if rr_6 = 0 then (bnd3 (f_X6_keepAct Y_ac Y_nx Y_now Y_row) (fun dd_9 dd_10 dd_11 => bnd1 (rd Y_now 32 (14 : Int32)) (fun zz_13 => bnd1 (wr Y_now 32 (14 : Int32) (zz_13 ||| ((1 : Int32) <<< (u1 &&& 31)))) (fun dd_15 => bnd1 (rd dd_15 32 (14 : Int32)) (fun zz_17 => bnd1 (f_X6_ones zz_17) (fun rr_19 => some (rr_19, dd_9, dd_10, dd_15, dd_11))))))) else (some (((-3) : Int32), Y_ac, Y_nx, Y_now, Y_row))))))
set_option maxRecDepth 100000 in
set_option maxHeartbeats 4000000 in
theorem k_X6_bend (l : Launch) (G : Gt) (y0 y1 y2 y3 y4 y5 y6 y7 y8 y9 y10 y11 y12 y13 y14 y15 : Nat) (Y_br : Int32) (Y_fa : Int32) (Y_rbs : Int32) (Y_rfs : Int32) (Y_len : Int32) (Y_at : Int32) (Y_fau : Int32) (Y_wk : Int32) (Y_ac : Int32) (Y_nx : Int32) (Y_hs : Int32) (Y_sd : Int64) (Y_st : Nat → Int32) (Y_kd : Nat → Int32) (Y_fs : Nat → Int32) (Y_fl : Nat → Int32) (Y_now : Nat → Int32) (Y_rd : Nat → Int32) (Y_rb : Nat → Int32) (Y_rf : Nat → Int32) (Y_tx : Nat → Int32) (Y_row : Nat → Int32) (Y_hh : Nat → Int32) (Y_hl : Nat → Int32) (Y_hw : Nat → Int32) (Y_ik : Nat → Int32) (Y_kp : Nat → Int32) (u1 : Int32) (r_ : Int32) (o_Y_ac : Int32) (o_Y_nx : Int32) (o_Y_now : Nat → Int32) (o_Y_row : Nat → Int32) (h : f_X6_bend Y_br Y_ac Y_nx Y_now Y_row u1 = some (r_, o_Y_ac, o_Y_nx, o_Y_now, o_Y_row)) : CT l yX6_bend wsX6_bend 2 46 G [.ref y0, .int u1] (W_Y G y0 y1 y2 y3 y4 y5 y6 y7 y8 y9 y10 y11 y12 y13 y14 y15 Y_br Y_fa Y_rbs Y_rfs Y_len Y_at Y_fau Y_wk Y_ac Y_nx Y_hs Y_sd Y_st Y_kd Y_fs Y_fl Y_now Y_rd Y_rb Y_rf Y_tx Y_row Y_hh Y_hl Y_hw Y_ik Y_kp) (QI G r_ (W_Y G y0 y1 y2 y3 y4 y5 y6 y7 y8 y9 y10 y11 y12 y13 y14 y15 Y_br Y_fa Y_rbs Y_rfs Y_len Y_at Y_fau Y_wk o_Y_ac o_Y_nx Y_hs Y_sd Y_st Y_kd Y_fs Y_fl o_Y_now Y_rd Y_rb Y_rf Y_tx o_Y_row Y_hh Y_hl Y_hw Y_ik Y_kp)) := by
  refine met_of cX6_bend 2 (some .int) (by decide) rfl (Nat.le_of_ble_eq_true rfl) ?_
  intro p e s m below meth c A ls hx hb hr hml hts hown hlocks hK hA hD hP hS hl
  replace hown : s.vm.findClass RX6 = some m.cls := hown
  replace hl : lv_has ls 2 [(0, .ref y0), (1, .int u1)] := hl
  have S0 : CallFix p m c cX6_bend 2 s _ wsX6_bend RX6 := ⟨hx, hb, hml, hown, hts⟩
  have cw_X6_isBroom := show CallW (rmv 2 46) s _ RX6 RX6 134 yX6_isBroom cX6_isBroom 2 (some .boolean) wsX6_isBroom (rmv 1 25) 0 0 1 from cwV 1 hts gX6_bend_X6_isBroom rfl rfl rfl (by decide +kernel) ⟨Nat.le_of_ble_eq_true rfl, Nat.le_of_ble_eq_true rfl⟩
  have fl22 := hts (.fieldLink RX6 22 "DustVoteModel" "now" "[I") (by decide +kernel)
  have inX6 := show ∀ w ∈ wsX60, w ∈ wsX6_bend from by decide +kernel
  have cw_X6_has := show CallB (rmv 2 46) s _ RX6 104 yX6_has cX6_has 2 (some .boolean) wsX6_has (rmv 0 0) 0 0 2 ∧ (Cond.static yX6_has).before _ s = true from va_cwS 2 hts gX6_bend_X6_has rfl rfl rfl (by decide +kernel) ⟨Nat.le_of_ble_eq_true rfl, Nat.le_of_ble_eq_true rfl⟩
  have cw_X6_keepAct := show CallW (rmv 2 46) s _ RX6 RX6 140 yX6_keepAct cX6_keepAct 2 none wsX6_keepAct (rmv 0 0) 0 0 0 from cwV 0 hts gX6_bend_X6_keepAct rfl rfl rfl (by decide +kernel) ⟨Nat.le_of_ble_eq_true rfl, Nat.le_of_ble_eq_true rfl⟩
  have cw_X6_ones := show CallB (rmv 2 46) s _ RX6 152 yX6_ones cX6_ones 3 (some .int) wsX6_ones (rmv 0 0) 0 0 1 ∧ (Cond.static yX6_ones).before _ s = true from va_cwS 1 hts gX6_bend_X6_ones rfl rfl rfl (by decide +kernel) ⟨Nat.le_of_ble_eq_true rfl, Nat.le_of_ble_eq_true rfl⟩
  unfold f_X6_bend at h
  refine lv_aload_n hx hb dX6_bend_0 rfl (lv_at hl 0 rfl) ?_
  refine lv_iload_n hx hb dX6_bend_1 rfl (lv_at hl 1 rfl) ?_
  obtain ⟨rr_1, ee_2, h⟩ := bnd1_s h
  refine cFi (As := [.int u1]) (rest := []) S0 hK hA hP (va_D_same hD rfl) hS (k_X6_isBroom l G y0 y1 y2 y3 y4 y5 y6 y7 y8 y9 y10 y11 y12 y13 y14 y15 Y_br Y_fa Y_rbs Y_rfs Y_len Y_at Y_fau Y_wk Y_ac Y_nx Y_hs Y_sd Y_st Y_kd Y_fs Y_fl Y_now Y_rd Y_rb Y_rf Y_tx Y_row Y_hh Y_hl Y_hw Y_ik Y_kp u1 rr_1 ee_2) cw_X6_isBroom 6 0 rfl rfl rfl rfl hl.1 rfl (Nat.le_of_ble_eq_true rfl) dX6_bend_2 ⟨Nat.zero_le _, Nat.zero_le _⟩ (fun H locs hP hS => ?_)
  replace hP : va_P G.1 vwCl (W_Y G y0 y1 y2 y3 y4 y5 y6 y7 y8 y9 y10 y11 y12 y13 y14 y15 Y_br Y_fa Y_rbs Y_rfs Y_len Y_at Y_fau Y_wk Y_ac Y_nx Y_hs Y_sd Y_st Y_kd Y_fs Y_fl Y_now Y_rd Y_rb Y_rf Y_tx Y_row Y_hh Y_hl Y_hw Y_ik Y_kp) H := hP
  refine lv_if_ne (tgt := 10) hx hb dX6_bend_5 (by decide) (fun cc_3 => ?_) (fun cc_3 => ?_)
  · replace h := if_f cc_3 h
    refine lv_aload_n hx hb dX6_bend_10 rfl (lv_at hl 0 rfl) ?_
    refine va_get (ci := 6) (C := RX6) (T := TX6) (N := 27) hx hb hts inX6 hown hK.1 hP 0 rfl rfl 6 (by decide) fl22 (fun _ h9 => h9) rfl dX6_bend_11 ?_
    refine lv_bipush (v := 14) hx hb dX6_bend_14 (by decide) ?_
    obtain ⟨zz_4, ee_5, h⟩ := bnd1_s h
    refine wIald hx hb hK hP 5 rfl ee_5 dX6_bend_16 ?_
    refine lv_iload_n hx hb dX6_bend_17 rfl (lv_at hl 1 rfl) ?_
    obtain ⟨rr_6, ee_7, h⟩ := bnd1_s h
    refine cSi (As := [.int zz_4, .int u1]) (rest := []) S0 hK hA hP (va_D_same hD rfl) hS [] (k_X6_has l G zz_4 u1 rr_6 ee_7) cw_X6_has rfl rfl (Nat.le_of_ble_eq_true rfl) rfl hl.1 rfl (Nat.le_of_ble_eq_true rfl) dX6_bend_18 ⟨Nat.zero_le _, Nat.zero_le _⟩ (fun H locs hP hS => ?_)
    replace hP : va_P G.1 vwCl (W_Y G y0 y1 y2 y3 y4 y5 y6 y7 y8 y9 y10 y11 y12 y13 y14 y15 Y_br Y_fa Y_rbs Y_rfs Y_len Y_at Y_fau Y_wk Y_ac Y_nx Y_hs Y_sd Y_st Y_kd Y_fs Y_fl Y_now Y_rd Y_rb Y_rf Y_tx Y_row Y_hh Y_hl Y_hw Y_ik Y_kp) H := hP
    refine lv_if_eq (tgt := 27) hx hb dX6_bend_21 (by decide) (fun cc_8 => ?_) (fun cc_8 => ?_)
    · replace h := if_t cc_8 h
      refine lv_aload_n hx hb dX6_bend_27 rfl (lv_at hl 0 rfl) ?_
      obtain ⟨dd_9, dd_10, dd_11, ee_12, h⟩ := bnd3_s h
      refine cFv (As := []) (rest := []) S0 hK hA hP (va_D_same hD rfl) hS (k_X6_keepAct l G y0 y1 y2 y3 y4 y5 y6 y7 y8 y9 y10 y11 y12 y13 y14 y15 Y_br Y_fa Y_rbs Y_rfs Y_len Y_at Y_fau Y_wk Y_ac Y_nx Y_hs Y_sd Y_st Y_kd Y_fs Y_fl Y_now Y_rd Y_rb Y_rf Y_tx Y_row Y_hh Y_hl Y_hw Y_ik Y_kp dd_9 dd_10 dd_11 ee_12) cw_X6_keepAct 6 0 rfl rfl rfl rfl hl.1 rfl (Nat.le_of_ble_eq_true rfl) dX6_bend_28 ⟨Nat.zero_le _, Nat.zero_le _⟩ (fun H locs hP hS => ?_)
      replace hP : va_P G.1 vwCl (W_Y G y0 y1 y2 y3 y4 y5 y6 y7 y8 y9 y10 y11 y12 y13 y14 y15 Y_br Y_fa Y_rbs Y_rfs Y_len Y_at Y_fau Y_wk dd_9 dd_10 Y_hs Y_sd Y_st Y_kd Y_fs Y_fl Y_now Y_rd Y_rb Y_rf Y_tx dd_11 Y_hh Y_hl Y_hw Y_ik Y_kp) H := hP
      refine lv_aload_n hx hb dX6_bend_31 rfl (lv_at hl 0 rfl) ?_
      refine va_get (ci := 6) (C := RX6) (T := TX6) (N := 27) hx hb hts inX6 hown hK.1 hP 0 rfl rfl 6 (by decide) fl22 (fun _ h9 => h9) rfl dX6_bend_32 ?_
      refine lv_bipush (v := 14) hx hb dX6_bend_35 (by decide) ?_
      refine lv_dup2_11 hx hb dX6_bend_37 rfl rfl ?_
      obtain ⟨zz_13, ee_14, h⟩ := bnd1_s h
      refine wIald hx hb hK hP 5 rfl ee_14 dX6_bend_38 ?_
      refine lv_iconst (v := 1) hx hb dX6_bend_39 (by decide) ?_
      refine lv_iload_n hx hb dX6_bend_40 rfl (lv_at hl 1 rfl) ?_
      refine lv_ishl hx hb dX6_bend_41 ?_
      refine lv_ior hx hb dX6_bend_42 ?_
      obtain ⟨dd_15, ee_16, h⟩ := bnd1_s h
      refine wIast hx hb hK hP (va_D_same hD rfl) hS 5 rfl ee_16 dX6_bend_43 (fun H locs hP hS => ?_)
      replace hP : va_P G.1 vwCl (W_Y G y0 y1 y2 y3 y4 y5 y6 y7 y8 y9 y10 y11 y12 y13 y14 y15 Y_br Y_fa Y_rbs Y_rfs Y_len Y_at Y_fau Y_wk dd_9 dd_10 Y_hs Y_sd Y_st Y_kd Y_fs Y_fl dd_15 Y_rd Y_rb Y_rf Y_tx dd_11 Y_hh Y_hl Y_hw Y_ik Y_kp) H := hP
      refine lv_aload_n hx hb dX6_bend_44 rfl (lv_at hl 0 rfl) ?_
      refine va_get (ci := 6) (C := RX6) (T := TX6) (N := 27) hx hb hts inX6 hown hK.1 hP 0 rfl rfl 6 (by decide) fl22 (fun _ h9 => h9) rfl dX6_bend_45 ?_
      refine lv_bipush (v := 14) hx hb dX6_bend_48 (by decide) ?_
      obtain ⟨zz_17, ee_18, h⟩ := bnd1_s h
      refine wIald hx hb hK hP 5 rfl ee_18 dX6_bend_50 ?_
      obtain ⟨rr_19, ee_20, h⟩ := bnd1_s h
      refine cSi (As := [.int zz_17]) (rest := []) S0 hK hA hP (va_D_same hD rfl) hS [] (k_X6_ones l G zz_17 rr_19 ee_20) cw_X6_ones rfl rfl (Nat.le_of_ble_eq_true rfl) rfl hl.1 rfl (Nat.le_of_ble_eq_true rfl) dX6_bend_51 ⟨Nat.zero_le _, Nat.zero_le _⟩ (fun H locs hP hS => ?_)
      replace hP : va_P G.1 vwCl (W_Y G y0 y1 y2 y3 y4 y5 y6 y7 y8 y9 y10 y11 y12 y13 y14 y15 Y_br Y_fa Y_rbs Y_rfs Y_len Y_at Y_fau Y_wk dd_9 dd_10 Y_hs Y_sd Y_st Y_kd Y_fs Y_fl dd_15 Y_rd Y_rb Y_rf Y_tx dd_11 Y_hh Y_hl Y_hw Y_ik Y_kp) H := hP
      cases h
      exact W.iret hx hb hr (fun t ht _ => ⟨⟨_, (), rfl, rfl, by show va_P G.1 vwCl _ t.heap; rw [ht]; exact hP⟩, hS.F ht⟩) hS.2.2 dX6_bend_54
    · replace h := if_f cc_8 h
      refine lv_bipush (v := (-3)) hx hb dX6_bend_24 (by decide) ?_
      cases h
      exact W.iret hx hb hr (fun t ht _ => ⟨⟨_, (), rfl, rfl, by show va_P G.1 vwCl _ t.heap; rw [ht]; exact hP⟩, hS.F ht⟩) hS.2.2 dX6_bend_26
  · replace h := if_t cc_3 h
    refine lv_iconst (v := (-1)) hx hb dX6_bend_8 (by decide) ?_
    cases h
    exact W.iret hx hb hr (fun t ht _ => ⟨⟨_, (), rfl, rfl, by show va_P G.1 vwCl _ t.heap; rw [ht]; exact hP⟩, hS.F ht⟩) hS.2.2 dX6_bend_9
def f_X6_hand (Y_ac : Int32) (Y_nx : Int32) (Y_now : Nat → Int32) (Y_row : Nat → Int32) (u1 : Int32) : Option (Int32 × Int32 × Int32 × (Nat → Int32) × (Nat → Int32)) := bnd1 (f_X6_isStreet u1) (fun rr_1 => if rr_1 = 0 then (some (((-1) : Int32), Y_ac, Y_nx, Y_now, Y_row)) else (bnd1 (rd Y_now 32 u1) (fun zz_4 => if zz_4 = 0 then (some (((-3) : Int32), Y_ac, Y_nx, Y_now, Y_row)) else (bnd3 (f_X6_keepAct Y_ac Y_nx Y_now Y_row) (fun dd_7 dd_8 dd_9 => bnd1 (rd Y_now 32 u1) (fun zz_11 => bnd1 (wr Y_now 32 u1 (0 : Int32)) (fun dd_13 => some (zz_11, dd_7, dd_8, dd_13, dd_9))))))))
set_option maxRecDepth 100000 in
set_option maxHeartbeats 4000000 in
theorem k_X6_hand (l : Launch) (G : Gt) (y0 y1 y2 y3 y4 y5 y6 y7 y8 y9 y10 y11 y12 y13 y14 y15 : Nat) (Y_br : Int32) (Y_fa : Int32) (Y_rbs : Int32) (Y_rfs : Int32) (Y_len : Int32) (Y_at : Int32) (Y_fau : Int32) (Y_wk : Int32) (Y_ac : Int32) (Y_nx : Int32) (Y_hs : Int32) (Y_sd : Int64) (Y_st : Nat → Int32) (Y_kd : Nat → Int32) (Y_fs : Nat → Int32) (Y_fl : Nat → Int32) (Y_now : Nat → Int32) (Y_rd : Nat → Int32) (Y_rb : Nat → Int32) (Y_rf : Nat → Int32) (Y_tx : Nat → Int32) (Y_row : Nat → Int32) (Y_hh : Nat → Int32) (Y_hl : Nat → Int32) (Y_hw : Nat → Int32) (Y_ik : Nat → Int32) (Y_kp : Nat → Int32) (u1 : Int32) (r_ : Int32) (o_Y_ac : Int32) (o_Y_nx : Int32) (o_Y_now : Nat → Int32) (o_Y_row : Nat → Int32) (h : f_X6_hand Y_ac Y_nx Y_now Y_row u1 = some (r_, o_Y_ac, o_Y_nx, o_Y_now, o_Y_row)) : CT l yX6_hand wsX6_hand 2 45 G [.ref y0, .int u1] (W_Y G y0 y1 y2 y3 y4 y5 y6 y7 y8 y9 y10 y11 y12 y13 y14 y15 Y_br Y_fa Y_rbs Y_rfs Y_len Y_at Y_fau Y_wk Y_ac Y_nx Y_hs Y_sd Y_st Y_kd Y_fs Y_fl Y_now Y_rd Y_rb Y_rf Y_tx Y_row Y_hh Y_hl Y_hw Y_ik Y_kp) (QI G r_ (W_Y G y0 y1 y2 y3 y4 y5 y6 y7 y8 y9 y10 y11 y12 y13 y14 y15 Y_br Y_fa Y_rbs Y_rfs Y_len Y_at Y_fau Y_wk o_Y_ac o_Y_nx Y_hs Y_sd Y_st Y_kd Y_fs Y_fl o_Y_now Y_rd Y_rb Y_rf Y_tx o_Y_row Y_hh Y_hl Y_hw Y_ik Y_kp)) := by
  refine met_of cX6_hand 3 (some .int) (by decide) rfl (Nat.le_of_ble_eq_true rfl) ?_
  intro p e s m below meth c A ls hx hb hr hml hts hown hlocks hK hA hD hP hS hl
  replace hown : s.vm.findClass RX6 = some m.cls := hown
  replace hl : lv_has ls 3 [(0, .ref y0), (1, .int u1)] := hl
  have S0 : CallFix p m c cX6_hand 3 s _ wsX6_hand RX6 := ⟨hx, hb, hml, hown, hts⟩
  have cw_X6_isStreet := show CallB (rmv 2 45) s _ RX6 127 yX6_isStreet cX6_isStreet 1 (some .boolean) wsX6_isStreet (rmv 1 25) 0 0 1 ∧ (Cond.static yX6_isStreet).before _ s = true from va_cwS 1 hts gX6_hand_X6_isStreet rfl rfl rfl (by decide +kernel) ⟨Nat.le_of_ble_eq_true rfl, Nat.le_of_ble_eq_true rfl⟩
  have fl22 := hts (.fieldLink RX6 22 "DustVoteModel" "now" "[I") (by decide +kernel)
  have inX6 := show ∀ w ∈ wsX60, w ∈ wsX6_hand from by decide +kernel
  have cw_X6_keepAct := show CallW (rmv 2 45) s _ RX6 RX6 140 yX6_keepAct cX6_keepAct 2 none wsX6_keepAct (rmv 0 0) 0 0 0 from cwV 0 hts gX6_hand_X6_keepAct rfl rfl rfl (by decide +kernel) ⟨Nat.le_of_ble_eq_true rfl, Nat.le_of_ble_eq_true rfl⟩
  unfold f_X6_hand at h
  refine lv_iload_n hx hb dX6_hand_0 rfl (lv_at hl 1 rfl) ?_
  obtain ⟨rr_1, ee_2, h⟩ := bnd1_s h
  refine cSi (As := [.int u1]) (rest := []) S0 hK hA hP (va_D_same hD rfl) hS [] (k_X6_isStreet l G u1 rr_1 ee_2) cw_X6_isStreet rfl rfl (Nat.le_of_ble_eq_true rfl) rfl hl.1 rfl (Nat.le_of_ble_eq_true rfl) dX6_hand_1 ⟨Nat.zero_le _, Nat.zero_le _⟩ (fun H locs hP hS => ?_)
  replace hP : va_P G.1 vwCl (W_Y G y0 y1 y2 y3 y4 y5 y6 y7 y8 y9 y10 y11 y12 y13 y14 y15 Y_br Y_fa Y_rbs Y_rfs Y_len Y_at Y_fau Y_wk Y_ac Y_nx Y_hs Y_sd Y_st Y_kd Y_fs Y_fl Y_now Y_rd Y_rb Y_rf Y_tx Y_row Y_hh Y_hl Y_hw Y_ik Y_kp) H := hP
  refine lv_if_ne (tgt := 9) hx hb dX6_hand_4 (by decide) (fun cc_3 => ?_) (fun cc_3 => ?_)
  · replace h := if_f cc_3 h
    refine lv_aload_n hx hb dX6_hand_9 rfl (lv_at hl 0 rfl) ?_
    refine va_get (ci := 6) (C := RX6) (T := TX6) (N := 27) hx hb hts inX6 hown hK.1 hP 0 rfl rfl 6 (by decide) fl22 (fun _ h9 => h9) rfl dX6_hand_10 ?_
    refine lv_iload_n hx hb dX6_hand_13 rfl (lv_at hl 1 rfl) ?_
    obtain ⟨zz_4, ee_5, h⟩ := bnd1_s h
    refine wIald hx hb hK hP 5 rfl ee_5 dX6_hand_14 ?_
    refine lv_if_ne (tgt := 21) hx hb dX6_hand_15 (by decide) (fun cc_6 => ?_) (fun cc_6 => ?_)
    · replace h := if_f cc_6 h
      refine lv_aload_n hx hb dX6_hand_21 rfl (lv_at hl 0 rfl) ?_
      obtain ⟨dd_7, dd_8, dd_9, ee_10, h⟩ := bnd3_s h
      refine cFv (As := []) (rest := []) S0 hK hA hP (va_D_same hD rfl) hS (k_X6_keepAct l G y0 y1 y2 y3 y4 y5 y6 y7 y8 y9 y10 y11 y12 y13 y14 y15 Y_br Y_fa Y_rbs Y_rfs Y_len Y_at Y_fau Y_wk Y_ac Y_nx Y_hs Y_sd Y_st Y_kd Y_fs Y_fl Y_now Y_rd Y_rb Y_rf Y_tx Y_row Y_hh Y_hl Y_hw Y_ik Y_kp dd_7 dd_8 dd_9 ee_10) cw_X6_keepAct 6 0 rfl rfl rfl rfl hl.1 rfl (Nat.le_of_ble_eq_true rfl) dX6_hand_22 ⟨Nat.zero_le _, Nat.zero_le _⟩ (fun H locs hP hS => ?_)
      replace hP : va_P G.1 vwCl (W_Y G y0 y1 y2 y3 y4 y5 y6 y7 y8 y9 y10 y11 y12 y13 y14 y15 Y_br Y_fa Y_rbs Y_rfs Y_len Y_at Y_fau Y_wk dd_7 dd_8 Y_hs Y_sd Y_st Y_kd Y_fs Y_fl Y_now Y_rd Y_rb Y_rf Y_tx dd_9 Y_hh Y_hl Y_hw Y_ik Y_kp) H := hP
      refine lv_aload_n hx hb dX6_hand_25 rfl (lv_at hl 0 rfl) ?_
      refine va_get (ci := 6) (C := RX6) (T := TX6) (N := 27) hx hb hts inX6 hown hK.1 hP 0 rfl rfl 6 (by decide) fl22 (fun _ h9 => h9) rfl dX6_hand_26 ?_
      refine lv_iload_n hx hb dX6_hand_29 rfl (lv_at hl 1 rfl) ?_
      obtain ⟨zz_11, ee_12, h⟩ := bnd1_s h
      refine wIald hx hb hK hP 5 rfl ee_12 dX6_hand_30 ?_
      refine lv_istore_n (lv' := [(2, .int zz_11), (0, .ref y0), (1, .int u1)]) hx hb dX6_hand_31 rfl hl (by decide) rfl (fun ls hl => ?_)
      refine lv_aload_n hx hb dX6_hand_32 rfl (lv_at hl 1 rfl) ?_
      refine va_get (ci := 6) (C := RX6) (T := TX6) (N := 27) hx hb hts inX6 hown hK.1 hP 0 rfl rfl 6 (by decide) fl22 (fun _ h9 => h9) rfl dX6_hand_33 ?_
      refine lv_iload_n hx hb dX6_hand_36 rfl (lv_at hl 2 rfl) ?_
      refine lv_iconst (v := 0) hx hb dX6_hand_37 (by decide) ?_
      obtain ⟨dd_13, ee_14, h⟩ := bnd1_s h
      refine wIast hx hb hK hP (va_D_same hD rfl) hS 5 rfl ee_14 dX6_hand_38 (fun H locs hP hS => ?_)
      replace hP : va_P G.1 vwCl (W_Y G y0 y1 y2 y3 y4 y5 y6 y7 y8 y9 y10 y11 y12 y13 y14 y15 Y_br Y_fa Y_rbs Y_rfs Y_len Y_at Y_fau Y_wk dd_7 dd_8 Y_hs Y_sd Y_st Y_kd Y_fs Y_fl dd_13 Y_rd Y_rb Y_rf Y_tx dd_9 Y_hh Y_hl Y_hw Y_ik Y_kp) H := hP
      refine lv_iload_n hx hb dX6_hand_39 rfl (lv_at hl 0 rfl) ?_
      cases h
      exact W.iret hx hb hr (fun t ht _ => ⟨⟨_, (), rfl, rfl, by show va_P G.1 vwCl _ t.heap; rw [ht]; exact hP⟩, hS.F ht⟩) hS.2.2 dX6_hand_40
    · replace h := if_t cc_6 h
      refine lv_bipush (v := (-3)) hx hb dX6_hand_18 (by decide) ?_
      cases h
      exact W.iret hx hb hr (fun t ht _ => ⟨⟨_, (), rfl, rfl, by show va_P G.1 vwCl _ t.heap; rw [ht]; exact hP⟩, hS.F ht⟩) hS.2.2 dX6_hand_20
  · replace h := if_t cc_3 h
    refine lv_iconst (v := (-1)) hx hb dX6_hand_7 (by decide) ?_
    cases h
    exact W.iret hx hb hr (fun t ht _ => ⟨⟨_, (), rfl, rfl, by show va_P G.1 vwCl _ t.heap; rw [ht]; exact hP⟩, hS.F ht⟩) hS.2.2 dX6_hand_8
