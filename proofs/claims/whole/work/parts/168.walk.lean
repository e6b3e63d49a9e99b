def f_X6_isRest (Y_br : Int32) (Y_fa : Int32) (Y_wk : Int32) (Y_st : Nat → Int32) (Y_kd : Nat → Int32) (Y_fs : Nat → Int32) (Y_fl : Nat → Int32) (Y_now : Nat → Int32) (u1 : Int32) (u2 : Int32) (u3 : Int32) (u4 : Int32) : Option (Int32 × Int32 × (Nat → Int32)) := bnd3 (f_X6_gain Y_br Y_fa Y_wk Y_st Y_kd Y_fs Y_fl Y_now u1 u2 ((1 : Int32) - u3) u4) (fun rr_1 dd_2 dd_3 => bnd3 (f_X6_gain Y_br Y_fa dd_2 Y_st Y_kd Y_fs Y_fl dd_3 u1 u2 u3 u4) (fun rr_5 dd_6 dd_7 => if rr_5 < rr_1 then (some ((0 : Int32), dd_6, dd_7)) else (bnd3 (f_X6_gain Y_br Y_fa dd_6 Y_st Y_kd Y_fs Y_fl dd_7 u2 u1 ((1 : Int32) - u4) u3) (fun rr_10 dd_11 dd_12 => bnd3 (f_X6_gain Y_br Y_fa dd_11 Y_st Y_kd Y_fs Y_fl dd_12 u2 u1 u4 u3) (fun rr_14 dd_15 dd_16 => if rr_14 < rr_10 then (some ((0 : Int32), dd_15, dd_16)) else (some ((1 : Int32), dd_15, dd_16)))))))
set_option maxRecDepth 100000 in
set_option maxHeartbeats 4000000 in
theorem k_X6_isRest (l : Launch) (G : Gt) (y0 y1 y2 y3 y4 y5 y6 y7 y8 y9 y10 y11 y12 y13 y14 y15 : Nat) (Y_br : Int32) (Y_fa : Int32) (Y_rbs : Int32) (Y_rfs : Int32) (Y_len : Int32) (Y_at : Int32) (Y_fau : Int32) (Y_wk : Int32) (Y_ac : Int32) (Y_nx : Int32) (Y_hs : Int32) (Y_sd : Int64) (Y_st : Nat → Int32) (Y_kd : Nat → Int32) (Y_fs : Nat → Int32) (Y_fl : Nat → Int32) (Y_now : Nat → Int32) (Y_rd : Nat → Int32) (Y_rb : Nat → Int32) (Y_rf : Nat → Int32) (Y_tx : Nat → Int32) (Y_row : Nat → Int32) (Y_hh : Nat → Int32) (Y_hl : Nat → Int32) (Y_hw : Nat → Int32) (Y_ik : Nat → Int32) (Y_kp : Nat → Int32) (u1 : Int32) (u2 : Int32) (u3 : Int32) (u4 : Int32) (r_ : Int32) (o_Y_wk : Int32) (o_Y_now : Nat → Int32) (h : f_X6_isRest Y_br Y_fa Y_wk Y_st Y_kd Y_fs Y_fl Y_now u1 u2 u3 u4 = some (r_, o_Y_wk, o_Y_now)) : CT l yX6_isRest wsX6_isRest 6 140 G [.ref y0, .int u1, .int u2, .int u3, .int u4] (W_Y G y0 y1 y2 y3 y4 y5 y6 y7 y8 y9 y10 y11 y12 y13 y14 y15 Y_br Y_fa Y_rbs Y_rfs Y_len Y_at Y_fau Y_wk Y_ac Y_nx Y_hs Y_sd Y_st Y_kd Y_fs Y_fl Y_now Y_rd Y_rb Y_rf Y_tx Y_row Y_hh Y_hl Y_hw Y_ik Y_kp) (QI G r_ (W_Y G y0 y1 y2 y3 y4 y5 y6 y7 y8 y9 y10 y11 y12 y13 y14 y15 Y_br Y_fa Y_rbs Y_rfs Y_len Y_at Y_fau o_Y_wk Y_ac Y_nx Y_hs Y_sd Y_st Y_kd Y_fs Y_fl o_Y_now Y_rd Y_rb Y_rf Y_tx Y_row Y_hh Y_hl Y_hw Y_ik Y_kp)) := by
  refine met_of cX6_isRest 5 (some .boolean) (by decide) rfl (Nat.le_of_ble_eq_true rfl) ?_
  intro p e s m below meth c A ls hx hb hr hml hts hown hlocks hK hA hD hP hS hl
  replace hown : s.vm.findClass RX6 = some m.cls := hown
  replace hl : lv_has ls 5 [(0, .ref y0), (1, .int u1), (2, .int u2), (3, .int u3), (4, .int u4)] := hl
  have S0 : CallFix p m c cX6_isRest 5 s _ wsX6_isRest RX6 := ⟨hx, hb, hml, hown, hts⟩
  have cw_X6_gain := show CallW (rmv 6 140) s _ RX6 RX6 197 yX6_gain cX6_gain 5 (some .int) wsX6_gain (rmv 5 116) 0 0 4 from cwV 4 hts gX6_isRest_X6_gain rfl rfl rfl (by decide +kernel) ⟨Nat.le_of_ble_eq_true rfl, Nat.le_of_ble_eq_true rfl⟩
  unfold f_X6_isRest at h
  refine lv_aload_n hx hb dX6_isRest_0 rfl (lv_at hl 0 rfl) ?_
  refine lv_iload_n hx hb dX6_isRest_1 rfl (lv_at hl 1 rfl) ?_
  refine lv_iload_n hx hb dX6_isRest_2 rfl (lv_at hl 2 rfl) ?_
  refine lv_iconst (v := 1) hx hb dX6_isRest_3 (by decide) ?_
  refine lv_iload_n hx hb dX6_isRest_4 rfl (lv_at hl 3 rfl) ?_
  refine lv_isub hx hb dX6_isRest_5 ?_
  refine lv_iload hx hb dX6_isRest_6 (lv_at hl 4 rfl) ?_
  obtain ⟨rr_1, dd_2, dd_3, ee_4, h⟩ := bnd3_s h
  refine cFi (As := [.int u1, .int u2, .int ((1 : Int32) - u3), .int u4]) (rest := []) S0 hK hA hP (va_D_same hD rfl) hS (k_X6_gain l G y0 y1 y2 y3 y4 y5 y6 y7 y8 y9 y10 y11 y12 y13 y14 y15 Y_br Y_fa Y_rbs Y_rfs Y_len Y_at Y_fau Y_wk Y_ac Y_nx Y_hs Y_sd Y_st Y_kd Y_fs Y_fl Y_now Y_rd Y_rb Y_rf Y_tx Y_row Y_hh Y_hl Y_hw Y_ik Y_kp u1 u2 ((1 : Int32) - u3) u4 rr_1 dd_2 dd_3 ee_4) cw_X6_gain 6 0 rfl rfl rfl rfl hl.1 rfl (Nat.le_of_ble_eq_true rfl) dX6_isRest_8 ⟨Nat.zero_le _, Nat.zero_le _⟩ (fun H locs hP hS => ?_)
  replace hP : va_P G.1 vwCl (W_Y G y0 y1 y2 y3 y4 y5 y6 y7 y8 y9 y10 y11 y12 y13 y14 y15 Y_br Y_fa Y_rbs Y_rfs Y_len Y_at Y_fau dd_2 Y_ac Y_nx Y_hs Y_sd Y_st Y_kd Y_fs Y_fl dd_3 Y_rd Y_rb Y_rf Y_tx Y_row Y_hh Y_hl Y_hw Y_ik Y_kp) H := hP
  refine lv_aload_n hx hb dX6_isRest_11 rfl (lv_at hl 0 rfl) ?_
  refine lv_iload_n hx hb dX6_isRest_12 rfl (lv_at hl 1 rfl) ?_
  refine lv_iload_n hx hb dX6_isRest_13 rfl (lv_at hl 2 rfl) ?_
  refine lv_iload_n hx hb dX6_isRest_14 rfl (lv_at hl 3 rfl) ?_
  refine lv_iload hx hb dX6_isRest_15 (lv_at hl 4 rfl) ?_
  obtain ⟨rr_5, dd_6, dd_7, ee_8, h⟩ := bnd3_s h
  refine cFi (As := [.int u1, .int u2, .int u3, .int u4]) (rest := [.int rr_1]) S0 hK hA hP (va_D_same hD rfl) hS (k_X6_gain l G y0 y1 y2 y3 y4 y5 y6 y7 y8 y9 y10 y11 y12 y13 y14 y15 Y_br Y_fa Y_rbs Y_rfs Y_len Y_at Y_fau dd_2 Y_ac Y_nx Y_hs Y_sd Y_st Y_kd Y_fs Y_fl dd_3 Y_rd Y_rb Y_rf Y_tx Y_row Y_hh Y_hl Y_hw Y_ik Y_kp u1 u2 u3 u4 rr_5 dd_6 dd_7 ee_8) cw_X6_gain 6 0 rfl rfl rfl rfl hl.1 rfl (Nat.le_of_ble_eq_true rfl) dX6_isRest_17 ⟨Nat.zero_le _, Nat.zero_le _⟩ (fun H locs hP hS => ?_)
  replace hP : va_P G.1 vwCl (W_Y G y0 y1 y2 y3 y4 y5 y6 y7 y8 y9 y10 y11 y12 y13 y14 y15 Y_br Y_fa Y_rbs Y_rfs Y_len Y_at Y_fau dd_6 Y_ac Y_nx Y_hs Y_sd Y_st Y_kd Y_fs Y_fl dd_7 Y_rd Y_rb Y_rf Y_tx Y_row Y_hh Y_hl Y_hw Y_ik Y_kp) H := hP
  refine lv_icmp_gt (tgt := 50) hx hb dX6_isRest_20 (by decide) (fun cc_9 => ?_) (fun cc_9 => ?_)
  · replace h := if_t cc_9 h
    refine lv_iconst (v := 0) hx hb dX6_isRest_50 (by decide) ?_
    cases h
    exact W.zret (ty := .boolean) hx hb hr (by decide) (fun t ht _ => ⟨⟨_, (), rfl, rfl, by show va_P G.1 vwCl _ t.heap; rw [ht]; exact hP⟩, hS.F ht⟩) hS.2.2 dX6_isRest_51
  · replace h := if_f cc_9 h
    refine lv_aload_n hx hb dX6_isRest_23 rfl (lv_at hl 0 rfl) ?_
    refine lv_iload_n hx hb dX6_isRest_24 rfl (lv_at hl 2 rfl) ?_
    refine lv_iload_n hx hb dX6_isRest_25 rfl (lv_at hl 1 rfl) ?_
    refine lv_iconst (v := 1) hx hb dX6_isRest_26 (by decide) ?_
    refine lv_iload hx hb dX6_isRest_27 (lv_at hl 4 rfl) ?_
    refine lv_isub hx hb dX6_isRest_29 ?_
    refine lv_iload_n hx hb dX6_isRest_30 rfl (lv_at hl 3 rfl) ?_
    obtain ⟨rr_10, dd_11, dd_12, ee_13, h⟩ := bnd3_s h
    refine cFi (As := [.int u2, .int u1, .int ((1 : Int32) - u4), .int u3]) (rest := []) S0 hK hA hP (va_D_same hD rfl) hS (k_X6_gain l G y0 y1 y2 y3 y4 y5 y6 y7 y8 y9 y10 y11 y12 y13 y14 y15 Y_br Y_fa Y_rbs Y_rfs Y_len Y_at Y_fau dd_6 Y_ac Y_nx Y_hs Y_sd Y_st Y_kd Y_fs Y_fl dd_7 Y_rd Y_rb Y_rf Y_tx Y_row Y_hh Y_hl Y_hw Y_ik Y_kp u2 u1 ((1 : Int32) - u4) u3 rr_10 dd_11 dd_12 ee_13) cw_X6_gain 6 0 rfl rfl rfl rfl hl.1 rfl (Nat.le_of_ble_eq_true rfl) dX6_isRest_31 ⟨Nat.zero_le _, Nat.zero_le _⟩ (fun H locs hP hS => ?_)
    replace hP : va_P G.1 vwCl (W_Y G y0 y1 y2 y3 y4 y5 y6 y7 y8 y9 y10 y11 y12 y13 y14 y15 Y_br Y_fa Y_rbs Y_rfs Y_len Y_at Y_fau dd_11 Y_ac Y_nx Y_hs Y_sd Y_st Y_kd Y_fs Y_fl dd_12 Y_rd Y_rb Y_rf Y_tx Y_row Y_hh Y_hl Y_hw Y_ik Y_kp) H := hP
    refine lv_aload_n hx hb dX6_isRest_34 rfl (lv_at hl 0 rfl) ?_
    refine lv_iload_n hx hb dX6_isRest_35 rfl (lv_at hl 2 rfl) ?_
    refine lv_iload_n hx hb dX6_isRest_36 rfl (lv_at hl 1 rfl) ?_
    refine lv_iload hx hb dX6_isRest_37 (lv_at hl 4 rfl) ?_
    refine lv_iload_n hx hb dX6_isRest_39 rfl (lv_at hl 3 rfl) ?_
    obtain ⟨rr_14, dd_15, dd_16, ee_17, h⟩ := bnd3_s h
    refine cFi (As := [.int u2, .int u1, .int u4, .int u3]) (rest := [.int rr_10]) S0 hK hA hP (va_D_same hD rfl) hS (k_X6_gain l G y0 y1 y2 y3 y4 y5 y6 y7 y8 y9 y10 y11 y12 y13 y14 y15 Y_br Y_fa Y_rbs Y_rfs Y_len Y_at Y_fau dd_11 Y_ac Y_nx Y_hs Y_sd Y_st Y_kd Y_fs Y_fl dd_12 Y_rd Y_rb Y_rf Y_tx Y_row Y_hh Y_hl Y_hw Y_ik Y_kp u2 u1 u4 u3 rr_14 dd_15 dd_16 ee_17) cw_X6_gain 6 0 rfl rfl rfl rfl hl.1 rfl (Nat.le_of_ble_eq_true rfl) dX6_isRest_40 ⟨Nat.zero_le _, Nat.zero_le _⟩ (fun H locs hP hS => ?_)
    replace hP : va_P G.1 vwCl (W_Y G y0 y1 y2 y3 y4 y5 y6 y7 y8 y9 y10 y11 y12 y13 y14 y15 Y_br Y_fa Y_rbs Y_rfs Y_len Y_at Y_fau dd_15 Y_ac Y_nx Y_hs Y_sd Y_st Y_kd Y_fs Y_fl dd_16 Y_rd Y_rb Y_rf Y_tx Y_row Y_hh Y_hl Y_hw Y_ik Y_kp) H := hP
    refine lv_icmp_gt (tgt := 50) hx hb dX6_isRest_43 (by decide) (fun cc_18 => ?_) (fun cc_18 => ?_)
    · replace h := if_t cc_18 h
      refine lv_iconst (v := 0) hx hb dX6_isRest_50 (by decide) ?_
      cases h
      exact W.zret (ty := .boolean) hx hb hr (by decide) (fun t ht _ => ⟨⟨_, (), rfl, rfl, by show va_P G.1 vwCl _ t.heap; rw [ht]; exact hP⟩, hS.F ht⟩) hS.2.2 dX6_isRest_51
    · replace h := if_f cc_18 h
      refine lv_iconst (v := 1) hx hb dX6_isRest_46 (by decide) ?_
      refine lv_goto (tgt := 51) hx hb dX6_isRest_47 (by decide) ?_
      cases h
      exact W.zret (ty := .boolean) hx hb hr (by decide) (fun t ht _ => ⟨⟨_, (), rfl, rfl, by show va_P G.1 vwCl _ t.heap; rw [ht]; exact hP⟩, hS.F ht⟩) hS.2.2 dX6_isRest_51
