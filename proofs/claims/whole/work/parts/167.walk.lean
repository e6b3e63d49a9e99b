def f_X6_gain (Y_br : Int32) (Y_fa : Int32) (Y_wk : Int32) (Y_st : Nat → Int32) (Y_kd : Nat → Int32) (Y_fs : Nat → Int32) (Y_fl : Nat → Int32) (Y_now : Nat → Int32) (u1 : Int32) (u2 : Int32) (u3 : Int32) (u4 : Int32) : Option (Int32 × Int32 × (Nat → Int32)) := nm (((((31 : Int32) &&& (((1 : Int32) <<< (u1 &&& 31)) ^^^ ((-1) : Int32))) &&& (((1 : Int32) <<< (u2 &&& 31)) ^^^ ((-1) : Int32))) ||| (u3 <<< (u1 &&& 31))) ||| (u4 <<< (u2 &&& 31))) (fun zz_1 => bnd1 (f_X6_layTrial Y_now) (fun dd_3 => bnd1 (f_X6_goOn Y_br Y_fa zz_1 Y_st Y_kd Y_fs Y_fl dd_3 (3 : Int32)) (fun dd_5 => bnd1 (rd dd_5 32 ((8 : Int32) + u1)) (fun zz_7 => bnd1 (rd dd_5 32 ((16 : Int32) + zz_7)) (fun zz_9 => some ((((20 : Int32) - zz_9) - ((4 : Int32) * u3)), (31 : Int32), dd_5))))))
set_option maxRecDepth 100000 in
set_option maxHeartbeats 4000000 in
theorem k_X6_gain (l : Launch) (G : Gt) (y0 y1 y2 y3 y4 y5 y6 y7 y8 y9 y10 y11 y12 y13 y14 y15 : Nat) (Y_br : Int32) (Y_fa : Int32) (Y_rbs : Int32) (Y_rfs : Int32) (Y_len : Int32) (Y_at : Int32) (Y_fau : Int32) (Y_wk : Int32) (Y_ac : Int32) (Y_nx : Int32) (Y_hs : Int32) (Y_sd : Int64) (Y_st : Nat → Int32) (Y_kd : Nat → Int32) (Y_fs : Nat → Int32) (Y_fl : Nat → Int32) (Y_now : Nat → Int32) (Y_rd : Nat → Int32) (Y_rb : Nat → Int32) (Y_rf : Nat → Int32) (Y_tx : Nat → Int32) (Y_row : Nat → Int32) (Y_hh : Nat → Int32) (Y_hl : Nat → Int32) (Y_hw : Nat → Int32) (Y_ik : Nat → Int32) (Y_kp : Nat → Int32) (u1 : Int32) (u2 : Int32) (u3 : Int32) (u4 : Int32) (r_ : Int32) (o_Y_wk : Int32) (o_Y_now : Nat → Int32) (h : f_X6_gain Y_br Y_fa Y_wk Y_st Y_kd Y_fs Y_fl Y_now u1 u2 u3 u4 = some (r_, o_Y_wk, o_Y_now)) : CT l yX6_gain wsX6_gain 5 116 G [.ref y0, .int u1, .int u2, .int u3, .int u4] (W_Y G y0 y1 y2 y3 y4 y5 y6 y7 y8 y9 y10 y11 y12 y13 y14 y15 Y_br Y_fa Y_rbs Y_rfs Y_len Y_at Y_fau Y_wk Y_ac Y_nx Y_hs Y_sd Y_st Y_kd Y_fs Y_fl Y_now Y_rd Y_rb Y_rf Y_tx Y_row Y_hh Y_hl Y_hw Y_ik Y_kp) (QI G r_ (W_Y G y0 y1 y2 y3 y4 y5 y6 y7 y8 y9 y10 y11 y12 y13 y14 y15 Y_br Y_fa Y_rbs Y_rfs Y_len Y_at Y_fau o_Y_wk Y_ac Y_nx Y_hs Y_sd Y_st Y_kd Y_fs Y_fl o_Y_now Y_rd Y_rb Y_rf Y_tx Y_row Y_hh Y_hl Y_hw Y_ik Y_kp)) := by
  refine met_of cX6_gain 5 (some .int) (by decide) rfl (Nat.le_of_ble_eq_true rfl) ?_
  intro p e s m below meth c A ls hx hb hr hml hts hown hlocks hK hA hD hP hS hl
  replace hown : s.vm.findClass RX6 = some m.cls := hown
  replace hl : lv_has ls 5 [(0, .ref y0), (1, .int u1), (2, .int u2), (3, .int u3), (4, .int u4)] := hl
  have S0 : CallFix p m c cX6_gain 5 s _ wsX6_gain RX6 := ⟨hx, hb, hml, hown, hts⟩
  have fl37 := hts (.fieldLink RX6 37 "DustVoteModel" "working" "I") (by decide +kernel)
  have inX6 := show ∀ w ∈ wsX60, w ∈ wsX6_gain from by decide +kernel
  have cw_X6_layTrial := show CallW (rmv 5 116) s _ RX6 RX6 157 yX6_layTrial cX6_layTrial 2 none wsX6_layTrial (rmv 0 0) 0 0 0 from cwV 0 hts gX6_gain_X6_layTrial rfl rfl rfl (by decide +kernel) ⟨Nat.le_of_ble_eq_true rfl, Nat.le_of_ble_eq_true rfl⟩
  have cw_X6_goOn := show CallW (rmv 5 116) s _ RX6 RX6 160 yX6_goOn cX6_goOn 3 none wsX6_goOn (rmv 4 94) 0 0 1 from cwV 1 hts gX6_gain_X6_goOn rfl rfl rfl (by decide +kernel) ⟨Nat.le_of_ble_eq_true rfl, Nat.le_of_ble_eq_true rfl⟩
  have fl22 := hts (.fieldLink RX6 22 "DustVoteModel" "now" "[I") (by decide +kernel)
  unfold f_X6_gain at h
  refine lv_aload_n hx hb dX6_gain_0 rfl (lv_at hl 0 rfl) ?_
  refine lv_bipush (v := 31) hx hb dX6_gain_1 (by decide) ?_
  refine lv_iconst (v := 1) hx hb dX6_gain_3 (by decide) ?_
  refine lv_iload_n hx hb dX6_gain_4 rfl (lv_at hl 1 rfl) ?_
  refine lv_ishl hx hb dX6_gain_5 ?_
  refine lv_iconst (v := (-1)) hx hb dX6_gain_6 (by decide) ?_
  refine lv_ixor hx hb dX6_gain_7 ?_
  refine lv_iand hx hb dX6_gain_8 ?_
  refine lv_iconst (v := 1) hx hb dX6_gain_9 (by decide) ?_
  refine lv_iload_n hx hb dX6_gain_10 rfl (lv_at hl 2 rfl) ?_
  refine lv_ishl hx hb dX6_gain_11 ?_
  refine lv_iconst (v := (-1)) hx hb dX6_gain_12 (by decide) ?_
  refine lv_ixor hx hb dX6_gain_13 ?_
  refine lv_iand hx hb dX6_gain_14 ?_
  refine lv_iload_n hx hb dX6_gain_15 rfl (lv_at hl 3 rfl) ?_
  refine lv_iload_n hx hb dX6_gain_16 rfl (lv_at hl 1 rfl) ?_
  refine lv_ishl hx hb dX6_gain_17 ?_
  refine lv_ior hx hb dX6_gain_18 ?_
  refine lv_iload hx hb dX6_gain_19 (lv_at hl 4 rfl) ?_
  refine lv_iload_n hx hb dX6_gain_21 rfl (lv_at hl 2 rfl) ?_
  refine lv_ishl hx hb dX6_gain_22 ?_
  refine lv_ior hx hb dX6_gain_23 ?_
  refine lv_topi (fun zz_1 ee_2 => ?_)
  replace h := nm_s ee_2 h
  refine va_put (ci := 6) (ty := .int) (C := RX6) (T := TX6) (N := 27) hx hb hts inX6 tyX6 tyX6_ok nmX6 hown hK.1 hP (va_D_same hD rfl) hS 0 rfl rfl 16 (by decide) fl37 (fun _ h9 => h9) rfl (by decide +kernel) rfl rfl (Nat.le_of_ble_eq_true rfl) dX6_gain_24 (fun H locs hP _ hS => ?_)
  replace hP : va_P G.1 vwCl (W_Y G y0 y1 y2 y3 y4 y5 y6 y7 y8 y9 y10 y11 y12 y13 y14 y15 Y_br Y_fa Y_rbs Y_rfs Y_len Y_at Y_fau zz_1 Y_ac Y_nx Y_hs Y_sd Y_st Y_kd Y_fs Y_fl Y_now Y_rd Y_rb Y_rf Y_tx Y_row Y_hh Y_hl Y_hw Y_ik Y_kp) H := hP
  refine lv_aload_n hx hb dX6_gain_27 rfl (lv_at hl 0 rfl) ?_
  obtain ⟨dd_3, ee_4, h⟩ := bnd1_s h
  refine cFv (As := []) (rest := []) S0 hK hA hP (va_D_same hD rfl) hS (k_X6_layTrial l G y0 y1 y2 y3 y4 y5 y6 y7 y8 y9 y10 y11 y12 y13 y14 y15 Y_br Y_fa Y_rbs Y_rfs Y_len Y_at Y_fau zz_1 Y_ac Y_nx Y_hs Y_sd Y_st Y_kd Y_fs Y_fl Y_now Y_rd Y_rb Y_rf Y_tx Y_row Y_hh Y_hl Y_hw Y_ik Y_kp dd_3 ee_4) cw_X6_layTrial 6 0 rfl rfl rfl rfl hl.1 rfl (Nat.le_of_ble_eq_true rfl) dX6_gain_28 ⟨Nat.zero_le _, Nat.zero_le _⟩ (fun H locs hP hS => ?_)
  replace hP : va_P G.1 vwCl (W_Y G y0 y1 y2 y3 y4 y5 y6 y7 y8 y9 y10 y11 y12 y13 y14 y15 Y_br Y_fa Y_rbs Y_rfs Y_len Y_at Y_fau zz_1 Y_ac Y_nx Y_hs Y_sd Y_st Y_kd Y_fs Y_fl dd_3 Y_rd Y_rb Y_rf Y_tx Y_row Y_hh Y_hl Y_hw Y_ik Y_kp) H := hP
  refine lv_aload_n hx hb dX6_gain_31 rfl (lv_at hl 0 rfl) ?_
  refine lv_iconst (v := 3) hx hb dX6_gain_32 (by decide) ?_
  obtain ⟨dd_5, ee_6, h⟩ := bnd1_s h
  refine cFv (As := [.int (3 : Int32)]) (rest := []) S0 hK hA hP (va_D_same hD rfl) hS (k_X6_goOn l G y0 y1 y2 y3 y4 y5 y6 y7 y8 y9 y10 y11 y12 y13 y14 y15 Y_br Y_fa Y_rbs Y_rfs Y_len Y_at Y_fau zz_1 Y_ac Y_nx Y_hs Y_sd Y_st Y_kd Y_fs Y_fl dd_3 Y_rd Y_rb Y_rf Y_tx Y_row Y_hh Y_hl Y_hw Y_ik Y_kp (3 : Int32) dd_5 ee_6) cw_X6_goOn 6 0 rfl rfl rfl rfl hl.1 rfl (Nat.le_of_ble_eq_true rfl) dX6_gain_33 ⟨Nat.zero_le _, Nat.zero_le _⟩ (fun H locs hP hS => ?_)
  replace hP : va_P G.1 vwCl (W_Y G y0 y1 y2 y3 y4 y5 y6 y7 y8 y9 y10 y11 y12 y13 y14 y15 Y_br Y_fa Y_rbs Y_rfs Y_len Y_at Y_fau zz_1 Y_ac Y_nx Y_hs Y_sd Y_st Y_kd Y_fs Y_fl dd_5 Y_rd Y_rb Y_rf Y_tx Y_row Y_hh Y_hl Y_hw Y_ik Y_kp) H := hP
  refine lv_aload_n hx hb dX6_gain_36 rfl (lv_at hl 0 rfl) ?_
  refine lv_bipush (v := 31) hx hb dX6_gain_37 (by decide) ?_
  refine va_put (ci := 6) (ty := .int) (C := RX6) (T := TX6) (N := 27) hx hb hts inX6 tyX6 tyX6_ok nmX6 hown hK.1 hP (va_D_same hD rfl) hS 0 rfl rfl 16 (by decide) fl37 (fun _ h9 => h9) rfl (by decide +kernel) rfl rfl (Nat.le_of_ble_eq_true rfl) dX6_gain_39 (fun H locs hP _ hS => ?_)
  replace hP : va_P G.1 vwCl (W_Y G y0 y1 y2 y3 y4 y5 y6 y7 y8 y9 y10 y11 y12 y13 y14 y15 Y_br Y_fa Y_rbs Y_rfs Y_len Y_at Y_fau (31 : Int32) Y_ac Y_nx Y_hs Y_sd Y_st Y_kd Y_fs Y_fl dd_5 Y_rd Y_rb Y_rf Y_tx Y_row Y_hh Y_hl Y_hw Y_ik Y_kp) H := hP
  refine lv_bipush (v := 20) hx hb dX6_gain_42 (by decide) ?_
  refine lv_aload_n hx hb dX6_gain_44 rfl (lv_at hl 0 rfl) ?_
  refine va_get (ci := 6) (C := RX6) (T := TX6) (N := 27) hx hb hts inX6 hown hK.1 hP 0 rfl rfl 6 (by decide) fl22 (fun _ h9 => h9) rfl dX6_gain_45 ?_
  refine lv_bipush (v := 16) hx hb dX6_gain_48 (by decide) ?_
  refine lv_aload_n hx hb dX6_gain_50 rfl (lv_at hl 0 rfl) ?_
  refine va_get (ci := 6) (C := RX6) (T := TX6) (N := 27) hx hb hts inX6 hown hK.1 hP 0 rfl rfl 6 (by decide) fl22 (fun _ h9 => h9) rfl dX6_gain_51 ?_
  refine lv_bipush (v := 8) hx hb dX6_gain_54 (by decide) ?_
  refine lv_iload_n hx hb dX6_gain_56 rfl (lv_at hl 1 rfl) ?_
  refine lv_iadd hx hb dX6_gain_57 ?_
  obtain ⟨zz_7, ee_8, h⟩ := bnd1_s h
  refine wIald hx hb hK hP 5 rfl ee_8 dX6_gain_58 ?_
  refine lv_iadd hx hb dX6_gain_59 ?_
  obtain ⟨zz_9, ee_10, h⟩ := bnd1_s h
  refine wIald hx hb hK hP 5 rfl ee_10 dX6_gain_60 ?_
  refine lv_isub hx hb dX6_gain_61 ?_
  refine lv_iconst (v := 4) hx hb dX6_gain_62 (by decide) ?_
  refine lv_iload_n hx hb dX6_gain_63 rfl (lv_at hl 3 rfl) ?_
  refine lv_imul hx hb dX6_gain_64 ?_
  refine lv_isub hx hb dX6_gain_65 ?_
  cases h
  exact W.iret hx hb hr (fun t ht _ => ⟨⟨_, (), rfl, rfl, by show va_P G.1 vwCl _ t.heap; rw [ht]; exact hP⟩, hS.F ht⟩) hS.2.2 dX6_gain_66
