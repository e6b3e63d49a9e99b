def f_X6_walkOn (Y_now : Nat → Int32) (u1 : Int32) (u2 : Int32) (u3 : Int32) : Option ((Nat → Int32)) := bnd1 (rd Y_now 32 ((((16 : Int32) * u1) + (8 : Int32)) + u2)) (fun zz_1 => if u3 = 0 then (bnd1 (wr Y_now 32 ((((16 : Int32) * u1) + (8 : Int32)) + u2) ((zz_1 + (7 : Int32)) - (zz_1 + (7 : Int32)) / (8 : Int32) * (8 : Int32))) (fun dd_6 => some dd_6)) else (bnd1 (wr Y_now 32 ((((16 : Int32) * u1) + (8 : Int32)) + u2) ((zz_1 + (1 : Int32)) - (zz_1 + (1 : Int32)) / (8 : Int32) * (8 : Int32))) (fun dd_4 => some dd_4)))
set_option maxRecDepth 100000 in
set_option maxHeartbeats 4000000 in
theorem k_X6_walkOn (l : Launch) (G : Gt) (y0 y1 y2 y3 y4 y5 y6 y7 y8 y9 y10 y11 y12 y13 y14 y15 : Nat) (Y_br : Int32) (Y_fa : Int32) (Y_rbs : Int32) (Y_rfs : Int32) (Y_len : Int32) (Y_at : Int32) (Y_fau : Int32) (Y_wk : Int32) (Y_ac : Int32) (Y_nx : Int32) (Y_hs : Int32) (Y_sd : Int64) (Y_st : Nat → Int32) (Y_kd : Nat → Int32) (Y_fs : Nat → Int32) (Y_fl : Nat → Int32) (Y_now : Nat → Int32) (Y_rd : Nat → Int32) (Y_rb : Nat → Int32) (Y_rf : Nat → Int32) (Y_tx : Nat → Int32) (Y_row : Nat → Int32) (Y_hh : Nat → Int32) (Y_hl : Nat → Int32) (Y_hw : Nat → Int32) (Y_ik : Nat → Int32) (Y_kp : Nat → Int32) (u1 : Int32) (u2 : Int32) (u3 : Int32) (o_Y_now : Nat → Int32) (h : f_X6_walkOn Y_now u1 u2 u3 = some o_Y_now) : CT l yX6_walkOn wsX6_walkOn 0 0 G [.ref y0, .int u1, .int u2, .int u3] (W_Y G y0 y1 y2 y3 y4 y5 y6 y7 y8 y9 y10 y11 y12 y13 y14 y15 Y_br Y_fa Y_rbs Y_rfs Y_len Y_at Y_fau Y_wk Y_ac Y_nx Y_hs Y_sd Y_st Y_kd Y_fs Y_fl Y_now Y_rd Y_rb Y_rf Y_tx Y_row Y_hh Y_hl Y_hw Y_ik Y_kp) (QV G (W_Y G y0 y1 y2 y3 y4 y5 y6 y7 y8 y9 y10 y11 y12 y13 y14 y15 Y_br Y_fa Y_rbs Y_rfs Y_len Y_at Y_fau Y_wk Y_ac Y_nx Y_hs Y_sd Y_st Y_kd Y_fs Y_fl o_Y_now Y_rd Y_rb Y_rf Y_tx Y_row Y_hh Y_hl Y_hw Y_ik Y_kp)) := by
  refine met_of cX6_walkOn 5 none (by decide) rfl (Nat.le_of_ble_eq_true rfl) ?_
  intro p e s m below meth c A ls hx hb hr hml hts hown hlocks hK hA hD hP hS hl
  replace hown : s.vm.findClass RX6 = some m.cls := hown
  replace hl : lv_has ls 5 [(0, .ref y0), (1, .int u1), (2, .int u2), (3, .int u3)] := hl
  have S0 : CallFix p m c cX6_walkOn 5 s _ wsX6_walkOn RX6 := ⟨hx, hb, hml, hown, hts⟩
  have fl22 := hts (.fieldLink RX6 22 "DustVoteModel" "now" "[I") (by decide +kernel)
  have inX6 := show ∀ w ∈ wsX60, w ∈ wsX6_walkOn from by decide +kernel
  unfold f_X6_walkOn at h
  refine lv_bipush (v := 16) hx hb dX6_walkOn_0 (by decide) ?_
  refine lv_iload_n hx hb dX6_walkOn_2 rfl (lv_at hl 1 rfl) ?_
  refine lv_imul hx hb dX6_walkOn_3 ?_
  refine lv_bipush (v := 8) hx hb dX6_walkOn_4 (by decide) ?_
  refine lv_iadd hx hb dX6_walkOn_6 ?_
  refine lv_iload_n hx hb dX6_walkOn_7 rfl (lv_at hl 2 rfl) ?_
  refine lv_iadd hx hb dX6_walkOn_8 ?_
  refine lv_istore (lv' := [(4, .int ((((16 : Int32) * u1) + (8 : Int32)) + u2)), (0, .ref y0), (1, .int u1), (2, .int u2), (3, .int u3)]) hx hb dX6_walkOn_9 hl (by decide) rfl (fun ls hl => ?_)
  refine lv_aload_n hx hb dX6_walkOn_11 rfl (lv_at hl 1 rfl) ?_
  refine va_get (ci := 6) (C := RX6) (T := TX6) (N := 27) hx hb hts inX6 hown hK.1 hP 0 rfl rfl 6 (by decide) fl22 (fun _ h9 => h9) rfl dX6_walkOn_12 ?_
  refine lv_iload hx hb dX6_walkOn_15 (lv_at hl 0 rfl) ?_
  refine lv_aload_n hx hb dX6_walkOn_17 rfl (lv_at hl 1 rfl) ?_
  refine va_get (ci := 6) (C := RX6) (T := TX6) (N := 27) hx hb hts inX6 hown hK.1 hP 0 rfl rfl 6 (by decide) fl22 (fun _ h9 => h9) rfl dX6_walkOn_18 ?_
  refine lv_iload hx hb dX6_walkOn_21 (lv_at hl 0 rfl) ?_
  obtain ⟨zz_1, ee_2, h⟩ := bnd1_s h
  refine wIald hx hb hK hP 5 rfl ee_2 dX6_walkOn_23 ?_
  refine lv_iload_n hx hb dX6_walkOn_24 rfl (lv_at hl 4 rfl) ?_
  refine lv_if_ne (tgt := 33) hx hb dX6_walkOn_25 (by decide) (fun cc_3 => ?_) (fun cc_3 => ?_)
  · replace h := if_f cc_3 h
    refine lv_iconst (v := 1) hx hb dX6_walkOn_33 (by decide) ?_
    refine lv_iadd hx hb dX6_walkOn_34 ?_
    refine lv_bipush (v := 8) hx hb dX6_walkOn_35 (by decide) ?_
    refine lv_irem hx hb dX6_walkOn_37 (by decide) ?_
    obtain ⟨dd_4, ee_5, h⟩ := bnd1_s h
    refine wIast hx hb hK hP (va_D_same hD rfl) hS 5 rfl ee_5 dX6_walkOn_38 (fun H locs hP hS => ?_)
    replace hP : va_P G.1 vwCl (W_Y G y0 y1 y2 y3 y4 y5 y6 y7 y8 y9 y10 y11 y12 y13 y14 y15 Y_br Y_fa Y_rbs Y_rfs Y_len Y_at Y_fau Y_wk Y_ac Y_nx Y_hs Y_sd Y_st Y_kd Y_fs Y_fl dd_4 Y_rd Y_rb Y_rf Y_tx Y_row Y_hh Y_hl Y_hw Y_ik Y_kp) H := hP
    cases h
    exact W.vret hx hb hr (fun t ht _ => ⟨⟨(), rfl, trivial, by show va_P G.1 vwCl _ t.heap; rw [ht]; exact hP⟩, hS.F ht⟩) hS.2.2 dX6_walkOn_39
  · replace h := if_t cc_3 h
    refine lv_bipush (v := 7) hx hb dX6_walkOn_28 (by decide) ?_
    refine lv_goto (tgt := 34) hx hb dX6_walkOn_30 (by decide) ?_
    refine lv_iadd hx hb dX6_walkOn_34 ?_
    refine lv_bipush (v := 8) hx hb dX6_walkOn_35 (by decide) ?_
    refine lv_irem hx hb dX6_walkOn_37 (by decide) ?_
    obtain ⟨dd_6, ee_7, h⟩ := bnd1_s h
    refine wIast hx hb hK hP (va_D_same hD rfl) hS 5 rfl ee_7 dX6_walkOn_38 (fun H locs hP hS => ?_)
    replace hP : va_P G.1 vwCl (W_Y G y0 y1 y2 y3 y4 y5 y6 y7 y8 y9 y10 y11 y12 y13 y14 y15 Y_br Y_fa Y_rbs Y_rfs Y_len Y_at Y_fau Y_wk Y_ac Y_nx Y_hs Y_sd Y_st Y_kd Y_fs Y_fl dd_6 Y_rd Y_rb Y_rf Y_tx Y_row Y_hh Y_hl Y_hw Y_ik Y_kp) H := hP
    cases h
    exact W.vret hx hb hr (fun t ht _ => ⟨⟨(), rfl, trivial, by show va_P G.1 vwCl _ t.heap; rw [ht]; exact hP⟩, hS.F ht⟩) hS.2.2 dX6_walkOn_39
def f_X6_walk (Y_br : Int32) (Y_ac : Int32) (Y_nx : Int32) (Y_now : Nat → Int32) (Y_row : Nat → Int32) (u1 : Int32) (u2 : Int32) : Option (Int32 × Int32 × Int32 × (Nat → Int32) × (Nat → Int32)) := bnd1 (f_X6_isBroom Y_br u1) (fun rr_1 => if rr_1 = 0 then (some (((-1) : Int32), Y_ac, Y_nx, Y_now, Y_row)) else (bnd1 (f_X6_in (u2.toInt64) (0 : Int64) (1 : Int64)) (fun rr_4 => if rr_4 = 0 then (some (((-2) : Int32), Y_ac, Y_nx, Y_now, Y_row)) else (bnd3 (f_X6_keepAct Y_ac Y_nx Y_now Y_row) (fun dd_7 dd_8 dd_9 => bnd1 (f_X6_walkOn Y_now (0 : Int32) u1 u2) (fun dd_11 => bnd1 (rd dd_11 32 ((8 : Int32) + u1)) (fun zz_13 => some (zz_13, dd_7, dd_8, dd_11, dd_9))))))))
set_option maxRecDepth 100000 in
set_option maxHeartbeats 4000000 in
theorem k_X6_walk (l : Launch) (G : Gt) (y0 y1 y2 y3 y4 y5 y6 y7 y8 y9 y10 y11 y12 y13 y14 y15 : Nat) (Y_br : Int32) (Y_fa : Int32) (Y_rbs : Int32) (Y_rfs : Int32) (Y_len : Int32) (Y_at : Int32) (Y_fau : Int32) (Y_wk : Int32) (Y_ac : Int32) (Y_nx : Int32) (Y_hs : Int32) (Y_sd : Int64) (Y_st : Nat → Int32) (Y_kd : Nat → Int32) (Y_fs : Nat → Int32) (Y_fl : Nat → Int32) (Y_now : Nat → Int32) (Y_rd : Nat → Int32) (Y_rb : Nat → Int32) (Y_rf : Nat → Int32) (Y_tx : Nat → Int32) (Y_row : Nat → Int32) (Y_hh : Nat → Int32) (Y_hl : Nat → Int32) (Y_hw : Nat → Int32) (Y_ik : Nat → Int32) (Y_kp : Nat → Int32) (u1 : Int32) (u2 : Int32) (r_ : Int32) (o_Y_ac : Int32) (o_Y_nx : Int32) (o_Y_now : Nat → Int32) (o_Y_row : Nat → Int32) (h : f_X6_walk Y_br Y_ac Y_nx Y_now Y_row u1 u2 = some (r_, o_Y_ac, o_Y_nx, o_Y_now, o_Y_row)) : CT l yX6_walk wsX6_walk 2 46 G [.ref y0, .int u1, .int u2] (W_Y G y0 y1 y2 y3 y4 y5 y6 y7 y8 y9 y10 y11 y12 y13 y14 y15 Y_br Y_fa Y_rbs Y_rfs Y_len Y_at Y_fau Y_wk Y_ac Y_nx Y_hs Y_sd Y_st Y_kd Y_fs Y_fl Y_now Y_rd Y_rb Y_rf Y_tx Y_row Y_hh Y_hl Y_hw Y_ik Y_kp) (QI G r_ (W_Y G y0 y1 y2 y3 y4 y5 y6 y7 y8 y9 y10 y11 y12 y13 y14 y15 Y_br Y_fa Y_rbs Y_rfs Y_len Y_at Y_fau Y_wk o_Y_ac o_Y_nx Y_hs Y_sd Y_st Y_kd Y_fs Y_fl o_Y_now Y_rd Y_rb Y_rf Y_tx o_Y_row Y_hh Y_hl Y_hw Y_ik Y_kp)) := by
  refine met_of cX6_walk 3 (some .int) (by decide) rfl (Nat.le_of_ble_eq_true rfl) ?_
  intro p e s m below meth c A ls hx hb hr hml hts hown hlocks hK hA hD hP hS hl
  replace hown : s.vm.findClass RX6 = some m.cls := hown
  replace hl : lv_has ls 3 [(0, .ref y0), (1, .int u1), (2, .int u2)] := hl
  have S0 : CallFix p m c cX6_walk 3 s _ wsX6_walk RX6 := ⟨hx, hb, hml, hown, hts⟩
  have cw_X6_isBroom := show CallW (rmv 2 46) s _ RX6 RX6 134 yX6_isBroom cX6_isBroom 2 (some .boolean) wsX6_isBroom (rmv 1 25) 0 0 1 from cwV 1 hts gX6_walk_X6_isBroom rfl rfl rfl (by decide +kernel) ⟨Nat.le_of_ble_eq_true rfl, Nat.le_of_ble_eq_true rfl⟩
  have cw_X6_in := show CallB (rmv 2 46) s _ RX6 62 yX6_in cX6_in 6 (some .boolean) wsX6_in (rmv 0 0) 0 0 3 ∧ (Cond.static yX6_in).before _ s = true from va_cwS 3 hts gX6_walk_X6_in rfl rfl rfl (by decide +kernel) ⟨Nat.le_of_ble_eq_true rfl, Nat.le_of_ble_eq_true rfl⟩
  have cw_X6_keepAct := show CallW (rmv 2 46) s _ RX6 RX6 140 yX6_keepAct cX6_keepAct 2 none wsX6_keepAct (rmv 0 0) 0 0 0 from cwV 0 hts gX6_walk_X6_keepAct rfl rfl rfl (by decide +kernel) ⟨Nat.le_of_ble_eq_true rfl, Nat.le_of_ble_eq_true rfl⟩
  have cw_X6_walkOn := show CallW (rmv 2 46) s _ RX6 RX6 149 yX6_walkOn cX6_walkOn 5 none wsX6_walkOn (rmv 0 0) 0 0 3 from cwV 3 hts gX6_walk_X6_walkOn rfl rfl rfl (by decide +kernel) ⟨Nat.le_of_ble_eq_true rfl, Nat.le_of_ble_eq_true rfl⟩
  have fl22 := hts (.fieldLink RX6 22 "DustVoteModel" "now" "[I") (by decide +kernel)
  have inX6 := show ∀ w ∈ wsX60, w ∈ wsX6_walk from by decide +kernel
  unfold f_X6_walk at h
  refine lv_aload_n hx hb dX6_walk_0 rfl (lv_at hl 0 rfl) ?_
  refine lv_iload_n hx hb dX6_walk_1 rfl (lv_at hl 1 rfl) ?_
  obtain ⟨rr_1, ee_2, h⟩ := bnd1_s h
  refine cFi (As := [.int u1]) (rest := []) S0 hK hA hP (va_D_same hD rfl) hS (k_X6_isBroom l G y0 y1 y2 y3 y4 y5 y6 y7 y8 y9 y10 y11 y12 y13 y14 y15 Y_br Y_fa Y_rbs Y_rfs Y_len Y_at Y_fau Y_wk Y_ac Y_nx Y_hs Y_sd Y_st Y_kd Y_fs Y_fl Y_now Y_rd Y_rb Y_rf Y_tx Y_row Y_hh Y_hl Y_hw Y_ik Y_kp u1 rr_1 ee_2) cw_X6_isBroom 6 0 rfl rfl rfl rfl hl.1 rfl (Nat.le_of_ble_eq_true rfl) dX6_walk_2 ⟨Nat.zero_le _, Nat.zero_le _⟩ (fun H locs hP hS => ?_)
  replace hP : va_P G.1 vwCl (W_Y G y0 y1 y2 y3 y4 y5 y6 y7 y8 y9 y10 y11 y12 y13 y14 y15 Y_br Y_fa Y_rbs Y_rfs Y_len Y_at Y_fau Y_wk Y_ac Y_nx Y_hs Y_sd Y_st Y_kd Y_fs Y_fl Y_now Y_rd Y_rb Y_rf Y_tx Y_row Y_hh Y_hl Y_hw Y_ik Y_kp) H := hP
  refine lv_if_ne (tgt := 10) hx hb dX6_walk_5 (by decide) (fun cc_3 => ?_) (fun cc_3 => ?_)
  · replace h := if_f cc_3 h
    refine lv_iload_n hx hb dX6_walk_10 rfl (lv_at hl 2 rfl) ?_
    refine lv_i2l (v := u2.toInt64) hx hb dX6_walk_11 rfl ?_
    refine lv_lconst (v := 0) hx hb dX6_walk_12 (by decide) ?_
    refine lv_lconst (v := 1) hx hb dX6_walk_13 (by decide) ?_
    obtain ⟨rr_4, ee_5, h⟩ := bnd1_s h
    refine cSi (As := [.long (u2.toInt64), .long (0 : Int64), .long (1 : Int64)]) (rest := []) S0 hK hA hP (va_D_same hD rfl) hS [] (k_X6_in l G (u2.toInt64) (0 : Int64) (1 : Int64) rr_4 ee_5) cw_X6_in rfl rfl (Nat.le_of_ble_eq_true rfl) rfl hl.1 rfl (Nat.le_of_ble_eq_true rfl) dX6_walk_14 ⟨Nat.zero_le _, Nat.zero_le _⟩ (fun H locs hP hS => ?_)
    replace hP : va_P G.1 vwCl (W_Y G y0 y1 y2 y3 y4 y5 y6 y7 y8 y9 y10 y11 y12 y13 y14 y15 Y_br Y_fa Y_rbs Y_rfs Y_len Y_at Y_fau Y_wk Y_ac Y_nx Y_hs Y_sd Y_st Y_kd Y_fs Y_fl Y_now Y_rd Y_rb Y_rf Y_tx Y_row Y_hh Y_hl Y_hw Y_ik Y_kp) H := hP
    refine lv_if_ne (tgt := 23) hx hb dX6_walk_17 (by decide) (fun cc_6 => ?_) (fun cc_6 => ?_)
    · replace h := if_f cc_6 h
      refine lv_aload_n hx hb dX6_walk_23 rfl (lv_at hl 0 rfl) ?_
      obtain ⟨dd_7, dd_8, dd_9, ee_10, h⟩ := bnd3_s h
      refine cFv (As := []) (rest := []) S0 hK hA hP (va_D_same hD rfl) hS (k_X6_keepAct l G y0 y1 y2 y3 y4 y5 y6 y7 y8 y9 y10 y11 y12 y13 y14 y15 Y_br Y_fa Y_rbs Y_rfs Y_len Y_at Y_fau Y_wk Y_ac Y_nx Y_hs Y_sd Y_st Y_kd Y_fs Y_fl Y_now Y_rd Y_rb Y_rf Y_tx Y_row Y_hh Y_hl Y_hw Y_ik Y_kp dd_7 dd_8 dd_9 ee_10) cw_X6_keepAct 6 0 rfl rfl rfl rfl hl.1 rfl (Nat.le_of_ble_eq_true rfl) dX6_walk_24 ⟨Nat.zero_le _, Nat.zero_le _⟩ (fun H locs hP hS => ?_)
      replace hP : va_P G.1 vwCl (W_Y G y0 y1 y2 y3 y4 y5 y6 y7 y8 y9 y10 y11 y12 y13 y14 y15 Y_br Y_fa Y_rbs Y_rfs Y_len Y_at Y_fau Y_wk dd_7 dd_8 Y_hs Y_sd Y_st Y_kd Y_fs Y_fl Y_now Y_rd Y_rb Y_rf Y_tx dd_9 Y_hh Y_hl Y_hw Y_ik Y_kp) H := hP
      refine lv_aload_n hx hb dX6_walk_27 rfl (lv_at hl 0 rfl) ?_
      refine lv_iconst (v := 0) hx hb dX6_walk_28 (by decide) ?_
      refine lv_iload_n hx hb dX6_walk_29 rfl (lv_at hl 1 rfl) ?_
      refine lv_iload_n hx hb dX6_walk_30 rfl (lv_at hl 2 rfl) ?_
      obtain ⟨dd_11, ee_12, h⟩ := bnd1_s h
      refine cFv (As := [.int (0 : Int32), .int u1, .int u2]) (rest := []) S0 hK hA hP (va_D_same hD rfl) hS (k_X6_walkOn l G y0 y1 y2 y3 y4 y5 y6 y7 y8 y9 y10 y11 y12 y13 y14 y15 Y_br Y_fa Y_rbs Y_rfs Y_len Y_at Y_fau Y_wk dd_7 dd_8 Y_hs Y_sd Y_st Y_kd Y_fs Y_fl Y_now Y_rd Y_rb Y_rf Y_tx dd_9 Y_hh Y_hl Y_hw Y_ik Y_kp (0 : Int32) u1 u2 dd_11 ee_12) cw_X6_walkOn 6 0 rfl rfl rfl rfl hl.1 rfl (Nat.le_of_ble_eq_true rfl) dX6_walk_31 ⟨Nat.zero_le _, Nat.zero_le _⟩ (fun H locs hP hS => ?_)
      replace hP : va_P G.1 vwCl (W_Y G y0 y1 y2 y3 y4 y5 y6 y7 y8 y9 y10 y11 y12 y13 y14 y15 Y_br Y_fa Y_rbs Y_rfs Y_len Y_at Y_fau Y_wk dd_7 dd_8 Y_hs Y_sd Y_st Y_kd Y_fs Y_fl dd_11 Y_rd Y_rb Y_rf Y_tx dd_9 Y_hh Y_hl Y_hw Y_ik Y_kp) H := hP
      refine lv_aload_n hx hb dX6_walk_34 rfl (lv_at hl 0 rfl) ?_
      refine va_get (ci := 6) (C := RX6) (T := TX6) (N := 27) hx hb hts inX6 hown hK.1 hP 0 rfl rfl 6 (by decide) fl22 (fun _ h9 => h9) rfl dX6_walk_35 ?_
      refine lv_bipush (v := 8) hx hb dX6_walk_38 (by decide) ?_
      refine lv_iload_n hx hb dX6_walk_40 rfl (lv_at hl 1 rfl) ?_
      refine lv_iadd hx hb dX6_walk_41 ?_
      obtain ⟨zz_13, ee_14, h⟩ := bnd1_s h
      refine wIald hx hb hK hP 5 rfl ee_14 dX6_walk_42 ?_
      cases h
      exact W.iret hx hb hr (fun t ht _ => ⟨⟨_, (), rfl, rfl, by show va_P G.1 vwCl _ t.heap; rw [ht]; exact hP⟩, hS.F ht⟩) hS.2.2 dX6_walk_43
    · replace h := if_t cc_6 h
      refine lv_bipush (v := (-2)) hx hb dX6_walk_20 (by decide) ?_
      cases h
      exact W.iret hx hb hr (fun t ht _ => ⟨⟨_, (), rfl, rfl, by show va_P G.1 vwCl _ t.heap; rw [ht]; exact hP⟩, hS.F ht⟩) hS.2.2 dX6_walk_22
  · replace h := if_t cc_3 h
    refine lv_iconst (v := (-1)) hx hb dX6_walk_8 (by decide) ?_
    cases h
    exact W.iret hx hb hr (fun t ht _ => ⟨⟨_, (), rfl, rfl, by show va_P G.1 vwCl _ t.heap; rw [ht]; exact hP⟩, hS.F ht⟩) hS.2.2 dX6_walk_9
def f_X6_vote (Y_ac : Int32) (Y_nx : Int32) (Y_now : Nat → Int32) (Y_row : Nat → Int32) : Option (Int32 × Int32 × Int32 × (Nat → Int32) × (Nat → Int32)) := bnd3 (f_X6_keepAct Y_ac Y_nx Y_now Y_row) (fun dd_1 dd_2 dd_3 => bnd1 (rd Y_now 32 (13 : Int32)) (fun zz_5 => bnd1 (wr Y_now 32 (13 : Int32) ((1 : Int32) - zz_5)) (fun dd_7 => bnd1 (rd dd_7 32 (13 : Int32)) (fun zz_9 => some (zz_9, dd_1, dd_2, dd_7, dd_3)))))
set_option maxRecDepth 100000 in
set_option maxHeartbeats 4000000 in
theorem k_X6_vote (l : Launch) (G : Gt) (y0 y1 y2 y3 y4 y5 y6 y7 y8 y9 y10 y11 y12 y13 y14 y15 : Nat) (Y_br : Int32) (Y_fa : Int32) (Y_rbs : Int32) (Y_rfs : Int32) (Y_len : Int32) (Y_at : Int32) (Y_fau : Int32) (Y_wk : Int32) (Y_ac : Int32) (Y_nx : Int32) (Y_hs : Int32) (Y_sd : Int64) (Y_st : Nat → Int32) (Y_kd : Nat → Int32) (Y_fs : Nat → Int32) (Y_fl : Nat → Int32) (Y_now : Nat → Int32) (Y_rd : Nat → Int32) (Y_rb : Nat → Int32) (Y_rf : Nat → Int32) (Y_tx : Nat → Int32) (Y_row : Nat → Int32) (Y_hh : Nat → Int32) (Y_hl : Nat → Int32) (Y_hw : Nat → Int32) (Y_ik : Nat → Int32) (Y_kp : Nat → Int32) (r_ : Int32) (o_Y_ac : Int32) (o_Y_nx : Int32) (o_Y_now : Nat → Int32) (o_Y_row : Nat → Int32) (h : f_X6_vote Y_ac Y_nx Y_now Y_row = some (r_, o_Y_ac, o_Y_nx, o_Y_now, o_Y_row)) : CT l yX6_vote wsX6_vote 1 21 G [.ref y0] (W_Y G y0 y1 y2 y3 y4 y5 y6 y7 y8 y9 y10 y11 y12 y13 y14 y15 Y_br Y_fa Y_rbs Y_rfs Y_len Y_at Y_fau Y_wk Y_ac Y_nx Y_hs Y_sd Y_st Y_kd Y_fs Y_fl Y_now Y_rd Y_rb Y_rf Y_tx Y_row Y_hh Y_hl Y_hw Y_ik Y_kp) (QI G r_ (W_Y G y0 y1 y2 y3 y4 y5 y6 y7 y8 y9 y10 y11 y12 y13 y14 y15 Y_br Y_fa Y_rbs Y_rfs Y_len Y_at Y_fau Y_wk o_Y_ac o_Y_nx Y_hs Y_sd Y_st Y_kd Y_fs Y_fl o_Y_now Y_rd Y_rb Y_rf Y_tx o_Y_row Y_hh Y_hl Y_hw Y_ik Y_kp)) := by
  refine met_of cX6_vote 1 (some .int) (by decide) rfl (Nat.le_of_ble_eq_true rfl) ?_
  intro p e s m below meth c A ls hx hb hr hml hts hown hlocks hK hA hD hP hS hl
  replace hown : s.vm.findClass RX6 = some m.cls := hown
  replace hl : lv_has ls 1 [(0, .ref y0)] := hl
  have S0 : CallFix p m c cX6_vote 1 s _ wsX6_vote RX6 := ⟨hx, hb, hml, hown, hts⟩
  have cw_X6_keepAct := show CallW (rmv 1 21) s _ RX6 RX6 140 yX6_keepAct cX6_keepAct 2 none wsX6_keepAct (rmv 0 0) 0 0 0 from cwV 0 hts gX6_vote_X6_keepAct rfl rfl rfl (by decide +kernel) ⟨Nat.le_of_ble_eq_true rfl, Nat.le_of_ble_eq_true rfl⟩
  have fl22 := hts (.fieldLink RX6 22 "DustVoteModel" "now" "[I") (by decide +kernel)
  have inX6 := show ∀ w ∈ wsX60, w ∈ wsX6_vote from by decide +kernel
  unfold f_X6_vote at h
  refine lv_aload_n hx hb dX6_vote_0 rfl (lv_at hl 0 rfl) ?_
  obtain ⟨dd_1, dd_2, dd_3, ee_4, h⟩ := bnd3_s h
  refine cFv (As := []) (rest := []) S0 hK hA hP (va_D_same hD rfl) hS (k_X6_keepAct l G y0 y1 y2 y3 y4 y5 y6 y7 y8 y9 y10 y11 y12 y13 y14 y15 Y_br Y_fa Y_rbs Y_rfs Y_len Y_at Y_fau Y_wk Y_ac Y_nx Y_hs Y_sd Y_st Y_kd Y_fs Y_fl Y_now Y_rd Y_rb Y_rf Y_tx Y_row Y_hh Y_hl Y_hw Y_ik Y_kp dd_1 dd_2 dd_3 ee_4) cw_X6_keepAct 6 0 rfl rfl rfl rfl hl.1 rfl (Nat.le_of_ble_eq_true rfl) dX6_vote_1 ⟨Nat.zero_le _, Nat.zero_le _⟩ (fun H locs hP hS => ?_)
  replace hP : va_P G.1 vwCl (W_Y G y0 y1 y2 y3 y4 y5 y6 y7 y8 y9 y10 y11 y12 y13 y14 y15 Y_br Y_fa Y_rbs Y_rfs Y_len Y_at Y_fau Y_wk dd_1 dd_2 Y_hs Y_sd Y_st Y_kd Y_fs Y_fl Y_now Y_rd Y_rb Y_rf Y_tx dd_3 Y_hh Y_hl Y_hw Y_ik Y_kp) H := hP
  refine lv_aload_n hx hb dX6_vote_4 rfl (lv_at hl 0 rfl) ?_
  refine va_get (ci := 6) (C := RX6) (T := TX6) (N := 27) hx hb hts inX6 hown hK.1 hP 0 rfl rfl 6 (by decide) fl22 (fun _ h9 => h9) rfl dX6_vote_5 ?_
  refine lv_bipush (v := 13) hx hb dX6_vote_8 (by decide) ?_
  refine lv_iconst (v := 1) hx hb dX6_vote_10 (by decide) ?_
  refine lv_aload_n hx hb dX6_vote_11 rfl (lv_at hl 0 rfl) ?_
  refine va_get (ci := 6) (C := RX6) (T := TX6) (N := 27) hx hb hts inX6 hown hK.1 hP 0 rfl rfl 6 (by decide) fl22 (fun _ h9 => h9) rfl dX6_vote_12 ?_
  refine lv_bipush (v := 13) hx hb dX6_vote_15 (by decide) ?_
  obtain ⟨zz_5, ee_6, h⟩ := bnd1_s h
  refine wIald hx hb hK hP 5 rfl ee_6 dX6_vote_17 ?_
  refine lv_isub hx hb dX6_vote_18 ?_
  obtain ⟨dd_7, ee_8, h⟩ := bnd1_s h
  refine wIast hx hb hK hP (va_D_same hD rfl) hS 5 rfl ee_8 dX6_vote_19 (fun H locs hP hS => ?_)
  replace hP : va_P G.1 vwCl (W_Y G y0 y1 y2 y3 y4 y5 y6 y7 y8 y9 y10 y11 y12 y13 y14 y15 Y_br Y_fa Y_rbs Y_rfs Y_len Y_at Y_fau Y_wk dd_1 dd_2 Y_hs Y_sd Y_st Y_kd Y_fs Y_fl dd_7 Y_rd Y_rb Y_rf Y_tx dd_3 Y_hh Y_hl Y_hw Y_ik Y_kp) H := hP
  refine lv_aload_n hx hb dX6_vote_20 rfl (lv_at hl 0 rfl) ?_
  refine va_get (ci := 6) (C := RX6) (T := TX6) (N := 27) hx hb hts inX6 hown hK.1 hP 0 rfl rfl 6 (by decide) fl22 (fun _ h9 => h9) rfl dX6_vote_21 ?_
  refine lv_bipush (v := 13) hx hb dX6_vote_24 (by decide) ?_
  obtain ⟨zz_9, ee_10, h⟩ := bnd1_s h
  refine wIald hx hb hK hP 5 rfl ee_10 dX6_vote_26 ?_
  cases h
  exact W.iret hx hb hr (fun t ht _ => ⟨⟨_, (), rfl, rfl, by show va_P G.1 vwCl _ t.heap; rw [ht]; exact hP⟩, hS.F ht⟩) hS.2.2 dX6_vote_27
