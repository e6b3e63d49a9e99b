def f_X6_street (Y_br : Int32) (Y_now : Nat → Int32) (u1 : Int32) (u2 : Int32) : Option (Int32) := bnd1 (f_X6_isStreet u1) (fun rr_1 => if rr_1 = 0 then (some ((-1) : Int32)) else (if u2 = 0 then (bnd1 (rd Y_now 32 u1) (fun zz_5 => some zz_5)) else (if u2 = 1 then (bnd1 (rd Y_now 32 u1) (fun zz_8 => if zz_8 < (10 : Int32) then (some (0 : Int32)) else (some (1 : Int32)))) else (if u2 = 2 then (bnd1 (f_X6_broomsIn Y_br Y_now u1) (fun rr_12 => some rr_12)) else (some ((-2) : Int32))))))
set_option maxRecDepth 100000 in
set_option maxHeartbeats 4000000 in
theorem k_X6_street (l : Launch) (G : Gt) (y0 y1 y2 y3 y4 y5 y6 y7 y8 y9 y10 y11 y12 y13 y14 y15 : Nat) (Y_br : Int32) (Y_fa : Int32) (Y_rbs : Int32) (Y_rfs : Int32) (Y_len : Int32) (Y_at : Int32) (Y_fau : Int32) (Y_wk : Int32) (Y_ac : Int32) (Y_nx : Int32) (Y_hs : Int32) (Y_sd : Int64) (Y_st : Nat → Int32) (Y_kd : Nat → Int32) (Y_fs : Nat → Int32) (Y_fl : Nat → Int32) (Y_now : Nat → Int32) (Y_rd : Nat → Int32) (Y_rb : Nat → Int32) (Y_rf : Nat → Int32) (Y_tx : Nat → Int32) (Y_row : Nat → Int32) (Y_hh : Nat → Int32) (Y_hl : Nat → Int32) (Y_hw : Nat → Int32) (Y_ik : Nat → Int32) (Y_kp : Nat → Int32) (u1 : Int32) (u2 : Int32) (r_ : Int32) (h : f_X6_street Y_br Y_now u1 u2 = some r_) : CT l yX6_street wsX6_street 2 45 G [.ref y0, .int u1, .int u2] (W_Y G y0 y1 y2 y3 y4 y5 y6 y7 y8 y9 y10 y11 y12 y13 y14 y15 Y_br Y_fa Y_rbs Y_rfs Y_len Y_at Y_fau Y_wk Y_ac Y_nx Y_hs Y_sd Y_st Y_kd Y_fs Y_fl Y_now Y_rd Y_rb Y_rf Y_tx Y_row Y_hh Y_hl Y_hw Y_ik Y_kp) (QI G r_ (W_Y G y0 y1 y2 y3 y4 y5 y6 y7 y8 y9 y10 y11 y12 y13 y14 y15 Y_br Y_fa Y_rbs Y_rfs Y_len Y_at Y_fau Y_wk Y_ac Y_nx Y_hs Y_sd Y_st Y_kd Y_fs Y_fl Y_now Y_rd Y_rb Y_rf Y_tx Y_row Y_hh Y_hl Y_hw Y_ik Y_kp)) := by
  refine met_of cX6_street 3 (some .int) (by decide) rfl (Nat.le_of_ble_eq_true rfl) ?_
  intro p e s m below meth c A ls hx hb hr hml hts hown hlocks hK hA hD hP hS hl
  replace hown : s.vm.findClass RX6 = some m.cls := hown
  replace hl : lv_has ls 3 [(0, .ref y0), (1, .int u1), (2, .int u2)] := hl
  have S0 : CallFix p m c cX6_street 3 s _ wsX6_street RX6 := ⟨hx, hb, hml, hown, hts⟩
  have cw_X6_isStreet := show CallB (rmv 2 45) s _ RX6 127 yX6_isStreet cX6_isStreet 1 (some .boolean) wsX6_isStreet (rmv 1 25) 0 0 1 ∧ (Cond.static yX6_isStreet).before _ s = true from va_cwS 1 hts gX6_street_X6_isStreet rfl rfl rfl (by decide +kernel) ⟨Nat.le_of_ble_eq_true rfl, Nat.le_of_ble_eq_true rfl⟩
  have fl22 := hts (.fieldLink RX6 22 "DustVoteModel" "now" "[I") (by decide +kernel)
  have inX6 := show ∀ w ∈ wsX60, w ∈ wsX6_street from by decide +kernel
  have cw_X6_broomsIn := show CallW (rmv 2 45) s _ RX6 RX6 131 yX6_broomsIn cX6_broomsIn 4 (some .int) wsX6_broomsIn (rmv 0 0) 0 0 1 from cwV 1 hts gX6_street_X6_broomsIn rfl rfl rfl (by decide +kernel) ⟨Nat.le_of_ble_eq_true rfl, Nat.le_of_ble_eq_true rfl⟩
  unfold f_X6_street at h
  refine lv_iload_n hx hb dX6_street_0 rfl (lv_at hl 1 rfl) ?_
  obtain ⟨rr_1, ee_2, h⟩ := bnd1_s h
  refine cSi (As := [.int u1]) (rest := []) S0 hK hA hP (va_D_same hD rfl) hS [] (k_X6_isStreet l G u1 rr_1 ee_2) cw_X6_isStreet rfl rfl (Nat.le_of_ble_eq_true rfl) rfl hl.1 rfl (Nat.le_of_ble_eq_true rfl) dX6_street_1 ⟨Nat.zero_le _, Nat.zero_le _⟩ (fun H locs hP hS => ?_)
  replace hP : va_P G.1 vwCl (W_Y G y0 y1 y2 y3 y4 y5 y6 y7 y8 y9 y10 y11 y12 y13 y14 y15 Y_br Y_fa Y_rbs Y_rfs Y_len Y_at Y_fau Y_wk Y_ac Y_nx Y_hs Y_sd Y_st Y_kd Y_fs Y_fl Y_now Y_rd Y_rb Y_rf Y_tx Y_row Y_hh Y_hl Y_hw Y_ik Y_kp) H := hP
  refine lv_if_ne (tgt := 9) hx hb dX6_street_4 (by decide) (fun cc_3 => ?_) (fun cc_3 => ?_)
  · replace h := if_f cc_3 h
    refine lv_iload_n hx hb dX6_street_9 rfl (lv_at hl 2 rfl) ?_
    by_cases cc_4 : u2 = 0
    · refine lv_tableIn (off := 26) (tgt := 36) hx hb dX6_street_10 (by rw [cc_4]; decide) (by rw [cc_4]; decide) (by rw [cc_4]; rfl) (by decide) ?_
      replace h := if_t cc_4 h
      refine lv_aload_n hx hb dX6_street_36 rfl (lv_at hl 0 rfl) ?_
      refine va_get (ci := 6) (C := RX6) (T := TX6) (N := 27) hx hb hts inX6 hown hK.1 hP 0 rfl rfl 6 (by decide) fl22 (fun _ h9 => h9) rfl dX6_street_37 ?_
      refine lv_iload_n hx hb dX6_street_40 rfl (lv_at hl 1 rfl) ?_
      obtain ⟨zz_5, ee_6, h⟩ := bnd1_s h
      refine wIald hx hb hK hP 5 rfl ee_6 dX6_street_41 ?_
      cases h
      exact W.iret hx hb hr (fun t ht _ => ⟨⟨_, (), rfl, rfl, by show va_P G.1 vwCl _ t.heap; rw [ht]; exact hP⟩, hS.F ht⟩) hS.2.2 dX6_street_42
    replace h := if_f cc_4 h
    by_cases cc_7 : u2 = 1
    · refine lv_tableIn (off := 33) (tgt := 43) hx hb dX6_street_10 (by rw [cc_7]; decide) (by rw [cc_7]; decide) (by rw [cc_7]; rfl) (by decide) ?_
      replace h := if_t cc_7 h
      refine lv_aload_n hx hb dX6_street_43 rfl (lv_at hl 0 rfl) ?_
      refine va_get (ci := 6) (C := RX6) (T := TX6) (N := 27) hx hb hts inX6 hown hK.1 hP 0 rfl rfl 6 (by decide) fl22 (fun _ h9 => h9) rfl dX6_street_44 ?_
      refine lv_iload_n hx hb dX6_street_47 rfl (lv_at hl 1 rfl) ?_
      obtain ⟨zz_8, ee_9, h⟩ := bnd1_s h
      refine wIald hx hb hK hP 5 rfl ee_9 dX6_street_48 ?_
      refine lv_bipush (v := 10) hx hb dX6_street_49 (by decide) ?_
      refine lv_icmp_lt (tgt := 58) hx hb dX6_street_51 (by decide) (fun cc_10 => ?_) (fun cc_10 => ?_)
      · replace h := if_t cc_10 h
        refine lv_iconst (v := 0) hx hb dX6_street_58 (by decide) ?_
        cases h
        exact W.iret hx hb hr (fun t ht _ => ⟨⟨_, (), rfl, rfl, by show va_P G.1 vwCl _ t.heap; rw [ht]; exact hP⟩, hS.F ht⟩) hS.2.2 dX6_street_59
      · replace h := if_f cc_10 h
        refine lv_iconst (v := 1) hx hb dX6_street_54 (by decide) ?_
        refine lv_goto (tgt := 59) hx hb dX6_street_55 (by decide) ?_
        cases h
        exact W.iret hx hb hr (fun t ht _ => ⟨⟨_, (), rfl, rfl, by show va_P G.1 vwCl _ t.heap; rw [ht]; exact hP⟩, hS.F ht⟩) hS.2.2 dX6_street_59
    replace h := if_f cc_7 h
    by_cases cc_11 : u2 = 2
    · refine lv_tableIn (off := 50) (tgt := 60) hx hb dX6_street_10 (by rw [cc_11]; decide) (by rw [cc_11]; decide) (by rw [cc_11]; rfl) (by decide) ?_
      replace h := if_t cc_11 h
      refine lv_aload_n hx hb dX6_street_60 rfl (lv_at hl 0 rfl) ?_
      refine lv_iload_n hx hb dX6_street_61 rfl (lv_at hl 1 rfl) ?_
      obtain ⟨rr_12, ee_13, h⟩ := bnd1_s h
      refine cFi (As := [.int u1]) (rest := []) S0 hK hA hP (va_D_same hD rfl) hS (k_X6_broomsIn l G y0 y1 y2 y3 y4 y5 y6 y7 y8 y9 y10 y11 y12 y13 y14 y15 Y_br Y_fa Y_rbs Y_rfs Y_len Y_at Y_fau Y_wk Y_ac Y_nx Y_hs Y_sd Y_st Y_kd Y_fs Y_fl Y_now Y_rd Y_rb Y_rf Y_tx Y_row Y_hh Y_hl Y_hw Y_ik Y_kp u1 rr_12 ee_13) cw_X6_broomsIn 6 0 rfl rfl rfl rfl hl.1 rfl (Nat.le_of_ble_eq_true rfl) dX6_street_62 ⟨Nat.zero_le _, Nat.zero_le _⟩ (fun H locs hP hS => ?_)
      replace hP : va_P G.1 vwCl (W_Y G y0 y1 y2 y3 y4 y5 y6 y7 y8 y9 y10 y11 y12 y13 y14 y15 Y_br Y_fa Y_rbs Y_rfs Y_len Y_at Y_fau Y_wk Y_ac Y_nx Y_hs Y_sd Y_st Y_kd Y_fs Y_fl Y_now Y_rd Y_rb Y_rf Y_tx Y_row Y_hh Y_hl Y_hw Y_ik Y_kp) H := hP
      cases h
      exact W.iret hx hb hr (fun t ht _ => ⟨⟨_, (), rfl, rfl, by show va_P G.1 vwCl _ t.heap; rw [ht]; exact hP⟩, hS.F ht⟩) hS.2.2 dX6_street_65
    replace h := if_f cc_11 h
    refine lv_tableOut (tgt := 66) hx hb dX6_street_10 (by have acc_4 := ne_toInt cc_4 (k := 0) (by decide); have acc_7 := ne_toInt cc_7 (k := 1) (by decide); have acc_11 := ne_toInt cc_11 (k := 2) (by decide); omega) (by decide) ?_
    refine lv_bipush (v := (-2)) hx hb dX6_street_66 (by decide) ?_
    cases h
    exact W.iret hx hb hr (fun t ht _ => ⟨⟨_, (), rfl, rfl, by show va_P G.1 vwCl _ t.heap; rw [ht]; exact hP⟩, hS.F ht⟩) hS.2.2 dX6_street_68
  · replace h := if_t cc_3 h
    refine lv_iconst (v := (-1)) hx hb dX6_street_7 (by decide) ?_
    cases h
    exact W.iret hx hb hr (fun t ht _ => ⟨⟨_, (), rfl, rfl, by show va_P G.1 vwCl _ t.heap; rw [ht]; exact hP⟩, hS.F ht⟩) hS.2.2 dX6_street_8
def f_X6_broom (Y_br : Int32) (Y_st : Nat → Int32) (Y_kd : Nat → Int32) (Y_now : Nat → Int32) (u1 : Int32) (u2 : Int32) : Option (Int32) := bnd1 (f_X6_isBroom Y_br u1) (fun rr_1 => if rr_1 = 0 then (some ((-1) : Int32)) else (if u2 = 0 then (bnd1 (rd Y_now 32 ((8 : Int32) + u1)) (fun zz_5 => some zz_5)) else (if u2 = 1 then (bnd1 (rd Y_st 5 u1) (fun zz_8 => some zz_8)) else (if u2 = 2 then (bnd1 (rd Y_kd 5 u1) (fun zz_11 => some zz_11)) else (if u2 = 3 then (bnd1 (rd Y_now 32 (14 : Int32)) (fun zz_14 => some ((zz_14 >>> (u1 &&& 31)) &&& (1 : Int32)))) else (if u2 = 4 then (bnd1 (f_X6_worksAs Y_kd Y_now (0 : Int32) u1) (fun rr_17 => some rr_17)) else (some ((-2) : Int32))))))))
set_option maxRecDepth 100000 in
set_option maxHeartbeats 4000000 in
theorem k_X6_broom (l : Launch) (G : Gt) (y0 y1 y2 y3 y4 y5 y6 y7 y8 y9 y10 y11 y12 y13 y14 y15 : Nat) (Y_br : Int32) (Y_fa : Int32) (Y_rbs : Int32) (Y_rfs : Int32) (Y_len : Int32) (Y_at : Int32) (Y_fau : Int32) (Y_wk : Int32) (Y_ac : Int32) (Y_nx : Int32) (Y_hs : Int32) (Y_sd : Int64) (Y_st : Nat → Int32) (Y_kd : Nat → Int32) (Y_fs : Nat → Int32) (Y_fl : Nat → Int32) (Y_now : Nat → Int32) (Y_rd : Nat → Int32) (Y_rb : Nat → Int32) (Y_rf : Nat → Int32) (Y_tx : Nat → Int32) (Y_row : Nat → Int32) (Y_hh : Nat → Int32) (Y_hl : Nat → Int32) (Y_hw : Nat → Int32) (Y_ik : Nat → Int32) (Y_kp : Nat → Int32) (u1 : Int32) (u2 : Int32) (r_ : Int32) (h : f_X6_broom Y_br Y_st Y_kd Y_now u1 u2 = some r_) : CT l yX6_broom wsX6_broom 2 46 G [.ref y0, .int u1, .int u2] (W_Y G y0 y1 y2 y3 y4 y5 y6 y7 y8 y9 y10 y11 y12 y13 y14 y15 Y_br Y_fa Y_rbs Y_rfs Y_len Y_at Y_fau Y_wk Y_ac Y_nx Y_hs Y_sd Y_st Y_kd Y_fs Y_fl Y_now Y_rd Y_rb Y_rf Y_tx Y_row Y_hh Y_hl Y_hw Y_ik Y_kp) (QI G r_ (W_Y G y0 y1 y2 y3 y4 y5 y6 y7 y8 y9 y10 y11 y12 y13 y14 y15 Y_br Y_fa Y_rbs Y_rfs Y_len Y_at Y_fau Y_wk Y_ac Y_nx Y_hs Y_sd Y_st Y_kd Y_fs Y_fl Y_now Y_rd Y_rb Y_rf Y_tx Y_row Y_hh Y_hl Y_hw Y_ik Y_kp)) := by
  refine met_of cX6_broom 3 (some .int) (by decide) rfl (Nat.le_of_ble_eq_true rfl) ?_
  intro p e s m below meth c A ls hx hb hr hml hts hown hlocks hK hA hD hP hS hl
  replace hown : s.vm.findClass RX6 = some m.cls := hown
  replace hl : lv_has ls 3 [(0, .ref y0), (1, .int u1), (2, .int u2)] := hl
  have S0 : CallFix p m c cX6_broom 3 s _ wsX6_broom RX6 := ⟨hx, hb, hml, hown, hts⟩
  have cw_X6_isBroom := show CallW (rmv 2 46) s _ RX6 RX6 134 yX6_isBroom cX6_isBroom 2 (some .boolean) wsX6_isBroom (rmv 1 25) 0 0 1 from cwV 1 hts gX6_broom_X6_isBroom rfl rfl rfl (by decide +kernel) ⟨Nat.le_of_ble_eq_true rfl, Nat.le_of_ble_eq_true rfl⟩
  have fl22 := hts (.fieldLink RX6 22 "DustVoteModel" "now" "[I") (by decide +kernel)
  have inX6 := show ∀ w ∈ wsX60, w ∈ wsX6_broom from by decide +kernel
  have fl7 := hts (.fieldLink RX6 7 "DustVoteModel" "strength" "[I") (by decide +kernel)
  have fl13 := hts (.fieldLink RX6 13 "DustVoteModel" "kind" "[I") (by decide +kernel)
  have cw_X6_worksAs := show CallW (rmv 2 46) s _ RX6 RX6 108 yX6_worksAs cX6_worksAs 4 (some .int) wsX6_worksAs (rmv 1 21) 0 0 2 from cwV 2 hts gX6_broom_X6_worksAs rfl rfl rfl (by decide +kernel) ⟨Nat.le_of_ble_eq_true rfl, Nat.le_of_ble_eq_true rfl⟩
  unfold f_X6_broom at h
  refine lv_aload_n hx hb dX6_broom_0 rfl (lv_at hl 0 rfl) ?_
  refine lv_iload_n hx hb dX6_broom_1 rfl (lv_at hl 1 rfl) ?_
  obtain ⟨rr_1, ee_2, h⟩ := bnd1_s h
  refine cFi (As := [.int u1]) (rest := []) S0 hK hA hP (va_D_same hD rfl) hS (k_X6_isBroom l G y0 y1 y2 y3 y4 y5 y6 y7 y8 y9 y10 y11 y12 y13 y14 y15 Y_br Y_fa Y_rbs Y_rfs Y_len Y_at Y_fau Y_wk Y_ac Y_nx Y_hs Y_sd Y_st Y_kd Y_fs Y_fl Y_now Y_rd Y_rb Y_rf Y_tx Y_row Y_hh Y_hl Y_hw Y_ik Y_kp u1 rr_1 ee_2) cw_X6_isBroom 6 0 rfl rfl rfl rfl hl.1 rfl (Nat.le_of_ble_eq_true rfl) dX6_broom_2 ⟨Nat.zero_le _, Nat.zero_le _⟩ (fun H locs hP hS => ?_)
  replace hP : va_P G.1 vwCl (W_Y G y0 y1 y2 y3 y4 y5 y6 y7 y8 y9 y10 y11 y12 y13 y14 y15 Y_br Y_fa Y_rbs Y_rfs Y_len Y_at Y_fau Y_wk Y_ac Y_nx Y_hs Y_sd Y_st Y_kd Y_fs Y_fl Y_now Y_rd Y_rb Y_rf Y_tx Y_row Y_hh Y_hl Y_hw Y_ik Y_kp) H := hP
  refine lv_if_ne (tgt := 10) hx hb dX6_broom_5 (by decide) (fun cc_3 => ?_) (fun cc_3 => ?_)
  · replace h := if_f cc_3 h
    refine lv_iload_n hx hb dX6_broom_10 rfl (lv_at hl 2 rfl) ?_
    by_cases cc_4 : u2 = 0
    · refine lv_tableIn (off := 33) (tgt := 44) hx hb dX6_broom_11 (by rw [cc_4]; decide) (by rw [cc_4]; decide) (by rw [cc_4]; rfl) (by decide) ?_
      replace h := if_t cc_4 h
      refine lv_aload_n hx hb dX6_broom_44 rfl (lv_at hl 0 rfl) ?_
      refine va_get (ci := 6) (C := RX6) (T := TX6) (N := 27) hx hb hts inX6 hown hK.1 hP 0 rfl rfl 6 (by decide) fl22 (fun _ h9 => h9) rfl dX6_broom_45 ?_
      refine lv_bipush (v := 8) hx hb dX6_broom_48 (by decide) ?_
      refine lv_iload_n hx hb dX6_broom_50 rfl (lv_at hl 1 rfl) ?_
      refine lv_iadd hx hb dX6_broom_51 ?_
      obtain ⟨zz_5, ee_6, h⟩ := bnd1_s h
      refine wIald hx hb hK hP 5 rfl ee_6 dX6_broom_52 ?_
      cases h
      exact W.iret hx hb hr (fun t ht _ => ⟨⟨_, (), rfl, rfl, by show va_P G.1 vwCl _ t.heap; rw [ht]; exact hP⟩, hS.F ht⟩) hS.2.2 dX6_broom_53
    replace h := if_f cc_4 h
    by_cases cc_7 : u2 = 1
    · refine lv_tableIn (off := 43) (tgt := 54) hx hb dX6_broom_11 (by rw [cc_7]; decide) (by rw [cc_7]; decide) (by rw [cc_7]; rfl) (by decide) ?_
      replace h := if_t cc_7 h
      refine lv_aload_n hx hb dX6_broom_54 rfl (lv_at hl 0 rfl) ?_
      refine va_get (ci := 6) (C := RX6) (T := TX6) (N := 27) hx hb hts inX6 hown hK.1 hP 0 rfl rfl 2 (by decide) fl7 (fun _ h9 => h9) rfl dX6_broom_55 ?_
      refine lv_iload_n hx hb dX6_broom_58 rfl (lv_at hl 1 rfl) ?_
      obtain ⟨zz_8, ee_9, h⟩ := bnd1_s h
      refine wIald hx hb hK hP 1 rfl ee_9 dX6_broom_59 ?_
      cases h
      exact W.iret hx hb hr (fun t ht _ => ⟨⟨_, (), rfl, rfl, by show va_P G.1 vwCl _ t.heap; rw [ht]; exact hP⟩, hS.F ht⟩) hS.2.2 dX6_broom_60
    replace h := if_f cc_7 h
    by_cases cc_10 : u2 = 2
    · refine lv_tableIn (off := 50) (tgt := 61) hx hb dX6_broom_11 (by rw [cc_10]; decide) (by rw [cc_10]; decide) (by rw [cc_10]; rfl) (by decide) ?_
      replace h := if_t cc_10 h
      refine lv_aload_n hx hb dX6_broom_61 rfl (lv_at hl 0 rfl) ?_
      refine va_get (ci := 6) (C := RX6) (T := TX6) (N := 27) hx hb hts inX6 hown hK.1 hP 0 rfl rfl 3 (by decide) fl13 (fun _ h9 => h9) rfl dX6_broom_62 ?_
      refine lv_iload_n hx hb dX6_broom_65 rfl (lv_at hl 1 rfl) ?_
      obtain ⟨zz_11, ee_12, h⟩ := bnd1_s h
      refine wIald hx hb hK hP 2 rfl ee_12 dX6_broom_66 ?_
      cases h
      exact W.iret hx hb hr (fun t ht _ => ⟨⟨_, (), rfl, rfl, by show va_P G.1 vwCl _ t.heap; rw [ht]; exact hP⟩, hS.F ht⟩) hS.2.2 dX6_broom_67
    replace h := if_f cc_10 h
    by_cases cc_13 : u2 = 3
    · refine lv_tableIn (off := 57) (tgt := 68) hx hb dX6_broom_11 (by rw [cc_13]; decide) (by rw [cc_13]; decide) (by rw [cc_13]; rfl) (by decide) ?_
      replace h := if_t cc_13 h
      refine lv_aload_n hx hb dX6_broom_68 rfl (lv_at hl 0 rfl) ?_
      refine va_get (ci := 6) (C := RX6) (T := TX6) (N := 27) hx hb hts inX6 hown hK.1 hP 0 rfl rfl 6 (by decide) fl22 (fun _ h9 => h9) rfl dX6_broom_69 ?_
      refine lv_bipush (v := 14) hx hb dX6_broom_72 (by decide) ?_
      obtain ⟨zz_14, ee_15, h⟩ := bnd1_s h
      refine wIald hx hb hK hP 5 rfl ee_15 dX6_broom_74 ?_
      refine lv_iload_n hx hb dX6_broom_75 rfl (lv_at hl 1 rfl) ?_
      refine lv_ishr hx hb dX6_broom_76 ?_
      refine lv_iconst (v := 1) hx hb dX6_broom_77 (by decide) ?_
      refine lv_iand hx hb dX6_broom_78 ?_
      cases h
      exact W.iret hx hb hr (fun t ht _ => ⟨⟨_, (), rfl, rfl, by show va_P G.1 vwCl _ t.heap; rw [ht]; exact hP⟩, hS.F ht⟩) hS.2.2 dX6_broom_79
    replace h := if_f cc_13 h
    by_cases cc_16 : u2 = 4
    · refine lv_tableIn (off := 69) (tgt := 80) hx hb dX6_broom_11 (by rw [cc_16]; decide) (by rw [cc_16]; decide) (by rw [cc_16]; rfl) (by decide) ?_
      replace h := if_t cc_16 h
      refine lv_aload_n hx hb dX6_broom_80 rfl (lv_at hl 0 rfl) ?_
      refine lv_iconst (v := 0) hx hb dX6_broom_81 (by decide) ?_
      refine lv_iload_n hx hb dX6_broom_82 rfl (lv_at hl 1 rfl) ?_
      obtain ⟨rr_17, ee_18, h⟩ := bnd1_s h
      refine cFi (As := [.int (0 : Int32), .int u1]) (rest := []) S0 hK hA hP (va_D_same hD rfl) hS (k_X6_worksAs l G y0 y1 y2 y3 y4 y5 y6 y7 y8 y9 y10 y11 y12 y13 y14 y15 Y_br Y_fa Y_rbs Y_rfs Y_len Y_at Y_fau Y_wk Y_ac Y_nx Y_hs Y_sd Y_st Y_kd Y_fs Y_fl Y_now Y_rd Y_rb Y_rf Y_tx Y_row Y_hh Y_hl Y_hw Y_ik Y_kp (0 : Int32) u1 rr_17 ee_18) cw_X6_worksAs 6 0 rfl rfl rfl rfl hl.1 rfl (Nat.le_of_ble_eq_true rfl) dX6_broom_83 ⟨Nat.zero_le _, Nat.zero_le _⟩ (fun H locs hP hS => ?_)
      replace hP : va_P G.1 vwCl (W_Y G y0 y1 y2 y3 y4 y5 y6 y7 y8 y9 y10 y11 y12 y13 y14 y15 Y_br Y_fa Y_rbs Y_rfs Y_len Y_at Y_fau Y_wk Y_ac Y_nx Y_hs Y_sd Y_st Y_kd Y_fs Y_fl Y_now Y_rd Y_rb Y_rf Y_tx Y_row Y_hh Y_hl Y_hw Y_ik Y_kp) H := hP
      cases h
      exact W.iret hx hb hr (fun t ht _ => ⟨⟨_, (), rfl, rfl, by show va_P G.1 vwCl _ t.heap; rw [ht]; exact hP⟩, hS.F ht⟩) hS.2.2 dX6_broom_86
    replace h := if_f cc_16 h
    refine lv_tableOut (tgt := 87) hx hb dX6_broom_11 (by have acc_4 := ne_toInt cc_4 (k := 0) (by decide); have acc_7 := ne_toInt cc_7 (k := 1) (by decide); have acc_10 := ne_toInt cc_10 (k := 2) (by decide); have acc_13 := ne_toInt cc_13 (k := 3) (by decide); have acc_16 := ne_toInt cc_16 (k := 4) (by decide); omega) (by decide) ?_
    refine lv_bipush (v := (-2)) hx hb dX6_broom_87 (by decide) ?_
    cases h
    exact W.iret hx hb hr (fun t ht _ => ⟨⟨_, (), rfl, rfl, by show va_P G.1 vwCl _ t.heap; rw [ht]; exact hP⟩, hS.F ht⟩) hS.2.2 dX6_broom_89
  · replace h := if_t cc_3 h
    refine lv_iconst (v := (-1)) hx hb dX6_broom_8 (by decide) ?_
    cases h
    exact W.iret hx hb hr (fun t ht _ => ⟨⟨_, (), rfl, rfl, by show va_P G.1 vwCl _ t.heap; rw [ht]; exact hP⟩, hS.F ht⟩) hS.2.2 dX6_broom_9
