def f_X6_count (Y_br : Int32) (Y_fa : Int32) (Y_len : Int32) (Y_ac : Int32) (Y_hs : Int32) (Y_now : Nat → Int32) (u1 : Int32) : Option (Int32) := if u1 = 0 then (some Y_len) else (if u1 = 1 then (some Y_br) else (if u1 = 2 then (some Y_fa) else (if u1 = 3 then (bnd1 (rd Y_now 32 (15 : Int32)) (fun zz_5 => some zz_5)) else (if u1 = 4 then (bnd1 (f_X6_dustOn Y_now (0 : Int32)) (fun rr_8 => some rr_8)) else (if u1 = 5 then (bnd1 (f_X6_kneesOn Y_now (0 : Int32)) (fun rr_11 => some rr_11)) else (if u1 = 6 then (bnd1 (rd Y_now 32 (13 : Int32)) (fun zz_14 => some zz_14)) else (if u1 = 7 then (bnd1 (rd Y_now 32 (14 : Int32)) (fun zz_17 => some zz_17)) else (if u1 = 8 then (some Y_ac) else (if u1 = 9 then (some Y_hs) else (some ((-2) : Int32)))))))))))
set_option maxRecDepth 100000 in
set_option maxHeartbeats 4000000 in
theorem k_X6_count (l : Launch) (G : Gt) (y0 y1 y2 y3 y4 y5 y6 y7 y8 y9 y10 y11 y12 y13 y14 y15 : Nat) (Y_br : Int32) (Y_fa : Int32) (Y_rbs : Int32) (Y_rfs : Int32) (Y_len : Int32) (Y_at : Int32) (Y_fau : Int32) (Y_wk : Int32) (Y_ac : Int32) (Y_nx : Int32) (Y_hs : Int32) (Y_sd : Int64) (Y_st : Nat → Int32) (Y_kd : Nat → Int32) (Y_fs : Nat → Int32) (Y_fl : Nat → Int32) (Y_now : Nat → Int32) (Y_rd : Nat → Int32) (Y_rb : Nat → Int32) (Y_rf : Nat → Int32) (Y_tx : Nat → Int32) (Y_row : Nat → Int32) (Y_hh : Nat → Int32) (Y_hl : Nat → Int32) (Y_hw : Nat → Int32) (Y_ik : Nat → Int32) (Y_kp : Nat → Int32) (u1 : Int32) (r_ : Int32) (h : f_X6_count Y_br Y_fa Y_len Y_ac Y_hs Y_now u1 = some r_) : CT l yX6_count wsX6_count 1 23 G [.ref y0, .int u1] (W_Y G y0 y1 y2 y3 y4 y5 y6 y7 y8 y9 y10 y11 y12 y13 y14 y15 Y_br Y_fa Y_rbs Y_rfs Y_len Y_at Y_fau Y_wk Y_ac Y_nx Y_hs Y_sd Y_st Y_kd Y_fs Y_fl Y_now Y_rd Y_rb Y_rf Y_tx Y_row Y_hh Y_hl Y_hw Y_ik Y_kp) (QI G r_ (W_Y G y0 y1 y2 y3 y4 y5 y6 y7 y8 y9 y10 y11 y12 y13 y14 y15 Y_br Y_fa Y_rbs Y_rfs Y_len Y_at Y_fau Y_wk Y_ac Y_nx Y_hs Y_sd Y_st Y_kd Y_fs Y_fl Y_now Y_rd Y_rb Y_rf Y_tx Y_row Y_hh Y_hl Y_hw Y_ik Y_kp)) := by
  refine met_of cX6_count 2 (some .int) (by decide) rfl (Nat.le_of_ble_eq_true rfl) ?_
  intro p e s m below meth c A ls hx hb hr hml hts hown hlocks hK hA hD hP hS hl
  replace hown : s.vm.findClass RX6 = some m.cls := hown
  replace hl : lv_has ls 2 [(0, .ref y0), (1, .int u1)] := hl
  have S0 : CallFix p m c cX6_count 2 s _ wsX6_count RX6 := ⟨hx, hb, hml, hown, hts⟩
  have fl66 := hts (.fieldLink RX6 66 "DustVoteModel" "length" "I") (by decide +kernel)
  have inX6 := show ∀ w ∈ wsX60, w ∈ wsX6_count from by decide +kernel
  have fl93 := hts (.fieldLink RX6 93 "DustVoteModel" "brooms" "I") (by decide +kernel)
  have fl96 := hts (.fieldLink RX6 96 "DustVoteModel" "falls" "I") (by decide +kernel)
  have fl22 := hts (.fieldLink RX6 22 "DustVoteModel" "now" "[I") (by decide +kernel)
  have cw_X6_dustOn := show CallW (rmv 1 23) s _ RX6 RX6 146 yX6_dustOn cX6_dustOn 4 (some .int) wsX6_dustOn (rmv 0 0) 0 0 1 from cwV 1 hts gX6_count_X6_dustOn rfl rfl rfl (by decide +kernel) ⟨Nat.le_of_ble_eq_true rfl, Nat.le_of_ble_eq_true rfl⟩
  have cw_X6_kneesOn := show CallW (rmv 1 23) s _ RX6 RX6 123 yX6_kneesOn cX6_kneesOn 4 (some .int) wsX6_kneesOn (rmv 0 0) 0 0 1 from cwV 1 hts gX6_count_X6_kneesOn rfl rfl rfl (by decide +kernel) ⟨Nat.le_of_ble_eq_true rfl, Nat.le_of_ble_eq_true rfl⟩
  have fl99 := hts (.fieldLink RX6 99 "DustVoteModel" "acts" "I") (by decide +kernel)
  have fl185 := hts (.fieldLink RX6 185 "DustVoteModel" "heaps" "I") (by decide +kernel)
  unfold f_X6_count at h
  refine lv_iload_n hx hb dX6_count_0 rfl (lv_at hl 1 rfl) ?_
  by_cases cc_1 : u1 = 0
  · refine lv_tableIn (off := 55) (tgt := 56) hx hb dX6_count_1 (by rw [cc_1]; decide) (by rw [cc_1]; decide) (by rw [cc_1]; rfl) (by decide) ?_
    replace h := if_t cc_1 h
    refine lv_aload_n hx hb dX6_count_56 rfl (lv_at hl 0 rfl) ?_
    refine va_get (ci := 6) (C := RX6) (T := TX6) (N := 27) hx hb hts inX6 hown hK.1 hP 0 rfl rfl 13 (by decide) fl66 (fun _ h9 => h9) rfl dX6_count_57 ?_
    cases h
    exact W.iret hx hb hr (fun t ht _ => ⟨⟨_, (), rfl, rfl, by show va_P G.1 vwCl _ t.heap; rw [ht]; exact hP⟩, hS.F ht⟩) hS.2.2 dX6_count_60
  replace h := if_f cc_1 h
  by_cases cc_2 : u1 = 1
  · refine lv_tableIn (off := 60) (tgt := 61) hx hb dX6_count_1 (by rw [cc_2]; decide) (by rw [cc_2]; decide) (by rw [cc_2]; rfl) (by decide) ?_
    replace h := if_t cc_2 h
    refine lv_aload_n hx hb dX6_count_61 rfl (lv_at hl 0 rfl) ?_
    refine va_get (ci := 6) (C := RX6) (T := TX6) (N := 27) hx hb hts inX6 hown hK.1 hP 0 rfl rfl 0 (by decide) fl93 (fun _ h9 => h9) rfl dX6_count_62 ?_
    cases h
    exact W.iret hx hb hr (fun t ht _ => ⟨⟨_, (), rfl, rfl, by show va_P G.1 vwCl _ t.heap; rw [ht]; exact hP⟩, hS.F ht⟩) hS.2.2 dX6_count_65
  replace h := if_f cc_2 h
  by_cases cc_3 : u1 = 2
  · refine lv_tableIn (off := 65) (tgt := 66) hx hb dX6_count_1 (by rw [cc_3]; decide) (by rw [cc_3]; decide) (by rw [cc_3]; rfl) (by decide) ?_
    replace h := if_t cc_3 h
    refine lv_aload_n hx hb dX6_count_66 rfl (lv_at hl 0 rfl) ?_
    refine va_get (ci := 6) (C := RX6) (T := TX6) (N := 27) hx hb hts inX6 hown hK.1 hP 0 rfl rfl 1 (by decide) fl96 (fun _ h9 => h9) rfl dX6_count_67 ?_
    cases h
    exact W.iret hx hb hr (fun t ht _ => ⟨⟨_, (), rfl, rfl, by show va_P G.1 vwCl _ t.heap; rw [ht]; exact hP⟩, hS.F ht⟩) hS.2.2 dX6_count_70
  replace h := if_f cc_3 h
  by_cases cc_4 : u1 = 3
  · refine lv_tableIn (off := 70) (tgt := 71) hx hb dX6_count_1 (by rw [cc_4]; decide) (by rw [cc_4]; decide) (by rw [cc_4]; rfl) (by decide) ?_
    replace h := if_t cc_4 h
    refine lv_aload_n hx hb dX6_count_71 rfl (lv_at hl 0 rfl) ?_
    refine va_get (ci := 6) (C := RX6) (T := TX6) (N := 27) hx hb hts inX6 hown hK.1 hP 0 rfl rfl 6 (by decide) fl22 (fun _ h9 => h9) rfl dX6_count_72 ?_
    refine lv_bipush (v := 15) hx hb dX6_count_75 (by decide) ?_
    obtain ⟨zz_5, ee_6, h⟩ := bnd1_s h
    refine wIald hx hb hK hP 5 rfl ee_6 dX6_count_77 ?_
    cases h
    exact W.iret hx hb hr (fun t ht _ => ⟨⟨_, (), rfl, rfl, by show va_P G.1 vwCl _ t.heap; rw [ht]; exact hP⟩, hS.F ht⟩) hS.2.2 dX6_count_78
  replace h := if_f cc_4 h
  by_cases cc_7 : u1 = 4
  · refine lv_tableIn (off := 78) (tgt := 79) hx hb dX6_count_1 (by rw [cc_7]; decide) (by rw [cc_7]; decide) (by rw [cc_7]; rfl) (by decide) ?_
    replace h := if_t cc_7 h
    refine lv_aload_n hx hb dX6_count_79 rfl (lv_at hl 0 rfl) ?_
    refine lv_iconst (v := 0) hx hb dX6_count_80 (by decide) ?_
    obtain ⟨rr_8, ee_9, h⟩ := bnd1_s h
    refine cFi (As := [.int (0 : Int32)]) (rest := []) S0 hK hA hP (va_D_same hD rfl) hS (k_X6_dustOn l G y0 y1 y2 y3 y4 y5 y6 y7 y8 y9 y10 y11 y12 y13 y14 y15 Y_br Y_fa Y_rbs Y_rfs Y_len Y_at Y_fau Y_wk Y_ac Y_nx Y_hs Y_sd Y_st Y_kd Y_fs Y_fl Y_now Y_rd Y_rb Y_rf Y_tx Y_row Y_hh Y_hl Y_hw Y_ik Y_kp (0 : Int32) rr_8 ee_9) cw_X6_dustOn 6 0 rfl rfl rfl rfl hl.1 rfl (Nat.le_of_ble_eq_true rfl) dX6_count_81 ⟨Nat.zero_le _, Nat.zero_le _⟩ (fun H locs hP hS => ?_)
    replace hP : va_P G.1 vwCl (W_Y G y0 y1 y2 y3 y4 y5 y6 y7 y8 y9 y10 y11 y12 y13 y14 y15 Y_br Y_fa Y_rbs Y_rfs Y_len Y_at Y_fau Y_wk Y_ac Y_nx Y_hs Y_sd Y_st Y_kd Y_fs Y_fl Y_now Y_rd Y_rb Y_rf Y_tx Y_row Y_hh Y_hl Y_hw Y_ik Y_kp) H := hP
    cases h
    exact W.iret hx hb hr (fun t ht _ => ⟨⟨_, (), rfl, rfl, by show va_P G.1 vwCl _ t.heap; rw [ht]; exact hP⟩, hS.F ht⟩) hS.2.2 dX6_count_84
  replace h := if_f cc_7 h
  by_cases cc_10 : u1 = 5
  · refine lv_tableIn (off := 84) (tgt := 85) hx hb dX6_count_1 (by rw [cc_10]; decide) (by rw [cc_10]; decide) (by rw [cc_10]; rfl) (by decide) ?_
    replace h := if_t cc_10 h
    refine lv_aload_n hx hb dX6_count_85 rfl (lv_at hl 0 rfl) ?_
    refine lv_iconst (v := 0) hx hb dX6_count_86 (by decide) ?_
    obtain ⟨rr_11, ee_12, h⟩ := bnd1_s h
    refine cFi (As := [.int (0 : Int32)]) (rest := []) S0 hK hA hP (va_D_same hD rfl) hS (k_X6_kneesOn l G y0 y1 y2 y3 y4 y5 y6 y7 y8 y9 y10 y11 y12 y13 y14 y15 Y_br Y_fa Y_rbs Y_rfs Y_len Y_at Y_fau Y_wk Y_ac Y_nx Y_hs Y_sd Y_st Y_kd Y_fs Y_fl Y_now Y_rd Y_rb Y_rf Y_tx Y_row Y_hh Y_hl Y_hw Y_ik Y_kp (0 : Int32) rr_11 ee_12) cw_X6_kneesOn 6 0 rfl rfl rfl rfl hl.1 rfl (Nat.le_of_ble_eq_true rfl) dX6_count_87 ⟨Nat.zero_le _, Nat.zero_le _⟩ (fun H locs hP hS => ?_)
    replace hP : va_P G.1 vwCl (W_Y G y0 y1 y2 y3 y4 y5 y6 y7 y8 y9 y10 y11 y12 y13 y14 y15 Y_br Y_fa Y_rbs Y_rfs Y_len Y_at Y_fau Y_wk Y_ac Y_nx Y_hs Y_sd Y_st Y_kd Y_fs Y_fl Y_now Y_rd Y_rb Y_rf Y_tx Y_row Y_hh Y_hl Y_hw Y_ik Y_kp) H := hP
    cases h
    exact W.iret hx hb hr (fun t ht _ => ⟨⟨_, (), rfl, rfl, by show va_P G.1 vwCl _ t.heap; rw [ht]; exact hP⟩, hS.F ht⟩) hS.2.2 dX6_count_90
  replace h := if_f cc_10 h
  by_cases cc_13 : u1 = 6
  · refine lv_tableIn (off := 90) (tgt := 91) hx hb dX6_count_1 (by rw [cc_13]; decide) (by rw [cc_13]; decide) (by rw [cc_13]; rfl) (by decide) ?_
    replace h := if_t cc_13 h
    refine lv_aload_n hx hb dX6_count_91 rfl (lv_at hl 0 rfl) ?_
    refine va_get (ci := 6) (C := RX6) (T := TX6) (N := 27) hx hb hts inX6 hown hK.1 hP 0 rfl rfl 6 (by decide) fl22 (fun _ h9 => h9) rfl dX6_count_92 ?_
    refine lv_bipush (v := 13) hx hb dX6_count_95 (by decide) ?_
    obtain ⟨zz_14, ee_15, h⟩ := bnd1_s h
    refine wIald hx hb hK hP 5 rfl ee_15 dX6_count_97 ?_
    cases h
    exact W.iret hx hb hr (fun t ht _ => ⟨⟨_, (), rfl, rfl, by show va_P G.1 vwCl _ t.heap; rw [ht]; exact hP⟩, hS.F ht⟩) hS.2.2 dX6_count_98
  replace h := if_f cc_13 h
  by_cases cc_16 : u1 = 7
  · refine lv_tableIn (off := 98) (tgt := 99) hx hb dX6_count_1 (by rw [cc_16]; decide) (by rw [cc_16]; decide) (by rw [cc_16]; rfl) (by decide) ?_
    replace h := if_t cc_16 h
    refine lv_aload_n hx hb dX6_count_99 rfl (lv_at hl 0 rfl) ?_
    refine va_get (ci := 6) (C := RX6) (T := TX6) (N := 27) hx hb hts inX6 hown hK.1 hP 0 rfl rfl 6 (by decide) fl22 (fun _ h9 => h9) rfl dX6_count_100 ?_
    refine lv_bipush (v := 14) hx hb dX6_count_103 (by decide) ?_
    obtain ⟨zz_17, ee_18, h⟩ := bnd1_s h
    refine wIald hx hb hK hP 5 rfl ee_18 dX6_count_105 ?_
    cases h
    exact W.iret hx hb hr (fun t ht _ => ⟨⟨_, (), rfl, rfl, by show va_P G.1 vwCl _ t.heap; rw [ht]; exact hP⟩, hS.F ht⟩) hS.2.2 dX6_count_106
  replace h := if_f cc_16 h
  by_cases cc_19 : u1 = 8
  · refine lv_tableIn (off := 106) (tgt := 107) hx hb dX6_count_1 (by rw [cc_19]; decide) (by rw [cc_19]; decide) (by rw [cc_19]; rfl) (by decide) ?_
    replace h := if_t cc_19 h
    refine lv_aload_n hx hb dX6_count_107 rfl (lv_at hl 0 rfl) ?_
    refine va_get (ci := 6) (C := RX6) (T := TX6) (N := 27) hx hb hts inX6 hown hK.1 hP 0 rfl rfl 17 (by decide) fl99 (fun _ h9 => h9) rfl dX6_count_108 ?_
    cases h
    exact W.iret hx hb hr (fun t ht _ => ⟨⟨_, (), rfl, rfl, by show va_P G.1 vwCl _ t.heap; rw [ht]; exact hP⟩, hS.F ht⟩) hS.2.2 dX6_count_111
  replace h := if_f cc_19 h
  by_cases cc_20 : u1 = 9
  · refine lv_tableIn (off := 111) (tgt := 112) hx hb dX6_count_1 (by rw [cc_20]; decide) (by rw [cc_20]; decide) (by rw [cc_20]; rfl) (by decide) ?_
    replace h := if_t cc_20 h
    refine lv_aload_n hx hb dX6_count_112 rfl (lv_at hl 0 rfl) ?_
    refine va_get (ci := 6) (C := RX6) (T := TX6) (N := 27) hx hb hts inX6 hown hK.1 hP 0 rfl rfl 20 (by decide) fl185 (fun _ h9 => h9) rfl dX6_count_113 ?_
    cases h
    exact W.iret hx hb hr (fun t ht _ => ⟨⟨_, (), rfl, rfl, by show va_P G.1 vwCl _ t.heap; rw [ht]; exact hP⟩, hS.F ht⟩) hS.2.2 dX6_count_116
  replace h := if_f cc_20 h
  refine lv_tableOut (tgt := 117) hx hb dX6_count_1 (by have acc_1 := ne_toInt cc_1 (k := 0) (by decide); have acc_2 := ne_toInt cc_2 (k := 1) (by decide); have acc_3 := ne_toInt cc_3 (k := 2) (by decide); have acc_4 := ne_toInt cc_4 (k := 3) (by decide); have acc_7 := ne_toInt cc_7 (k := 4) (by decide); have acc_10 := ne_toInt cc_10 (k := 5) (by decide); have acc_13 := ne_toInt cc_13 (k := 6) (by decide); have acc_16 := ne_toInt cc_16 (k := 7) (by decide); have acc_19 := ne_toInt cc_19 (k := 8) (by decide); have acc_20 := ne_toInt cc_20 (k := 9) (by decide); omega) (by decide) ?_
  refine lv_bipush (v := (-2)) hx hb dX6_count_117 (by decide) ?_
  cases h
  exact W.iret hx hb hr (fun t ht _ => ⟨⟨_, (), rfl, rfl, by show va_P G.1 vwCl _ t.heap; rw [ht]; exact hP⟩, hS.F ht⟩) hS.2.2 dX6_count_119
