def f_X6_heap (Y_hs : Int32) (Y_hh : Nat → Int32) (Y_hl : Nat → Int32) (Y_hw : Nat → Int32) (u1 : Int32) (u2 : Int32) (u3 : Int32) : Option (Int32 × Int32 × (Nat → Int32) × (Nat → Int32) × (Nat → Int32)) := bnd1 (f_X6_in (u1.toInt64) (0 : Int64) (20 : Int64)) (fun rr_1 => if rr_1 = 0 then (some (((-2) : Int32), Y_hs, Y_hh, Y_hl, Y_hw)) else (bnd1 (f_X6_in (u2.toInt64) (0 : Int64) (20 : Int64)) (fun rr_4 => if rr_4 = 0 then (some (((-2) : Int32), Y_hs, Y_hh, Y_hl, Y_hw)) else (bnd1 (f_X6_in (u3.toInt64) (0 : Int64) (9 : Int64)) (fun rr_7 => if rr_7 = 0 then (some (((-2) : Int32), Y_hs, Y_hh, Y_hl, Y_hw)) else (if Y_hs = (6 : Int32) then (some (((-4) : Int32), Y_hs, Y_hh, Y_hl, Y_hw)) else (bnd1 (wr Y_hh 6 Y_hs u1) (fun dd_11 => bnd1 (wr Y_hl 6 Y_hs u2) (fun dd_13 => bnd1 (wr Y_hw 6 Y_hs u3) (fun dd_15 => some ((Y_hs + (1 : Int32)), (Y_hs + (1 : Int32)), dd_11, dd_13, dd_15)))))))))))
set_option maxRecDepth 100000 in
set_option maxHeartbeats 4000000 in
theorem k_X6_heap (l : Launch) (G : Gt) (y0 y1 y2 y3 y4 y5 y6 y7 y8 y9 y10 y11 y12 y13 y14 y15 : Nat) (Y_br : Int32) (Y_fa : Int32) (Y_rbs : Int32) (Y_rfs : Int32) (Y_len : Int32) (Y_at : Int32) (Y_fau : Int32) (Y_wk : Int32) (Y_ac : Int32) (Y_nx : Int32) (Y_hs : Int32) (Y_sd : Int64) (Y_st : Nat → Int32) (Y_kd : Nat → Int32) (Y_fs : Nat → Int32) (Y_fl : Nat → Int32) (Y_now : Nat → Int32) (Y_rd : Nat → Int32) (Y_rb : Nat → Int32) (Y_rf : Nat → Int32) (Y_tx : Nat → Int32) (Y_row : Nat → Int32) (Y_hh : Nat → Int32) (Y_hl : Nat → Int32) (Y_hw : Nat → Int32) (Y_ik : Nat → Int32) (Y_kp : Nat → Int32) (u1 : Int32) (u2 : Int32) (u3 : Int32) (r_ : Int32) (o_Y_hs : Int32) (o_Y_hh : Nat → Int32) (o_Y_hl : Nat → Int32) (o_Y_hw : Nat → Int32) (h : f_X6_heap Y_hs Y_hh Y_hl Y_hw u1 u2 u3 = some (r_, o_Y_hs, o_Y_hh, o_Y_hl, o_Y_hw)) : CT l yX6_heap wsX6_heap 1 25 G [.ref y0, .int u1, .int u2, .int u3] (W_Y G y0 y1 y2 y3 y4 y5 y6 y7 y8 y9 y10 y11 y12 y13 y14 y15 Y_br Y_fa Y_rbs Y_rfs Y_len Y_at Y_fau Y_wk Y_ac Y_nx Y_hs Y_sd Y_st Y_kd Y_fs Y_fl Y_now Y_rd Y_rb Y_rf Y_tx Y_row Y_hh Y_hl Y_hw Y_ik Y_kp) (QI G r_ (W_Y G y0 y1 y2 y3 y4 y5 y6 y7 y8 y9 y10 y11 y12 y13 y14 y15 Y_br Y_fa Y_rbs Y_rfs Y_len Y_at Y_fau Y_wk Y_ac Y_nx o_Y_hs Y_sd Y_st Y_kd Y_fs Y_fl Y_now Y_rd Y_rb Y_rf Y_tx Y_row o_Y_hh o_Y_hl o_Y_hw Y_ik Y_kp)) := by
  refine met_of cX6_heap 4 (some .int) (by decide) rfl (Nat.le_of_ble_eq_true rfl) ?_
  intro p e s m below meth c A ls hx hb hr hml hts hown hlocks hK hA hD hP hS hl
  replace hown : s.vm.findClass RX6 = some m.cls := hown
  replace hl : lv_has ls 4 [(0, .ref y0), (1, .int u1), (2, .int u2), (3, .int u3)] := hl
  have S0 : CallFix p m c cX6_heap 4 s _ wsX6_heap RX6 := ⟨hx, hb, hml, hown, hts⟩
  have cl183 := hts (.constantLong RX6 183 (20)) (by decide +kernel)
  have cw_X6_in := show CallB (rmv 1 25) s _ RX6 62 yX6_in cX6_in 6 (some .boolean) wsX6_in (rmv 0 0) 0 0 3 ∧ (Cond.static yX6_in).before _ s = true from va_cwS 3 hts gX6_heap_X6_in rfl rfl rfl (by decide +kernel) ⟨Nat.le_of_ble_eq_true rfl, Nat.le_of_ble_eq_true rfl⟩
  have cl166 := hts (.constantLong RX6 166 (9)) (by decide +kernel)
  have fl185 := hts (.fieldLink RX6 185 "DustVoteModel" "heaps" "I") (by decide +kernel)
  have inX6 := show ∀ w ∈ wsX60, w ∈ wsX6_heap from by decide +kernel
  have fl44 := hts (.fieldLink RX6 44 "DustVoteModel" "heapHad" "[I") (by decide +kernel)
  have fl47 := hts (.fieldLink RX6 47 "DustVoteModel" "heapLeft" "[I") (by decide +kernel)
  have fl50 := hts (.fieldLink RX6 50 "DustVoteModel" "heapWent" "[I") (by decide +kernel)
  unfold f_X6_heap at h
  refine lv_iload_n hx hb dX6_heap_0 rfl (lv_at hl 1 rfl) ?_
  refine lv_i2l (v := u1.toInt64) hx hb dX6_heap_1 rfl ?_
  refine lv_lconst (v := 0) hx hb dX6_heap_2 (by decide) ?_
  refine lv_ldc2 (v := 20) hx hb hown cl183 dX6_heap_3 ?_
  obtain ⟨rr_1, ee_2, h⟩ := bnd1_s h
  refine cSi (As := [.long (u1.toInt64), .long (0 : Int64), .long (20 : Int64)]) (rest := []) S0 hK hA hP (va_D_same hD rfl) hS [] (k_X6_in l G (u1.toInt64) (0 : Int64) (20 : Int64) rr_1 ee_2) cw_X6_in rfl rfl (Nat.le_of_ble_eq_true rfl) rfl hl.1 rfl (Nat.le_of_ble_eq_true rfl) dX6_heap_6 ⟨Nat.zero_le _, Nat.zero_le _⟩ (fun H locs hP hS => ?_)
  replace hP : va_P G.1 vwCl (W_Y G y0 y1 y2 y3 y4 y5 y6 y7 y8 y9 y10 y11 y12 y13 y14 y15 Y_br Y_fa Y_rbs Y_rfs Y_len Y_at Y_fau Y_wk Y_ac Y_nx Y_hs Y_sd Y_st Y_kd Y_fs Y_fl Y_now Y_rd Y_rb Y_rf Y_tx Y_row Y_hh Y_hl Y_hw Y_ik Y_kp) H := hP
  refine lv_if_eq (tgt := 36) hx hb dX6_heap_9 (by decide) (fun cc_3 => ?_) (fun cc_3 => ?_)
  · replace h := if_t cc_3 h
    refine lv_bipush (v := (-2)) hx hb dX6_heap_36 (by decide) ?_
    cases h
    exact W.iret hx hb hr (fun t ht _ => ⟨⟨_, (), rfl, rfl, by show va_P G.1 vwCl _ t.heap; rw [ht]; exact hP⟩, hS.F ht⟩) hS.2.2 dX6_heap_38
  · replace h := if_f cc_3 h
    refine lv_iload_n hx hb dX6_heap_12 rfl (lv_at hl 2 rfl) ?_
    refine lv_i2l (v := u2.toInt64) hx hb dX6_heap_13 rfl ?_
    refine lv_lconst (v := 0) hx hb dX6_heap_14 (by decide) ?_
    refine lv_ldc2 (v := 20) hx hb hown cl183 dX6_heap_15 ?_
    obtain ⟨rr_4, ee_5, h⟩ := bnd1_s h
    refine cSi (As := [.long (u2.toInt64), .long (0 : Int64), .long (20 : Int64)]) (rest := []) S0 hK hA hP (va_D_same hD rfl) hS [] (k_X6_in l G (u2.toInt64) (0 : Int64) (20 : Int64) rr_4 ee_5) cw_X6_in rfl rfl (Nat.le_of_ble_eq_true rfl) rfl hl.1 rfl (Nat.le_of_ble_eq_true rfl) dX6_heap_18 ⟨Nat.zero_le _, Nat.zero_le _⟩ (fun H locs hP hS => ?_)
    replace hP : va_P G.1 vwCl (W_Y G y0 y1 y2 y3 y4 y5 y6 y7 y8 y9 y10 y11 y12 y13 y14 y15 Y_br Y_fa Y_rbs Y_rfs Y_len Y_at Y_fau Y_wk Y_ac Y_nx Y_hs Y_sd Y_st Y_kd Y_fs Y_fl Y_now Y_rd Y_rb Y_rf Y_tx Y_row Y_hh Y_hl Y_hw Y_ik Y_kp) H := hP
    refine lv_if_eq (tgt := 36) hx hb dX6_heap_21 (by decide) (fun cc_6 => ?_) (fun cc_6 => ?_)
    · replace h := if_t cc_6 h
      refine lv_bipush (v := (-2)) hx hb dX6_heap_36 (by decide) ?_
      cases h
      exact W.iret hx hb hr (fun t ht _ => ⟨⟨_, (), rfl, rfl, by show va_P G.1 vwCl _ t.heap; rw [ht]; exact hP⟩, hS.F ht⟩) hS.2.2 dX6_heap_38
    · replace h := if_f cc_6 h
      refine lv_iload_n hx hb dX6_heap_24 rfl (lv_at hl 3 rfl) ?_
      refine lv_i2l (v := u3.toInt64) hx hb dX6_heap_25 rfl ?_
      refine lv_lconst (v := 0) hx hb dX6_heap_26 (by decide) ?_
      refine lv_ldc2 (v := 9) hx hb hown cl166 dX6_heap_27 ?_
      obtain ⟨rr_7, ee_8, h⟩ := bnd1_s h
      refine cSi (As := [.long (u3.toInt64), .long (0 : Int64), .long (9 : Int64)]) (rest := []) S0 hK hA hP (va_D_same hD rfl) hS [] (k_X6_in l G (u3.toInt64) (0 : Int64) (9 : Int64) rr_7 ee_8) cw_X6_in rfl rfl (Nat.le_of_ble_eq_true rfl) rfl hl.1 rfl (Nat.le_of_ble_eq_true rfl) dX6_heap_30 ⟨Nat.zero_le _, Nat.zero_le _⟩ (fun H locs hP hS => ?_)
      replace hP : va_P G.1 vwCl (W_Y G y0 y1 y2 y3 y4 y5 y6 y7 y8 y9 y10 y11 y12 y13 y14 y15 Y_br Y_fa Y_rbs Y_rfs Y_len Y_at Y_fau Y_wk Y_ac Y_nx Y_hs Y_sd Y_st Y_kd Y_fs Y_fl Y_now Y_rd Y_rb Y_rf Y_tx Y_row Y_hh Y_hl Y_hw Y_ik Y_kp) H := hP
      refine lv_if_ne (tgt := 39) hx hb dX6_heap_33 (by decide) (fun cc_9 => ?_) (fun cc_9 => ?_)
      · replace h := if_f cc_9 h
        refine lv_aload_n hx hb dX6_heap_39 rfl (lv_at hl 0 rfl) ?_
        refine va_get (ci := 6) (C := RX6) (T := TX6) (N := 27) hx hb hts inX6 hown hK.1 hP 0 rfl rfl 20 (by decide) fl185 (fun _ h9 => h9) rfl dX6_heap_40 ?_
        refine lv_bipush (v := 6) hx hb dX6_heap_43 (by decide) ?_
        refine lv_icmp_ne (tgt := 51) hx hb dX6_heap_45 (by decide) (fun cc_10 => ?_) (fun cc_10 => ?_)
        · replace h := if_f cc_10 h
          refine lv_aload_n hx hb dX6_heap_51 rfl (lv_at hl 0 rfl) ?_
          refine va_get (ci := 6) (C := RX6) (T := TX6) (N := 27) hx hb hts inX6 hown hK.1 hP 0 rfl rfl 21 (by decide) fl44 (fun _ h9 => h9) rfl dX6_heap_52 ?_
          refine lv_aload_n hx hb dX6_heap_55 rfl (lv_at hl 0 rfl) ?_
          refine va_get (ci := 6) (C := RX6) (T := TX6) (N := 27) hx hb hts inX6 hown hK.1 hP 0 rfl rfl 20 (by decide) fl185 (fun _ h9 => h9) rfl dX6_heap_56 ?_
          refine lv_iload_n hx hb dX6_heap_59 rfl (lv_at hl 1 rfl) ?_
          obtain ⟨dd_11, ee_12, h⟩ := bnd1_s h
          refine wIast hx hb hK hP (va_D_same hD rfl) hS 11 rfl ee_12 dX6_heap_60 (fun H locs hP hS => ?_)
          replace hP : va_P G.1 vwCl (W_Y G y0 y1 y2 y3 y4 y5 y6 y7 y8 y9 y10 y11 y12 y13 y14 y15 Y_br Y_fa Y_rbs Y_rfs Y_len Y_at Y_fau Y_wk Y_ac Y_nx Y_hs Y_sd Y_st Y_kd Y_fs Y_fl Y_now Y_rd Y_rb Y_rf Y_tx Y_row dd_11 Y_hl Y_hw Y_ik Y_kp) H := hP
          refine lv_aload_n hx hb dX6_heap_61 rfl (lv_at hl 0 rfl) ?_
          refine va_get (ci := 6) (C := RX6) (T := TX6) (N := 27) hx hb hts inX6 hown hK.1 hP 0 rfl rfl 22 (by decide) fl47 (fun _ h9 => h9) rfl dX6_heap_62 ?_
          refine lv_aload_n hx hb dX6_heap_65 rfl (lv_at hl 0 rfl) ?_
          refine va_get (ci := 6) (C := RX6) (T := TX6) (N := 27) hx hb hts inX6 hown hK.1 hP 0 rfl rfl 20 (by decide) fl185 (fun _ h9 => h9) rfl dX6_heap_66 ?_
          refine lv_iload_n hx hb dX6_heap_69 rfl (lv_at hl 2 rfl) ?_
          obtain ⟨dd_13, ee_14, h⟩ := bnd1_s h
          refine wIast hx hb hK hP (va_D_same hD rfl) hS 12 rfl ee_14 dX6_heap_70 (fun H locs hP hS => ?_)
          replace hP : va_P G.1 vwCl (W_Y G y0 y1 y2 y3 y4 y5 y6 y7 y8 y9 y10 y11 y12 y13 y14 y15 Y_br Y_fa Y_rbs Y_rfs Y_len Y_at Y_fau Y_wk Y_ac Y_nx Y_hs Y_sd Y_st Y_kd Y_fs Y_fl Y_now Y_rd Y_rb Y_rf Y_tx Y_row dd_11 dd_13 Y_hw Y_ik Y_kp) H := hP
          refine lv_aload_n hx hb dX6_heap_71 rfl (lv_at hl 0 rfl) ?_
          refine va_get (ci := 6) (C := RX6) (T := TX6) (N := 27) hx hb hts inX6 hown hK.1 hP 0 rfl rfl 23 (by decide) fl50 (fun _ h9 => h9) rfl dX6_heap_72 ?_
          refine lv_aload_n hx hb dX6_heap_75 rfl (lv_at hl 0 rfl) ?_
          refine va_get (ci := 6) (C := RX6) (T := TX6) (N := 27) hx hb hts inX6 hown hK.1 hP 0 rfl rfl 20 (by decide) fl185 (fun _ h9 => h9) rfl dX6_heap_76 ?_
          refine lv_iload_n hx hb dX6_heap_79 rfl (lv_at hl 3 rfl) ?_
          obtain ⟨dd_15, ee_16, h⟩ := bnd1_s h
          refine wIast hx hb hK hP (va_D_same hD rfl) hS 13 rfl ee_16 dX6_heap_80 (fun H locs hP hS => ?_)
          replace hP : va_P G.1 vwCl (W_Y G y0 y1 y2 y3 y4 y5 y6 y7 y8 y9 y10 y11 y12 y13 y14 y15 Y_br Y_fa Y_rbs Y_rfs Y_len Y_at Y_fau Y_wk Y_ac Y_nx Y_hs Y_sd Y_st Y_kd Y_fs Y_fl Y_now Y_rd Y_rb Y_rf Y_tx Y_row dd_11 dd_13 dd_15 Y_ik Y_kp) H := hP
          refine lv_aload_n hx hb dX6_heap_81 rfl (lv_at hl 0 rfl) ?_
          refine lv_dup hx hb dX6_heap_82 rfl ?_
          refine va_get (ci := 6) (C := RX6) (T := TX6) (N := 27) hx hb hts inX6 hown hK.1 hP 0 rfl rfl 20 (by decide) fl185 (fun _ h9 => h9) rfl dX6_heap_83 ?_
          refine lv_iconst (v := 1) hx hb dX6_heap_86 (by decide) ?_
          refine lv_iadd hx hb dX6_heap_87 ?_
          refine va_put (ci := 6) (ty := .int) (C := RX6) (T := TX6) (N := 27) hx hb hts inX6 tyX6 tyX6_ok nmX6 hown hK.1 hP (va_D_same hD rfl) hS 0 rfl rfl 20 (by decide) fl185 (fun _ h9 => h9) rfl (by decide +kernel) rfl rfl (Nat.le_of_ble_eq_true rfl) dX6_heap_88 (fun H locs hP _ hS => ?_)
          replace hP : va_P G.1 vwCl (W_Y G y0 y1 y2 y3 y4 y5 y6 y7 y8 y9 y10 y11 y12 y13 y14 y15 Y_br Y_fa Y_rbs Y_rfs Y_len Y_at Y_fau Y_wk Y_ac Y_nx (Y_hs + (1 : Int32)) Y_sd Y_st Y_kd Y_fs Y_fl Y_now Y_rd Y_rb Y_rf Y_tx Y_row dd_11 dd_13 dd_15 Y_ik Y_kp) H := hP
          refine lv_aload_n hx hb dX6_heap_91 rfl (lv_at hl 0 rfl) ?_
          refine va_get (ci := 6) (C := RX6) (T := TX6) (N := 27) hx hb hts inX6 hown hK.1 hP 0 rfl rfl 20 (by decide) fl185 (fun _ h9 => h9) rfl dX6_heap_92 ?_
          cases h
          exact W.iret hx hb hr (fun t ht _ => ⟨⟨_, (), rfl, rfl, by show va_P G.1 vwCl _ t.heap; rw [ht]; exact hP⟩, hS.F ht⟩) hS.2.2 dX6_heap_95
        · replace h := if_t cc_10 h
          refine lv_bipush (v := (-4)) hx hb dX6_heap_48 (by decide) ?_
          cases h
          exact W.iret hx hb hr (fun t ht _ => ⟨⟨_, (), rfl, rfl, by show va_P G.1 vwCl _ t.heap; rw [ht]; exact hP⟩, hS.F ht⟩) hS.2.2 dX6_heap_50
      · replace h := if_t cc_9 h
        refine lv_bipush (v := (-2)) hx hb dX6_heap_36 (by decide) ?_
        cases h
        exact W.iret hx hb hr (fun t ht _ => ⟨⟨_, (), rfl, rfl, by show va_P G.1 vwCl _ t.heap; rw [ht]; exact hP⟩, hS.F ht⟩) hS.2.2 dX6_heap_38
def f_X6_unheap (Y_hs : Int32) : Option (Int32 × Int32) := some (Y_hs, (0 : Int32))
set_option maxRecDepth 100000 in
set_option maxHeartbeats 4000000 in
theorem k_X6_unheap (l : Launch) (G : Gt) (y0 y1 y2 y3 y4 y5 y6 y7 y8 y9 y10 y11 y12 y13 y14 y15 : Nat) (Y_br : Int32) (Y_fa : Int32) (Y_rbs : Int32) (Y_rfs : Int32) (Y_len : Int32) (Y_at : Int32) (Y_fau : Int32) (Y_wk : Int32) (Y_ac : Int32) (Y_nx : Int32) (Y_hs : Int32) (Y_sd : Int64) (Y_st : Nat → Int32) (Y_kd : Nat → Int32) (Y_fs : Nat → Int32) (Y_fl : Nat → Int32) (Y_now : Nat → Int32) (Y_rd : Nat → Int32) (Y_rb : Nat → Int32) (Y_rf : Nat → Int32) (Y_tx : Nat → Int32) (Y_row : Nat → Int32) (Y_hh : Nat → Int32) (Y_hl : Nat → Int32) (Y_hw : Nat → Int32) (Y_ik : Nat → Int32) (Y_kp : Nat → Int32) (r_ : Int32) (o_Y_hs : Int32) (h : f_X6_unheap Y_hs = some (r_, o_Y_hs)) : CT l yX6_unheap wsX6_unheap 0 0 G [.ref y0] (W_Y G y0 y1 y2 y3 y4 y5 y6 y7 y8 y9 y10 y11 y12 y13 y14 y15 Y_br Y_fa Y_rbs Y_rfs Y_len Y_at Y_fau Y_wk Y_ac Y_nx Y_hs Y_sd Y_st Y_kd Y_fs Y_fl Y_now Y_rd Y_rb Y_rf Y_tx Y_row Y_hh Y_hl Y_hw Y_ik Y_kp) (QI G r_ (W_Y G y0 y1 y2 y3 y4 y5 y6 y7 y8 y9 y10 y11 y12 y13 y14 y15 Y_br Y_fa Y_rbs Y_rfs Y_len Y_at Y_fau Y_wk Y_ac Y_nx o_Y_hs Y_sd Y_st Y_kd Y_fs Y_fl Y_now Y_rd Y_rb Y_rf Y_tx Y_row Y_hh Y_hl Y_hw Y_ik Y_kp)) := by
  refine met_of cX6_unheap 2 (some .int) (by decide) rfl (Nat.le_of_ble_eq_true rfl) ?_
  intro p e s m below meth c A ls hx hb hr hml hts hown hlocks hK hA hD hP hS hl
  replace hown : s.vm.findClass RX6 = some m.cls := hown
  replace hl : lv_has ls 2 [(0, .ref y0)] := hl
  have S0 : CallFix p m c cX6_unheap 2 s _ wsX6_unheap RX6 := ⟨hx, hb, hml, hown, hts⟩
  have fl185 := hts (.fieldLink RX6 185 "DustVoteModel" "heaps" "I") (by decide +kernel)
  have inX6 := show ∀ w ∈ wsX60, w ∈ wsX6_unheap from by decide +kernel
  unfold f_X6_unheap at h
  refine lv_aload_n hx hb dX6_unheap_0 rfl (lv_at hl 0 rfl) ?_
  refine va_get (ci := 6) (C := RX6) (T := TX6) (N := 27) hx hb hts inX6 hown hK.1 hP 0 rfl rfl 20 (by decide) fl185 (fun _ h9 => h9) rfl dX6_unheap_1 ?_
  refine lv_istore_n (lv' := [(1, .int Y_hs), (0, .ref y0)]) hx hb dX6_unheap_4 rfl hl (by decide) rfl (fun ls hl => ?_)
  refine lv_aload_n hx hb dX6_unheap_5 rfl (lv_at hl 1 rfl) ?_
  refine lv_iconst (v := 0) hx hb dX6_unheap_6 (by decide) ?_
  refine va_put (ci := 6) (ty := .int) (C := RX6) (T := TX6) (N := 27) hx hb hts inX6 tyX6 tyX6_ok nmX6 hown hK.1 hP (va_D_same hD rfl) hS 0 rfl rfl 20 (by decide) fl185 (fun _ h9 => h9) rfl (by decide +kernel) rfl rfl (Nat.le_of_ble_eq_true rfl) dX6_unheap_7 (fun H locs hP _ hS => ?_)
  replace hP : va_P G.1 vwCl (W_Y G y0 y1 y2 y3 y4 y5 y6 y7 y8 y9 y10 y11 y12 y13 y14 y15 Y_br Y_fa Y_rbs Y_rfs Y_len Y_at Y_fau Y_wk Y_ac Y_nx (0 : Int32) Y_sd Y_st Y_kd Y_fs Y_fl Y_now Y_rd Y_rb Y_rf Y_tx Y_row Y_hh Y_hl Y_hw Y_ik Y_kp) H := hP
  refine lv_iload_n hx hb dX6_unheap_10 rfl (lv_at hl 0 rfl) ?_
  cases h
  exact W.iret hx hb hr (fun t ht _ => ⟨⟨_, (), rfl, rfl, by show va_P G.1 vwCl _ t.heap; rw [ht]; exact hP⟩, hS.F ht⟩) hS.2.2 dX6_unheap_11
