def f_X6_readPart_94 (Y_len : Int32) (Y_tx : Nat → Int32) (v1 : Int32) (Y_rbs : Int32) (Y_rfs : Int32) (Y_at : Int32) (Y_fau : Int32) (Y_rb : Nat → Int32) (Y_rf : Nat → Int32) : Option (Int32 × Int32 × Int32 × Int32 × (Nat → Int32) × (Nat → Int32)) := if v1 = (70 : Int32) then (if (5 : Int32) ≤ Y_rfs then (some (Y_rbs, Y_rfs, Y_at, Y_at, Y_rb, Y_rf)) else (bnd3 (f_X6_figureOf Y_len (Y_at + (1 : Int32)) Y_fau Y_tx (0 : Int32) (7 : Int32)) (fun rr_3 dd_4 dd_5 => bnd1 (wr Y_rf 10 ((2 : Int32) * Y_rfs) rr_3) (fun dd_7 => bnd3 (f_X6_figureOf Y_len dd_4 dd_5 Y_tx (0 : Int32) (9 : Int32)) (fun rr_9 dd_10 dd_11 => bnd1 (wr dd_7 10 (((2 : Int32) * Y_rfs) + (1 : Int32)) rr_9) (fun dd_13 => some (Y_rbs, (Y_rfs + (1 : Int32)), dd_10, dd_11, Y_rb, dd_13))))))) else (some (Y_rbs, Y_rfs, Y_at, Y_at, Y_rb, Y_rf))
def f_X6_readPart (Y_rbs : Int32) (Y_rfs : Int32) (Y_len : Int32) (Y_at : Int32) (Y_fau : Int32) (Y_rb : Nat → Int32) (Y_rf : Nat → Int32) (Y_tx : Nat → Int32) (u1 : Int32) : Option (Int32 × Int32 × Int32 × Int32 × (Nat → Int32) × (Nat → Int32)) := if u1 = (78 : Int32) then (if (5 : Int32) ≤ Y_rbs then (f_X6_readPart_94 Y_len Y_tx  u1 Y_rbs Y_rfs Y_at Y_fau Y_rb Y_rf) else (bnd3 (f_X6_figureOf Y_len (Y_at + (1 : Int32)) Y_fau Y_tx (0 : Int32) (7 : Int32)) (fun rr_17 dd_18 dd_19 => bnd1 (wr Y_rb 15 ((3 : Int32) * Y_rbs) rr_17) (fun dd_21 => bnd3 (f_X6_figureOf Y_len dd_18 dd_19 Y_tx (1 : Int32) (9 : Int32)) (fun rr_23 dd_24 dd_25 => bnd1 (wr dd_21 15 (((3 : Int32) * Y_rbs) + (1 : Int32)) rr_23) (fun dd_27 => bnd3 (f_X6_figureOf Y_len dd_24 dd_25 Y_tx (0 : Int32) (3 : Int32)) (fun rr_29 dd_30 dd_31 => bnd1 (wr dd_27 15 (((3 : Int32) * Y_rbs) + (2 : Int32)) rr_29) (fun dd_33 => some ((Y_rbs + (1 : Int32)), Y_rfs, dd_30, dd_31, dd_33, Y_rf))))))))) else (f_X6_readPart_94 Y_len Y_tx  u1 Y_rbs Y_rfs Y_at Y_fau Y_rb Y_rf)
set_option maxRecDepth 100000 in
set_option maxHeartbeats 4000000 in
theorem k_X6_readPart (l : Launch) (G : Gt) (y0 y1 y2 y3 y4 y5 y6 y7 y8 y9 y10 y11 y12 y13 y14 y15 : Nat) (Y_br : Int32) (Y_fa : Int32) (Y_rbs : Int32) (Y_rfs : Int32) (Y_len : Int32) (Y_at : Int32) (Y_fau : Int32) (Y_wk : Int32) (Y_ac : Int32) (Y_nx : Int32) (Y_hs : Int32) (Y_sd : Int64) (Y_st : Nat → Int32) (Y_kd : Nat → Int32) (Y_fs : Nat → Int32) (Y_fl : Nat → Int32) (Y_now : Nat → Int32) (Y_rd : Nat → Int32) (Y_rb : Nat → Int32) (Y_rf : Nat → Int32) (Y_tx : Nat → Int32) (Y_row : Nat → Int32) (Y_hh : Nat → Int32) (Y_hl : Nat → Int32) (Y_hw : Nat → Int32) (Y_ik : Nat → Int32) (Y_kp : Nat → Int32) (u1 : Int32) (o_Y_rbs : Int32) (o_Y_rfs : Int32) (o_Y_at : Int32) (o_Y_fau : Int32) (o_Y_rb : Nat → Int32) (o_Y_rf : Nat → Int32) (h : f_X6_readPart Y_rbs Y_rfs Y_len Y_at Y_fau Y_rb Y_rf Y_tx u1 = some (o_Y_rbs, o_Y_rfs, o_Y_at, o_Y_fau, o_Y_rb, o_Y_rf)) : CT l yX6_readPart wsX6_readPart 2 49 G [.ref y0, .int u1] (W_Y G y0 y1 y2 y3 y4 y5 y6 y7 y8 y9 y10 y11 y12 y13 y14 y15 Y_br Y_fa Y_rbs Y_rfs Y_len Y_at Y_fau Y_wk Y_ac Y_nx Y_hs Y_sd Y_st Y_kd Y_fs Y_fl Y_now Y_rd Y_rb Y_rf Y_tx Y_row Y_hh Y_hl Y_hw Y_ik Y_kp) (QV G (W_Y G y0 y1 y2 y3 y4 y5 y6 y7 y8 y9 y10 y11 y12 y13 y14 y15 Y_br Y_fa o_Y_rbs o_Y_rfs Y_len o_Y_at o_Y_fau Y_wk Y_ac Y_nx Y_hs Y_sd Y_st Y_kd Y_fs Y_fl Y_now Y_rd o_Y_rb o_Y_rf Y_tx Y_row Y_hh Y_hl Y_hw Y_ik Y_kp)) := by
  refine met_of cX6_readPart 2 none (by decide) rfl (Nat.le_of_ble_eq_true rfl) ?_
  intro p e s m below meth c A ls hx hb hr hml hts hown hlocks hK hA hD hP hS hl
  replace hown : s.vm.findClass RX6 = some m.cls := hown
  replace hl : lv_has ls 2 [(0, .ref y0), (1, .int u1)] := hl
  have S0 : CallFix p m c cX6_readPart 2 s _ wsX6_readPart RX6 := ⟨hx, hb, hml, hown, hts⟩
  have fl72 := hts (.fieldLink RX6 72 "DustVoteModel" "at" "I") (by decide +kernel)
  have inX6 := show ∀ w ∈ wsX60, w ∈ wsX6_readPart from by decide +kernel
  have fl69 := hts (.fieldLink RX6 69 "DustVoteModel" "faultAt" "I") (by decide +kernel)
  have fl78 := hts (.fieldLink RX6 78 "DustVoteModel" "readFalls" "I") (by decide +kernel)
  have fl31 := hts (.fieldLink RX6 31 "DustVoteModel" "readFall" "[I") (by decide +kernel)
  have cw_X6_figureOf := show CallW (rmv 2 49) s _ RX6 RX6 81 yX6_figureOf cX6_figureOf 5 (some .int) wsX6_figureOf (rmv 1 25) 0 0 2 from cwV 2 hts gX6_readPart_X6_figureOf rfl rfl rfl (by decide +kernel) ⟨Nat.le_of_ble_eq_true rfl, Nat.le_of_ble_eq_true rfl⟩
  have fl75 := hts (.fieldLink RX6 75 "DustVoteModel" "readBrooms" "I") (by decide +kernel)
  have fl28 := hts (.fieldLink RX6 28 "DustVoteModel" "readBroom" "[I") (by decide +kernel)
  have J_94 : ∀ (v1 : Int32) (Y_rbs : Int32) (Y_rfs : Int32) (Y_at : Int32) (Y_fau : Int32) (Y_rb : Nat → Int32) (Y_rf : Nat → Int32) (H : Heap) (locs : List Loc) (ls : Array Slot), f_X6_readPart_94 Y_len Y_tx v1 Y_rbs Y_rfs Y_at Y_fau Y_rb Y_rf = some (o_Y_rbs, o_Y_rfs, o_Y_at, o_Y_fau, o_Y_rb, o_Y_rf) → va_P G.1 vwCl (W_Y G y0 y1 y2 y3 y4 y5 y6 y7 y8 y9 y10 y11 y12 y13 y14 y15 Y_br Y_fa Y_rbs Y_rfs Y_len Y_at Y_fau Y_wk Y_ac Y_nx Y_hs Y_sd Y_st Y_kd Y_fs Y_fl Y_now Y_rd Y_rb Y_rf Y_tx Y_row Y_hh Y_hl Y_hw Y_ik Y_kp) H → va_S A s.heap H locs → lv_has ls 2 [(0, .ref y0), (1, .int v1)] → W p l e (rmv 2 49) s m (List.toArray [.ref y0, .int u1]) below meth c H locs 0 0 (MQ below ((QV G (W_Y G y0 y1 y2 y3 y4 y5 y6 y7 y8 y9 y10 y11 y12 y13 y14 y15 Y_br Y_fa o_Y_rbs o_Y_rfs Y_len o_Y_at o_Y_fau Y_wk Y_ac Y_nx Y_hs Y_sd Y_st Y_kd Y_fs Y_fl Y_now Y_rd o_Y_rb o_Y_rf Y_tx Y_row Y_hh Y_hl Y_hw Y_ik Y_kp)) A) (List.toArray [.ref y0, .int u1]) s 0 0 A) (F0 m 94 ls []) := by
    intro v1 Y_rbs Y_rfs Y_at Y_fau Y_rb Y_rf H locs ls h hP hS hl
    unfold f_X6_readPart_94 at h
    refine lv_iload_n hx hb dX6_readPart_94 rfl (lv_at hl 1 rfl) ?_
    refine lv_bipush (v := 70) hx hb dX6_readPart_95 (by decide) ?_
    refine lv_icmp_ne (tgt := 169) hx hb dX6_readPart_97 (by decide) (fun cc_1 => ?_) (fun cc_1 => ?_)
    · replace h := if_f cc_1 h
      refine lv_aload_n hx hb dX6_readPart_169 rfl (lv_at hl 0 rfl) ?_
      refine lv_aload_n hx hb dX6_readPart_170 rfl (lv_at hl 0 rfl) ?_
      refine va_get (ci := 6) (C := RX6) (T := TX6) (N := 27) hx hb hts inX6 hown hK.1 hP 0 rfl rfl 14 (by decide) fl72 (fun _ h9 => h9) rfl dX6_readPart_171 ?_
      refine va_put (ci := 6) (ty := .int) (C := RX6) (T := TX6) (N := 27) hx hb hts inX6 tyX6 tyX6_ok nmX6 hown hK.1 hP (va_D_same hD rfl) hS 0 rfl rfl 15 (by decide) fl69 (fun _ h9 => h9) rfl (by decide +kernel) rfl rfl (Nat.le_of_ble_eq_true rfl) dX6_readPart_174 (fun H locs hP _ hS => ?_)
      replace hP : va_P G.1 vwCl (W_Y G y0 y1 y2 y3 y4 y5 y6 y7 y8 y9 y10 y11 y12 y13 y14 y15 Y_br Y_fa Y_rbs Y_rfs Y_len Y_at Y_at Y_wk Y_ac Y_nx Y_hs Y_sd Y_st Y_kd Y_fs Y_fl Y_now Y_rd Y_rb Y_rf Y_tx Y_row Y_hh Y_hl Y_hw Y_ik Y_kp) H := hP
      cases h
      exact W.vret hx hb hr (fun t ht _ => ⟨⟨(), rfl, trivial, by show va_P G.1 vwCl _ t.heap; rw [ht]; exact hP⟩, hS.F ht⟩) hS.2.2 dX6_readPart_177
    · replace h := if_t cc_1 h
      refine lv_aload_n hx hb dX6_readPart_100 rfl (lv_at hl 0 rfl) ?_
      refine va_get (ci := 6) (C := RX6) (T := TX6) (N := 27) hx hb hts inX6 hown hK.1 hP 0 rfl rfl 11 (by decide) fl78 (fun _ h9 => h9) rfl dX6_readPart_101 ?_
      refine lv_iconst (v := 5) hx hb dX6_readPart_104 (by decide) ?_
      refine lv_icmp_ge (tgt := 169) hx hb dX6_readPart_105 (by decide) (fun cc_2 => ?_) (fun cc_2 => ?_)
      · replace h := if_t cc_2 h
        refine lv_aload_n hx hb dX6_readPart_169 rfl (lv_at hl 0 rfl) ?_
        refine lv_aload_n hx hb dX6_readPart_170 rfl (lv_at hl 0 rfl) ?_
        refine va_get (ci := 6) (C := RX6) (T := TX6) (N := 27) hx hb hts inX6 hown hK.1 hP 0 rfl rfl 14 (by decide) fl72 (fun _ h9 => h9) rfl dX6_readPart_171 ?_
        refine va_put (ci := 6) (ty := .int) (C := RX6) (T := TX6) (N := 27) hx hb hts inX6 tyX6 tyX6_ok nmX6 hown hK.1 hP (va_D_same hD rfl) hS 0 rfl rfl 15 (by decide) fl69 (fun _ h9 => h9) rfl (by decide +kernel) rfl rfl (Nat.le_of_ble_eq_true rfl) dX6_readPart_174 (fun H locs hP _ hS => ?_)
        replace hP : va_P G.1 vwCl (W_Y G y0 y1 y2 y3 y4 y5 y6 y7 y8 y9 y10 y11 y12 y13 y14 y15 Y_br Y_fa Y_rbs Y_rfs Y_len Y_at Y_at Y_wk Y_ac Y_nx Y_hs Y_sd Y_st Y_kd Y_fs Y_fl Y_now Y_rd Y_rb Y_rf Y_tx Y_row Y_hh Y_hl Y_hw Y_ik Y_kp) H := hP
        cases h
        exact W.vret hx hb hr (fun t ht _ => ⟨⟨(), rfl, trivial, by show va_P G.1 vwCl _ t.heap; rw [ht]; exact hP⟩, hS.F ht⟩) hS.2.2 dX6_readPart_177
      · replace h := if_f cc_2 h
        refine lv_aload_n hx hb dX6_readPart_108 rfl (lv_at hl 0 rfl) ?_
        refine lv_dup hx hb dX6_readPart_109 rfl ?_
        refine va_get (ci := 6) (C := RX6) (T := TX6) (N := 27) hx hb hts inX6 hown hK.1 hP 0 rfl rfl 14 (by decide) fl72 (fun _ h9 => h9) rfl dX6_readPart_110 ?_
        refine lv_iconst (v := 1) hx hb dX6_readPart_113 (by decide) ?_
        refine lv_iadd hx hb dX6_readPart_114 ?_
        refine va_put (ci := 6) (ty := .int) (C := RX6) (T := TX6) (N := 27) hx hb hts inX6 tyX6 tyX6_ok nmX6 hown hK.1 hP (va_D_same hD rfl) hS 0 rfl rfl 14 (by decide) fl72 (fun _ h9 => h9) rfl (by decide +kernel) rfl rfl (Nat.le_of_ble_eq_true rfl) dX6_readPart_115 (fun H locs hP _ hS => ?_)
        replace hP : va_P G.1 vwCl (W_Y G y0 y1 y2 y3 y4 y5 y6 y7 y8 y9 y10 y11 y12 y13 y14 y15 Y_br Y_fa Y_rbs Y_rfs Y_len (Y_at + (1 : Int32)) Y_fau Y_wk Y_ac Y_nx Y_hs Y_sd Y_st Y_kd Y_fs Y_fl Y_now Y_rd Y_rb Y_rf Y_tx Y_row Y_hh Y_hl Y_hw Y_ik Y_kp) H := hP
        refine lv_aload_n hx hb dX6_readPart_118 rfl (lv_at hl 0 rfl) ?_
        refine va_get (ci := 6) (C := RX6) (T := TX6) (N := 27) hx hb hts inX6 hown hK.1 hP 0 rfl rfl 9 (by decide) fl31 (fun _ h9 => h9) rfl dX6_readPart_119 ?_
        refine lv_iconst (v := 2) hx hb dX6_readPart_122 (by decide) ?_
        refine lv_aload_n hx hb dX6_readPart_123 rfl (lv_at hl 0 rfl) ?_
        refine va_get (ci := 6) (C := RX6) (T := TX6) (N := 27) hx hb hts inX6 hown hK.1 hP 0 rfl rfl 11 (by decide) fl78 (fun _ h9 => h9) rfl dX6_readPart_124 ?_
        refine lv_imul hx hb dX6_readPart_127 ?_
        refine lv_aload_n hx hb dX6_readPart_128 rfl (lv_at hl 0 rfl) ?_
        refine lv_iconst (v := 0) hx hb dX6_readPart_129 (by decide) ?_
        refine lv_bipush (v := 7) hx hb dX6_readPart_130 (by decide) ?_
        obtain ⟨rr_3, dd_4, dd_5, ee_6, h⟩ := bnd3_s h
        refine cFi (As := [.int (0 : Int32), .int (7 : Int32)]) (rest := [.int ((2 : Int32) * Y_rfs), .ref y8]) S0 hK hA hP (va_D_same hD rfl) hS (k_X6_figureOf l G y0 y1 y2 y3 y4 y5 y6 y7 y8 y9 y10 y11 y12 y13 y14 y15 Y_br Y_fa Y_rbs Y_rfs Y_len (Y_at + (1 : Int32)) Y_fau Y_wk Y_ac Y_nx Y_hs Y_sd Y_st Y_kd Y_fs Y_fl Y_now Y_rd Y_rb Y_rf Y_tx Y_row Y_hh Y_hl Y_hw Y_ik Y_kp (0 : Int32) (7 : Int32) rr_3 dd_4 dd_5 ee_6) cw_X6_figureOf 6 0 rfl rfl rfl rfl hl.1 rfl (Nat.le_of_ble_eq_true rfl) dX6_readPart_132 ⟨Nat.zero_le _, Nat.zero_le _⟩ (fun H locs hP hS => ?_)
        replace hP : va_P G.1 vwCl (W_Y G y0 y1 y2 y3 y4 y5 y6 y7 y8 y9 y10 y11 y12 y13 y14 y15 Y_br Y_fa Y_rbs Y_rfs Y_len dd_4 dd_5 Y_wk Y_ac Y_nx Y_hs Y_sd Y_st Y_kd Y_fs Y_fl Y_now Y_rd Y_rb Y_rf Y_tx Y_row Y_hh Y_hl Y_hw Y_ik Y_kp) H := hP
        obtain ⟨dd_7, ee_8, h⟩ := bnd1_s h
        refine wIast hx hb hK hP (va_D_same hD rfl) hS 8 rfl ee_8 dX6_readPart_135 (fun H locs hP hS => ?_)
        replace hP : va_P G.1 vwCl (W_Y G y0 y1 y2 y3 y4 y5 y6 y7 y8 y9 y10 y11 y12 y13 y14 y15 Y_br Y_fa Y_rbs Y_rfs Y_len dd_4 dd_5 Y_wk Y_ac Y_nx Y_hs Y_sd Y_st Y_kd Y_fs Y_fl Y_now Y_rd Y_rb dd_7 Y_tx Y_row Y_hh Y_hl Y_hw Y_ik Y_kp) H := hP
        refine lv_aload_n hx hb dX6_readPart_136 rfl (lv_at hl 0 rfl) ?_
        refine va_get (ci := 6) (C := RX6) (T := TX6) (N := 27) hx hb hts inX6 hown hK.1 hP 0 rfl rfl 9 (by decide) fl31 (fun _ h9 => h9) rfl dX6_readPart_137 ?_
        refine lv_iconst (v := 2) hx hb dX6_readPart_140 (by decide) ?_
        refine lv_aload_n hx hb dX6_readPart_141 rfl (lv_at hl 0 rfl) ?_
        refine va_get (ci := 6) (C := RX6) (T := TX6) (N := 27) hx hb hts inX6 hown hK.1 hP 0 rfl rfl 11 (by decide) fl78 (fun _ h9 => h9) rfl dX6_readPart_142 ?_
        refine lv_imul hx hb dX6_readPart_145 ?_
        refine lv_iconst (v := 1) hx hb dX6_readPart_146 (by decide) ?_
        refine lv_iadd hx hb dX6_readPart_147 ?_
        refine lv_aload_n hx hb dX6_readPart_148 rfl (lv_at hl 0 rfl) ?_
        refine lv_iconst (v := 0) hx hb dX6_readPart_149 (by decide) ?_
        refine lv_bipush (v := 9) hx hb dX6_readPart_150 (by decide) ?_
        obtain ⟨rr_9, dd_10, dd_11, ee_12, h⟩ := bnd3_s h
        refine cFi (As := [.int (0 : Int32), .int (9 : Int32)]) (rest := [.int (((2 : Int32) * Y_rfs) + (1 : Int32)), .ref y8]) S0 hK hA hP (va_D_same hD rfl) hS (k_X6_figureOf l G y0 y1 y2 y3 y4 y5 y6 y7 y8 y9 y10 y11 y12 y13 y14 y15 Y_br Y_fa Y_rbs Y_rfs Y_len dd_4 dd_5 Y_wk Y_ac Y_nx Y_hs Y_sd Y_st Y_kd Y_fs Y_fl Y_now Y_rd Y_rb dd_7 Y_tx Y_row Y_hh Y_hl Y_hw Y_ik Y_kp (0 : Int32) (9 : Int32) rr_9 dd_10 dd_11 ee_12) cw_X6_figureOf 6 0 rfl rfl rfl rfl hl.1 rfl (Nat.le_of_ble_eq_true rfl) dX6_readPart_152 ⟨Nat.zero_le _, Nat.zero_le _⟩ (fun H locs hP hS => ?_)
        replace hP : va_P G.1 vwCl (W_Y G y0 y1 y2 y3 y4 y5 y6 y7 y8 y9 y10 y11 y12 y13 y14 y15 Y_br Y_fa Y_rbs Y_rfs Y_len dd_10 dd_11 Y_wk Y_ac Y_nx Y_hs Y_sd Y_st Y_kd Y_fs Y_fl Y_now Y_rd Y_rb dd_7 Y_tx Y_row Y_hh Y_hl Y_hw Y_ik Y_kp) H := hP
        obtain ⟨dd_13, ee_14, h⟩ := bnd1_s h
        refine wIast hx hb hK hP (va_D_same hD rfl) hS 8 rfl ee_14 dX6_readPart_155 (fun H locs hP hS => ?_)
        replace hP : va_P G.1 vwCl (W_Y G y0 y1 y2 y3 y4 y5 y6 y7 y8 y9 y10 y11 y12 y13 y14 y15 Y_br Y_fa Y_rbs Y_rfs Y_len dd_10 dd_11 Y_wk Y_ac Y_nx Y_hs Y_sd Y_st Y_kd Y_fs Y_fl Y_now Y_rd Y_rb dd_13 Y_tx Y_row Y_hh Y_hl Y_hw Y_ik Y_kp) H := hP
        refine lv_aload_n hx hb dX6_readPart_156 rfl (lv_at hl 0 rfl) ?_
        refine lv_dup hx hb dX6_readPart_157 rfl ?_
        refine va_get (ci := 6) (C := RX6) (T := TX6) (N := 27) hx hb hts inX6 hown hK.1 hP 0 rfl rfl 11 (by decide) fl78 (fun _ h9 => h9) rfl dX6_readPart_158 ?_
        refine lv_iconst (v := 1) hx hb dX6_readPart_161 (by decide) ?_
        refine lv_iadd hx hb dX6_readPart_162 ?_
        refine va_put (ci := 6) (ty := .int) (C := RX6) (T := TX6) (N := 27) hx hb hts inX6 tyX6 tyX6_ok nmX6 hown hK.1 hP (va_D_same hD rfl) hS 0 rfl rfl 11 (by decide) fl78 (fun _ h9 => h9) rfl (by decide +kernel) rfl rfl (Nat.le_of_ble_eq_true rfl) dX6_readPart_163 (fun H locs hP _ hS => ?_)
        replace hP : va_P G.1 vwCl (W_Y G y0 y1 y2 y3 y4 y5 y6 y7 y8 y9 y10 y11 y12 y13 y14 y15 Y_br Y_fa Y_rbs (Y_rfs + (1 : Int32)) Y_len dd_10 dd_11 Y_wk Y_ac Y_nx Y_hs Y_sd Y_st Y_kd Y_fs Y_fl Y_now Y_rd Y_rb dd_13 Y_tx Y_row Y_hh Y_hl Y_hw Y_ik Y_kp) H := hP
        refine lv_goto (tgt := 177) hx hb dX6_readPart_166 (by decide) ?_
        cases h
        exact W.vret hx hb hr (fun t ht _ => ⟨⟨(), rfl, trivial, by show va_P G.1 vwCl _ t.heap; rw [ht]; exact hP⟩, hS.F ht⟩) hS.2.2 dX6_readPart_177
  unfold f_X6_readPart at h
  refine lv_iload_n hx hb dX6_readPart_0 rfl (lv_at hl 1 rfl) ?_
  refine lv_bipush (v := 78) hx hb dX6_readPart_1 (by decide) ?_
  refine lv_icmp_ne (tgt := 94) hx hb dX6_readPart_3 (by decide) (fun cc_15 => ?_) (fun cc_15 => ?_)
  · replace h := if_f cc_15 h
    exact J_94  u1 Y_rbs Y_rfs Y_at Y_fau Y_rb Y_rf _ _ _ h hP hS (lv_sub hl [0, 1] rfl)
  · replace h := if_t cc_15 h
    refine lv_aload_n hx hb dX6_readPart_6 rfl (lv_at hl 0 rfl) ?_
    refine va_get (ci := 6) (C := RX6) (T := TX6) (N := 27) hx hb hts inX6 hown hK.1 hP 0 rfl rfl 10 (by decide) fl75 (fun _ h9 => h9) rfl dX6_readPart_7 ?_
    refine lv_iconst (v := 5) hx hb dX6_readPart_10 (by decide) ?_
    refine lv_icmp_ge (tgt := 94) hx hb dX6_readPart_11 (by decide) (fun cc_16 => ?_) (fun cc_16 => ?_)
    · replace h := if_t cc_16 h
      exact J_94  u1 Y_rbs Y_rfs Y_at Y_fau Y_rb Y_rf _ _ _ h hP hS (lv_sub hl [0, 1] rfl)
    · replace h := if_f cc_16 h
      refine lv_aload_n hx hb dX6_readPart_14 rfl (lv_at hl 0 rfl) ?_
      refine lv_dup hx hb dX6_readPart_15 rfl ?_
      refine va_get (ci := 6) (C := RX6) (T := TX6) (N := 27) hx hb hts inX6 hown hK.1 hP 0 rfl rfl 14 (by decide) fl72 (fun _ h9 => h9) rfl dX6_readPart_16 ?_
      refine lv_iconst (v := 1) hx hb dX6_readPart_19 (by decide) ?_
      refine lv_iadd hx hb dX6_readPart_20 ?_
      refine va_put (ci := 6) (ty := .int) (C := RX6) (T := TX6) (N := 27) hx hb hts inX6 tyX6 tyX6_ok nmX6 hown hK.1 hP (va_D_same hD rfl) hS 0 rfl rfl 14 (by decide) fl72 (fun _ h9 => h9) rfl (by decide +kernel) rfl rfl (Nat.le_of_ble_eq_true rfl) dX6_readPart_21 (fun H locs hP _ hS => ?_)
      replace hP : va_P G.1 vwCl (W_Y G y0 y1 y2 y3 y4 y5 y6 y7 y8 y9 y10 y11 y12 y13 y14 y15 Y_br Y_fa Y_rbs Y_rfs Y_len (Y_at + (1 : Int32)) Y_fau Y_wk Y_ac Y_nx Y_hs Y_sd Y_st Y_kd Y_fs Y_fl Y_now Y_rd Y_rb Y_rf Y_tx Y_row Y_hh Y_hl Y_hw Y_ik Y_kp) H := hP
      refine lv_aload_n hx hb dX6_readPart_24 rfl (lv_at hl 0 rfl) ?_
      refine va_get (ci := 6) (C := RX6) (T := TX6) (N := 27) hx hb hts inX6 hown hK.1 hP 0 rfl rfl 8 (by decide) fl28 (fun _ h9 => h9) rfl dX6_readPart_25 ?_
      refine lv_iconst (v := 3) hx hb dX6_readPart_28 (by decide) ?_
      refine lv_aload_n hx hb dX6_readPart_29 rfl (lv_at hl 0 rfl) ?_
      refine va_get (ci := 6) (C := RX6) (T := TX6) (N := 27) hx hb hts inX6 hown hK.1 hP 0 rfl rfl 10 (by decide) fl75 (fun _ h9 => h9) rfl dX6_readPart_30 ?_
      refine lv_imul hx hb dX6_readPart_33 ?_
      refine lv_aload_n hx hb dX6_readPart_34 rfl (lv_at hl 0 rfl) ?_
      refine lv_iconst (v := 0) hx hb dX6_readPart_35 (by decide) ?_
      refine lv_bipush (v := 7) hx hb dX6_readPart_36 (by decide) ?_
      obtain ⟨rr_17, dd_18, dd_19, ee_20, h⟩ := bnd3_s h
      refine cFi (As := [.int (0 : Int32), .int (7 : Int32)]) (rest := [.int ((3 : Int32) * Y_rbs), .ref y7]) S0 hK hA hP (va_D_same hD rfl) hS (k_X6_figureOf l G y0 y1 y2 y3 y4 y5 y6 y7 y8 y9 y10 y11 y12 y13 y14 y15 Y_br Y_fa Y_rbs Y_rfs Y_len (Y_at + (1 : Int32)) Y_fau Y_wk Y_ac Y_nx Y_hs Y_sd Y_st Y_kd Y_fs Y_fl Y_now Y_rd Y_rb Y_rf Y_tx Y_row Y_hh Y_hl Y_hw Y_ik Y_kp (0 : Int32) (7 : Int32) rr_17 dd_18 dd_19 ee_20) cw_X6_figureOf 6 0 rfl rfl rfl rfl hl.1 rfl (Nat.le_of_ble_eq_true rfl) dX6_readPart_38 ⟨Nat.zero_le _, Nat.zero_le _⟩ (fun H locs hP hS => ?_)
      replace hP : va_P G.1 vwCl (W_Y G y0 y1 y2 y3 y4 y5 y6 y7 y8 y9 y10 y11 y12 y13 y14 y15 Y_br Y_fa Y_rbs Y_rfs Y_len dd_18 dd_19 Y_wk Y_ac Y_nx Y_hs Y_sd Y_st Y_kd Y_fs Y_fl Y_now Y_rd Y_rb Y_rf Y_tx Y_row Y_hh Y_hl Y_hw Y_ik Y_kp) H := hP
      obtain ⟨dd_21, ee_22, h⟩ := bnd1_s h
      refine wIast hx hb hK hP (va_D_same hD rfl) hS 7 rfl ee_22 dX6_readPart_41 (fun H locs hP hS => ?_)
      replace hP : va_P G.1 vwCl (W_Y G y0 y1 y2 y3 y4 y5 y6 y7 y8 y9 y10 y11 y12 y13 y14 y15 Y_br Y_fa Y_rbs Y_rfs Y_len dd_18 dd_19 Y_wk Y_ac Y_nx Y_hs Y_sd Y_st Y_kd Y_fs Y_fl Y_now Y_rd dd_21 Y_rf Y_tx Y_row Y_hh Y_hl Y_hw Y_ik Y_kp) H := hP
      refine lv_aload_n hx hb dX6_readPart_42 rfl (lv_at hl 0 rfl) ?_
      refine va_get (ci := 6) (C := RX6) (T := TX6) (N := 27) hx hb hts inX6 hown hK.1 hP 0 rfl rfl 8 (by decide) fl28 (fun _ h9 => h9) rfl dX6_readPart_43 ?_
      refine lv_iconst (v := 3) hx hb dX6_readPart_46 (by decide) ?_
      refine lv_aload_n hx hb dX6_readPart_47 rfl (lv_at hl 0 rfl) ?_
      refine va_get (ci := 6) (C := RX6) (T := TX6) (N := 27) hx hb hts inX6 hown hK.1 hP 0 rfl rfl 10 (by decide) fl75 (fun _ h9 => h9) rfl dX6_readPart_48 ?_
      refine lv_imul hx hb dX6_readPart_51 ?_
      refine lv_iconst (v := 1) hx hb dX6_readPart_52 (by decide) ?_
      refine lv_iadd hx hb dX6_readPart_53 ?_
      refine lv_aload_n hx hb dX6_readPart_54 rfl (lv_at hl 0 rfl) ?_
      refine lv_iconst (v := 1) hx hb dX6_readPart_55 (by decide) ?_
      refine lv_bipush (v := 9) hx hb dX6_readPart_56 (by decide) ?_
      obtain ⟨rr_23, dd_24, dd_25, ee_26, h⟩ := bnd3_s h
      refine cFi (As := [.int (1 : Int32), .int (9 : Int32)]) (rest := [.int (((3 : Int32) * Y_rbs) + (1 : Int32)), .ref y7]) S0 hK hA hP (va_D_same hD rfl) hS (k_X6_figureOf l G y0 y1 y2 y3 y4 y5 y6 y7 y8 y9 y10 y11 y12 y13 y14 y15 Y_br Y_fa Y_rbs Y_rfs Y_len dd_18 dd_19 Y_wk Y_ac Y_nx Y_hs Y_sd Y_st Y_kd Y_fs Y_fl Y_now Y_rd dd_21 Y_rf Y_tx Y_row Y_hh Y_hl Y_hw Y_ik Y_kp (1 : Int32) (9 : Int32) rr_23 dd_24 dd_25 ee_26) cw_X6_figureOf 6 0 rfl rfl rfl rfl hl.1 rfl (Nat.le_of_ble_eq_true rfl) dX6_readPart_58 ⟨Nat.zero_le _, Nat.zero_le _⟩ (fun H locs hP hS => ?_)
      replace hP : va_P G.1 vwCl (W_Y G y0 y1 y2 y3 y4 y5 y6 y7 y8 y9 y10 y11 y12 y13 y14 y15 Y_br Y_fa Y_rbs Y_rfs Y_len dd_24 dd_25 Y_wk Y_ac Y_nx Y_hs Y_sd Y_st Y_kd Y_fs Y_fl Y_now Y_rd dd_21 Y_rf Y_tx Y_row Y_hh Y_hl Y_hw Y_ik Y_kp) H := hP
      obtain ⟨dd_27, ee_28, h⟩ := bnd1_s h
      refine wIast hx hb hK hP (va_D_same hD rfl) hS 7 rfl ee_28 dX6_readPart_61 (fun H locs hP hS => ?_)
      replace hP : va_P G.1 vwCl (W_Y G y0 y1 y2 y3 y4 y5 y6 y7 y8 y9 y10 y11 y12 y13 y14 y15 Y_br Y_fa Y_rbs Y_rfs Y_len dd_24 dd_25 Y_wk Y_ac Y_nx Y_hs Y_sd Y_st Y_kd Y_fs Y_fl Y_now Y_rd dd_27 Y_rf Y_tx Y_row Y_hh Y_hl Y_hw Y_ik Y_kp) H := hP
      refine lv_aload_n hx hb dX6_readPart_62 rfl (lv_at hl 0 rfl) ?_
      refine va_get (ci := 6) (C := RX6) (T := TX6) (N := 27) hx hb hts inX6 hown hK.1 hP 0 rfl rfl 8 (by decide) fl28 (fun _ h9 => h9) rfl dX6_readPart_63 ?_
      refine lv_iconst (v := 3) hx hb dX6_readPart_66 (by decide) ?_
      refine lv_aload_n hx hb dX6_readPart_67 rfl (lv_at hl 0 rfl) ?_
      refine va_get (ci := 6) (C := RX6) (T := TX6) (N := 27) hx hb hts inX6 hown hK.1 hP 0 rfl rfl 10 (by decide) fl75 (fun _ h9 => h9) rfl dX6_readPart_68 ?_
      refine lv_imul hx hb dX6_readPart_71 ?_
      refine lv_iconst (v := 2) hx hb dX6_readPart_72 (by decide) ?_
      refine lv_iadd hx hb dX6_readPart_73 ?_
      refine lv_aload_n hx hb dX6_readPart_74 rfl (lv_at hl 0 rfl) ?_
      refine lv_iconst (v := 0) hx hb dX6_readPart_75 (by decide) ?_
      refine lv_iconst (v := 3) hx hb dX6_readPart_76 (by decide) ?_
      obtain ⟨rr_29, dd_30, dd_31, ee_32, h⟩ := bnd3_s h
      refine cFi (As := [.int (0 : Int32), .int (3 : Int32)]) (rest := [.int (((3 : Int32) * Y_rbs) + (2 : Int32)), .ref y7]) S0 hK hA hP (va_D_same hD rfl) hS (k_X6_figureOf l G y0 y1 y2 y3 y4 y5 y6 y7 y8 y9 y10 y11 y12 y13 y14 y15 Y_br Y_fa Y_rbs Y_rfs Y_len dd_24 dd_25 Y_wk Y_ac Y_nx Y_hs Y_sd Y_st Y_kd Y_fs Y_fl Y_now Y_rd dd_27 Y_rf Y_tx Y_row Y_hh Y_hl Y_hw Y_ik Y_kp (0 : Int32) (3 : Int32) rr_29 dd_30 dd_31 ee_32) cw_X6_figureOf 6 0 rfl rfl rfl rfl hl.1 rfl (Nat.le_of_ble_eq_true rfl) dX6_readPart_77 ⟨Nat.zero_le _, Nat.zero_le _⟩ (fun H locs hP hS => ?_)
      replace hP : va_P G.1 vwCl (W_Y G y0 y1 y2 y3 y4 y5 y6 y7 y8 y9 y10 y11 y12 y13 y14 y15 Y_br Y_fa Y_rbs Y_rfs Y_len dd_30 dd_31 Y_wk Y_ac Y_nx Y_hs Y_sd Y_st Y_kd Y_fs Y_fl Y_now Y_rd dd_27 Y_rf Y_tx Y_row Y_hh Y_hl Y_hw Y_ik Y_kp) H := hP
      obtain ⟨dd_33, ee_34, h⟩ := bnd1_s h
      refine wIast hx hb hK hP (va_D_same hD rfl) hS 7 rfl ee_34 dX6_readPart_80 (fun H locs hP hS => ?_)
      replace hP : va_P G.1 vwCl (W_Y G y0 y1 y2 y3 y4 y5 y6 y7 y8 y9 y10 y11 y12 y13 y14 y15 Y_br Y_fa Y_rbs Y_rfs Y_len dd_30 dd_31 Y_wk Y_ac Y_nx Y_hs Y_sd Y_st Y_kd Y_fs Y_fl Y_now Y_rd dd_33 Y_rf Y_tx Y_row Y_hh Y_hl Y_hw Y_ik Y_kp) H := hP
      refine lv_aload_n hx hb dX6_readPart_81 rfl (lv_at hl 0 rfl) ?_
      refine lv_dup hx hb dX6_readPart_82 rfl ?_
      refine va_get (ci := 6) (C := RX6) (T := TX6) (N := 27) hx hb hts inX6 hown hK.1 hP 0 rfl rfl 10 (by decide) fl75 (fun _ h9 => h9) rfl dX6_readPart_83 ?_
      refine lv_iconst (v := 1) hx hb dX6_readPart_86 (by decide) ?_
      refine lv_iadd hx hb dX6_readPart_87 ?_
      refine va_put (ci := 6) (ty := .int) (C := RX6) (T := TX6) (N := 27) hx hb hts inX6 tyX6 tyX6_ok nmX6 hown hK.1 hP (va_D_same hD rfl) hS 0 rfl rfl 10 (by decide) fl75 (fun _ h9 => h9) rfl (by decide +kernel) rfl rfl (Nat.le_of_ble_eq_true rfl) dX6_readPart_88 (fun H locs hP _ hS => ?_)
      replace hP : va_P G.1 vwCl (W_Y G y0 y1 y2 y3 y4 y5 y6 y7 y8 y9 y10 y11 y12 y13 y14 y15 Y_br Y_fa (Y_rbs + (1 : Int32)) Y_rfs Y_len dd_30 dd_31 Y_wk Y_ac Y_nx Y_hs Y_sd Y_st Y_kd Y_fs Y_fl Y_now Y_rd dd_33 Y_rf Y_tx Y_row Y_hh Y_hl Y_hw Y_ik Y_kp) H := hP
      refine lv_goto (tgt := 177) hx hb dX6_readPart_91 (by decide) ?_
      cases h
      exact W.vret hx hb hr (fun t ht _ => ⟨⟨(), rfl, trivial, by show va_P G.1 vwCl _ t.heap; rw [ht]; exact hP⟩, hS.F ht⟩) hS.2.2 dX6_readPart_177
