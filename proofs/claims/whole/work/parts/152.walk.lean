def f_X6_keepAct_2 (Y_now : Nat → Int32) : Nat → Int32 → Int32 → Int32 → (Nat → Int32) → Option (Int32 × Int32 × (Nat → Int32))
  | 0, _, _, _, _ => none
  | fu + 1, v1, Y_ac, Y_nx, Y_row => if (16 : Int32) ≤ v1 then (nm ((Y_nx + (1 : Int32)) - (Y_nx + (1 : Int32)) / (14 : Int32) * (14 : Int32)) (fun zz_2 => if (14 : Int32) ≤ Y_ac then (some ((14 : Int32), zz_2, Y_row)) else (some ((Y_ac + (1 : Int32)), zz_2, Y_row)))) else (bnd1 (rd Y_now 32 v1) (fun zz_5 => bnd1 (wr Y_row 224 (((16 : Int32) * Y_nx) + v1) zz_5) (fun dd_7 => f_X6_keepAct_2 Y_now fu (v1 + 1) Y_ac Y_nx dd_7)))
def f_X6_keepAct (Y_ac : Int32) (Y_nx : Int32) (Y_now : Nat → Int32) (Y_row : Nat → Int32) : Option (Int32 × Int32 × (Nat → Int32)) := f_X6_keepAct_2 Y_now  130 (0 : Int32) Y_ac Y_nx Y_row
set_option maxRecDepth 100000 in
set_option maxHeartbeats 4000000 in
theorem k_X6_keepAct (l : Launch) (G : Gt) (y0 y1 y2 y3 y4 y5 y6 y7 y8 y9 y10 y11 y12 y13 y14 y15 : Nat) (Y_br : Int32) (Y_fa : Int32) (Y_rbs : Int32) (Y_rfs : Int32) (Y_len : Int32) (Y_at : Int32) (Y_fau : Int32) (Y_wk : Int32) (Y_ac : Int32) (Y_nx : Int32) (Y_hs : Int32) (Y_sd : Int64) (Y_st : Nat → Int32) (Y_kd : Nat → Int32) (Y_fs : Nat → Int32) (Y_fl : Nat → Int32) (Y_now : Nat → Int32) (Y_rd : Nat → Int32) (Y_rb : Nat → Int32) (Y_rf : Nat → Int32) (Y_tx : Nat → Int32) (Y_row : Nat → Int32) (Y_hh : Nat → Int32) (Y_hl : Nat → Int32) (Y_hw : Nat → Int32) (Y_ik : Nat → Int32) (Y_kp : Nat → Int32) (o_Y_ac : Int32) (o_Y_nx : Int32) (o_Y_row : Nat → Int32) (h : f_X6_keepAct Y_ac Y_nx Y_now Y_row = some (o_Y_ac, o_Y_nx, o_Y_row)) : CT l yX6_keepAct wsX6_keepAct 0 0 G [.ref y0] (W_Y G y0 y1 y2 y3 y4 y5 y6 y7 y8 y9 y10 y11 y12 y13 y14 y15 Y_br Y_fa Y_rbs Y_rfs Y_len Y_at Y_fau Y_wk Y_ac Y_nx Y_hs Y_sd Y_st Y_kd Y_fs Y_fl Y_now Y_rd Y_rb Y_rf Y_tx Y_row Y_hh Y_hl Y_hw Y_ik Y_kp) (QV G (W_Y G y0 y1 y2 y3 y4 y5 y6 y7 y8 y9 y10 y11 y12 y13 y14 y15 Y_br Y_fa Y_rbs Y_rfs Y_len Y_at Y_fau Y_wk o_Y_ac o_Y_nx Y_hs Y_sd Y_st Y_kd Y_fs Y_fl Y_now Y_rd Y_rb Y_rf Y_tx o_Y_row Y_hh Y_hl Y_hw Y_ik Y_kp)) := by
  refine met_of cX6_keepAct 2 none (by decide) rfl (Nat.le_of_ble_eq_true rfl) ?_
  intro p e s m below meth c A ls hx hb hr hml hts hown hlocks hK hA hD hP hS hl
  replace hown : s.vm.findClass RX6 = some m.cls := hown
  replace hl : lv_has ls 2 [(0, .ref y0)] := hl
  have S0 : CallFix p m c cX6_keepAct 2 s _ wsX6_keepAct RX6 := ⟨hx, hb, hml, hown, hts⟩
  have fl137 := hts (.fieldLink RX6 137 "DustVoteModel" "next" "I") (by decide +kernel)
  have inX6 := show ∀ w ∈ wsX60, w ∈ wsX6_keepAct from by decide +kernel
  have fl99 := hts (.fieldLink RX6 99 "DustVoteModel" "acts" "I") (by decide +kernel)
  have fl41 := hts (.fieldLink RX6 41 "DustVoteModel" "row" "[I") (by decide +kernel)
  have fl22 := hts (.fieldLink RX6 22 "DustVoteModel" "now" "[I") (by decide +kernel)
  have J_2 : ∀ (fu : Nat), ∀ (v1 : Int32) (Y_ac : Int32) (Y_nx : Int32) (Y_row : Nat → Int32) (H : Heap) (locs : List Loc) (ls : Array Slot), f_X6_keepAct_2 Y_now fu v1 Y_ac Y_nx Y_row = some (o_Y_ac, o_Y_nx, o_Y_row) → va_P G.1 vwCl (W_Y G y0 y1 y2 y3 y4 y5 y6 y7 y8 y9 y10 y11 y12 y13 y14 y15 Y_br Y_fa Y_rbs Y_rfs Y_len Y_at Y_fau Y_wk Y_ac Y_nx Y_hs Y_sd Y_st Y_kd Y_fs Y_fl Y_now Y_rd Y_rb Y_rf Y_tx Y_row Y_hh Y_hl Y_hw Y_ik Y_kp) H → va_S A s.heap H locs → lv_has ls 2 [(0, .ref y0), (1, .int v1)] → W p l e (rmv 0 0) s m (List.toArray [.ref y0]) below meth c H locs 0 0 (MQ below ((QV G (W_Y G y0 y1 y2 y3 y4 y5 y6 y7 y8 y9 y10 y11 y12 y13 y14 y15 Y_br Y_fa Y_rbs Y_rfs Y_len Y_at Y_fau Y_wk o_Y_ac o_Y_nx Y_hs Y_sd Y_st Y_kd Y_fs Y_fl Y_now Y_rd Y_rb Y_rf Y_tx o_Y_row Y_hh Y_hl Y_hw Y_ik Y_kp)) A) (List.toArray [.ref y0]) s 0 0 A) (F0 m 2 ls []) := by
    intro  fu
    induction fu with
    | zero =>
      intro v1 Y_ac Y_nx Y_row H locs ls h
      cases h
    | succ fu ih =>
      intro v1 Y_ac Y_nx Y_row H locs ls h hP hS hl
      rw [f_X6_keepAct_2] at h
      refine lv_iload_n hx hb dX6_keepAct_2 rfl (lv_at hl 1 rfl) ?_
      refine lv_bipush (v := 16) hx hb dX6_keepAct_3 (by decide) ?_
      refine lv_icmp_ge (tgt := 34) hx hb dX6_keepAct_5 (by decide) (fun cc_1 => ?_) (fun cc_1 => ?_)
      · replace h := if_t cc_1 h
        refine lv_aload_n hx hb dX6_keepAct_34 rfl (lv_at hl 0 rfl) ?_
        refine lv_aload_n hx hb dX6_keepAct_35 rfl (lv_at hl 0 rfl) ?_
        refine va_get (ci := 6) (C := RX6) (T := TX6) (N := 27) hx hb hts inX6 hown hK.1 hP 0 rfl rfl 18 (by decide) fl137 (fun _ h9 => h9) rfl dX6_keepAct_36 ?_
        refine lv_iconst (v := 1) hx hb dX6_keepAct_39 (by decide) ?_
        refine lv_iadd hx hb dX6_keepAct_40 ?_
        refine lv_bipush (v := 14) hx hb dX6_keepAct_41 (by decide) ?_
        refine lv_irem hx hb dX6_keepAct_43 (by decide) ?_
        refine lv_topi (fun zz_2 ee_3 => ?_)
        replace h := nm_s ee_3 h
        refine va_put (ci := 6) (ty := .int) (C := RX6) (T := TX6) (N := 27) hx hb hts inX6 tyX6 tyX6_ok nmX6 hown hK.1 hP (va_D_same hD rfl) hS 0 rfl rfl 18 (by decide) fl137 (fun _ h9 => h9) rfl (by decide +kernel) rfl rfl (Nat.le_of_ble_eq_true rfl) dX6_keepAct_44 (fun H locs hP _ hS => ?_)
        replace hP : va_P G.1 vwCl (W_Y G y0 y1 y2 y3 y4 y5 y6 y7 y8 y9 y10 y11 y12 y13 y14 y15 Y_br Y_fa Y_rbs Y_rfs Y_len Y_at Y_fau Y_wk Y_ac zz_2 Y_hs Y_sd Y_st Y_kd Y_fs Y_fl Y_now Y_rd Y_rb Y_rf Y_tx Y_row Y_hh Y_hl Y_hw Y_ik Y_kp) H := hP
        refine lv_aload_n hx hb dX6_keepAct_47 rfl (lv_at hl 0 rfl) ?_
        refine lv_aload_n hx hb dX6_keepAct_48 rfl (lv_at hl 0 rfl) ?_
        refine va_get (ci := 6) (C := RX6) (T := TX6) (N := 27) hx hb hts inX6 hown hK.1 hP 0 rfl rfl 17 (by decide) fl99 (fun _ h9 => h9) rfl dX6_keepAct_49 ?_
        refine lv_bipush (v := 14) hx hb dX6_keepAct_52 (by decide) ?_
        refine lv_icmp_ge (tgt := 66) hx hb dX6_keepAct_54 (by decide) (fun cc_4 => ?_) (fun cc_4 => ?_)
        · replace h := if_t cc_4 h
          refine lv_bipush (v := 14) hx hb dX6_keepAct_66 (by decide) ?_
          refine va_put (ci := 6) (ty := .int) (C := RX6) (T := TX6) (N := 27) hx hb hts inX6 tyX6 tyX6_ok nmX6 hown hK.1 hP (va_D_same hD rfl) hS 0 rfl rfl 17 (by decide) fl99 (fun _ h9 => h9) rfl (by decide +kernel) rfl rfl (Nat.le_of_ble_eq_true rfl) dX6_keepAct_68 (fun H locs hP _ hS => ?_)
          replace hP : va_P G.1 vwCl (W_Y G y0 y1 y2 y3 y4 y5 y6 y7 y8 y9 y10 y11 y12 y13 y14 y15 Y_br Y_fa Y_rbs Y_rfs Y_len Y_at Y_fau Y_wk (14 : Int32) zz_2 Y_hs Y_sd Y_st Y_kd Y_fs Y_fl Y_now Y_rd Y_rb Y_rf Y_tx Y_row Y_hh Y_hl Y_hw Y_ik Y_kp) H := hP
          cases h
          exact W.vret hx hb hr (fun t ht _ => ⟨⟨(), rfl, trivial, by show va_P G.1 vwCl _ t.heap; rw [ht]; exact hP⟩, hS.F ht⟩) hS.2.2 dX6_keepAct_71
        · replace h := if_f cc_4 h
          refine lv_aload_n hx hb dX6_keepAct_57 rfl (lv_at hl 0 rfl) ?_
          refine va_get (ci := 6) (C := RX6) (T := TX6) (N := 27) hx hb hts inX6 hown hK.1 hP 0 rfl rfl 17 (by decide) fl99 (fun _ h9 => h9) rfl dX6_keepAct_58 ?_
          refine lv_iconst (v := 1) hx hb dX6_keepAct_61 (by decide) ?_
          refine lv_iadd hx hb dX6_keepAct_62 ?_
          refine lv_goto (tgt := 68) hx hb dX6_keepAct_63 (by decide) ?_
          refine va_put (ci := 6) (ty := .int) (C := RX6) (T := TX6) (N := 27) hx hb hts inX6 tyX6 tyX6_ok nmX6 hown hK.1 hP (va_D_same hD rfl) hS 0 rfl rfl 17 (by decide) fl99 (fun _ h9 => h9) rfl (by decide +kernel) rfl rfl (Nat.le_of_ble_eq_true rfl) dX6_keepAct_68 (fun H locs hP _ hS => ?_)
          replace hP : va_P G.1 vwCl (W_Y G y0 y1 y2 y3 y4 y5 y6 y7 y8 y9 y10 y11 y12 y13 y14 y15 Y_br Y_fa Y_rbs Y_rfs Y_len Y_at Y_fau Y_wk (Y_ac + (1 : Int32)) zz_2 Y_hs Y_sd Y_st Y_kd Y_fs Y_fl Y_now Y_rd Y_rb Y_rf Y_tx Y_row Y_hh Y_hl Y_hw Y_ik Y_kp) H := hP
          cases h
          exact W.vret hx hb hr (fun t ht _ => ⟨⟨(), rfl, trivial, by show va_P G.1 vwCl _ t.heap; rw [ht]; exact hP⟩, hS.F ht⟩) hS.2.2 dX6_keepAct_71
      · replace h := if_f cc_1 h
        refine lv_aload_n hx hb dX6_keepAct_8 rfl (lv_at hl 0 rfl) ?_
        refine va_get (ci := 6) (C := RX6) (T := TX6) (N := 27) hx hb hts inX6 hown hK.1 hP 0 rfl rfl 19 (by decide) fl41 (fun _ h9 => h9) rfl dX6_keepAct_9 ?_
        refine lv_bipush (v := 16) hx hb dX6_keepAct_12 (by decide) ?_
        refine lv_aload_n hx hb dX6_keepAct_14 rfl (lv_at hl 0 rfl) ?_
        refine va_get (ci := 6) (C := RX6) (T := TX6) (N := 27) hx hb hts inX6 hown hK.1 hP 0 rfl rfl 18 (by decide) fl137 (fun _ h9 => h9) rfl dX6_keepAct_15 ?_
        refine lv_imul hx hb dX6_keepAct_18 ?_
        refine lv_iload_n hx hb dX6_keepAct_19 rfl (lv_at hl 1 rfl) ?_
        refine lv_iadd hx hb dX6_keepAct_20 ?_
        refine lv_aload_n hx hb dX6_keepAct_21 rfl (lv_at hl 0 rfl) ?_
        refine va_get (ci := 6) (C := RX6) (T := TX6) (N := 27) hx hb hts inX6 hown hK.1 hP 0 rfl rfl 6 (by decide) fl22 (fun _ h9 => h9) rfl dX6_keepAct_22 ?_
        refine lv_iload_n hx hb dX6_keepAct_25 rfl (lv_at hl 1 rfl) ?_
        obtain ⟨zz_5, ee_6, h⟩ := bnd1_s h
        refine wIald hx hb hK hP 5 rfl ee_6 dX6_keepAct_26 ?_
        obtain ⟨dd_7, ee_8, h⟩ := bnd1_s h
        refine wIast hx hb hK hP (va_D_same hD rfl) hS 10 rfl ee_8 dX6_keepAct_27 (fun H locs hP hS => ?_)
        replace hP : va_P G.1 vwCl (W_Y G y0 y1 y2 y3 y4 y5 y6 y7 y8 y9 y10 y11 y12 y13 y14 y15 Y_br Y_fa Y_rbs Y_rfs Y_len Y_at Y_fau Y_wk Y_ac Y_nx Y_hs Y_sd Y_st Y_kd Y_fs Y_fl Y_now Y_rd Y_rb Y_rf Y_tx dd_7 Y_hh Y_hl Y_hw Y_ik Y_kp) H := hP
        refine lv_iinc (v := (v1 + 1)) (lv' := [(1, .int (v1 + 1)), (0, .ref y0)]) hx hb dX6_keepAct_28 hl (k := 1) rfl rfl (by decide) rfl (fun ls hl => ?_)
        refine lv_goto (tgt := 2) hx hb dX6_keepAct_31 (by decide) ?_
        exact ih (v1 + 1) Y_ac Y_nx dd_7 _ _ _ h hP hS (lv_sub hl [1, 0] rfl)
  unfold f_X6_keepAct at h
  refine lv_iconst (v := 0) hx hb dX6_keepAct_0 (by decide) ?_
  refine lv_istore_n (lv' := [(1, .int (0 : Int32)), (0, .ref y0)]) hx hb dX6_keepAct_1 rfl hl (by decide) rfl (fun ls hl => ?_)
  exact J_2  130 (0 : Int32) Y_ac Y_nx Y_row _ _ _ h hP hS (lv_sub hl [1, 0] rfl)
def f_X6_dawn (Y_br : Int32) (Y_fa : Int32) (Y_wk : Int32) (Y_ac : Int32) (Y_nx : Int32) (Y_st : Nat → Int32) (Y_kd : Nat → Int32) (Y_fs : Nat → Int32) (Y_fl : Nat → Int32) (Y_now : Nat → Int32) (Y_row : Nat → Int32) : Option (Int32 × Int32 × Int32 × (Nat → Int32) × (Nat → Int32)) := bnd3 (f_X6_keepAct Y_ac Y_nx Y_now Y_row) (fun dd_1 dd_2 dd_3 => bnd1 (f_X6_passOn Y_br Y_fa Y_wk Y_st Y_kd Y_fs Y_fl Y_now (0 : Int32) (1 : Int32)) (fun dd_5 => bnd1 (f_X6_dustOn dd_5 (0 : Int32)) (fun rr_7 => some (rr_7, dd_1, dd_2, dd_5, dd_3))))
set_option maxRecDepth 100000 in
set_option maxHeartbeats 4000000 in
theorem k_X6_dawn (l : Launch) (G : Gt) (y0 y1 y2 y3 y4 y5 y6 y7 y8 y9 y10 y11 y12 y13 y14 y15 : Nat) (Y_br : Int32) (Y_fa : Int32) (Y_rbs : Int32) (Y_rfs : Int32) (Y_len : Int32) (Y_at : Int32) (Y_fau : Int32) (Y_wk : Int32) (Y_ac : Int32) (Y_nx : Int32) (Y_hs : Int32) (Y_sd : Int64) (Y_st : Nat → Int32) (Y_kd : Nat → Int32) (Y_fs : Nat → Int32) (Y_fl : Nat → Int32) (Y_now : Nat → Int32) (Y_rd : Nat → Int32) (Y_rb : Nat → Int32) (Y_rf : Nat → Int32) (Y_tx : Nat → Int32) (Y_row : Nat → Int32) (Y_hh : Nat → Int32) (Y_hl : Nat → Int32) (Y_hw : Nat → Int32) (Y_ik : Nat → Int32) (Y_kp : Nat → Int32) (r_ : Int32) (o_Y_ac : Int32) (o_Y_nx : Int32) (o_Y_now : Nat → Int32) (o_Y_row : Nat → Int32) (h : f_X6_dawn Y_br Y_fa Y_wk Y_ac Y_nx Y_st Y_kd Y_fs Y_fl Y_now Y_row = some (r_, o_Y_ac, o_Y_nx, o_Y_now, o_Y_row)) : CT l yX6_dawn wsX6_dawn 4 94 G [.ref y0] (W_Y G y0 y1 y2 y3 y4 y5 y6 y7 y8 y9 y10 y11 y12 y13 y14 y15 Y_br Y_fa Y_rbs Y_rfs Y_len Y_at Y_fau Y_wk Y_ac Y_nx Y_hs Y_sd Y_st Y_kd Y_fs Y_fl Y_now Y_rd Y_rb Y_rf Y_tx Y_row Y_hh Y_hl Y_hw Y_ik Y_kp) (QI G r_ (W_Y G y0 y1 y2 y3 y4 y5 y6 y7 y8 y9 y10 y11 y12 y13 y14 y15 Y_br Y_fa Y_rbs Y_rfs Y_len Y_at Y_fau Y_wk o_Y_ac o_Y_nx Y_hs Y_sd Y_st Y_kd Y_fs Y_fl o_Y_now Y_rd Y_rb Y_rf Y_tx o_Y_row Y_hh Y_hl Y_hw Y_ik Y_kp)) := by
  refine met_of cX6_dawn 1 (some .int) (by decide) rfl (Nat.le_of_ble_eq_true rfl) ?_
  intro p e s m below meth c A ls hx hb hr hml hts hown hlocks hK hA hD hP hS hl
  replace hown : s.vm.findClass RX6 = some m.cls := hown
  replace hl : lv_has ls 1 [(0, .ref y0)] := hl
  have S0 : CallFix p m c cX6_dawn 1 s _ wsX6_dawn RX6 := ⟨hx, hb, hml, hown, hts⟩
  have cw_X6_keepAct := show CallW (rmv 4 94) s _ RX6 RX6 140 yX6_keepAct cX6_keepAct 2 none wsX6_keepAct (rmv 0 0) 0 0 0 from cwV 0 hts gX6_dawn_X6_keepAct rfl rfl rfl (by decide +kernel) ⟨Nat.le_of_ble_eq_true rfl, Nat.le_of_ble_eq_true rfl⟩
  have cw_X6_passOn := show CallW (rmv 4 94) s _ RX6 RX6 143 yX6_passOn cX6_passOn 6 none wsX6_passOn (rmv 3 69) 0 0 2 from cwV 2 hts gX6_dawn_X6_passOn rfl rfl rfl (by decide +kernel) ⟨Nat.le_of_ble_eq_true rfl, Nat.le_of_ble_eq_true rfl⟩
  have cw_X6_dustOn := show CallW (rmv 4 94) s _ RX6 RX6 146 yX6_dustOn cX6_dustOn 4 (some .int) wsX6_dustOn (rmv 0 0) 0 0 1 from cwV 1 hts gX6_dawn_X6_dustOn rfl rfl rfl (by decide +kernel) ⟨Nat.le_of_ble_eq_true rfl, Nat.le_of_ble_eq_true rfl⟩
  unfold f_X6_dawn at h
  refine lv_aload_n hx hb dX6_dawn_0 rfl (lv_at hl 0 rfl) ?_
  obtain ⟨dd_1, dd_2, dd_3, ee_4, h⟩ := bnd3_s h
  refine cFv (As := []) (rest := []) S0 hK hA hP (va_D_same hD rfl) hS (k_X6_keepAct l G y0 y1 y2 y3 y4 y5 y6 y7 y8 y9 y10 y11 y12 y13 y14 y15 Y_br Y_fa Y_rbs Y_rfs Y_len Y_at Y_fau Y_wk Y_ac Y_nx Y_hs Y_sd Y_st Y_kd Y_fs Y_fl Y_now Y_rd Y_rb Y_rf Y_tx Y_row Y_hh Y_hl Y_hw Y_ik Y_kp dd_1 dd_2 dd_3 ee_4) cw_X6_keepAct 6 0 rfl rfl rfl rfl hl.1 rfl (Nat.le_of_ble_eq_true rfl) dX6_dawn_1 ⟨Nat.zero_le _, Nat.zero_le _⟩ (fun H locs hP hS => ?_)
  replace hP : va_P G.1 vwCl (W_Y G y0 y1 y2 y3 y4 y5 y6 y7 y8 y9 y10 y11 y12 y13 y14 y15 Y_br Y_fa Y_rbs Y_rfs Y_len Y_at Y_fau Y_wk dd_1 dd_2 Y_hs Y_sd Y_st Y_kd Y_fs Y_fl Y_now Y_rd Y_rb Y_rf Y_tx dd_3 Y_hh Y_hl Y_hw Y_ik Y_kp) H := hP
  refine lv_aload_n hx hb dX6_dawn_4 rfl (lv_at hl 0 rfl) ?_
  refine lv_iconst (v := 0) hx hb dX6_dawn_5 (by decide) ?_
  refine lv_iconst (v := 1) hx hb dX6_dawn_6 (by decide) ?_
  obtain ⟨dd_5, ee_6, h⟩ := bnd1_s h
  refine cFv (As := [.int (0 : Int32), .int (1 : Int32)]) (rest := []) S0 hK hA hP (va_D_same hD rfl) hS (k_X6_passOn l G y0 y1 y2 y3 y4 y5 y6 y7 y8 y9 y10 y11 y12 y13 y14 y15 Y_br Y_fa Y_rbs Y_rfs Y_len Y_at Y_fau Y_wk dd_1 dd_2 Y_hs Y_sd Y_st Y_kd Y_fs Y_fl Y_now Y_rd Y_rb Y_rf Y_tx dd_3 Y_hh Y_hl Y_hw Y_ik Y_kp (0 : Int32) (1 : Int32) dd_5 ee_6) cw_X6_passOn 6 0 rfl rfl rfl rfl hl.1 rfl (Nat.le_of_ble_eq_true rfl) dX6_dawn_7 ⟨Nat.zero_le _, Nat.zero_le _⟩ (fun H locs hP hS => ?_)
  replace hP : va_P G.1 vwCl (W_Y G y0 y1 y2 y3 y4 y5 y6 y7 y8 y9 y10 y11 y12 y13 y14 y15 Y_br Y_fa Y_rbs Y_rfs Y_len Y_at Y_fau Y_wk dd_1 dd_2 Y_hs Y_sd Y_st Y_kd Y_fs Y_fl dd_5 Y_rd Y_rb Y_rf Y_tx dd_3 Y_hh Y_hl Y_hw Y_ik Y_kp) H := hP
  refine lv_aload_n hx hb dX6_dawn_10 rfl (lv_at hl 0 rfl) ?_
  refine lv_iconst (v := 0) hx hb dX6_dawn_11 (by decide) ?_
  obtain ⟨rr_7, ee_8, h⟩ := bnd1_s h
  refine cFi (As := [.int (0 : Int32)]) (rest := []) S0 hK hA hP (va_D_same hD rfl) hS (k_X6_dustOn l G y0 y1 y2 y3 y4 y5 y6 y7 y8 y9 y10 y11 y12 y13 y14 y15 Y_br Y_fa Y_rbs Y_rfs Y_len Y_at Y_fau Y_wk dd_1 dd_2 Y_hs Y_sd Y_st Y_kd Y_fs Y_fl dd_5 Y_rd Y_rb Y_rf Y_tx dd_3 Y_hh Y_hl Y_hw Y_ik Y_kp (0 : Int32) rr_7 ee_8) cw_X6_dustOn 6 0 rfl rfl rfl rfl hl.1 rfl (Nat.le_of_ble_eq_true rfl) dX6_dawn_12 ⟨Nat.zero_le _, Nat.zero_le _⟩ (fun H locs hP hS => ?_)
  replace hP : va_P G.1 vwCl (W_Y G y0 y1 y2 y3 y4 y5 y6 y7 y8 y9 y10 y11 y12 y13 y14 y15 Y_br Y_fa Y_rbs Y_rfs Y_len Y_at Y_fau Y_wk dd_1 dd_2 Y_hs Y_sd Y_st Y_kd Y_fs Y_fl dd_5 Y_rd Y_rb Y_rf Y_tx dd_3 Y_hh Y_hl Y_hw Y_ik Y_kp) H := hP
  cases h
  exact W.iret hx hb hr (fun t ht _ => ⟨⟨_, (), rfl, rfl, by show va_P G.1 vwCl _ t.heap; rw [ht]; exact hP⟩, hS.F ht⟩) hS.2.2 dX6_dawn_15
