def f_X6_undo_36 (Y_row : Nat → Int32) : Nat → Int32 → Int32 → Int32 → (Nat → Int32) → Option (Int32 × Int32 × Int32 × (Nat → Int32))
  | 0, _, _, _, _ => none
  | fu + 1, v1, Y_ac, Y_nx, Y_now => if (16 : Int32) ≤ v1 then (some (Y_ac, Y_ac, Y_nx, Y_now)) else (bnd1 (rd Y_row 224 (((16 : Int32) * Y_nx) + v1)) (fun zz_2 => bnd1 (wr Y_now 32 v1 zz_2) (fun dd_4 => f_X6_undo_36 Y_row fu (v1 + 1) Y_ac Y_nx dd_4)))
def f_X6_undo (Y_ac : Int32) (Y_nx : Int32) (Y_now : Nat → Int32) (Y_row : Nat → Int32) : Option (Int32 × Int32 × Int32 × (Nat → Int32)) := if Y_ac = 0 then (some (((-3) : Int32), Y_ac, Y_nx, Y_now)) else (nm ((Y_nx + (13 : Int32)) - (Y_nx + (13 : Int32)) / (14 : Int32) * (14 : Int32)) (fun zz_7 => f_X6_undo_36 Y_row  130 (0 : Int32) (Y_ac - (1 : Int32)) zz_7 Y_now))
set_option maxRecDepth 100000 in
set_option maxHeartbeats 4000000 in
theorem k_X6_undo (l : Launch) (G : Gt) (y0 y1 y2 y3 y4 y5 y6 y7 y8 y9 y10 y11 y12 y13 y14 y15 : Nat) (Y_br : Int32) (Y_fa : Int32) (Y_rbs : Int32) (Y_rfs : Int32) (Y_len : Int32) (Y_at : Int32) (Y_fau : Int32) (Y_wk : Int32) (Y_ac : Int32) (Y_nx : Int32) (Y_hs : Int32) (Y_sd : Int64) (Y_st : Nat → Int32) (Y_kd : Nat → Int32) (Y_fs : Nat → Int32) (Y_fl : Nat → Int32) (Y_now : Nat → Int32) (Y_rd : Nat → Int32) (Y_rb : Nat → Int32) (Y_rf : Nat → Int32) (Y_tx : Nat → Int32) (Y_row : Nat → Int32) (Y_hh : Nat → Int32) (Y_hl : Nat → Int32) (Y_hw : Nat → Int32) (Y_ik : Nat → Int32) (Y_kp : Nat → Int32) (r_ : Int32) (o_Y_ac : Int32) (o_Y_nx : Int32) (o_Y_now : Nat → Int32) (h : f_X6_undo Y_ac Y_nx Y_now Y_row = some (r_, o_Y_ac, o_Y_nx, o_Y_now)) : CT l yX6_undo wsX6_undo 0 0 G [.ref y0] (W_Y G y0 y1 y2 y3 y4 y5 y6 y7 y8 y9 y10 y11 y12 y13 y14 y15 Y_br Y_fa Y_rbs Y_rfs Y_len Y_at Y_fau Y_wk Y_ac Y_nx Y_hs Y_sd Y_st Y_kd Y_fs Y_fl Y_now Y_rd Y_rb Y_rf Y_tx Y_row Y_hh Y_hl Y_hw Y_ik Y_kp) (QI G r_ (W_Y G y0 y1 y2 y3 y4 y5 y6 y7 y8 y9 y10 y11 y12 y13 y14 y15 Y_br Y_fa Y_rbs Y_rfs Y_len Y_at Y_fau Y_wk o_Y_ac o_Y_nx Y_hs Y_sd Y_st Y_kd Y_fs Y_fl o_Y_now Y_rd Y_rb Y_rf Y_tx Y_row Y_hh Y_hl Y_hw Y_ik Y_kp)) := by
  refine met_of cX6_undo 2 (some .int) (by decide) rfl (Nat.le_of_ble_eq_true rfl) ?_
  intro p e s m below meth c A ls hx hb hr hml hts hown hlocks hK hA hD hP hS hl
  replace hown : s.vm.findClass RX6 = some m.cls := hown
  replace hl : lv_has ls 2 [(0, .ref y0)] := hl
  have S0 : CallFix p m c cX6_undo 2 s _ wsX6_undo RX6 := ⟨hx, hb, hml, hown, hts⟩
  have fl99 := hts (.fieldLink RX6 99 "DustVoteModel" "acts" "I") (by decide +kernel)
  have inX6 := show ∀ w ∈ wsX60, w ∈ wsX6_undo from by decide +kernel
  have fl22 := hts (.fieldLink RX6 22 "DustVoteModel" "now" "[I") (by decide +kernel)
  have fl41 := hts (.fieldLink RX6 41 "DustVoteModel" "row" "[I") (by decide +kernel)
  have fl137 := hts (.fieldLink RX6 137 "DustVoteModel" "next" "I") (by decide +kernel)
  have J_36 : ∀ (fu : Nat), ∀ (v1 : Int32) (Y_ac : Int32) (Y_nx : Int32) (Y_now : Nat → Int32) (H : Heap) (locs : List Loc) (ls : Array Slot), f_X6_undo_36 Y_row fu v1 Y_ac Y_nx Y_now = some (r_, o_Y_ac, o_Y_nx, o_Y_now) → va_P G.1 vwCl (W_Y G y0 y1 y2 y3 y4 y5 y6 y7 y8 y9 y10 y11 y12 y13 y14 y15 Y_br Y_fa Y_rbs Y_rfs Y_len Y_at Y_fau Y_wk Y_ac Y_nx Y_hs Y_sd Y_st Y_kd Y_fs Y_fl Y_now Y_rd Y_rb Y_rf Y_tx Y_row Y_hh Y_hl Y_hw Y_ik Y_kp) H → va_S A s.heap H locs → lv_has ls 2 [(0, .ref y0), (1, .int v1)] → W p l e (rmv 0 0) s m (List.toArray [.ref y0]) below meth c H locs 0 0 (MQ below ((QI G r_ (W_Y G y0 y1 y2 y3 y4 y5 y6 y7 y8 y9 y10 y11 y12 y13 y14 y15 Y_br Y_fa Y_rbs Y_rfs Y_len Y_at Y_fau Y_wk o_Y_ac o_Y_nx Y_hs Y_sd Y_st Y_kd Y_fs Y_fl o_Y_now Y_rd Y_rb Y_rf Y_tx Y_row Y_hh Y_hl Y_hw Y_ik Y_kp)) A) (List.toArray [.ref y0]) s 0 0 A) (F0 m 36 ls []) := by
    intro  fu
    induction fu with
    | zero =>
      intro v1 Y_ac Y_nx Y_now H locs ls h
      cases h
    | succ fu ih =>
      intro v1 Y_ac Y_nx Y_now H locs ls h hP hS hl
      rw [f_X6_undo_36] at h
      refine lv_iload_n hx hb dX6_undo_36 rfl (lv_at hl 1 rfl) ?_
      refine lv_bipush (v := 16) hx hb dX6_undo_37 (by decide) ?_
      refine lv_icmp_ge (tgt := 68) hx hb dX6_undo_39 (by decide) (fun cc_1 => ?_) (fun cc_1 => ?_)
      · replace h := if_t cc_1 h
        refine lv_aload_n hx hb dX6_undo_68 rfl (lv_at hl 0 rfl) ?_
        refine va_get (ci := 6) (C := RX6) (T := TX6) (N := 27) hx hb hts inX6 hown hK.1 hP 0 rfl rfl 17 (by decide) fl99 (fun _ h9 => h9) rfl dX6_undo_69 ?_
        cases h
        exact W.iret hx hb hr (fun t ht _ => ⟨⟨_, (), rfl, rfl, by show va_P G.1 vwCl _ t.heap; rw [ht]; exact hP⟩, hS.F ht⟩) hS.2.2 dX6_undo_72
      · replace h := if_f cc_1 h
        refine lv_aload_n hx hb dX6_undo_42 rfl (lv_at hl 0 rfl) ?_
        refine va_get (ci := 6) (C := RX6) (T := TX6) (N := 27) hx hb hts inX6 hown hK.1 hP 0 rfl rfl 6 (by decide) fl22 (fun _ h9 => h9) rfl dX6_undo_43 ?_
        refine lv_iload_n hx hb dX6_undo_46 rfl (lv_at hl 1 rfl) ?_
        refine lv_aload_n hx hb dX6_undo_47 rfl (lv_at hl 0 rfl) ?_
        refine va_get (ci := 6) (C := RX6) (T := TX6) (N := 27) hx hb hts inX6 hown hK.1 hP 0 rfl rfl 19 (by decide) fl41 (fun _ h9 => h9) rfl dX6_undo_48 ?_
        refine lv_bipush (v := 16) hx hb dX6_undo_51 (by decide) ?_
        refine lv_aload_n hx hb dX6_undo_53 rfl (lv_at hl 0 rfl) ?_
        refine va_get (ci := 6) (C := RX6) (T := TX6) (N := 27) hx hb hts inX6 hown hK.1 hP 0 rfl rfl 18 (by decide) fl137 (fun _ h9 => h9) rfl dX6_undo_54 ?_
        refine lv_imul hx hb dX6_undo_57 ?_
        refine lv_iload_n hx hb dX6_undo_58 rfl (lv_at hl 1 rfl) ?_
        refine lv_iadd hx hb dX6_undo_59 ?_
        obtain ⟨zz_2, ee_3, h⟩ := bnd1_s h
        refine wIald hx hb hK hP 10 rfl ee_3 dX6_undo_60 ?_
        obtain ⟨dd_4, ee_5, h⟩ := bnd1_s h
        refine wIast hx hb hK hP (va_D_same hD rfl) hS 5 rfl ee_5 dX6_undo_61 (fun H locs hP hS => ?_)
        replace hP : va_P G.1 vwCl (W_Y G y0 y1 y2 y3 y4 y5 y6 y7 y8 y9 y10 y11 y12 y13 y14 y15 Y_br Y_fa Y_rbs Y_rfs Y_len Y_at Y_fau Y_wk Y_ac Y_nx Y_hs Y_sd Y_st Y_kd Y_fs Y_fl dd_4 Y_rd Y_rb Y_rf Y_tx Y_row Y_hh Y_hl Y_hw Y_ik Y_kp) H := hP
        refine lv_iinc (v := (v1 + 1)) (lv' := [(1, .int (v1 + 1)), (0, .ref y0)]) hx hb dX6_undo_62 hl (k := 1) rfl rfl (by decide) rfl (fun ls hl => ?_)
        refine lv_goto (tgt := 36) hx hb dX6_undo_65 (by decide) ?_
        exact ih (v1 + 1) Y_ac Y_nx dd_4 _ _ _ h hP hS (lv_sub hl [1, 0] rfl)
  unfold f_X6_undo at h
  refine lv_aload_n hx hb dX6_undo_0 rfl (lv_at hl 0 rfl) ?_
  refine va_get (ci := 6) (C := RX6) (T := TX6) (N := 27) hx hb hts inX6 hown hK.1 hP 0 rfl rfl 17 (by decide) fl99 (fun _ h9 => h9) rfl dX6_undo_1 ?_
  refine lv_if_ne (tgt := 10) hx hb dX6_undo_4 (by decide) (fun cc_6 => ?_) (fun cc_6 => ?_)
  · replace h := if_f cc_6 h
    refine lv_aload_n hx hb dX6_undo_10 rfl (lv_at hl 0 rfl) ?_
    refine lv_dup hx hb dX6_undo_11 rfl ?_
    refine va_get (ci := 6) (C := RX6) (T := TX6) (N := 27) hx hb hts inX6 hown hK.1 hP 0 rfl rfl 17 (by decide) fl99 (fun _ h9 => h9) rfl dX6_undo_12 ?_
    refine lv_iconst (v := 1) hx hb dX6_undo_15 (by decide) ?_
    refine lv_isub hx hb dX6_undo_16 ?_
    refine va_put (ci := 6) (ty := .int) (C := RX6) (T := TX6) (N := 27) hx hb hts inX6 tyX6 tyX6_ok nmX6 hown hK.1 hP (va_D_same hD rfl) hS 0 rfl rfl 17 (by decide) fl99 (fun _ h9 => h9) rfl (by decide +kernel) rfl rfl (Nat.le_of_ble_eq_true rfl) dX6_undo_17 (fun H locs hP _ hS => ?_)
    replace hP : va_P G.1 vwCl (W_Y G y0 y1 y2 y3 y4 y5 y6 y7 y8 y9 y10 y11 y12 y13 y14 y15 Y_br Y_fa Y_rbs Y_rfs Y_len Y_at Y_fau Y_wk (Y_ac - (1 : Int32)) Y_nx Y_hs Y_sd Y_st Y_kd Y_fs Y_fl Y_now Y_rd Y_rb Y_rf Y_tx Y_row Y_hh Y_hl Y_hw Y_ik Y_kp) H := hP
    refine lv_aload_n hx hb dX6_undo_20 rfl (lv_at hl 0 rfl) ?_
    refine lv_aload_n hx hb dX6_undo_21 rfl (lv_at hl 0 rfl) ?_
    refine va_get (ci := 6) (C := RX6) (T := TX6) (N := 27) hx hb hts inX6 hown hK.1 hP 0 rfl rfl 18 (by decide) fl137 (fun _ h9 => h9) rfl dX6_undo_22 ?_
    refine lv_bipush (v := 13) hx hb dX6_undo_25 (by decide) ?_
    refine lv_iadd hx hb dX6_undo_27 ?_
    refine lv_bipush (v := 14) hx hb dX6_undo_28 (by decide) ?_
    refine lv_irem hx hb dX6_undo_30 (by decide) ?_
    refine lv_topi (fun zz_7 ee_8 => ?_)
    replace h := nm_s ee_8 h
    refine va_put (ci := 6) (ty := .int) (C := RX6) (T := TX6) (N := 27) hx hb hts inX6 tyX6 tyX6_ok nmX6 hown hK.1 hP (va_D_same hD rfl) hS 0 rfl rfl 18 (by decide) fl137 (fun _ h9 => h9) rfl (by decide +kernel) rfl rfl (Nat.le_of_ble_eq_true rfl) dX6_undo_31 (fun H locs hP _ hS => ?_)
    replace hP : va_P G.1 vwCl (W_Y G y0 y1 y2 y3 y4 y5 y6 y7 y8 y9 y10 y11 y12 y13 y14 y15 Y_br Y_fa Y_rbs Y_rfs Y_len Y_at Y_fau Y_wk (Y_ac - (1 : Int32)) zz_7 Y_hs Y_sd Y_st Y_kd Y_fs Y_fl Y_now Y_rd Y_rb Y_rf Y_tx Y_row Y_hh Y_hl Y_hw Y_ik Y_kp) H := hP
    refine lv_iconst (v := 0) hx hb dX6_undo_34 (by decide) ?_
    refine lv_istore_n (lv' := [(1, .int (0 : Int32)), (0, .ref y0)]) hx hb dX6_undo_35 rfl hl (by decide) rfl (fun ls hl => ?_)
    exact J_36  130 (0 : Int32) (Y_ac - (1 : Int32)) zz_7 Y_now _ _ _ h hP hS (lv_sub hl [1, 0] rfl)
  · replace h := if_t cc_6 h
    refine lv_bipush (v := (-3)) hx hb dX6_undo_7 (by decide) ?_
    cases h
    exact W.iret hx hb hr (fun t ht _ => ⟨⟨_, (), rfl, rfl, by show va_P G.1 vwCl _ t.heap; rw [ht]; exact hP⟩, hS.F ht⟩) hS.2.2 dX6_undo_9
def f_X6_layTrial_2 : Nat → Int32 → (Nat → Int32) → Option ((Nat → Int32))
  | 0, _, _ => none
  | fu + 1, v1, Y_now => if (16 : Int32) ≤ v1 then (some Y_now) else (bnd1 (rd Y_now 32 v1) (fun zz_2 => bnd1 (wr Y_now 32 ((16 : Int32) + v1) zz_2) (fun dd_4 => f_X6_layTrial_2 fu (v1 + 1) dd_4)))
def f_X6_layTrial (Y_now : Nat → Int32) : Option ((Nat → Int32)) := f_X6_layTrial_2  130 (0 : Int32) Y_now
set_option maxRecDepth 100000 in
set_option maxHeartbeats 4000000 in
theorem k_X6_layTrial (l : Launch) (G : Gt) (y0 y1 y2 y3 y4 y5 y6 y7 y8 y9 y10 y11 y12 y13 y14 y15 : Nat) (Y_br : Int32) (Y_fa : Int32) (Y_rbs : Int32) (Y_rfs : Int32) (Y_len : Int32) (Y_at : Int32) (Y_fau : Int32) (Y_wk : Int32) (Y_ac : Int32) (Y_nx : Int32) (Y_hs : Int32) (Y_sd : Int64) (Y_st : Nat → Int32) (Y_kd : Nat → Int32) (Y_fs : Nat → Int32) (Y_fl : Nat → Int32) (Y_now : Nat → Int32) (Y_rd : Nat → Int32) (Y_rb : Nat → Int32) (Y_rf : Nat → Int32) (Y_tx : Nat → Int32) (Y_row : Nat → Int32) (Y_hh : Nat → Int32) (Y_hl : Nat → Int32) (Y_hw : Nat → Int32) (Y_ik : Nat → Int32) (Y_kp : Nat → Int32) (o_Y_now : Nat → Int32) (h : f_X6_layTrial Y_now = some o_Y_now) : CT l yX6_layTrial wsX6_layTrial 0 0 G [.ref y0] (W_Y G y0 y1 y2 y3 y4 y5 y6 y7 y8 y9 y10 y11 y12 y13 y14 y15 Y_br Y_fa Y_rbs Y_rfs Y_len Y_at Y_fau Y_wk Y_ac Y_nx Y_hs Y_sd Y_st Y_kd Y_fs Y_fl Y_now Y_rd Y_rb Y_rf Y_tx Y_row Y_hh Y_hl Y_hw Y_ik Y_kp) (QV G (W_Y G y0 y1 y2 y3 y4 y5 y6 y7 y8 y9 y10 y11 y12 y13 y14 y15 Y_br Y_fa Y_rbs Y_rfs Y_len Y_at Y_fau Y_wk Y_ac Y_nx Y_hs Y_sd Y_st Y_kd Y_fs Y_fl o_Y_now Y_rd Y_rb Y_rf Y_tx Y_row Y_hh Y_hl Y_hw Y_ik Y_kp)) := by
  refine met_of cX6_layTrial 2 none (by decide) rfl (Nat.le_of_ble_eq_true rfl) ?_
  intro p e s m below meth c A ls hx hb hr hml hts hown hlocks hK hA hD hP hS hl
  replace hown : s.vm.findClass RX6 = some m.cls := hown
  replace hl : lv_has ls 2 [(0, .ref y0)] := hl
  have S0 : CallFix p m c cX6_layTrial 2 s _ wsX6_layTrial RX6 := ⟨hx, hb, hml, hown, hts⟩
  have fl22 := hts (.fieldLink RX6 22 "DustVoteModel" "now" "[I") (by decide +kernel)
  have inX6 := show ∀ w ∈ wsX60, w ∈ wsX6_layTrial from by decide +kernel
  have J_2 : ∀ (fu : Nat), ∀ (v1 : Int32) (Y_now : Nat → Int32) (H : Heap) (locs : List Loc) (ls : Array Slot), f_X6_layTrial_2 fu v1 Y_now = some o_Y_now → va_P G.1 vwCl (W_Y G y0 y1 y2 y3 y4 y5 y6 y7 y8 y9 y10 y11 y12 y13 y14 y15 Y_br Y_fa Y_rbs Y_rfs Y_len Y_at Y_fau Y_wk Y_ac Y_nx Y_hs Y_sd Y_st Y_kd Y_fs Y_fl Y_now Y_rd Y_rb Y_rf Y_tx Y_row Y_hh Y_hl Y_hw Y_ik Y_kp) H → va_S A s.heap H locs → lv_has ls 2 [(0, .ref y0), (1, .int v1)] → W p l e (rmv 0 0) s m (List.toArray [.ref y0]) below meth c H locs 0 0 (MQ below ((QV G (W_Y G y0 y1 y2 y3 y4 y5 y6 y7 y8 y9 y10 y11 y12 y13 y14 y15 Y_br Y_fa Y_rbs Y_rfs Y_len Y_at Y_fau Y_wk Y_ac Y_nx Y_hs Y_sd Y_st Y_kd Y_fs Y_fl o_Y_now Y_rd Y_rb Y_rf Y_tx Y_row Y_hh Y_hl Y_hw Y_ik Y_kp)) A) (List.toArray [.ref y0]) s 0 0 A) (F0 m 2 ls []) := by
    intro  fu
    induction fu with
    | zero =>
      intro v1 Y_now H locs ls h
      cases h
    | succ fu ih =>
      intro v1 Y_now H locs ls h hP hS hl
      rw [f_X6_layTrial_2] at h
      refine lv_iload_n hx hb dX6_layTrial_2 rfl (lv_at hl 1 rfl) ?_
      refine lv_bipush (v := 16) hx hb dX6_layTrial_3 (by decide) ?_
      refine lv_icmp_ge (tgt := 29) hx hb dX6_layTrial_5 (by decide) (fun cc_1 => ?_) (fun cc_1 => ?_)
      · replace h := if_t cc_1 h
        cases h
        exact W.vret hx hb hr (fun t ht _ => ⟨⟨(), rfl, trivial, by show va_P G.1 vwCl _ t.heap; rw [ht]; exact hP⟩, hS.F ht⟩) hS.2.2 dX6_layTrial_29
      · replace h := if_f cc_1 h
        refine lv_aload_n hx hb dX6_layTrial_8 rfl (lv_at hl 0 rfl) ?_
        refine va_get (ci := 6) (C := RX6) (T := TX6) (N := 27) hx hb hts inX6 hown hK.1 hP 0 rfl rfl 6 (by decide) fl22 (fun _ h9 => h9) rfl dX6_layTrial_9 ?_
        refine lv_bipush (v := 16) hx hb dX6_layTrial_12 (by decide) ?_
        refine lv_iload_n hx hb dX6_layTrial_14 rfl (lv_at hl 1 rfl) ?_
        refine lv_iadd hx hb dX6_layTrial_15 ?_
        refine lv_aload_n hx hb dX6_layTrial_16 rfl (lv_at hl 0 rfl) ?_
        refine va_get (ci := 6) (C := RX6) (T := TX6) (N := 27) hx hb hts inX6 hown hK.1 hP 0 rfl rfl 6 (by decide) fl22 (fun _ h9 => h9) rfl dX6_layTrial_17 ?_
        refine lv_iload_n hx hb dX6_layTrial_20 rfl (lv_at hl 1 rfl) ?_
        obtain ⟨zz_2, ee_3, h⟩ := bnd1_s h
        refine wIald hx hb hK hP 5 rfl ee_3 dX6_layTrial_21 ?_
        obtain ⟨dd_4, ee_5, h⟩ := bnd1_s h
        refine wIast hx hb hK hP (va_D_same hD rfl) hS 5 rfl ee_5 dX6_layTrial_22 (fun H locs hP hS => ?_)
        replace hP : va_P G.1 vwCl (W_Y G y0 y1 y2 y3 y4 y5 y6 y7 y8 y9 y10 y11 y12 y13 y14 y15 Y_br Y_fa Y_rbs Y_rfs Y_len Y_at Y_fau Y_wk Y_ac Y_nx Y_hs Y_sd Y_st Y_kd Y_fs Y_fl dd_4 Y_rd Y_rb Y_rf Y_tx Y_row Y_hh Y_hl Y_hw Y_ik Y_kp) H := hP
        refine lv_iinc (v := (v1 + 1)) (lv' := [(1, .int (v1 + 1)), (0, .ref y0)]) hx hb dX6_layTrial_23 hl (k := 1) rfl rfl (by decide) rfl (fun ls hl => ?_)
        refine lv_goto (tgt := 2) hx hb dX6_layTrial_26 (by decide) ?_
        exact ih (v1 + 1) dd_4 _ _ _ h hP hS (lv_sub hl [1, 0] rfl)
  unfold f_X6_layTrial at h
  refine lv_iconst (v := 0) hx hb dX6_layTrial_0 (by decide) ?_
  refine lv_istore_n (lv' := [(1, .int (0 : Int32)), (0, .ref y0)]) hx hb dX6_layTrial_1 rfl hl (by decide) rfl (fun ls hl => ?_)
  exact J_2  130 (0 : Int32) Y_now _ _ _ h hP hS (lv_sub hl [1, 0] rfl)
def f_X6_goOn_2 (Y_br : Int32) (Y_fa : Int32) (Y_wk : Int32) (Y_st : Nat → Int32) (Y_kd : Nat → Int32) (Y_fs : Nat → Int32) (Y_fl : Nat → Int32) : Nat → Int32 → Int32 → (Nat → Int32) → Option ((Nat → Int32))
  | 0, _, _, _ => none
  | fu + 1, v1, v2, Y_now => if v1 ≤ v2 then (some Y_now) else (bnd1 (f_X6_passOn Y_br Y_fa Y_wk Y_st Y_kd Y_fs Y_fl Y_now (1 : Int32) (1 : Int32)) (fun dd_2 => f_X6_goOn_2 Y_br Y_fa Y_wk Y_st Y_kd Y_fs Y_fl fu v1 (v2 + 1) dd_2))
def f_X6_goOn (Y_br : Int32) (Y_fa : Int32) (Y_wk : Int32) (Y_st : Nat → Int32) (Y_kd : Nat → Int32) (Y_fs : Nat → Int32) (Y_fl : Nat → Int32) (Y_now : Nat → Int32) (u1 : Int32) : Option ((Nat → Int32)) := f_X6_goOn_2 Y_br Y_fa Y_wk Y_st Y_kd Y_fs Y_fl  130 u1 (0 : Int32) Y_now
set_option maxRecDepth 100000 in
set_option maxHeartbeats 4000000 in
theorem k_X6_goOn (l : Launch) (G : Gt) (y0 y1 y2 y3 y4 y5 y6 y7 y8 y9 y10 y11 y12 y13 y14 y15 : Nat) (Y_br : Int32) (Y_fa : Int32) (Y_rbs : Int32) (Y_rfs : Int32) (Y_len : Int32) (Y_at : Int32) (Y_fau : Int32) (Y_wk : Int32) (Y_ac : Int32) (Y_nx : Int32) (Y_hs : Int32) (Y_sd : Int64) (Y_st : Nat → Int32) (Y_kd : Nat → Int32) (Y_fs : Nat → Int32) (Y_fl : Nat → Int32) (Y_now : Nat → Int32) (Y_rd : Nat → Int32) (Y_rb : Nat → Int32) (Y_rf : Nat → Int32) (Y_tx : Nat → Int32) (Y_row : Nat → Int32) (Y_hh : Nat → Int32) (Y_hl : Nat → Int32) (Y_hw : Nat → Int32) (Y_ik : Nat → Int32) (Y_kp : Nat → Int32) (u1 : Int32) (o_Y_now : Nat → Int32) (h : f_X6_goOn Y_br Y_fa Y_wk Y_st Y_kd Y_fs Y_fl Y_now u1 = some o_Y_now) : CT l yX6_goOn wsX6_goOn 4 94 G [.ref y0, .int u1] (W_Y G y0 y1 y2 y3 y4 y5 y6 y7 y8 y9 y10 y11 y12 y13 y14 y15 Y_br Y_fa Y_rbs Y_rfs Y_len Y_at Y_fau Y_wk Y_ac Y_nx Y_hs Y_sd Y_st Y_kd Y_fs Y_fl Y_now Y_rd Y_rb Y_rf Y_tx Y_row Y_hh Y_hl Y_hw Y_ik Y_kp) (QV G (W_Y G y0 y1 y2 y3 y4 y5 y6 y7 y8 y9 y10 y11 y12 y13 y14 y15 Y_br Y_fa Y_rbs Y_rfs Y_len Y_at Y_fau Y_wk Y_ac Y_nx Y_hs Y_sd Y_st Y_kd Y_fs Y_fl o_Y_now Y_rd Y_rb Y_rf Y_tx Y_row Y_hh Y_hl Y_hw Y_ik Y_kp)) := by
  refine met_of cX6_goOn 3 none (by decide) rfl (Nat.le_of_ble_eq_true rfl) ?_
  intro p e s m below meth c A ls hx hb hr hml hts hown hlocks hK hA hD hP hS hl
  replace hown : s.vm.findClass RX6 = some m.cls := hown
  replace hl : lv_has ls 3 [(0, .ref y0), (1, .int u1)] := hl
  have S0 : CallFix p m c cX6_goOn 3 s _ wsX6_goOn RX6 := ⟨hx, hb, hml, hown, hts⟩
  have cw_X6_passOn := show CallW (rmv 4 94) s _ RX6 RX6 143 yX6_passOn cX6_passOn 6 none wsX6_passOn (rmv 3 69) 0 0 2 from cwV 2 hts gX6_goOn_X6_passOn rfl rfl rfl (by decide +kernel) ⟨Nat.le_of_ble_eq_true rfl, Nat.le_of_ble_eq_true rfl⟩
  have J_2 : ∀ (fu : Nat), ∀ (v1 : Int32) (v2 : Int32) (Y_now : Nat → Int32) (H : Heap) (locs : List Loc) (ls : Array Slot), f_X6_goOn_2 Y_br Y_fa Y_wk Y_st Y_kd Y_fs Y_fl fu v1 v2 Y_now = some o_Y_now → va_P G.1 vwCl (W_Y G y0 y1 y2 y3 y4 y5 y6 y7 y8 y9 y10 y11 y12 y13 y14 y15 Y_br Y_fa Y_rbs Y_rfs Y_len Y_at Y_fau Y_wk Y_ac Y_nx Y_hs Y_sd Y_st Y_kd Y_fs Y_fl Y_now Y_rd Y_rb Y_rf Y_tx Y_row Y_hh Y_hl Y_hw Y_ik Y_kp) H → va_S A s.heap H locs → lv_has ls 3 [(0, .ref y0), (1, .int v1), (2, .int v2)] → W p l e (rmv 4 94) s m (List.toArray [.ref y0, .int u1]) below meth c H locs 0 0 (MQ below ((QV G (W_Y G y0 y1 y2 y3 y4 y5 y6 y7 y8 y9 y10 y11 y12 y13 y14 y15 Y_br Y_fa Y_rbs Y_rfs Y_len Y_at Y_fau Y_wk Y_ac Y_nx Y_hs Y_sd Y_st Y_kd Y_fs Y_fl o_Y_now Y_rd Y_rb Y_rf Y_tx Y_row Y_hh Y_hl Y_hw Y_ik Y_kp)) A) (List.toArray [.ref y0, .int u1]) s 0 0 A) (F0 m 2 ls []) := by
    intro  fu
    induction fu with
    | zero =>
      intro v1 v2 Y_now H locs ls h
      cases h
    | succ fu ih =>
      intro v1 v2 Y_now H locs ls h hP hS hl
      rw [f_X6_goOn_2] at h
      refine lv_iload_n hx hb dX6_goOn_2 rfl (lv_at hl 2 rfl) ?_
      refine lv_iload_n hx hb dX6_goOn_3 rfl (lv_at hl 1 rfl) ?_
      refine lv_icmp_ge (tgt := 19) hx hb dX6_goOn_4 (by decide) (fun cc_1 => ?_) (fun cc_1 => ?_)
      · replace h := if_t cc_1 h
        cases h
        exact W.vret hx hb hr (fun t ht _ => ⟨⟨(), rfl, trivial, by show va_P G.1 vwCl _ t.heap; rw [ht]; exact hP⟩, hS.F ht⟩) hS.2.2 dX6_goOn_19
      · replace h := if_f cc_1 h
        refine lv_aload_n hx hb dX6_goOn_7 rfl (lv_at hl 0 rfl) ?_
        refine lv_iconst (v := 1) hx hb dX6_goOn_8 (by decide) ?_
        refine lv_iconst (v := 1) hx hb dX6_goOn_9 (by decide) ?_
        obtain ⟨dd_2, ee_3, h⟩ := bnd1_s h
        refine cFv (As := [.int (1 : Int32), .int (1 : Int32)]) (rest := []) S0 hK hA hP (va_D_same hD rfl) hS (k_X6_passOn l G y0 y1 y2 y3 y4 y5 y6 y7 y8 y9 y10 y11 y12 y13 y14 y15 Y_br Y_fa Y_rbs Y_rfs Y_len Y_at Y_fau Y_wk Y_ac Y_nx Y_hs Y_sd Y_st Y_kd Y_fs Y_fl Y_now Y_rd Y_rb Y_rf Y_tx Y_row Y_hh Y_hl Y_hw Y_ik Y_kp (1 : Int32) (1 : Int32) dd_2 ee_3) cw_X6_passOn 6 0 rfl rfl rfl rfl hl.1 rfl (Nat.le_of_ble_eq_true rfl) dX6_goOn_10 ⟨Nat.zero_le _, Nat.zero_le _⟩ (fun H locs hP hS => ?_)
        replace hP : va_P G.1 vwCl (W_Y G y0 y1 y2 y3 y4 y5 y6 y7 y8 y9 y10 y11 y12 y13 y14 y15 Y_br Y_fa Y_rbs Y_rfs Y_len Y_at Y_fau Y_wk Y_ac Y_nx Y_hs Y_sd Y_st Y_kd Y_fs Y_fl dd_2 Y_rd Y_rb Y_rf Y_tx Y_row Y_hh Y_hl Y_hw Y_ik Y_kp) H := hP
        refine lv_iinc (v := (v2 + 1)) (lv' := [(2, .int (v2 + 1)), (0, .ref y0), (1, .int v1)]) hx hb dX6_goOn_13 hl (k := 2) rfl rfl (by decide) rfl (fun ls hl => ?_)
        refine lv_goto (tgt := 2) hx hb dX6_goOn_16 (by decide) ?_
        exact ih v1 (v2 + 1) dd_2 _ _ _ h hP hS (lv_sub hl [1, 2, 0] rfl)
  unfold f_X6_goOn at h
  refine lv_iconst (v := 0) hx hb dX6_goOn_0 (by decide) ?_
  refine lv_istore_n (lv' := [(2, .int (0 : Int32)), (0, .ref y0), (1, .int u1)]) hx hb dX6_goOn_1 rfl hl (by decide) rfl (fun ls hl => ?_)
  exact J_2  130 u1 (0 : Int32) Y_now _ _ _ h hP hS (lv_sub hl [1, 2, 0] rfl)
