def f_X6_add (Y_now : Nat → Int32) (u1 : Int32) (u2 : Int32) (u3 : Int32) : Option ((Nat → Int32)) := nm (((16 : Int32) * u1) + ((u2 + (8 : Int32)) - (u2 + (8 : Int32)) / (8 : Int32) * (8 : Int32))) (fun zz_1 => bnd1 (rd Y_now 32 zz_1) (fun zz_3 => if (zz_3 + u3) ≤ (99 : Int32) then (bnd1 (rd Y_now 32 zz_1) (fun zz_6 => bnd1 (wr Y_now 32 zz_1 (zz_6 + u3)) (fun dd_8 => some dd_8))) else (bnd1 (wr Y_now 32 zz_1 (99 : Int32)) (fun dd_10 => some dd_10))))
set_option maxRecDepth 100000 in
set_option maxHeartbeats 4000000 in
theorem k_X6_add (l : Launch) (G : Gt) (y0 y1 y2 y3 y4 y5 y6 y7 y8 y9 y10 y11 y12 y13 y14 y15 : Nat) (Y_br : Int32) (Y_fa : Int32) (Y_rbs : Int32) (Y_rfs : Int32) (Y_len : Int32) (Y_at : Int32) (Y_fau : Int32) (Y_wk : Int32) (Y_ac : Int32) (Y_nx : Int32) (Y_hs : Int32) (Y_sd : Int64) (Y_st : Nat → Int32) (Y_kd : Nat → Int32) (Y_fs : Nat → Int32) (Y_fl : Nat → Int32) (Y_now : Nat → Int32) (Y_rd : Nat → Int32) (Y_rb : Nat → Int32) (Y_rf : Nat → Int32) (Y_tx : Nat → Int32) (Y_row : Nat → Int32) (Y_hh : Nat → Int32) (Y_hl : Nat → Int32) (Y_hw : Nat → Int32) (Y_ik : Nat → Int32) (Y_kp : Nat → Int32) (u1 : Int32) (u2 : Int32) (u3 : Int32) (o_Y_now : Nat → Int32) (h : f_X6_add Y_now u1 u2 u3 = some o_Y_now) : CT l yX6_add wsX6_add 0 0 G [.ref y0, .int u1, .int u2, .int u3] (W_Y G y0 y1 y2 y3 y4 y5 y6 y7 y8 y9 y10 y11 y12 y13 y14 y15 Y_br Y_fa Y_rbs Y_rfs Y_len Y_at Y_fau Y_wk Y_ac Y_nx Y_hs Y_sd Y_st Y_kd Y_fs Y_fl Y_now Y_rd Y_rb Y_rf Y_tx Y_row Y_hh Y_hl Y_hw Y_ik Y_kp) (QV G (W_Y G y0 y1 y2 y3 y4 y5 y6 y7 y8 y9 y10 y11 y12 y13 y14 y15 Y_br Y_fa Y_rbs Y_rfs Y_len Y_at Y_fau Y_wk Y_ac Y_nx Y_hs Y_sd Y_st Y_kd Y_fs Y_fl o_Y_now Y_rd Y_rb Y_rf Y_tx Y_row Y_hh Y_hl Y_hw Y_ik Y_kp)) := by
  refine met_of cX6_add 5 none (by decide) rfl (Nat.le_of_ble_eq_true rfl) ?_
  intro p e s m below meth c A ls hx hb hr hml hts hown hlocks hK hA hD hP hS hl
  replace hown : s.vm.findClass RX6 = some m.cls := hown
  replace hl : lv_has ls 5 [(0, .ref y0), (1, .int u1), (2, .int u2), (3, .int u3)] := hl
  have S0 : CallFix p m c cX6_add 5 s _ wsX6_add RX6 := ⟨hx, hb, hml, hown, hts⟩
  have fl22 := hts (.fieldLink RX6 22 "DustVoteModel" "now" "[I") (by decide +kernel)
  have inX6 := show ∀ w ∈ wsX60, w ∈ wsX6_add from by decide +kernel
  unfold f_X6_add at h
  refine lv_bipush (v := 16) hx hb dX6_add_0 (by decide) ?_
  refine lv_iload_n hx hb dX6_add_2 rfl (lv_at hl 1 rfl) ?_
  refine lv_imul hx hb dX6_add_3 ?_
  refine lv_iload_n hx hb dX6_add_4 rfl (lv_at hl 2 rfl) ?_
  refine lv_bipush (v := 8) hx hb dX6_add_5 (by decide) ?_
  refine lv_iadd hx hb dX6_add_7 ?_
  refine lv_bipush (v := 8) hx hb dX6_add_8 (by decide) ?_
  refine lv_irem hx hb dX6_add_10 (by decide) ?_
  refine lv_iadd hx hb dX6_add_11 ?_
  refine lv_topi (fun zz_1 ee_2 => ?_)
  replace h := nm_s ee_2 h
  refine lv_istore (lv' := [(4, .int zz_1), (0, .ref y0), (1, .int u1), (2, .int u2), (3, .int u3)]) hx hb dX6_add_12 hl (by decide) rfl (fun ls hl => ?_)
  refine lv_aload_n hx hb dX6_add_14 rfl (lv_at hl 1 rfl) ?_
  refine va_get (ci := 6) (C := RX6) (T := TX6) (N := 27) hx hb hts inX6 hown hK.1 hP 0 rfl rfl 6 (by decide) fl22 (fun _ h9 => h9) rfl dX6_add_15 ?_
  refine lv_iload hx hb dX6_add_18 (lv_at hl 0 rfl) ?_
  refine lv_aload_n hx hb dX6_add_20 rfl (lv_at hl 1 rfl) ?_
  refine va_get (ci := 6) (C := RX6) (T := TX6) (N := 27) hx hb hts inX6 hown hK.1 hP 0 rfl rfl 6 (by decide) fl22 (fun _ h9 => h9) rfl dX6_add_21 ?_
  refine lv_iload hx hb dX6_add_24 (lv_at hl 0 rfl) ?_
  obtain ⟨zz_3, ee_4, h⟩ := bnd1_s h
  refine wIald hx hb hK hP 5 rfl ee_4 dX6_add_26 ?_
  refine lv_iload_n hx hb dX6_add_27 rfl (lv_at hl 4 rfl) ?_
  refine lv_iadd hx hb dX6_add_28 ?_
  refine lv_bipush (v := 99) hx hb dX6_add_29 (by decide) ?_
  refine lv_icmp_le (tgt := 39) hx hb dX6_add_31 (by decide) (fun cc_5 => ?_) (fun cc_5 => ?_)
  · replace h := if_t cc_5 h
    refine lv_aload_n hx hb dX6_add_39 rfl (lv_at hl 1 rfl) ?_
    refine va_get (ci := 6) (C := RX6) (T := TX6) (N := 27) hx hb hts inX6 hown hK.1 hP 0 rfl rfl 6 (by decide) fl22 (fun _ h9 => h9) rfl dX6_add_40 ?_
    refine lv_iload hx hb dX6_add_43 (lv_at hl 0 rfl) ?_
    obtain ⟨zz_6, ee_7, h⟩ := bnd1_s h
    refine wIald hx hb hK hP 5 rfl ee_7 dX6_add_45 ?_
    refine lv_iload_n hx hb dX6_add_46 rfl (lv_at hl 4 rfl) ?_
    refine lv_iadd hx hb dX6_add_47 ?_
    obtain ⟨dd_8, ee_9, h⟩ := bnd1_s h
    refine wIast hx hb hK hP (va_D_same hD rfl) hS 5 rfl ee_9 dX6_add_48 (fun H locs hP hS => ?_)
    replace hP : va_P G.1 vwCl (W_Y G y0 y1 y2 y3 y4 y5 y6 y7 y8 y9 y10 y11 y12 y13 y14 y15 Y_br Y_fa Y_rbs Y_rfs Y_len Y_at Y_fau Y_wk Y_ac Y_nx Y_hs Y_sd Y_st Y_kd Y_fs Y_fl dd_8 Y_rd Y_rb Y_rf Y_tx Y_row Y_hh Y_hl Y_hw Y_ik Y_kp) H := hP
    cases h
    exact W.vret hx hb hr (fun t ht _ => ⟨⟨(), rfl, trivial, by show va_P G.1 vwCl _ t.heap; rw [ht]; exact hP⟩, hS.F ht⟩) hS.2.2 dX6_add_49
  · replace h := if_f cc_5 h
    refine lv_bipush (v := 99) hx hb dX6_add_34 (by decide) ?_
    refine lv_goto (tgt := 48) hx hb dX6_add_36 (by decide) ?_
    obtain ⟨dd_10, ee_11, h⟩ := bnd1_s h
    refine wIast hx hb hK hP (va_D_same hD rfl) hS 5 rfl ee_11 dX6_add_48 (fun H locs hP hS => ?_)
    replace hP : va_P G.1 vwCl (W_Y G y0 y1 y2 y3 y4 y5 y6 y7 y8 y9 y10 y11 y12 y13 y14 y15 Y_br Y_fa Y_rbs Y_rfs Y_len Y_at Y_fau Y_wk Y_ac Y_nx Y_hs Y_sd Y_st Y_kd Y_fs Y_fl dd_10 Y_rd Y_rb Y_rf Y_tx Y_row Y_hh Y_hl Y_hw Y_ik Y_kp) H := hP
    cases h
    exact W.vret hx hb hr (fun t ht _ => ⟨⟨(), rfl, trivial, by show va_P G.1 vwCl _ t.heap; rw [ht]; exact hP⟩, hS.F ht⟩) hS.2.2 dX6_add_49
def f_X6_takeOff_36 (v4 : Int32) (q0 : Int32) (Y_now : Nat → Int32) : Option (Int32 × (Nat → Int32)) := bnd1 (rd Y_now 32 v4) (fun zz_1 => bnd1 (wr Y_now 32 v4 (zz_1 - q0)) (fun dd_3 => some (q0, dd_3)))
def f_X6_takeOff (Y_now : Nat → Int32) (u1 : Int32) (u2 : Int32) (u3 : Int32) : Option (Int32 × (Nat → Int32)) := nm (((16 : Int32) * u1) + ((u2 + (8 : Int32)) - (u2 + (8 : Int32)) / (8 : Int32) * (8 : Int32))) (fun zz_5 => bnd1 (rd Y_now 32 zz_5) (fun zz_7 => if u3 ≤ zz_7 then (f_X6_takeOff_36  zz_5 u3 Y_now) else (bnd1 (rd Y_now 32 zz_5) (fun zz_10 => f_X6_takeOff_36  zz_5 zz_10 Y_now))))
set_option maxRecDepth 100000 in
set_option maxHeartbeats 4000000 in
theorem k_X6_takeOff (l : Launch) (G : Gt) (y0 y1 y2 y3 y4 y5 y6 y7 y8 y9 y10 y11 y12 y13 y14 y15 : Nat) (Y_br : Int32) (Y_fa : Int32) (Y_rbs : Int32) (Y_rfs : Int32) (Y_len : Int32) (Y_at : Int32) (Y_fau : Int32) (Y_wk : Int32) (Y_ac : Int32) (Y_nx : Int32) (Y_hs : Int32) (Y_sd : Int64) (Y_st : Nat → Int32) (Y_kd : Nat → Int32) (Y_fs : Nat → Int32) (Y_fl : Nat → Int32) (Y_now : Nat → Int32) (Y_rd : Nat → Int32) (Y_rb : Nat → Int32) (Y_rf : Nat → Int32) (Y_tx : Nat → Int32) (Y_row : Nat → Int32) (Y_hh : Nat → Int32) (Y_hl : Nat → Int32) (Y_hw : Nat → Int32) (Y_ik : Nat → Int32) (Y_kp : Nat → Int32) (u1 : Int32) (u2 : Int32) (u3 : Int32) (r_ : Int32) (o_Y_now : Nat → Int32) (h : f_X6_takeOff Y_now u1 u2 u3 = some (r_, o_Y_now)) : CT l yX6_takeOff wsX6_takeOff 0 0 G [.ref y0, .int u1, .int u2, .int u3] (W_Y G y0 y1 y2 y3 y4 y5 y6 y7 y8 y9 y10 y11 y12 y13 y14 y15 Y_br Y_fa Y_rbs Y_rfs Y_len Y_at Y_fau Y_wk Y_ac Y_nx Y_hs Y_sd Y_st Y_kd Y_fs Y_fl Y_now Y_rd Y_rb Y_rf Y_tx Y_row Y_hh Y_hl Y_hw Y_ik Y_kp) (QI G r_ (W_Y G y0 y1 y2 y3 y4 y5 y6 y7 y8 y9 y10 y11 y12 y13 y14 y15 Y_br Y_fa Y_rbs Y_rfs Y_len Y_at Y_fau Y_wk Y_ac Y_nx Y_hs Y_sd Y_st Y_kd Y_fs Y_fl o_Y_now Y_rd Y_rb Y_rf Y_tx Y_row Y_hh Y_hl Y_hw Y_ik Y_kp)) := by
  refine met_of cX6_takeOff 6 (some .int) (by decide) rfl (Nat.le_of_ble_eq_true rfl) ?_
  intro p e s m below meth c A ls hx hb hr hml hts hown hlocks hK hA hD hP hS hl
  replace hown : s.vm.findClass RX6 = some m.cls := hown
  replace hl : lv_has ls 6 [(0, .ref y0), (1, .int u1), (2, .int u2), (3, .int u3)] := hl
  have S0 : CallFix p m c cX6_takeOff 6 s _ wsX6_takeOff RX6 := ⟨hx, hb, hml, hown, hts⟩
  have fl22 := hts (.fieldLink RX6 22 "DustVoteModel" "now" "[I") (by decide +kernel)
  have inX6 := show ∀ w ∈ wsX60, w ∈ wsX6_takeOff from by decide +kernel
  have J_36 : ∀ (v4 : Int32) (q0 : Int32) (Y_now : Nat → Int32) (H : Heap) (locs : List Loc) (ls : Array Slot), f_X6_takeOff_36 v4 q0 Y_now = some (r_, o_Y_now) → va_P G.1 vwCl (W_Y G y0 y1 y2 y3 y4 y5 y6 y7 y8 y9 y10 y11 y12 y13 y14 y15 Y_br Y_fa Y_rbs Y_rfs Y_len Y_at Y_fau Y_wk Y_ac Y_nx Y_hs Y_sd Y_st Y_kd Y_fs Y_fl Y_now Y_rd Y_rb Y_rf Y_tx Y_row Y_hh Y_hl Y_hw Y_ik Y_kp) H → va_S A s.heap H locs → lv_has ls 6 [(0, .ref y0), (4, .int v4)] → W p l e (rmv 0 0) s m (List.toArray [.ref y0, .int u1, .int u2, .int u3]) below meth c H locs 0 0 (MQ below ((QI G r_ (W_Y G y0 y1 y2 y3 y4 y5 y6 y7 y8 y9 y10 y11 y12 y13 y14 y15 Y_br Y_fa Y_rbs Y_rfs Y_len Y_at Y_fau Y_wk Y_ac Y_nx Y_hs Y_sd Y_st Y_kd Y_fs Y_fl o_Y_now Y_rd Y_rb Y_rf Y_tx Y_row Y_hh Y_hl Y_hw Y_ik Y_kp)) A) (List.toArray [.ref y0, .int u1, .int u2, .int u3]) s 0 0 A) (F0 m 36 ls [.int q0]) := by
    intro v4 q0 Y_now H locs ls h hP hS hl
    unfold f_X6_takeOff_36 at h
    refine lv_istore (lv' := [(5, .int q0), (0, .ref y0), (4, .int v4)]) hx hb dX6_takeOff_36 hl (by decide) rfl (fun ls hl => ?_)
    refine lv_aload_n hx hb dX6_takeOff_38 rfl (lv_at hl 1 rfl) ?_
    refine va_get (ci := 6) (C := RX6) (T := TX6) (N := 27) hx hb hts inX6 hown hK.1 hP 0 rfl rfl 6 (by decide) fl22 (fun _ h9 => h9) rfl dX6_takeOff_39 ?_
    refine lv_iload hx hb dX6_takeOff_42 (lv_at hl 2 rfl) ?_
    refine lv_dup2_11 hx hb dX6_takeOff_44 rfl rfl ?_
    obtain ⟨zz_1, ee_2, h⟩ := bnd1_s h
    refine wIald hx hb hK hP 5 rfl ee_2 dX6_takeOff_45 ?_
    refine lv_iload hx hb dX6_takeOff_46 (lv_at hl 0 rfl) ?_
    refine lv_isub hx hb dX6_takeOff_48 ?_
    obtain ⟨dd_3, ee_4, h⟩ := bnd1_s h
    refine wIast hx hb hK hP (va_D_same hD rfl) hS 5 rfl ee_4 dX6_takeOff_49 (fun H locs hP hS => ?_)
    replace hP : va_P G.1 vwCl (W_Y G y0 y1 y2 y3 y4 y5 y6 y7 y8 y9 y10 y11 y12 y13 y14 y15 Y_br Y_fa Y_rbs Y_rfs Y_len Y_at Y_fau Y_wk Y_ac Y_nx Y_hs Y_sd Y_st Y_kd Y_fs Y_fl dd_3 Y_rd Y_rb Y_rf Y_tx Y_row Y_hh Y_hl Y_hw Y_ik Y_kp) H := hP
    refine lv_iload hx hb dX6_takeOff_50 (lv_at hl 0 rfl) ?_
    cases h
    exact W.iret hx hb hr (fun t ht _ => ⟨⟨_, (), rfl, rfl, by show va_P G.1 vwCl _ t.heap; rw [ht]; exact hP⟩, hS.F ht⟩) hS.2.2 dX6_takeOff_52
  unfold f_X6_takeOff at h
  refine lv_bipush (v := 16) hx hb dX6_takeOff_0 (by decide) ?_
  refine lv_iload_n hx hb dX6_takeOff_2 rfl (lv_at hl 1 rfl) ?_
  refine lv_imul hx hb dX6_takeOff_3 ?_
  refine lv_iload_n hx hb dX6_takeOff_4 rfl (lv_at hl 2 rfl) ?_
  refine lv_bipush (v := 8) hx hb dX6_takeOff_5 (by decide) ?_
  refine lv_iadd hx hb dX6_takeOff_7 ?_
  refine lv_bipush (v := 8) hx hb dX6_takeOff_8 (by decide) ?_
  refine lv_irem hx hb dX6_takeOff_10 (by decide) ?_
  refine lv_iadd hx hb dX6_takeOff_11 ?_
  refine lv_topi (fun zz_5 ee_6 => ?_)
  replace h := nm_s ee_6 h
  refine lv_istore (lv' := [(4, .int zz_5), (0, .ref y0), (1, .int u1), (2, .int u2), (3, .int u3)]) hx hb dX6_takeOff_12 hl (by decide) rfl (fun ls hl => ?_)
  refine lv_aload_n hx hb dX6_takeOff_14 rfl (lv_at hl 1 rfl) ?_
  refine va_get (ci := 6) (C := RX6) (T := TX6) (N := 27) hx hb hts inX6 hown hK.1 hP 0 rfl rfl 6 (by decide) fl22 (fun _ h9 => h9) rfl dX6_takeOff_15 ?_
  refine lv_iload hx hb dX6_takeOff_18 (lv_at hl 0 rfl) ?_
  obtain ⟨zz_7, ee_8, h⟩ := bnd1_s h
  refine wIald hx hb hK hP 5 rfl ee_8 dX6_takeOff_20 ?_
  refine lv_iload_n hx hb dX6_takeOff_21 rfl (lv_at hl 4 rfl) ?_
  refine lv_icmp_ge (tgt := 35) hx hb dX6_takeOff_22 (by decide) (fun cc_9 => ?_) (fun cc_9 => ?_)
  · replace h := if_t cc_9 h
    refine lv_iload_n hx hb dX6_takeOff_35 rfl (lv_at hl 4 rfl) ?_
    exact J_36  zz_5 u3 Y_now _ _ _ h hP hS (lv_sub hl [1, 0] rfl)
  · replace h := if_f cc_9 h
    refine lv_aload_n hx hb dX6_takeOff_25 rfl (lv_at hl 1 rfl) ?_
    refine va_get (ci := 6) (C := RX6) (T := TX6) (N := 27) hx hb hts inX6 hown hK.1 hP 0 rfl rfl 6 (by decide) fl22 (fun _ h9 => h9) rfl dX6_takeOff_26 ?_
    refine lv_iload hx hb dX6_takeOff_29 (lv_at hl 0 rfl) ?_
    obtain ⟨zz_10, ee_11, h⟩ := bnd1_s h
    refine wIald hx hb hK hP 5 rfl ee_11 dX6_takeOff_31 ?_
    refine lv_goto (tgt := 36) hx hb dX6_takeOff_32 (by decide) ?_
    exact J_36  zz_5 zz_10 Y_now _ _ _ h hP hS (lv_sub hl [1, 0] rfl)
