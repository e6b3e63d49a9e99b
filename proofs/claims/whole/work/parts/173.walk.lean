def f_X6_keep_21 (Y_now : Nat → Int32) : Nat → Int32 → Int32 → (Nat → Int32) → (Nat → Int32) → Option (Int32 × (Nat → Int32) × (Nat → Int32))
  | 0, _, _, _, _ => none
  | fu + 1, v1, v2, Y_ik, Y_kp => if (16 : Int32) ≤ v2 then (bnd1 (rd Y_now 32 (15 : Int32)) (fun zz_2 => some (zz_2, Y_ik, Y_kp))) else (bnd1 (rd Y_now 32 v2) (fun zz_4 => bnd1 (wr Y_kp 32 (((16 : Int32) * v1) + v2) zz_4) (fun dd_6 => f_X6_keep_21 Y_now fu v1 (v2 + 1) Y_ik dd_6)))
def f_X6_keep (Y_now : Nat → Int32) (Y_ik : Nat → Int32) (Y_kp : Nat → Int32) (u1 : Int32) : Option (Int32 × (Nat → Int32) × (Nat → Int32)) := bnd1 (f_X6_in (u1.toInt64) (0 : Int64) (1 : Int64)) (fun rr_8 => if rr_8 = 0 then (some (((-1) : Int32), Y_ik, Y_kp)) else (bnd1 (wr Y_ik 2 u1 ((1 : Int32) &&& 1)) (fun dd_11 => f_X6_keep_21 Y_now  130 u1 (0 : Int32) dd_11 Y_kp)))
set_option maxRecDepth 100000 in
set_option maxHeartbeats 4000000 in
theorem k_X6_keep (l : Launch) (G : Gt) (y0 y1 y2 y3 y4 y5 y6 y7 y8 y9 y10 y11 y12 y13 y14 y15 : Nat) (Y_br : Int32) (Y_fa : Int32) (Y_rbs : Int32) (Y_rfs : Int32) (Y_len : Int32) (Y_at : Int32) (Y_fau : Int32) (Y_wk : Int32) (Y_ac : Int32) (Y_nx : Int32) (Y_hs : Int32) (Y_sd : Int64) (Y_st : Nat → Int32) (Y_kd : Nat → Int32) (Y_fs : Nat → Int32) (Y_fl : Nat → Int32) (Y_now : Nat → Int32) (Y_rd : Nat → Int32) (Y_rb : Nat → Int32) (Y_rf : Nat → Int32) (Y_tx : Nat → Int32) (Y_row : Nat → Int32) (Y_hh : Nat → Int32) (Y_hl : Nat → Int32) (Y_hw : Nat → Int32) (Y_ik : Nat → Int32) (Y_kp : Nat → Int32) (u1 : Int32) (r_ : Int32) (o_Y_ik : Nat → Int32) (o_Y_kp : Nat → Int32) (h : f_X6_keep Y_now Y_ik Y_kp u1 = some (r_, o_Y_ik, o_Y_kp)) : CT l yX6_keep wsX6_keep 1 25 G [.ref y0, .int u1] (W_Y G y0 y1 y2 y3 y4 y5 y6 y7 y8 y9 y10 y11 y12 y13 y14 y15 Y_br Y_fa Y_rbs Y_rfs Y_len Y_at Y_fau Y_wk Y_ac Y_nx Y_hs Y_sd Y_st Y_kd Y_fs Y_fl Y_now Y_rd Y_rb Y_rf Y_tx Y_row Y_hh Y_hl Y_hw Y_ik Y_kp) (QI G r_ (W_Y G y0 y1 y2 y3 y4 y5 y6 y7 y8 y9 y10 y11 y12 y13 y14 y15 Y_br Y_fa Y_rbs Y_rfs Y_len Y_at Y_fau Y_wk Y_ac Y_nx Y_hs Y_sd Y_st Y_kd Y_fs Y_fl Y_now Y_rd Y_rb Y_rf Y_tx Y_row Y_hh Y_hl Y_hw o_Y_ik o_Y_kp)) := by
  refine met_of cX6_keep 3 (some .int) (by decide) rfl (Nat.le_of_ble_eq_true rfl) ?_
  intro p e s m below meth c A ls hx hb hr hml hts hown hlocks hK hA hD hP hS hl
  replace hown : s.vm.findClass RX6 = some m.cls := hown
  replace hl : lv_has ls 3 [(0, .ref y0), (1, .int u1)] := hl
  have S0 : CallFix p m c cX6_keep 3 s _ wsX6_keep RX6 := ⟨hx, hb, hml, hown, hts⟩
  have fl22 := hts (.fieldLink RX6 22 "DustVoteModel" "now" "[I") (by decide +kernel)
  have inX6 := show ∀ w ∈ wsX60, w ∈ wsX6_keep from by decide +kernel
  have fl57 := hts (.fieldLink RX6 57 "DustVoteModel" "kept" "[I") (by decide +kernel)
  have cw_X6_in := show CallB (rmv 1 25) s _ RX6 62 yX6_in cX6_in 6 (some .boolean) wsX6_in (rmv 0 0) 0 0 3 ∧ (Cond.static yX6_in).before _ s = true from va_cwS 3 hts gX6_keep_X6_in rfl rfl rfl (by decide +kernel) ⟨Nat.le_of_ble_eq_true rfl, Nat.le_of_ble_eq_true rfl⟩
  have fl53 := hts (.fieldLink RX6 53 "DustVoteModel" "isKept" "[Z") (by decide +kernel)
  have J_21 : ∀ (fu : Nat), ∀ (v1 : Int32) (v2 : Int32) (Y_ik : Nat → Int32) (Y_kp : Nat → Int32) (H : Heap) (locs : List Loc) (ls : Array Slot), f_X6_keep_21 Y_now fu v1 v2 Y_ik Y_kp = some (r_, o_Y_ik, o_Y_kp) → va_P G.1 vwCl (W_Y G y0 y1 y2 y3 y4 y5 y6 y7 y8 y9 y10 y11 y12 y13 y14 y15 Y_br Y_fa Y_rbs Y_rfs Y_len Y_at Y_fau Y_wk Y_ac Y_nx Y_hs Y_sd Y_st Y_kd Y_fs Y_fl Y_now Y_rd Y_rb Y_rf Y_tx Y_row Y_hh Y_hl Y_hw Y_ik Y_kp) H → va_S A s.heap H locs → lv_has ls 3 [(0, .ref y0), (1, .int v1), (2, .int v2)] → W p l e (rmv 1 25) s m (List.toArray [.ref y0, .int u1]) below meth c H locs 0 0 (MQ below ((QI G r_ (W_Y G y0 y1 y2 y3 y4 y5 y6 y7 y8 y9 y10 y11 y12 y13 y14 y15 Y_br Y_fa Y_rbs Y_rfs Y_len Y_at Y_fau Y_wk Y_ac Y_nx Y_hs Y_sd Y_st Y_kd Y_fs Y_fl Y_now Y_rd Y_rb Y_rf Y_tx Y_row Y_hh Y_hl Y_hw o_Y_ik o_Y_kp)) A) (List.toArray [.ref y0, .int u1]) s 0 0 A) (F0 m 21 ls []) := by
    intro  fu
    induction fu with
    | zero =>
      intro v1 v2 Y_ik Y_kp H locs ls h
      cases h
    | succ fu ih =>
      intro v1 v2 Y_ik Y_kp H locs ls h hP hS hl
      rw [f_X6_keep_21] at h
      refine lv_iload_n hx hb dX6_keep_21 rfl (lv_at hl 2 rfl) ?_
      refine lv_bipush (v := 16) hx hb dX6_keep_22 (by decide) ?_
      refine lv_icmp_ge (tgt := 50) hx hb dX6_keep_24 (by decide) (fun cc_1 => ?_) (fun cc_1 => ?_)
      · replace h := if_t cc_1 h
        refine lv_aload_n hx hb dX6_keep_50 rfl (lv_at hl 0 rfl) ?_
        refine va_get (ci := 6) (C := RX6) (T := TX6) (N := 27) hx hb hts inX6 hown hK.1 hP 0 rfl rfl 6 (by decide) fl22 (fun _ h9 => h9) rfl dX6_keep_51 ?_
        refine lv_bipush (v := 15) hx hb dX6_keep_54 (by decide) ?_
        obtain ⟨zz_2, ee_3, h⟩ := bnd1_s h
        refine wIald hx hb hK hP 5 rfl ee_3 dX6_keep_56 ?_
        cases h
        exact W.iret hx hb hr (fun t ht _ => ⟨⟨_, (), rfl, rfl, by show va_P G.1 vwCl _ t.heap; rw [ht]; exact hP⟩, hS.F ht⟩) hS.2.2 dX6_keep_57
      · replace h := if_f cc_1 h
        refine lv_aload_n hx hb dX6_keep_27 rfl (lv_at hl 0 rfl) ?_
        refine va_get (ci := 6) (C := RX6) (T := TX6) (N := 27) hx hb hts inX6 hown hK.1 hP 0 rfl rfl 26 (by decide) fl57 (fun _ h9 => h9) rfl dX6_keep_28 ?_
        refine lv_bipush (v := 16) hx hb dX6_keep_31 (by decide) ?_
        refine lv_iload_n hx hb dX6_keep_33 rfl (lv_at hl 1 rfl) ?_
        refine lv_imul hx hb dX6_keep_34 ?_
        refine lv_iload_n hx hb dX6_keep_35 rfl (lv_at hl 2 rfl) ?_
        refine lv_iadd hx hb dX6_keep_36 ?_
        refine lv_aload_n hx hb dX6_keep_37 rfl (lv_at hl 0 rfl) ?_
        refine va_get (ci := 6) (C := RX6) (T := TX6) (N := 27) hx hb hts inX6 hown hK.1 hP 0 rfl rfl 6 (by decide) fl22 (fun _ h9 => h9) rfl dX6_keep_38 ?_
        refine lv_iload_n hx hb dX6_keep_41 rfl (lv_at hl 2 rfl) ?_
        obtain ⟨zz_4, ee_5, h⟩ := bnd1_s h
        refine wIald hx hb hK hP 5 rfl ee_5 dX6_keep_42 ?_
        obtain ⟨dd_6, ee_7, h⟩ := bnd1_s h
        refine wIast hx hb hK hP (va_D_same hD rfl) hS 15 rfl ee_7 dX6_keep_43 (fun H locs hP hS => ?_)
        replace hP : va_P G.1 vwCl (W_Y G y0 y1 y2 y3 y4 y5 y6 y7 y8 y9 y10 y11 y12 y13 y14 y15 Y_br Y_fa Y_rbs Y_rfs Y_len Y_at Y_fau Y_wk Y_ac Y_nx Y_hs Y_sd Y_st Y_kd Y_fs Y_fl Y_now Y_rd Y_rb Y_rf Y_tx Y_row Y_hh Y_hl Y_hw Y_ik dd_6) H := hP
        refine lv_iinc (v := (v2 + 1)) (lv' := [(2, .int (v2 + 1)), (0, .ref y0), (1, .int v1)]) hx hb dX6_keep_44 hl (k := 2) rfl rfl (by decide) rfl (fun ls hl => ?_)
        refine lv_goto (tgt := 21) hx hb dX6_keep_47 (by decide) ?_
        exact ih v1 (v2 + 1) Y_ik dd_6 _ _ _ h hP hS (lv_sub hl [1, 2, 0] rfl)
  unfold f_X6_keep at h
  refine lv_iload_n hx hb dX6_keep_0 rfl (lv_at hl 1 rfl) ?_
  refine lv_i2l (v := u1.toInt64) hx hb dX6_keep_1 rfl ?_
  refine lv_lconst (v := 0) hx hb dX6_keep_2 (by decide) ?_
  refine lv_lconst (v := 1) hx hb dX6_keep_3 (by decide) ?_
  obtain ⟨rr_8, ee_9, h⟩ := bnd1_s h
  refine cSi (As := [.long (u1.toInt64), .long (0 : Int64), .long (1 : Int64)]) (rest := []) S0 hK hA hP (va_D_same hD rfl) hS [] (k_X6_in l G (u1.toInt64) (0 : Int64) (1 : Int64) rr_8 ee_9) cw_X6_in rfl rfl (Nat.le_of_ble_eq_true rfl) rfl hl.1 rfl (Nat.le_of_ble_eq_true rfl) dX6_keep_4 ⟨Nat.zero_le _, Nat.zero_le _⟩ (fun H locs hP hS => ?_)
  replace hP : va_P G.1 vwCl (W_Y G y0 y1 y2 y3 y4 y5 y6 y7 y8 y9 y10 y11 y12 y13 y14 y15 Y_br Y_fa Y_rbs Y_rfs Y_len Y_at Y_fau Y_wk Y_ac Y_nx Y_hs Y_sd Y_st Y_kd Y_fs Y_fl Y_now Y_rd Y_rb Y_rf Y_tx Y_row Y_hh Y_hl Y_hw Y_ik Y_kp) H := hP
  refine lv_if_ne (tgt := 12) hx hb dX6_keep_7 (by decide) (fun cc_10 => ?_) (fun cc_10 => ?_)
  · replace h := if_f cc_10 h
    refine lv_aload_n hx hb dX6_keep_12 rfl (lv_at hl 0 rfl) ?_
    refine va_get (ci := 6) (C := RX6) (T := TX6) (N := 27) hx hb hts inX6 hown hK.1 hP 0 rfl rfl 25 (by decide) fl53 (fun _ h9 => h9) rfl dX6_keep_13 ?_
    refine lv_iload_n hx hb dX6_keep_16 rfl (lv_at hl 1 rfl) ?_
    refine lv_iconst (v := 1) hx hb dX6_keep_17 (by decide) ?_
    obtain ⟨dd_11, ee_12, h⟩ := bnd1_s h
    refine wZast hx hb hK hP (va_D_same hD rfl) hS 14 rfl ee_12 dX6_keep_18 (fun H locs hP hS => ?_)
    replace hP : va_P G.1 vwCl (W_Y G y0 y1 y2 y3 y4 y5 y6 y7 y8 y9 y10 y11 y12 y13 y14 y15 Y_br Y_fa Y_rbs Y_rfs Y_len Y_at Y_fau Y_wk Y_ac Y_nx Y_hs Y_sd Y_st Y_kd Y_fs Y_fl Y_now Y_rd Y_rb Y_rf Y_tx Y_row Y_hh Y_hl Y_hw dd_11 Y_kp) H := hP
    refine lv_iconst (v := 0) hx hb dX6_keep_19 (by decide) ?_
    refine lv_istore_n (lv' := [(2, .int (0 : Int32)), (0, .ref y0), (1, .int u1)]) hx hb dX6_keep_20 rfl hl (by decide) rfl (fun ls hl => ?_)
    exact J_21  130 u1 (0 : Int32) dd_11 Y_kp _ _ _ h hP hS (lv_sub hl [1, 2, 0] rfl)
  · replace h := if_t cc_10 h
    refine lv_iconst (v := (-1)) hx hb dX6_keep_10 (by decide) ?_
    cases h
    exact W.iret hx hb hr (fun t ht _ => ⟨⟨_, (), rfl, rfl, by show va_P G.1 vwCl _ t.heap; rw [ht]; exact hP⟩, hS.F ht⟩) hS.2.2 dX6_keep_11
