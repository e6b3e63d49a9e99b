def f_X6_keepsBelow_17 (Y_br : Int32) (Y_fa : Int32) (Y_wk : Int32) (Y_st : Nat → Int32) (Y_kd : Nat → Int32) (Y_fs : Nat → Int32) (Y_fl : Nat → Int32) : Nat → Int32 → Int32 → (Nat → Int32) → Option (Int32 × (Nat → Int32))
  | 0, _, _, _ => none
  | fu + 1, v2, v3, Y_now => if v2 ≤ v3 then (some ((1 : Int32), Y_now)) else (bnd1 (f_X6_passOn Y_br Y_fa Y_wk Y_st Y_kd Y_fs Y_fl Y_now (1 : Int32) (1 : Int32)) (fun dd_2 => bnd1 (f_X6_kneesOn dd_2 (1 : Int32)) (fun rr_4 => if rr_4 = 0 then (f_X6_keepsBelow_17 Y_br Y_fa Y_wk Y_st Y_kd Y_fs Y_fl fu v2 (v3 + 1) dd_2) else (some ((0 : Int32), dd_2)))))
def f_X6_keepsBelow (Y_br : Int32) (Y_fa : Int32) (Y_wk : Int32) (Y_st : Nat → Int32) (Y_kd : Nat → Int32) (Y_fs : Nat → Int32) (Y_fl : Nat → Int32) (Y_now : Nat → Int32) (u1 : Int32) (u2 : Int32) : Option (Int32 × (Nat → Int32)) := bnd1 (f_X6_layTrial Y_now) (fun dd_7 => bnd1 (rd dd_7 32 (30 : Int32)) (fun zz_9 => bnd1 (wr dd_7 32 (30 : Int32) (zz_9 ||| u1)) (fun dd_11 => f_X6_keepsBelow_17 Y_br Y_fa Y_wk Y_st Y_kd Y_fs Y_fl  130 u2 (0 : Int32) dd_11)))
set_option maxRecDepth 100000 in
set_option maxHeartbeats 4000000 in
theorem k_X6_keepsBelow (l : Launch) (G : Gt) (y0 y1 y2 y3 y4 y5 y6 y7 y8 y9 y10 y11 y12 y13 y14 y15 : Nat) (Y_br : Int32) (Y_fa : Int32) (Y_rbs : Int32) (Y_rfs : Int32) (Y_len : Int32) (Y_at : Int32) (Y_fau : Int32) (Y_wk : Int32) (Y_ac : Int32) (Y_nx : Int32) (Y_hs : Int32) (Y_sd : Int64) (Y_st : Nat → Int32) (Y_kd : Nat → Int32) (Y_fs : Nat → Int32) (Y_fl : Nat → Int32) (Y_now : Nat → Int32) (Y_rd : Nat → Int32) (Y_rb : Nat → Int32) (Y_rf : Nat → Int32) (Y_tx : Nat → Int32) (Y_row : Nat → Int32) (Y_hh : Nat → Int32) (Y_hl : Nat → Int32) (Y_hw : Nat → Int32) (Y_ik : Nat → Int32) (Y_kp : Nat → Int32) (u1 : Int32) (u2 : Int32) (r_ : Int32) (o_Y_now : Nat → Int32) (h : f_X6_keepsBelow Y_br Y_fa Y_wk Y_st Y_kd Y_fs Y_fl Y_now u1 u2 = some (r_, o_Y_now)) : CT l yX6_keepsBelow wsX6_keepsBelow 4 94 G [.ref y0, .int u1, .int u2] (W_Y G y0 y1 y2 y3 y4 y5 y6 y7 y8 y9 y10 y11 y12 y13 y14 y15 Y_br Y_fa Y_rbs Y_rfs Y_len Y_at Y_fau Y_wk Y_ac Y_nx Y_hs Y_sd Y_st Y_kd Y_fs Y_fl Y_now Y_rd Y_rb Y_rf Y_tx Y_row Y_hh Y_hl Y_hw Y_ik Y_kp) (QI G r_ (W_Y G y0 y1 y2 y3 y4 y5 y6 y7 y8 y9 y10 y11 y12 y13 y14 y15 Y_br Y_fa Y_rbs Y_rfs Y_len Y_at Y_fau Y_wk Y_ac Y_nx Y_hs Y_sd Y_st Y_kd Y_fs Y_fl o_Y_now Y_rd Y_rb Y_rf Y_tx Y_row Y_hh Y_hl Y_hw Y_ik Y_kp)) := by
  refine met_of cX6_keepsBelow 4 (some .boolean) (by decide) rfl (Nat.le_of_ble_eq_true rfl) ?_
  intro p e s m below meth c A ls hx hb hr hml hts hown hlocks hK hA hD hP hS hl
  replace hown : s.vm.findClass RX6 = some m.cls := hown
  replace hl : lv_has ls 4 [(0, .ref y0), (1, .int u1), (2, .int u2)] := hl
  have S0 : CallFix p m c cX6_keepsBelow 4 s _ wsX6_keepsBelow RX6 := ⟨hx, hb, hml, hown, hts⟩
  have cw_X6_passOn := show CallW (rmv 4 94) s _ RX6 RX6 143 yX6_passOn cX6_passOn 6 none wsX6_passOn (rmv 3 69) 0 0 2 from cwV 2 hts gX6_keepsBelow_X6_passOn rfl rfl rfl (by decide +kernel) ⟨Nat.le_of_ble_eq_true rfl, Nat.le_of_ble_eq_true rfl⟩
  have cw_X6_kneesOn := show CallW (rmv 4 94) s _ RX6 RX6 123 yX6_kneesOn cX6_kneesOn 4 (some .int) wsX6_kneesOn (rmv 0 0) 0 0 1 from cwV 1 hts gX6_keepsBelow_X6_kneesOn rfl rfl rfl (by decide +kernel) ⟨Nat.le_of_ble_eq_true rfl, Nat.le_of_ble_eq_true rfl⟩
  have cw_X6_layTrial := show CallW (rmv 4 94) s _ RX6 RX6 157 yX6_layTrial cX6_layTrial 2 none wsX6_layTrial (rmv 0 0) 0 0 0 from cwV 0 hts gX6_keepsBelow_X6_layTrial rfl rfl rfl (by decide +kernel) ⟨Nat.le_of_ble_eq_true rfl, Nat.le_of_ble_eq_true rfl⟩
  have fl22 := hts (.fieldLink RX6 22 "DustVoteModel" "now" "[I") (by decide +kernel)
  have inX6 := show ∀ w ∈ wsX60, w ∈ wsX6_keepsBelow from by decide +kernel
  have J_17 : ∀ (fu : Nat), ∀ (v2 : Int32) (v3 : Int32) (Y_now : Nat → Int32) (H : Heap) (locs : List Loc) (ls : Array Slot), f_X6_keepsBelow_17 Y_br Y_fa Y_wk Y_st Y_kd Y_fs Y_fl fu v2 v3 Y_now = some (r_, o_Y_now) → va_P G.1 vwCl (W_Y G y0 y1 y2 y3 y4 y5 y6 y7 y8 y9 y10 y11 y12 y13 y14 y15 Y_br Y_fa Y_rbs Y_rfs Y_len Y_at Y_fau Y_wk Y_ac Y_nx Y_hs Y_sd Y_st Y_kd Y_fs Y_fl Y_now Y_rd Y_rb Y_rf Y_tx Y_row Y_hh Y_hl Y_hw Y_ik Y_kp) H → va_S A s.heap H locs → lv_has ls 4 [(0, .ref y0), (2, .int v2), (3, .int v3)] → W p l e (rmv 4 94) s m (List.toArray [.ref y0, .int u1, .int u2]) below meth c H locs 0 0 (MQ below ((QI G r_ (W_Y G y0 y1 y2 y3 y4 y5 y6 y7 y8 y9 y10 y11 y12 y13 y14 y15 Y_br Y_fa Y_rbs Y_rfs Y_len Y_at Y_fau Y_wk Y_ac Y_nx Y_hs Y_sd Y_st Y_kd Y_fs Y_fl o_Y_now Y_rd Y_rb Y_rf Y_tx Y_row Y_hh Y_hl Y_hw Y_ik Y_kp)) A) (List.toArray [.ref y0, .int u1, .int u2]) s 0 0 A) (F0 m 17 ls []) := by
    intro  fu
    induction fu with
    | zero =>
      intro v2 v3 Y_now H locs ls h
      cases h
    | succ fu ih =>
      intro v2 v3 Y_now H locs ls h hP hS hl
      rw [f_X6_keepsBelow_17] at h
      refine lv_iload_n hx hb dX6_keepsBelow_17 rfl (lv_at hl 2 rfl) ?_
      refine lv_iload_n hx hb dX6_keepsBelow_18 rfl (lv_at hl 1 rfl) ?_
      refine lv_icmp_ge (tgt := 44) hx hb dX6_keepsBelow_19 (by decide) (fun cc_1 => ?_) (fun cc_1 => ?_)
      · replace h := if_t cc_1 h
        refine lv_iconst (v := 1) hx hb dX6_keepsBelow_44 (by decide) ?_
        cases h
        exact W.zret (ty := .boolean) hx hb hr (by decide) (fun t ht _ => ⟨⟨_, (), rfl, rfl, by show va_P G.1 vwCl _ t.heap; rw [ht]; exact hP⟩, hS.F ht⟩) hS.2.2 dX6_keepsBelow_45
      · replace h := if_f cc_1 h
        refine lv_aload_n hx hb dX6_keepsBelow_22 rfl (lv_at hl 0 rfl) ?_
        refine lv_iconst (v := 1) hx hb dX6_keepsBelow_23 (by decide) ?_
        refine lv_iconst (v := 1) hx hb dX6_keepsBelow_24 (by decide) ?_
        obtain ⟨dd_2, ee_3, h⟩ := bnd1_s h
        refine cFv (As := [.int (1 : Int32), .int (1 : Int32)]) (rest := []) S0 hK hA hP (va_D_same hD rfl) hS (k_X6_passOn l G y0 y1 y2 y3 y4 y5 y6 y7 y8 y9 y10 y11 y12 y13 y14 y15 Y_br Y_fa Y_rbs Y_rfs Y_len Y_at Y_fau Y_wk Y_ac Y_nx Y_hs Y_sd Y_st Y_kd Y_fs Y_fl Y_now Y_rd Y_rb Y_rf Y_tx Y_row Y_hh Y_hl Y_hw Y_ik Y_kp (1 : Int32) (1 : Int32) dd_2 ee_3) cw_X6_passOn 6 0 rfl rfl rfl rfl hl.1 rfl (Nat.le_of_ble_eq_true rfl) dX6_keepsBelow_25 ⟨Nat.zero_le _, Nat.zero_le _⟩ (fun H locs hP hS => ?_)
        replace hP : va_P G.1 vwCl (W_Y G y0 y1 y2 y3 y4 y5 y6 y7 y8 y9 y10 y11 y12 y13 y14 y15 Y_br Y_fa Y_rbs Y_rfs Y_len Y_at Y_fau Y_wk Y_ac Y_nx Y_hs Y_sd Y_st Y_kd Y_fs Y_fl dd_2 Y_rd Y_rb Y_rf Y_tx Y_row Y_hh Y_hl Y_hw Y_ik Y_kp) H := hP
        refine lv_aload_n hx hb dX6_keepsBelow_28 rfl (lv_at hl 0 rfl) ?_
        refine lv_iconst (v := 1) hx hb dX6_keepsBelow_29 (by decide) ?_
        obtain ⟨rr_4, ee_5, h⟩ := bnd1_s h
        refine cFi (As := [.int (1 : Int32)]) (rest := []) S0 hK hA hP (va_D_same hD rfl) hS (k_X6_kneesOn l G y0 y1 y2 y3 y4 y5 y6 y7 y8 y9 y10 y11 y12 y13 y14 y15 Y_br Y_fa Y_rbs Y_rfs Y_len Y_at Y_fau Y_wk Y_ac Y_nx Y_hs Y_sd Y_st Y_kd Y_fs Y_fl dd_2 Y_rd Y_rb Y_rf Y_tx Y_row Y_hh Y_hl Y_hw Y_ik Y_kp (1 : Int32) rr_4 ee_5) cw_X6_kneesOn 6 0 rfl rfl rfl rfl hl.1 rfl (Nat.le_of_ble_eq_true rfl) dX6_keepsBelow_30 ⟨Nat.zero_le _, Nat.zero_le _⟩ (fun H locs hP hS => ?_)
        replace hP : va_P G.1 vwCl (W_Y G y0 y1 y2 y3 y4 y5 y6 y7 y8 y9 y10 y11 y12 y13 y14 y15 Y_br Y_fa Y_rbs Y_rfs Y_len Y_at Y_fau Y_wk Y_ac Y_nx Y_hs Y_sd Y_st Y_kd Y_fs Y_fl dd_2 Y_rd Y_rb Y_rf Y_tx Y_row Y_hh Y_hl Y_hw Y_ik Y_kp) H := hP
        refine lv_if_eq (tgt := 38) hx hb dX6_keepsBelow_33 (by decide) (fun cc_6 => ?_) (fun cc_6 => ?_)
        · replace h := if_t cc_6 h
          refine lv_iinc (v := (v3 + 1)) (lv' := [(3, .int (v3 + 1)), (0, .ref y0), (2, .int v2)]) hx hb dX6_keepsBelow_38 hl (k := 2) rfl rfl (by decide) rfl (fun ls hl => ?_)
          refine lv_goto (tgt := 17) hx hb dX6_keepsBelow_41 (by decide) ?_
          exact ih v2 (v3 + 1) dd_2 _ _ _ h hP hS (lv_sub hl [1, 2, 0] rfl)
        · replace h := if_f cc_6 h
          refine lv_iconst (v := 0) hx hb dX6_keepsBelow_36 (by decide) ?_
          cases h
          exact W.zret (ty := .boolean) hx hb hr (by decide) (fun t ht _ => ⟨⟨_, (), rfl, rfl, by show va_P G.1 vwCl _ t.heap; rw [ht]; exact hP⟩, hS.F ht⟩) hS.2.2 dX6_keepsBelow_37
  unfold f_X6_keepsBelow at h
  refine lv_aload_n hx hb dX6_keepsBelow_0 rfl (lv_at hl 0 rfl) ?_
  obtain ⟨dd_7, ee_8, h⟩ := bnd1_s h
  refine cFv (As := []) (rest := []) S0 hK hA hP (va_D_same hD rfl) hS (k_X6_layTrial l G y0 y1 y2 y3 y4 y5 y6 y7 y8 y9 y10 y11 y12 y13 y14 y15 Y_br Y_fa Y_rbs Y_rfs Y_len Y_at Y_fau Y_wk Y_ac Y_nx Y_hs Y_sd Y_st Y_kd Y_fs Y_fl Y_now Y_rd Y_rb Y_rf Y_tx Y_row Y_hh Y_hl Y_hw Y_ik Y_kp dd_7 ee_8) cw_X6_layTrial 6 0 rfl rfl rfl rfl hl.1 rfl (Nat.le_of_ble_eq_true rfl) dX6_keepsBelow_1 ⟨Nat.zero_le _, Nat.zero_le _⟩ (fun H locs hP hS => ?_)
  replace hP : va_P G.1 vwCl (W_Y G y0 y1 y2 y3 y4 y5 y6 y7 y8 y9 y10 y11 y12 y13 y14 y15 Y_br Y_fa Y_rbs Y_rfs Y_len Y_at Y_fau Y_wk Y_ac Y_nx Y_hs Y_sd Y_st Y_kd Y_fs Y_fl dd_7 Y_rd Y_rb Y_rf Y_tx Y_row Y_hh Y_hl Y_hw Y_ik Y_kp) H := hP
  refine lv_aload_n hx hb dX6_keepsBelow_4 rfl (lv_at hl 0 rfl) ?_
  refine va_get (ci := 6) (C := RX6) (T := TX6) (N := 27) hx hb hts inX6 hown hK.1 hP 0 rfl rfl 6 (by decide) fl22 (fun _ h9 => h9) rfl dX6_keepsBelow_5 ?_
  refine lv_bipush (v := 30) hx hb dX6_keepsBelow_8 (by decide) ?_
  refine lv_dup2_11 hx hb dX6_keepsBelow_10 rfl rfl ?_
  obtain ⟨zz_9, ee_10, h⟩ := bnd1_s h
  refine wIald hx hb hK hP 5 rfl ee_10 dX6_keepsBelow_11 ?_
  refine lv_iload_n hx hb dX6_keepsBelow_12 rfl (lv_at hl 1 rfl) ?_
  refine lv_ior hx hb dX6_keepsBelow_13 ?_
  obtain ⟨dd_11, ee_12, h⟩ := bnd1_s h
  refine wIast hx hb hK hP (va_D_same hD rfl) hS 5 rfl ee_12 dX6_keepsBelow_14 (fun H locs hP hS => ?_)
  replace hP : va_P G.1 vwCl (W_Y G y0 y1 y2 y3 y4 y5 y6 y7 y8 y9 y10 y11 y12 y13 y14 y15 Y_br Y_fa Y_rbs Y_rfs Y_len Y_at Y_fau Y_wk Y_ac Y_nx Y_hs Y_sd Y_st Y_kd Y_fs Y_fl dd_11 Y_rd Y_rb Y_rf Y_tx Y_row Y_hh Y_hl Y_hw Y_ik Y_kp) H := hP
  refine lv_iconst (v := 0) hx hb dX6_keepsBelow_15 (by decide) ?_
  refine lv_istore_n (lv' := [(3, .int (0 : Int32)), (0, .ref y0), (1, .int u1), (2, .int u2)]) hx hb dX6_keepsBelow_16 rfl hl (by decide) rfl (fun ls hl => ?_)
  exact J_17  130 u2 (0 : Int32) dd_11 _ _ _ h hP hS (lv_sub hl [1, 3, 0] rfl)
