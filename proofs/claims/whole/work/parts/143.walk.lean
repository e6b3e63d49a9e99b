def f_X6_readText_73 (Y_len : Int32) (Y_tx : Nat → Int32) : Nat → Int32 → Int32 → Int32 → Int32 → (Nat → Int32) → (Nat → Int32) → (Nat → Int32) → Option (Int32 × Int32 × Int32 × Int32 × Int32 × (Nat → Int32) × (Nat → Int32) × (Nat → Int32))
  | 0, _, _, _, _, _, _, _ => none
  | fu + 1, Y_rbs, Y_rfs, Y_at, Y_fau, Y_rd, Y_rb, Y_rf => if Y_fau = ((-9) : Int32) then (if Y_len ≤ Y_at then (some (Y_fau, Y_rbs, Y_rfs, Y_at, Y_fau, Y_rd, Y_rb, Y_rf)) else (bnd1 (rd Y_tx 48 Y_at) (fun zz_3 => bnd6 (f_X6_readPart Y_rbs Y_rfs Y_len Y_at Y_fau Y_rb Y_rf Y_tx zz_3) (fun dd_5 dd_6 dd_7 dd_8 dd_9 dd_10 => f_X6_readText_73 Y_len Y_tx fu dd_5 dd_6 dd_7 dd_8 Y_rd dd_9 dd_10)))) else (some (Y_fau, Y_rbs, Y_rfs, Y_at, Y_fau, Y_rd, Y_rb, Y_rf))
def f_X6_readText_48 (Y_len : Int32) (Y_tx : Nat → Int32) : Nat → Int32 → Int32 → Int32 → Int32 → Int32 → (Nat → Int32) → (Nat → Int32) → (Nat → Int32) → Option (Int32 × Int32 × Int32 × Int32 × Int32 × (Nat → Int32) × (Nat → Int32) × (Nat → Int32))
  | 0, _, _, _, _, _, _, _, _ => none
  | fu + 1, v1, Y_rbs, Y_rfs, Y_at, Y_fau, Y_rd, Y_rb, Y_rf => if (8 : Int32) ≤ v1 then (f_X6_readText_73 Y_len Y_tx  130 Y_rbs Y_rfs Y_at Y_fau Y_rd Y_rb Y_rf) else (bnd3 (f_X6_figureOf Y_len Y_at Y_fau Y_tx (0 : Int32) (9 : Int32)) (fun rr_13 dd_14 dd_15 => bnd1 (wr Y_rd 8 v1 rr_13) (fun dd_17 => f_X6_readText_48 Y_len Y_tx fu (v1 + 1) Y_rbs Y_rfs dd_14 dd_15 dd_17 Y_rb Y_rf)))
def f_X6_readText (Y_rbs : Int32) (Y_rfs : Int32) (Y_len : Int32) (Y_at : Int32) (Y_fau : Int32) (Y_rd : Nat → Int32) (Y_rb : Nat → Int32) (Y_rf : Nat → Int32) (Y_tx : Nat → Int32) : Option (Int32 × Int32 × Int32 × Int32 × Int32 × (Nat → Int32) × (Nat → Int32) × (Nat → Int32)) := if Y_len = 0 then (some ((0 : Int32), (0 : Int32), (0 : Int32), (0 : Int32), ((-9) : Int32), Y_rd, Y_rb, Y_rf)) else (bnd1 (rd Y_tx 48 (0 : Int32)) (fun zz_20 => if zz_20 = (66 : Int32) then (f_X6_readText_48 Y_len Y_tx  130 (0 : Int32) (0 : Int32) (0 : Int32) (1 : Int32) ((-9) : Int32) Y_rd Y_rb Y_rf) else (some ((0 : Int32), (0 : Int32), (0 : Int32), (0 : Int32), ((-9) : Int32), Y_rd, Y_rb, Y_rf))))
set_option maxRecDepth 100000 in
set_option maxHeartbeats 4000000 in
theorem k_X6_readText (l : Launch) (G : Gt) (y0 y1 y2 y3 y4 y5 y6 y7 y8 y9 y10 y11 y12 y13 y14 y15 : Nat) (Y_br : Int32) (Y_fa : Int32) (Y_rbs : Int32) (Y_rfs : Int32) (Y_len : Int32) (Y_at : Int32) (Y_fau : Int32) (Y_wk : Int32) (Y_ac : Int32) (Y_nx : Int32) (Y_hs : Int32) (Y_sd : Int64) (Y_st : Nat → Int32) (Y_kd : Nat → Int32) (Y_fs : Nat → Int32) (Y_fl : Nat → Int32) (Y_now : Nat → Int32) (Y_rd : Nat → Int32) (Y_rb : Nat → Int32) (Y_rf : Nat → Int32) (Y_tx : Nat → Int32) (Y_row : Nat → Int32) (Y_hh : Nat → Int32) (Y_hl : Nat → Int32) (Y_hw : Nat → Int32) (Y_ik : Nat → Int32) (Y_kp : Nat → Int32) (r_ : Int32) (o_Y_rbs : Int32) (o_Y_rfs : Int32) (o_Y_at : Int32) (o_Y_fau : Int32) (o_Y_rd : Nat → Int32) (o_Y_rb : Nat → Int32) (o_Y_rf : Nat → Int32) (h : f_X6_readText Y_rbs Y_rfs Y_len Y_at Y_fau Y_rd Y_rb Y_rf Y_tx = some (r_, o_Y_rbs, o_Y_rfs, o_Y_at, o_Y_fau, o_Y_rd, o_Y_rb, o_Y_rf)) : CT l yX6_readText wsX6_readText 3 70 G [.ref y0] (W_Y G y0 y1 y2 y3 y4 y5 y6 y7 y8 y9 y10 y11 y12 y13 y14 y15 Y_br Y_fa Y_rbs Y_rfs Y_len Y_at Y_fau Y_wk Y_ac Y_nx Y_hs Y_sd Y_st Y_kd Y_fs Y_fl Y_now Y_rd Y_rb Y_rf Y_tx Y_row Y_hh Y_hl Y_hw Y_ik Y_kp) (QI G r_ (W_Y G y0 y1 y2 y3 y4 y5 y6 y7 y8 y9 y10 y11 y12 y13 y14 y15 Y_br Y_fa o_Y_rbs o_Y_rfs Y_len o_Y_at o_Y_fau Y_wk Y_ac Y_nx Y_hs Y_sd Y_st Y_kd Y_fs Y_fl Y_now o_Y_rd o_Y_rb o_Y_rf Y_tx Y_row Y_hh Y_hl Y_hw Y_ik Y_kp)) := by
  refine met_of cX6_readText 2 (some .int) (by decide) rfl (Nat.le_of_ble_eq_true rfl) ?_
  intro p e s m below meth c A ls hx hb hr hml hts hown hlocks hK hA hD hP hS hl
  replace hown : s.vm.findClass RX6 = some m.cls := hown
  replace hl : lv_has ls 2 [(0, .ref y0)] := hl
  have S0 : CallFix p m c cX6_readText 2 s _ wsX6_readText RX6 := ⟨hx, hb, hml, hown, hts⟩
  have fl69 := hts (.fieldLink RX6 69 "DustVoteModel" "faultAt" "I") (by decide +kernel)
  have inX6 := show ∀ w ∈ wsX60, w ∈ wsX6_readText from by decide +kernel
  have fl72 := hts (.fieldLink RX6 72 "DustVoteModel" "at" "I") (by decide +kernel)
  have fl66 := hts (.fieldLink RX6 66 "DustVoteModel" "length" "I") (by decide +kernel)
  have fl34 := hts (.fieldLink RX6 34 "DustVoteModel" "text" "[I") (by decide +kernel)
  have cw_X6_readPart := show CallW (rmv 3 70) s _ RX6 RX6 85 yX6_readPart cX6_readPart 2 none wsX6_readPart (rmv 2 49) 0 0 1 from cwV 1 hts gX6_readText_X6_readPart rfl rfl rfl (by decide +kernel) ⟨Nat.le_of_ble_eq_true rfl, Nat.le_of_ble_eq_true rfl⟩
  have fl25 := hts (.fieldLink RX6 25 "DustVoteModel" "readDust" "[I") (by decide +kernel)
  have cw_X6_figureOf := show CallW (rmv 3 70) s _ RX6 RX6 81 yX6_figureOf cX6_figureOf 5 (some .int) wsX6_figureOf (rmv 1 25) 0 0 2 from cwV 2 hts gX6_readText_X6_figureOf rfl rfl rfl (by decide +kernel) ⟨Nat.le_of_ble_eq_true rfl, Nat.le_of_ble_eq_true rfl⟩
  have fl75 := hts (.fieldLink RX6 75 "DustVoteModel" "readBrooms" "I") (by decide +kernel)
  have fl78 := hts (.fieldLink RX6 78 "DustVoteModel" "readFalls" "I") (by decide +kernel)
  have J_73 : ∀ (fu : Nat), ∀ (Y_rbs : Int32) (Y_rfs : Int32) (Y_at : Int32) (Y_fau : Int32) (Y_rd : Nat → Int32) (Y_rb : Nat → Int32) (Y_rf : Nat → Int32) (H : Heap) (locs : List Loc) (ls : Array Slot), f_X6_readText_73 Y_len Y_tx fu Y_rbs Y_rfs Y_at Y_fau Y_rd Y_rb Y_rf = some (r_, o_Y_rbs, o_Y_rfs, o_Y_at, o_Y_fau, o_Y_rd, o_Y_rb, o_Y_rf) → va_P G.1 vwCl (W_Y G y0 y1 y2 y3 y4 y5 y6 y7 y8 y9 y10 y11 y12 y13 y14 y15 Y_br Y_fa Y_rbs Y_rfs Y_len Y_at Y_fau Y_wk Y_ac Y_nx Y_hs Y_sd Y_st Y_kd Y_fs Y_fl Y_now Y_rd Y_rb Y_rf Y_tx Y_row Y_hh Y_hl Y_hw Y_ik Y_kp) H → va_S A s.heap H locs → lv_has ls 2 [(0, .ref y0)] → W p l e (rmv 3 70) s m (List.toArray [.ref y0]) below meth c H locs 0 0 (MQ below ((QI G r_ (W_Y G y0 y1 y2 y3 y4 y5 y6 y7 y8 y9 y10 y11 y12 y13 y14 y15 Y_br Y_fa o_Y_rbs o_Y_rfs Y_len o_Y_at o_Y_fau Y_wk Y_ac Y_nx Y_hs Y_sd Y_st Y_kd Y_fs Y_fl Y_now o_Y_rd o_Y_rb o_Y_rf Y_tx Y_row Y_hh Y_hl Y_hw Y_ik Y_kp)) A) (List.toArray [.ref y0]) s 0 0 A) (F0 m 73 ls []) := by
    intro  fu
    induction fu with
    | zero =>
      intro Y_rbs Y_rfs Y_at Y_fau Y_rd Y_rb Y_rf H locs ls h
      cases h
    | succ fu ih =>
      intro Y_rbs Y_rfs Y_at Y_fau Y_rd Y_rb Y_rf H locs ls h hP hS hl
      rw [f_X6_readText_73] at h
      refine lv_aload_n hx hb dX6_readText_73 rfl (lv_at hl 0 rfl) ?_
      refine va_get (ci := 6) (C := RX6) (T := TX6) (N := 27) hx hb hts inX6 hown hK.1 hP 0 rfl rfl 15 (by decide) fl69 (fun _ h9 => h9) rfl dX6_readText_74 ?_
      refine lv_bipush (v := (-9)) hx hb dX6_readText_77 (by decide) ?_
      refine lv_icmp_ne (tgt := 109) hx hb dX6_readText_79 (by decide) (fun cc_1 => ?_) (fun cc_1 => ?_)
      · replace h := if_f cc_1 h
        refine lv_aload_n hx hb dX6_readText_109 rfl (lv_at hl 0 rfl) ?_
        refine va_get (ci := 6) (C := RX6) (T := TX6) (N := 27) hx hb hts inX6 hown hK.1 hP 0 rfl rfl 15 (by decide) fl69 (fun _ h9 => h9) rfl dX6_readText_110 ?_
        cases h
        exact W.iret hx hb hr (fun t ht _ => ⟨⟨_, (), rfl, rfl, by show va_P G.1 vwCl _ t.heap; rw [ht]; exact hP⟩, hS.F ht⟩) hS.2.2 dX6_readText_113
      · replace h := if_t cc_1 h
        refine lv_aload_n hx hb dX6_readText_82 rfl (lv_at hl 0 rfl) ?_
        refine va_get (ci := 6) (C := RX6) (T := TX6) (N := 27) hx hb hts inX6 hown hK.1 hP 0 rfl rfl 14 (by decide) fl72 (fun _ h9 => h9) rfl dX6_readText_83 ?_
        refine lv_aload_n hx hb dX6_readText_86 rfl (lv_at hl 0 rfl) ?_
        refine va_get (ci := 6) (C := RX6) (T := TX6) (N := 27) hx hb hts inX6 hown hK.1 hP 0 rfl rfl 13 (by decide) fl66 (fun _ h9 => h9) rfl dX6_readText_87 ?_
        refine lv_icmp_ge (tgt := 109) hx hb dX6_readText_90 (by decide) (fun cc_2 => ?_) (fun cc_2 => ?_)
        · replace h := if_t cc_2 h
          refine lv_aload_n hx hb dX6_readText_109 rfl (lv_at hl 0 rfl) ?_
          refine va_get (ci := 6) (C := RX6) (T := TX6) (N := 27) hx hb hts inX6 hown hK.1 hP 0 rfl rfl 15 (by decide) fl69 (fun _ h9 => h9) rfl dX6_readText_110 ?_
          cases h
          exact W.iret hx hb hr (fun t ht _ => ⟨⟨_, (), rfl, rfl, by show va_P G.1 vwCl _ t.heap; rw [ht]; exact hP⟩, hS.F ht⟩) hS.2.2 dX6_readText_113
        · replace h := if_f cc_2 h
          refine lv_aload_n hx hb dX6_readText_93 rfl (lv_at hl 0 rfl) ?_
          refine lv_aload_n hx hb dX6_readText_94 rfl (lv_at hl 0 rfl) ?_
          refine va_get (ci := 6) (C := RX6) (T := TX6) (N := 27) hx hb hts inX6 hown hK.1 hP 0 rfl rfl 12 (by decide) fl34 (fun _ h9 => h9) rfl dX6_readText_95 ?_
          refine lv_aload_n hx hb dX6_readText_98 rfl (lv_at hl 0 rfl) ?_
          refine va_get (ci := 6) (C := RX6) (T := TX6) (N := 27) hx hb hts inX6 hown hK.1 hP 0 rfl rfl 14 (by decide) fl72 (fun _ h9 => h9) rfl dX6_readText_99 ?_
          obtain ⟨zz_3, ee_4, h⟩ := bnd1_s h
          refine wIald hx hb hK hP 9 rfl ee_4 dX6_readText_102 ?_
          obtain ⟨dd_5, dd_6, dd_7, dd_8, dd_9, dd_10, ee_11, h⟩ := bnd6_s h
          refine cFv (As := [.int zz_3]) (rest := []) S0 hK hA hP (va_D_same hD rfl) hS (k_X6_readPart l G y0 y1 y2 y3 y4 y5 y6 y7 y8 y9 y10 y11 y12 y13 y14 y15 Y_br Y_fa Y_rbs Y_rfs Y_len Y_at Y_fau Y_wk Y_ac Y_nx Y_hs Y_sd Y_st Y_kd Y_fs Y_fl Y_now Y_rd Y_rb Y_rf Y_tx Y_row Y_hh Y_hl Y_hw Y_ik Y_kp zz_3 dd_5 dd_6 dd_7 dd_8 dd_9 dd_10 ee_11) cw_X6_readPart 6 0 rfl rfl rfl rfl hl.1 rfl (Nat.le_of_ble_eq_true rfl) dX6_readText_103 ⟨Nat.zero_le _, Nat.zero_le _⟩ (fun H locs hP hS => ?_)
          replace hP : va_P G.1 vwCl (W_Y G y0 y1 y2 y3 y4 y5 y6 y7 y8 y9 y10 y11 y12 y13 y14 y15 Y_br Y_fa dd_5 dd_6 Y_len dd_7 dd_8 Y_wk Y_ac Y_nx Y_hs Y_sd Y_st Y_kd Y_fs Y_fl Y_now Y_rd dd_9 dd_10 Y_tx Y_row Y_hh Y_hl Y_hw Y_ik Y_kp) H := hP
          refine lv_goto (tgt := 73) hx hb dX6_readText_106 (by decide) ?_
          exact ih dd_5 dd_6 dd_7 dd_8 Y_rd dd_9 dd_10 _ _ _ h hP hS (lv_sub hl [0] rfl)
  have J_48 : ∀ (fu : Nat), ∀ (v1 : Int32) (Y_rbs : Int32) (Y_rfs : Int32) (Y_at : Int32) (Y_fau : Int32) (Y_rd : Nat → Int32) (Y_rb : Nat → Int32) (Y_rf : Nat → Int32) (H : Heap) (locs : List Loc) (ls : Array Slot), f_X6_readText_48 Y_len Y_tx fu v1 Y_rbs Y_rfs Y_at Y_fau Y_rd Y_rb Y_rf = some (r_, o_Y_rbs, o_Y_rfs, o_Y_at, o_Y_fau, o_Y_rd, o_Y_rb, o_Y_rf) → va_P G.1 vwCl (W_Y G y0 y1 y2 y3 y4 y5 y6 y7 y8 y9 y10 y11 y12 y13 y14 y15 Y_br Y_fa Y_rbs Y_rfs Y_len Y_at Y_fau Y_wk Y_ac Y_nx Y_hs Y_sd Y_st Y_kd Y_fs Y_fl Y_now Y_rd Y_rb Y_rf Y_tx Y_row Y_hh Y_hl Y_hw Y_ik Y_kp) H → va_S A s.heap H locs → lv_has ls 2 [(0, .ref y0), (1, .int v1)] → W p l e (rmv 3 70) s m (List.toArray [.ref y0]) below meth c H locs 0 0 (MQ below ((QI G r_ (W_Y G y0 y1 y2 y3 y4 y5 y6 y7 y8 y9 y10 y11 y12 y13 y14 y15 Y_br Y_fa o_Y_rbs o_Y_rfs Y_len o_Y_at o_Y_fau Y_wk Y_ac Y_nx Y_hs Y_sd Y_st Y_kd Y_fs Y_fl Y_now o_Y_rd o_Y_rb o_Y_rf Y_tx Y_row Y_hh Y_hl Y_hw Y_ik Y_kp)) A) (List.toArray [.ref y0]) s 0 0 A) (F0 m 48 ls []) := by
    intro  fu
    induction fu with
    | zero =>
      intro v1 Y_rbs Y_rfs Y_at Y_fau Y_rd Y_rb Y_rf H locs ls h
      cases h
    | succ fu ih =>
      intro v1 Y_rbs Y_rfs Y_at Y_fau Y_rd Y_rb Y_rf H locs ls h hP hS hl
      rw [f_X6_readText_48] at h
      refine lv_iload_n hx hb dX6_readText_48 rfl (lv_at hl 1 rfl) ?_
      refine lv_bipush (v := 8) hx hb dX6_readText_49 (by decide) ?_
      refine lv_icmp_ge (tgt := 73) hx hb dX6_readText_51 (by decide) (fun cc_12 => ?_) (fun cc_12 => ?_)
      · replace h := if_t cc_12 h
        exact J_73  130 Y_rbs Y_rfs Y_at Y_fau Y_rd Y_rb Y_rf _ _ _ h hP hS (lv_sub hl [0] rfl)
      · replace h := if_f cc_12 h
        refine lv_aload_n hx hb dX6_readText_54 rfl (lv_at hl 0 rfl) ?_
        refine va_get (ci := 6) (C := RX6) (T := TX6) (N := 27) hx hb hts inX6 hown hK.1 hP 0 rfl rfl 7 (by decide) fl25 (fun _ h9 => h9) rfl dX6_readText_55 ?_
        refine lv_iload_n hx hb dX6_readText_58 rfl (lv_at hl 1 rfl) ?_
        refine lv_aload_n hx hb dX6_readText_59 rfl (lv_at hl 0 rfl) ?_
        refine lv_iconst (v := 0) hx hb dX6_readText_60 (by decide) ?_
        refine lv_bipush (v := 9) hx hb dX6_readText_61 (by decide) ?_
        obtain ⟨rr_13, dd_14, dd_15, ee_16, h⟩ := bnd3_s h
        refine cFi (As := [.int (0 : Int32), .int (9 : Int32)]) (rest := [.int v1, .ref y6]) S0 hK hA hP (va_D_same hD rfl) hS (k_X6_figureOf l G y0 y1 y2 y3 y4 y5 y6 y7 y8 y9 y10 y11 y12 y13 y14 y15 Y_br Y_fa Y_rbs Y_rfs Y_len Y_at Y_fau Y_wk Y_ac Y_nx Y_hs Y_sd Y_st Y_kd Y_fs Y_fl Y_now Y_rd Y_rb Y_rf Y_tx Y_row Y_hh Y_hl Y_hw Y_ik Y_kp (0 : Int32) (9 : Int32) rr_13 dd_14 dd_15 ee_16) cw_X6_figureOf 6 0 rfl rfl rfl rfl hl.1 rfl (Nat.le_of_ble_eq_true rfl) dX6_readText_63 ⟨Nat.zero_le _, Nat.zero_le _⟩ (fun H locs hP hS => ?_)
        replace hP : va_P G.1 vwCl (W_Y G y0 y1 y2 y3 y4 y5 y6 y7 y8 y9 y10 y11 y12 y13 y14 y15 Y_br Y_fa Y_rbs Y_rfs Y_len dd_14 dd_15 Y_wk Y_ac Y_nx Y_hs Y_sd Y_st Y_kd Y_fs Y_fl Y_now Y_rd Y_rb Y_rf Y_tx Y_row Y_hh Y_hl Y_hw Y_ik Y_kp) H := hP
        obtain ⟨dd_17, ee_18, h⟩ := bnd1_s h
        refine wIast hx hb hK hP (va_D_same hD rfl) hS 6 rfl ee_18 dX6_readText_66 (fun H locs hP hS => ?_)
        replace hP : va_P G.1 vwCl (W_Y G y0 y1 y2 y3 y4 y5 y6 y7 y8 y9 y10 y11 y12 y13 y14 y15 Y_br Y_fa Y_rbs Y_rfs Y_len dd_14 dd_15 Y_wk Y_ac Y_nx Y_hs Y_sd Y_st Y_kd Y_fs Y_fl Y_now dd_17 Y_rb Y_rf Y_tx Y_row Y_hh Y_hl Y_hw Y_ik Y_kp) H := hP
        refine lv_iinc (v := (v1 + 1)) (lv' := [(1, .int (v1 + 1)), (0, .ref y0)]) hx hb dX6_readText_67 hl (k := 1) rfl rfl (by decide) rfl (fun ls hl => ?_)
        refine lv_goto (tgt := 48) hx hb dX6_readText_70 (by decide) ?_
        exact ih (v1 + 1) Y_rbs Y_rfs dd_14 dd_15 dd_17 Y_rb Y_rf _ _ _ h hP hS (lv_sub hl [1, 0] rfl)
  unfold f_X6_readText at h
  refine lv_aload_n hx hb dX6_readText_0 rfl (lv_at hl 0 rfl) ?_
  refine lv_iconst (v := 0) hx hb dX6_readText_1 (by decide) ?_
  refine va_put (ci := 6) (ty := .int) (C := RX6) (T := TX6) (N := 27) hx hb hts inX6 tyX6 tyX6_ok nmX6 hown hK.1 hP (va_D_same hD rfl) hS 0 rfl rfl 14 (by decide) fl72 (fun _ h9 => h9) rfl (by decide +kernel) rfl rfl (Nat.le_of_ble_eq_true rfl) dX6_readText_2 (fun H locs hP _ hS => ?_)
  replace hP : va_P G.1 vwCl (W_Y G y0 y1 y2 y3 y4 y5 y6 y7 y8 y9 y10 y11 y12 y13 y14 y15 Y_br Y_fa Y_rbs Y_rfs Y_len (0 : Int32) Y_fau Y_wk Y_ac Y_nx Y_hs Y_sd Y_st Y_kd Y_fs Y_fl Y_now Y_rd Y_rb Y_rf Y_tx Y_row Y_hh Y_hl Y_hw Y_ik Y_kp) H := hP
  refine lv_aload_n hx hb dX6_readText_5 rfl (lv_at hl 0 rfl) ?_
  refine lv_bipush (v := (-9)) hx hb dX6_readText_6 (by decide) ?_
  refine va_put (ci := 6) (ty := .int) (C := RX6) (T := TX6) (N := 27) hx hb hts inX6 tyX6 tyX6_ok nmX6 hown hK.1 hP (va_D_same hD rfl) hS 0 rfl rfl 15 (by decide) fl69 (fun _ h9 => h9) rfl (by decide +kernel) rfl rfl (Nat.le_of_ble_eq_true rfl) dX6_readText_8 (fun H locs hP _ hS => ?_)
  replace hP : va_P G.1 vwCl (W_Y G y0 y1 y2 y3 y4 y5 y6 y7 y8 y9 y10 y11 y12 y13 y14 y15 Y_br Y_fa Y_rbs Y_rfs Y_len (0 : Int32) ((-9) : Int32) Y_wk Y_ac Y_nx Y_hs Y_sd Y_st Y_kd Y_fs Y_fl Y_now Y_rd Y_rb Y_rf Y_tx Y_row Y_hh Y_hl Y_hw Y_ik Y_kp) H := hP
  refine lv_aload_n hx hb dX6_readText_11 rfl (lv_at hl 0 rfl) ?_
  refine lv_iconst (v := 0) hx hb dX6_readText_12 (by decide) ?_
  refine va_put (ci := 6) (ty := .int) (C := RX6) (T := TX6) (N := 27) hx hb hts inX6 tyX6 tyX6_ok nmX6 hown hK.1 hP (va_D_same hD rfl) hS 0 rfl rfl 10 (by decide) fl75 (fun _ h9 => h9) rfl (by decide +kernel) rfl rfl (Nat.le_of_ble_eq_true rfl) dX6_readText_13 (fun H locs hP _ hS => ?_)
  replace hP : va_P G.1 vwCl (W_Y G y0 y1 y2 y3 y4 y5 y6 y7 y8 y9 y10 y11 y12 y13 y14 y15 Y_br Y_fa (0 : Int32) Y_rfs Y_len (0 : Int32) ((-9) : Int32) Y_wk Y_ac Y_nx Y_hs Y_sd Y_st Y_kd Y_fs Y_fl Y_now Y_rd Y_rb Y_rf Y_tx Y_row Y_hh Y_hl Y_hw Y_ik Y_kp) H := hP
  refine lv_aload_n hx hb dX6_readText_16 rfl (lv_at hl 0 rfl) ?_
  refine lv_iconst (v := 0) hx hb dX6_readText_17 (by decide) ?_
  refine va_put (ci := 6) (ty := .int) (C := RX6) (T := TX6) (N := 27) hx hb hts inX6 tyX6 tyX6_ok nmX6 hown hK.1 hP (va_D_same hD rfl) hS 0 rfl rfl 11 (by decide) fl78 (fun _ h9 => h9) rfl (by decide +kernel) rfl rfl (Nat.le_of_ble_eq_true rfl) dX6_readText_18 (fun H locs hP _ hS => ?_)
  replace hP : va_P G.1 vwCl (W_Y G y0 y1 y2 y3 y4 y5 y6 y7 y8 y9 y10 y11 y12 y13 y14 y15 Y_br Y_fa (0 : Int32) (0 : Int32) Y_len (0 : Int32) ((-9) : Int32) Y_wk Y_ac Y_nx Y_hs Y_sd Y_st Y_kd Y_fs Y_fl Y_now Y_rd Y_rb Y_rf Y_tx Y_row Y_hh Y_hl Y_hw Y_ik Y_kp) H := hP
  refine lv_aload_n hx hb dX6_readText_21 rfl (lv_at hl 0 rfl) ?_
  refine va_get (ci := 6) (C := RX6) (T := TX6) (N := 27) hx hb hts inX6 hown hK.1 hP 0 rfl rfl 13 (by decide) fl66 (fun _ h9 => h9) rfl dX6_readText_22 ?_
  refine lv_if_eq (tgt := 39) hx hb dX6_readText_25 (by decide) (fun cc_19 => ?_) (fun cc_19 => ?_)
  · replace h := if_t cc_19 h
    refine lv_iconst (v := 0) hx hb dX6_readText_39 (by decide) ?_
    cases h
    exact W.iret hx hb hr (fun t ht _ => ⟨⟨_, (), rfl, rfl, by show va_P G.1 vwCl _ t.heap; rw [ht]; exact hP⟩, hS.F ht⟩) hS.2.2 dX6_readText_40
  · replace h := if_f cc_19 h
    refine lv_aload_n hx hb dX6_readText_28 rfl (lv_at hl 0 rfl) ?_
    refine va_get (ci := 6) (C := RX6) (T := TX6) (N := 27) hx hb hts inX6 hown hK.1 hP 0 rfl rfl 12 (by decide) fl34 (fun _ h9 => h9) rfl dX6_readText_29 ?_
    refine lv_iconst (v := 0) hx hb dX6_readText_32 (by decide) ?_
    obtain ⟨zz_20, ee_21, h⟩ := bnd1_s h
    refine wIald hx hb hK hP 9 rfl ee_21 dX6_readText_33 ?_
    refine lv_bipush (v := 66) hx hb dX6_readText_34 (by decide) ?_
    refine lv_icmp_eq (tgt := 41) hx hb dX6_readText_36 (by decide) (fun cc_22 => ?_) (fun cc_22 => ?_)
    · replace h := if_t cc_22 h
      refine lv_aload_n hx hb dX6_readText_41 rfl (lv_at hl 0 rfl) ?_
      refine lv_iconst (v := 1) hx hb dX6_readText_42 (by decide) ?_
      refine va_put (ci := 6) (ty := .int) (C := RX6) (T := TX6) (N := 27) hx hb hts inX6 tyX6 tyX6_ok nmX6 hown hK.1 hP (va_D_same hD rfl) hS 0 rfl rfl 14 (by decide) fl72 (fun _ h9 => h9) rfl (by decide +kernel) rfl rfl (Nat.le_of_ble_eq_true rfl) dX6_readText_43 (fun H locs hP _ hS => ?_)
      replace hP : va_P G.1 vwCl (W_Y G y0 y1 y2 y3 y4 y5 y6 y7 y8 y9 y10 y11 y12 y13 y14 y15 Y_br Y_fa (0 : Int32) (0 : Int32) Y_len (1 : Int32) ((-9) : Int32) Y_wk Y_ac Y_nx Y_hs Y_sd Y_st Y_kd Y_fs Y_fl Y_now Y_rd Y_rb Y_rf Y_tx Y_row Y_hh Y_hl Y_hw Y_ik Y_kp) H := hP
      refine lv_iconst (v := 0) hx hb dX6_readText_46 (by decide) ?_
      refine lv_istore_n (lv' := [(1, .int (0 : Int32)), (0, .ref y0)]) hx hb dX6_readText_47 rfl hl (by decide) rfl (fun ls hl => ?_)
      exact J_48  130 (0 : Int32) (0 : Int32) (0 : Int32) (1 : Int32) ((-9) : Int32) Y_rd Y_rb Y_rf _ _ _ h hP hS (lv_sub hl [1, 0] rfl)
    · replace h := if_f cc_22 h
      refine lv_iconst (v := 0) hx hb dX6_readText_39 (by decide) ?_
      cases h
      exact W.iret hx hb hr (fun t ht _ => ⟨⟨_, (), rfl, rfl, by show va_P G.1 vwCl _ t.heap; rw [ht]; exact hP⟩, hS.F ht⟩) hS.2.2 dX6_readText_40
def f_X6_fault (Y_rbs : Int32) (Y_rfs : Int32) (Y_len : Int32) (Y_at : Int32) (Y_fau : Int32) (Y_rd : Nat → Int32) (Y_rb : Nat → Int32) (Y_rf : Nat → Int32) (Y_tx : Nat → Int32) : Option (Int32 × Int32 × Int32 × Int32 × Int32 × (Nat → Int32) × (Nat → Int32) × (Nat → Int32)) := bnd8 (f_X6_readText Y_rbs Y_rfs Y_len Y_at Y_fau Y_rd Y_rb Y_rf Y_tx) (fun rr_1 dd_2 dd_3 dd_4 dd_5 dd_6 dd_7 dd_8 => some (rr_1, dd_2, dd_3, dd_4, dd_5, dd_6, dd_7, dd_8))
set_option maxRecDepth 100000 in
set_option maxHeartbeats 4000000 in
theorem k_X6_fault (l : Launch) (G : Gt) (y0 y1 y2 y3 y4 y5 y6 y7 y8 y9 y10 y11 y12 y13 y14 y15 : Nat) (Y_br : Int32) (Y_fa : Int32) (Y_rbs : Int32) (Y_rfs : Int32) (Y_len : Int32) (Y_at : Int32) (Y_fau : Int32) (Y_wk : Int32) (Y_ac : Int32) (Y_nx : Int32) (Y_hs : Int32) (Y_sd : Int64) (Y_st : Nat → Int32) (Y_kd : Nat → Int32) (Y_fs : Nat → Int32) (Y_fl : Nat → Int32) (Y_now : Nat → Int32) (Y_rd : Nat → Int32) (Y_rb : Nat → Int32) (Y_rf : Nat → Int32) (Y_tx : Nat → Int32) (Y_row : Nat → Int32) (Y_hh : Nat → Int32) (Y_hl : Nat → Int32) (Y_hw : Nat → Int32) (Y_ik : Nat → Int32) (Y_kp : Nat → Int32) (r_ : Int32) (o_Y_rbs : Int32) (o_Y_rfs : Int32) (o_Y_at : Int32) (o_Y_fau : Int32) (o_Y_rd : Nat → Int32) (o_Y_rb : Nat → Int32) (o_Y_rf : Nat → Int32) (h : f_X6_fault Y_rbs Y_rfs Y_len Y_at Y_fau Y_rd Y_rb Y_rf Y_tx = some (r_, o_Y_rbs, o_Y_rfs, o_Y_at, o_Y_fau, o_Y_rd, o_Y_rb, o_Y_rf)) : CT l yX6_fault wsX6_fault 4 91 G [.ref y0] (W_Y G y0 y1 y2 y3 y4 y5 y6 y7 y8 y9 y10 y11 y12 y13 y14 y15 Y_br Y_fa Y_rbs Y_rfs Y_len Y_at Y_fau Y_wk Y_ac Y_nx Y_hs Y_sd Y_st Y_kd Y_fs Y_fl Y_now Y_rd Y_rb Y_rf Y_tx Y_row Y_hh Y_hl Y_hw Y_ik Y_kp) (QI G r_ (W_Y G y0 y1 y2 y3 y4 y5 y6 y7 y8 y9 y10 y11 y12 y13 y14 y15 Y_br Y_fa o_Y_rbs o_Y_rfs Y_len o_Y_at o_Y_fau Y_wk Y_ac Y_nx Y_hs Y_sd Y_st Y_kd Y_fs Y_fl Y_now o_Y_rd o_Y_rb o_Y_rf Y_tx Y_row Y_hh Y_hl Y_hw Y_ik Y_kp)) := by
  refine met_of cX6_fault 1 (some .int) (by decide) rfl (Nat.le_of_ble_eq_true rfl) ?_
  intro p e s m below meth c A ls hx hb hr hml hts hown hlocks hK hA hD hP hS hl
  replace hown : s.vm.findClass RX6 = some m.cls := hown
  replace hl : lv_has ls 1 [(0, .ref y0)] := hl
  have S0 : CallFix p m c cX6_fault 1 s _ wsX6_fault RX6 := ⟨hx, hb, hml, hown, hts⟩
  have cw_X6_readText := show CallW (rmv 4 91) s _ RX6 RX6 89 yX6_readText cX6_readText 2 (some .int) wsX6_readText (rmv 3 70) 0 0 0 from cwV 0 hts gX6_fault_X6_readText rfl rfl rfl (by decide +kernel) ⟨Nat.le_of_ble_eq_true rfl, Nat.le_of_ble_eq_true rfl⟩
  unfold f_X6_fault at h
  refine lv_aload_n hx hb dX6_fault_0 rfl (lv_at hl 0 rfl) ?_
  obtain ⟨rr_1, dd_2, dd_3, dd_4, dd_5, dd_6, dd_7, dd_8, ee_9, h⟩ := bnd8_s h
  refine cFi (As := []) (rest := []) S0 hK hA hP (va_D_same hD rfl) hS (k_X6_readText l G y0 y1 y2 y3 y4 y5 y6 y7 y8 y9 y10 y11 y12 y13 y14 y15 Y_br Y_fa Y_rbs Y_rfs Y_len Y_at Y_fau Y_wk Y_ac Y_nx Y_hs Y_sd Y_st Y_kd Y_fs Y_fl Y_now Y_rd Y_rb Y_rf Y_tx Y_row Y_hh Y_hl Y_hw Y_ik Y_kp rr_1 dd_2 dd_3 dd_4 dd_5 dd_6 dd_7 dd_8 ee_9) cw_X6_readText 6 0 rfl rfl rfl rfl hl.1 rfl (Nat.le_of_ble_eq_true rfl) dX6_fault_1 ⟨Nat.zero_le _, Nat.zero_le _⟩ (fun H locs hP hS => ?_)
  replace hP : va_P G.1 vwCl (W_Y G y0 y1 y2 y3 y4 y5 y6 y7 y8 y9 y10 y11 y12 y13 y14 y15 Y_br Y_fa dd_2 dd_3 Y_len dd_4 dd_5 Y_wk Y_ac Y_nx Y_hs Y_sd Y_st Y_kd Y_fs Y_fl Y_now dd_6 dd_7 dd_8 Y_tx Y_row Y_hh Y_hl Y_hw Y_ik Y_kp) H := hP
  cases h
  exact W.iret hx hb hr (fun t ht _ => ⟨⟨_, (), rfl, rfl, by show va_P G.1 vwCl _ t.heap; rw [ht]; exact hP⟩, hS.F ht⟩) hS.2.2 dX6_fault_4
