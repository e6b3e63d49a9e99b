def f_X6_city_131 (Y_len : Int32) (Y_tx : Nat → Int32) : Nat → Int32 → Int32 → Int32 → Int32 → Int32 → Int32 → Int32 → Int32 → (Nat → Int32) → (Nat → Int32) → (Nat → Int32) → (Nat → Int32) → (Nat → Int32) → (Nat → Int32) → (Nat → Int32) → (Nat → Int32) → (Nat → Int32) → Option (Int32 × Int32 × Int32 × Int32 × Int32 × Int32 × Int32 × Int32 × (Nat → Int32) × (Nat → Int32) × (Nat → Int32) × (Nat → Int32) × (Nat → Int32) × (Nat → Int32) × (Nat → Int32) × (Nat → Int32) × (Nat → Int32))
  | 0, _, _, _, _, _, _, _, _, _, _, _, _, _, _, _, _, _ => none
  | fu + 1, v1, Y_br, Y_fa, Y_rbs, Y_rfs, Y_at, Y_fau, Y_ac, Y_st, Y_kd, Y_fs, Y_fl, Y_now, Y_rd, Y_rb, Y_rf, Y_ik => if Y_fa ≤ v1 then (bnd1 (wr Y_ik 2 (0 : Int32) ((0 : Int32) &&& 1)) (fun dd_2 => bnd1 (wr dd_2 2 (1 : Int32) ((0 : Int32) &&& 1)) (fun dd_4 => some ((((10 : Int32) * Y_br) + Y_fa), Y_br, Y_fa, Y_rbs, Y_rfs, Y_at, Y_fau, (0 : Int32), Y_st, Y_kd, Y_fs, Y_fl, Y_now, Y_rd, Y_rb, Y_rf, dd_4)))) else (bnd1 (rd Y_rf 10 ((2 : Int32) * v1)) (fun zz_6 => bnd1 (wr Y_fs 5 v1 zz_6) (fun dd_8 => bnd1 (rd Y_rf 10 (((2 : Int32) * v1) + (1 : Int32))) (fun zz_10 => bnd1 (wr Y_fl 5 v1 zz_10) (fun dd_12 => f_X6_city_131 Y_len Y_tx fu (v1 + 1) Y_br Y_fa Y_rbs Y_rfs Y_at Y_fau Y_ac Y_st Y_kd dd_8 dd_12 Y_now Y_rd Y_rb Y_rf Y_ik)))))
def f_X6_city_66 (Y_len : Int32) (Y_tx : Nat → Int32) : Nat → Int32 → Int32 → Int32 → Int32 → Int32 → Int32 → Int32 → Int32 → (Nat → Int32) → (Nat → Int32) → (Nat → Int32) → (Nat → Int32) → (Nat → Int32) → (Nat → Int32) → (Nat → Int32) → (Nat → Int32) → (Nat → Int32) → Option (Int32 × Int32 × Int32 × Int32 × Int32 × Int32 × Int32 × Int32 × (Nat → Int32) × (Nat → Int32) × (Nat → Int32) × (Nat → Int32) × (Nat → Int32) × (Nat → Int32) × (Nat → Int32) × (Nat → Int32) × (Nat → Int32))
  | 0, _, _, _, _, _, _, _, _, _, _, _, _, _, _, _, _, _ => none
  | fu + 1, v1, Y_br, Y_fa, Y_rbs, Y_rfs, Y_at, Y_fau, Y_ac, Y_st, Y_kd, Y_fs, Y_fl, Y_now, Y_rd, Y_rb, Y_rf, Y_ik => if Y_br ≤ v1 then (f_X6_city_131 Y_len Y_tx  130 (0 : Int32) Y_br Y_fa Y_rbs Y_rfs Y_at Y_fau Y_ac Y_st Y_kd Y_fs Y_fl Y_now Y_rd Y_rb Y_rf Y_ik) else (bnd1 (rd Y_rb 15 ((3 : Int32) * v1)) (fun zz_15 => bnd1 (wr Y_now 32 ((8 : Int32) + v1) zz_15) (fun dd_17 => bnd1 (rd Y_rb 15 (((3 : Int32) * v1) + (1 : Int32))) (fun zz_19 => bnd1 (wr Y_st 5 v1 zz_19) (fun dd_21 => bnd1 (rd Y_rb 15 (((3 : Int32) * v1) + (2 : Int32))) (fun zz_23 => bnd1 (wr Y_kd 5 v1 zz_23) (fun dd_25 => f_X6_city_66 Y_len Y_tx fu (v1 + 1) Y_br Y_fa Y_rbs Y_rfs Y_at Y_fau Y_ac dd_21 dd_25 Y_fs Y_fl dd_17 Y_rd Y_rb Y_rf Y_ik)))))))
def f_X6_city_57 (Y_len : Int32) (Y_tx : Nat → Int32) (kk30 : Int32 → Int32 → Int32 → Int32 → Int32 → Int32 → Int32 → Int32 → (Nat → Int32) → (Nat → Int32) → (Nat → Int32) → (Nat → Int32) → (Nat → Int32) → (Nat → Int32) → (Nat → Int32) → (Nat → Int32) → (Nat → Int32) → Option (Int32 × Int32 × Int32 × Int32 × Int32 × Int32 × Int32 × Int32 × (Nat → Int32) × (Nat → Int32) × (Nat → Int32) × (Nat → Int32) × (Nat → Int32) × (Nat → Int32) × (Nat → Int32) × (Nat → Int32) × (Nat → Int32))) (v1 : Int32) (q1 : Int32) (q2 : Int32) (Y_br : Int32) (Y_fa : Int32) (Y_rbs : Int32) (Y_rfs : Int32) (Y_at : Int32) (Y_fau : Int32) (Y_ac : Int32) (Y_st : Nat → Int32) (Y_kd : Nat → Int32) (Y_fs : Nat → Int32) (Y_fl : Nat → Int32) (Y_now : Nat → Int32) (Y_rd : Nat → Int32) (Y_rb : Nat → Int32) (Y_rf : Nat → Int32) (Y_ik : Nat → Int32) : Option (Int32 × Int32 × Int32 × Int32 × Int32 × Int32 × Int32 × Int32 × (Nat → Int32) × (Nat → Int32) × (Nat → Int32) × (Nat → Int32) × (Nat → Int32) × (Nat → Int32) × (Nat → Int32) × (Nat → Int32) × (Nat → Int32)) := bnd1 (wr Y_now 32 q1 q2) (fun dd_27 => kk30 (v1 + 1) Y_br Y_fa Y_rbs Y_rfs Y_at Y_fau Y_ac Y_st Y_kd Y_fs Y_fl dd_27 Y_rd Y_rb Y_rf Y_ik)
def f_X6_city_30 (Y_len : Int32) (Y_tx : Nat → Int32) : Nat → Int32 → Int32 → Int32 → Int32 → Int32 → Int32 → Int32 → Int32 → (Nat → Int32) → (Nat → Int32) → (Nat → Int32) → (Nat → Int32) → (Nat → Int32) → (Nat → Int32) → (Nat → Int32) → (Nat → Int32) → (Nat → Int32) → Option (Int32 × Int32 × Int32 × Int32 × Int32 × Int32 × Int32 × Int32 × (Nat → Int32) × (Nat → Int32) × (Nat → Int32) × (Nat → Int32) × (Nat → Int32) × (Nat → Int32) × (Nat → Int32) × (Nat → Int32) × (Nat → Int32))
  | 0, _, _, _, _, _, _, _, _, _, _, _, _, _, _, _, _, _ => none
  | fu + 1, v1, Y_br, Y_fa, Y_rbs, Y_rfs, Y_at, Y_fau, Y_ac, Y_st, Y_kd, Y_fs, Y_fl, Y_now, Y_rd, Y_rb, Y_rf, Y_ik => if (16 : Int32) ≤ v1 then (f_X6_city_66 Y_len Y_tx  130 (0 : Int32) Y_br Y_fa Y_rbs Y_rfs Y_at Y_fau Y_ac Y_st Y_kd Y_fs Y_fl Y_now Y_rd Y_rb Y_rf Y_ik) else (if (8 : Int32) ≤ v1 then (f_X6_city_57 Y_len Y_tx (f_X6_city_30 Y_len Y_tx fu) v1 v1 (0 : Int32) Y_br Y_fa Y_rbs Y_rfs Y_at Y_fau Y_ac Y_st Y_kd Y_fs Y_fl Y_now Y_rd Y_rb Y_rf Y_ik) else (bnd1 (rd Y_rd 8 v1) (fun zz_31 => f_X6_city_57 Y_len Y_tx (f_X6_city_30 Y_len Y_tx fu) v1 v1 zz_31 Y_br Y_fa Y_rbs Y_rfs Y_at Y_fau Y_ac Y_st Y_kd Y_fs Y_fl Y_now Y_rd Y_rb Y_rf Y_ik)))
def f_X6_city (Y_br : Int32) (Y_fa : Int32) (Y_rbs : Int32) (Y_rfs : Int32) (Y_len : Int32) (Y_at : Int32) (Y_fau : Int32) (Y_ac : Int32) (Y_st : Nat → Int32) (Y_kd : Nat → Int32) (Y_fs : Nat → Int32) (Y_fl : Nat → Int32) (Y_now : Nat → Int32) (Y_rd : Nat → Int32) (Y_rb : Nat → Int32) (Y_rf : Nat → Int32) (Y_tx : Nat → Int32) (Y_ik : Nat → Int32) : Option (Int32 × Int32 × Int32 × Int32 × Int32 × Int32 × Int32 × Int32 × (Nat → Int32) × (Nat → Int32) × (Nat → Int32) × (Nat → Int32) × (Nat → Int32) × (Nat → Int32) × (Nat → Int32) × (Nat → Int32) × (Nat → Int32)) := bnd8 (f_X6_readText Y_rbs Y_rfs Y_len Y_at Y_fau Y_rd Y_rb Y_rf Y_tx) (fun rr_33 dd_34 dd_35 dd_36 dd_37 dd_38 dd_39 dd_40 => if rr_33 = ((-9) : Int32) then (f_X6_city_30 Y_len Y_tx  130 (0 : Int32) dd_34 dd_35 dd_34 dd_35 dd_36 dd_37 Y_ac Y_st Y_kd Y_fs Y_fl Y_now dd_38 dd_39 dd_40 Y_ik) else (some (((-3) : Int32), Y_br, Y_fa, dd_34, dd_35, dd_36, dd_37, Y_ac, Y_st, Y_kd, Y_fs, Y_fl, Y_now, dd_38, dd_39, dd_40, Y_ik)))
set_option maxRecDepth 100000 in
set_option maxHeartbeats 4000000 in
theorem k_X6_city (l : Launch) (G : Gt) (y0 y1 y2 y3 y4 y5 y6 y7 y8 y9 y10 y11 y12 y13 y14 y15 : Nat) (Y_br : Int32) (Y_fa : Int32) (Y_rbs : Int32) (Y_rfs : Int32) (Y_len : Int32) (Y_at : Int32) (Y_fau : Int32) (Y_wk : Int32) (Y_ac : Int32) (Y_nx : Int32) (Y_hs : Int32) (Y_sd : Int64) (Y_st : Nat → Int32) (Y_kd : Nat → Int32) (Y_fs : Nat → Int32) (Y_fl : Nat → Int32) (Y_now : Nat → Int32) (Y_rd : Nat → Int32) (Y_rb : Nat → Int32) (Y_rf : Nat → Int32) (Y_tx : Nat → Int32) (Y_row : Nat → Int32) (Y_hh : Nat → Int32) (Y_hl : Nat → Int32) (Y_hw : Nat → Int32) (Y_ik : Nat → Int32) (Y_kp : Nat → Int32) (r_ : Int32) (o_Y_br : Int32) (o_Y_fa : Int32) (o_Y_rbs : Int32) (o_Y_rfs : Int32) (o_Y_at : Int32) (o_Y_fau : Int32) (o_Y_ac : Int32) (o_Y_st : Nat → Int32) (o_Y_kd : Nat → Int32) (o_Y_fs : Nat → Int32) (o_Y_fl : Nat → Int32) (o_Y_now : Nat → Int32) (o_Y_rd : Nat → Int32) (o_Y_rb : Nat → Int32) (o_Y_rf : Nat → Int32) (o_Y_ik : Nat → Int32) (h : f_X6_city Y_br Y_fa Y_rbs Y_rfs Y_len Y_at Y_fau Y_ac Y_st Y_kd Y_fs Y_fl Y_now Y_rd Y_rb Y_rf Y_tx Y_ik = some (r_, o_Y_br, o_Y_fa, o_Y_rbs, o_Y_rfs, o_Y_at, o_Y_fau, o_Y_ac, o_Y_st, o_Y_kd, o_Y_fs, o_Y_fl, o_Y_now, o_Y_rd, o_Y_rb, o_Y_rf, o_Y_ik)) : CT l yX6_city wsX6_city 4 91 G [.ref y0] (W_Y G y0 y1 y2 y3 y4 y5 y6 y7 y8 y9 y10 y11 y12 y13 y14 y15 Y_br Y_fa Y_rbs Y_rfs Y_len Y_at Y_fau Y_wk Y_ac Y_nx Y_hs Y_sd Y_st Y_kd Y_fs Y_fl Y_now Y_rd Y_rb Y_rf Y_tx Y_row Y_hh Y_hl Y_hw Y_ik Y_kp) (QI G r_ (W_Y G y0 y1 y2 y3 y4 y5 y6 y7 y8 y9 y10 y11 y12 y13 y14 y15 o_Y_br o_Y_fa o_Y_rbs o_Y_rfs Y_len o_Y_at o_Y_fau Y_wk o_Y_ac Y_nx Y_hs Y_sd o_Y_st o_Y_kd o_Y_fs o_Y_fl o_Y_now o_Y_rd o_Y_rb o_Y_rf Y_tx Y_row Y_hh Y_hl Y_hw o_Y_ik Y_kp)) := by
  refine met_of cX6_city 2 (some .int) (by decide) rfl (Nat.le_of_ble_eq_true rfl) ?_
  intro p e s m below meth c A ls hx hb hr hml hts hown hlocks hK hA hD hP hS hl
  replace hown : s.vm.findClass RX6 = some m.cls := hown
  replace hl : lv_has ls 2 [(0, .ref y0)] := hl
  have S0 : CallFix p m c cX6_city 2 s _ wsX6_city RX6 := ⟨hx, hb, hml, hown, hts⟩
  have fl96 := hts (.fieldLink RX6 96 "DustVoteModel" "falls" "I") (by decide +kernel)
  have inX6 := show ∀ w ∈ wsX60, w ∈ wsX6_city from by decide +kernel
  have fl99 := hts (.fieldLink RX6 99 "DustVoteModel" "acts" "I") (by decide +kernel)
  have fl53 := hts (.fieldLink RX6 53 "DustVoteModel" "isKept" "[Z") (by decide +kernel)
  have fl93 := hts (.fieldLink RX6 93 "DustVoteModel" "brooms" "I") (by decide +kernel)
  have fl16 := hts (.fieldLink RX6 16 "DustVoteModel" "fallAt" "[I") (by decide +kernel)
  have fl31 := hts (.fieldLink RX6 31 "DustVoteModel" "readFall" "[I") (by decide +kernel)
  have fl19 := hts (.fieldLink RX6 19 "DustVoteModel" "fallen" "[I") (by decide +kernel)
  have fl22 := hts (.fieldLink RX6 22 "DustVoteModel" "now" "[I") (by decide +kernel)
  have fl28 := hts (.fieldLink RX6 28 "DustVoteModel" "readBroom" "[I") (by decide +kernel)
  have fl7 := hts (.fieldLink RX6 7 "DustVoteModel" "strength" "[I") (by decide +kernel)
  have fl13 := hts (.fieldLink RX6 13 "DustVoteModel" "kind" "[I") (by decide +kernel)
  have fl25 := hts (.fieldLink RX6 25 "DustVoteModel" "readDust" "[I") (by decide +kernel)
  have cw_X6_readText := show CallW (rmv 4 91) s _ RX6 RX6 89 yX6_readText cX6_readText 2 (some .int) wsX6_readText (rmv 3 70) 0 0 0 from cwV 0 hts gX6_city_X6_readText rfl rfl rfl (by decide +kernel) ⟨Nat.le_of_ble_eq_true rfl, Nat.le_of_ble_eq_true rfl⟩
  have fl75 := hts (.fieldLink RX6 75 "DustVoteModel" "readBrooms" "I") (by decide +kernel)
  have fl78 := hts (.fieldLink RX6 78 "DustVoteModel" "readFalls" "I") (by decide +kernel)
  have J_131 : ∀ (fu : Nat), ∀ (v1 : Int32) (Y_br : Int32) (Y_fa : Int32) (Y_rbs : Int32) (Y_rfs : Int32) (Y_at : Int32) (Y_fau : Int32) (Y_ac : Int32) (Y_st : Nat → Int32) (Y_kd : Nat → Int32) (Y_fs : Nat → Int32) (Y_fl : Nat → Int32) (Y_now : Nat → Int32) (Y_rd : Nat → Int32) (Y_rb : Nat → Int32) (Y_rf : Nat → Int32) (Y_ik : Nat → Int32) (H : Heap) (locs : List Loc) (ls : Array Slot), f_X6_city_131 Y_len Y_tx fu v1 Y_br Y_fa Y_rbs Y_rfs Y_at Y_fau Y_ac Y_st Y_kd Y_fs Y_fl Y_now Y_rd Y_rb Y_rf Y_ik = some (r_, o_Y_br, o_Y_fa, o_Y_rbs, o_Y_rfs, o_Y_at, o_Y_fau, o_Y_ac, o_Y_st, o_Y_kd, o_Y_fs, o_Y_fl, o_Y_now, o_Y_rd, o_Y_rb, o_Y_rf, o_Y_ik) → va_P G.1 vwCl (W_Y G y0 y1 y2 y3 y4 y5 y6 y7 y8 y9 y10 y11 y12 y13 y14 y15 Y_br Y_fa Y_rbs Y_rfs Y_len Y_at Y_fau Y_wk Y_ac Y_nx Y_hs Y_sd Y_st Y_kd Y_fs Y_fl Y_now Y_rd Y_rb Y_rf Y_tx Y_row Y_hh Y_hl Y_hw Y_ik Y_kp) H → va_S A s.heap H locs → lv_has ls 2 [(0, .ref y0), (1, .int v1)] → W p l e (rmv 4 91) s m (List.toArray [.ref y0]) below meth c H locs 0 0 (MQ below ((QI G r_ (W_Y G y0 y1 y2 y3 y4 y5 y6 y7 y8 y9 y10 y11 y12 y13 y14 y15 o_Y_br o_Y_fa o_Y_rbs o_Y_rfs Y_len o_Y_at o_Y_fau Y_wk o_Y_ac Y_nx Y_hs Y_sd o_Y_st o_Y_kd o_Y_fs o_Y_fl o_Y_now o_Y_rd o_Y_rb o_Y_rf Y_tx Y_row Y_hh Y_hl Y_hw o_Y_ik Y_kp)) A) (List.toArray [.ref y0]) s 0 0 A) (F0 m 131 ls []) := by
    intro  fu
    induction fu with
    | zero =>
      intro v1 Y_br Y_fa Y_rbs Y_rfs Y_at Y_fau Y_ac Y_st Y_kd Y_fs Y_fl Y_now Y_rd Y_rb Y_rf Y_ik H locs ls h
      cases h
    | succ fu ih =>
      intro v1 Y_br Y_fa Y_rbs Y_rfs Y_at Y_fau Y_ac Y_st Y_kd Y_fs Y_fl Y_now Y_rd Y_rb Y_rf Y_ik H locs ls h hP hS hl
      rw [f_X6_city_131] at h
      refine lv_iload_n hx hb dX6_city_131 rfl (lv_at hl 1 rfl) ?_
      refine lv_aload_n hx hb dX6_city_132 rfl (lv_at hl 0 rfl) ?_
      refine va_get (ci := 6) (C := RX6) (T := TX6) (N := 27) hx hb hts inX6 hown hK.1 hP 0 rfl rfl 1 (by decide) fl96 (fun _ h9 => h9) rfl dX6_city_133 ?_
      refine lv_icmp_ge (tgt := 175) hx hb dX6_city_136 (by decide) (fun cc_1 => ?_) (fun cc_1 => ?_)
      · replace h := if_t cc_1 h
        refine lv_aload_n hx hb dX6_city_175 rfl (lv_at hl 0 rfl) ?_
        refine lv_iconst (v := 0) hx hb dX6_city_176 (by decide) ?_
        refine va_put (ci := 6) (ty := .int) (C := RX6) (T := TX6) (N := 27) hx hb hts inX6 tyX6 tyX6_ok nmX6 hown hK.1 hP (va_D_same hD rfl) hS 0 rfl rfl 17 (by decide) fl99 (fun _ h9 => h9) rfl (by decide +kernel) rfl rfl (Nat.le_of_ble_eq_true rfl) dX6_city_177 (fun H locs hP _ hS => ?_)
        replace hP : va_P G.1 vwCl (W_Y G y0 y1 y2 y3 y4 y5 y6 y7 y8 y9 y10 y11 y12 y13 y14 y15 Y_br Y_fa Y_rbs Y_rfs Y_len Y_at Y_fau Y_wk (0 : Int32) Y_nx Y_hs Y_sd Y_st Y_kd Y_fs Y_fl Y_now Y_rd Y_rb Y_rf Y_tx Y_row Y_hh Y_hl Y_hw Y_ik Y_kp) H := hP
        refine lv_aload_n hx hb dX6_city_180 rfl (lv_at hl 0 rfl) ?_
        refine va_get (ci := 6) (C := RX6) (T := TX6) (N := 27) hx hb hts inX6 hown hK.1 hP 0 rfl rfl 25 (by decide) fl53 (fun _ h9 => h9) rfl dX6_city_181 ?_
        refine lv_iconst (v := 0) hx hb dX6_city_184 (by decide) ?_
        refine lv_iconst (v := 0) hx hb dX6_city_185 (by decide) ?_
        obtain ⟨dd_2, ee_3, h⟩ := bnd1_s h
        refine wZast hx hb hK hP (va_D_same hD rfl) hS 14 rfl ee_3 dX6_city_186 (fun H locs hP hS => ?_)
        replace hP : va_P G.1 vwCl (W_Y G y0 y1 y2 y3 y4 y5 y6 y7 y8 y9 y10 y11 y12 y13 y14 y15 Y_br Y_fa Y_rbs Y_rfs Y_len Y_at Y_fau Y_wk (0 : Int32) Y_nx Y_hs Y_sd Y_st Y_kd Y_fs Y_fl Y_now Y_rd Y_rb Y_rf Y_tx Y_row Y_hh Y_hl Y_hw dd_2 Y_kp) H := hP
        refine lv_aload_n hx hb dX6_city_187 rfl (lv_at hl 0 rfl) ?_
        refine va_get (ci := 6) (C := RX6) (T := TX6) (N := 27) hx hb hts inX6 hown hK.1 hP 0 rfl rfl 25 (by decide) fl53 (fun _ h9 => h9) rfl dX6_city_188 ?_
        refine lv_iconst (v := 1) hx hb dX6_city_191 (by decide) ?_
        refine lv_iconst (v := 0) hx hb dX6_city_192 (by decide) ?_
        obtain ⟨dd_4, ee_5, h⟩ := bnd1_s h
        refine wZast hx hb hK hP (va_D_same hD rfl) hS 14 rfl ee_5 dX6_city_193 (fun H locs hP hS => ?_)
        replace hP : va_P G.1 vwCl (W_Y G y0 y1 y2 y3 y4 y5 y6 y7 y8 y9 y10 y11 y12 y13 y14 y15 Y_br Y_fa Y_rbs Y_rfs Y_len Y_at Y_fau Y_wk (0 : Int32) Y_nx Y_hs Y_sd Y_st Y_kd Y_fs Y_fl Y_now Y_rd Y_rb Y_rf Y_tx Y_row Y_hh Y_hl Y_hw dd_4 Y_kp) H := hP
        refine lv_bipush (v := 10) hx hb dX6_city_194 (by decide) ?_
        refine lv_aload_n hx hb dX6_city_196 rfl (lv_at hl 0 rfl) ?_
        refine va_get (ci := 6) (C := RX6) (T := TX6) (N := 27) hx hb hts inX6 hown hK.1 hP 0 rfl rfl 0 (by decide) fl93 (fun _ h9 => h9) rfl dX6_city_197 ?_
        refine lv_imul hx hb dX6_city_200 ?_
        refine lv_aload_n hx hb dX6_city_201 rfl (lv_at hl 0 rfl) ?_
        refine va_get (ci := 6) (C := RX6) (T := TX6) (N := 27) hx hb hts inX6 hown hK.1 hP 0 rfl rfl 1 (by decide) fl96 (fun _ h9 => h9) rfl dX6_city_202 ?_
        refine lv_iadd hx hb dX6_city_205 ?_
        cases h
        exact W.iret hx hb hr (fun t ht _ => ⟨⟨_, (), rfl, rfl, by show va_P G.1 vwCl _ t.heap; rw [ht]; exact hP⟩, hS.F ht⟩) hS.2.2 dX6_city_206
      · replace h := if_f cc_1 h
        refine lv_aload_n hx hb dX6_city_139 rfl (lv_at hl 0 rfl) ?_
        refine va_get (ci := 6) (C := RX6) (T := TX6) (N := 27) hx hb hts inX6 hown hK.1 hP 0 rfl rfl 4 (by decide) fl16 (fun _ h9 => h9) rfl dX6_city_140 ?_
        refine lv_iload_n hx hb dX6_city_143 rfl (lv_at hl 1 rfl) ?_
        refine lv_aload_n hx hb dX6_city_144 rfl (lv_at hl 0 rfl) ?_
        refine va_get (ci := 6) (C := RX6) (T := TX6) (N := 27) hx hb hts inX6 hown hK.1 hP 0 rfl rfl 9 (by decide) fl31 (fun _ h9 => h9) rfl dX6_city_145 ?_
        refine lv_iconst (v := 2) hx hb dX6_city_148 (by decide) ?_
        refine lv_iload_n hx hb dX6_city_149 rfl (lv_at hl 1 rfl) ?_
        refine lv_imul hx hb dX6_city_150 ?_
        obtain ⟨zz_6, ee_7, h⟩ := bnd1_s h
        refine wIald hx hb hK hP 8 rfl ee_7 dX6_city_151 ?_
        obtain ⟨dd_8, ee_9, h⟩ := bnd1_s h
        refine wIast hx hb hK hP (va_D_same hD rfl) hS 3 rfl ee_9 dX6_city_152 (fun H locs hP hS => ?_)
        replace hP : va_P G.1 vwCl (W_Y G y0 y1 y2 y3 y4 y5 y6 y7 y8 y9 y10 y11 y12 y13 y14 y15 Y_br Y_fa Y_rbs Y_rfs Y_len Y_at Y_fau Y_wk Y_ac Y_nx Y_hs Y_sd Y_st Y_kd dd_8 Y_fl Y_now Y_rd Y_rb Y_rf Y_tx Y_row Y_hh Y_hl Y_hw Y_ik Y_kp) H := hP
        refine lv_aload_n hx hb dX6_city_153 rfl (lv_at hl 0 rfl) ?_
        refine va_get (ci := 6) (C := RX6) (T := TX6) (N := 27) hx hb hts inX6 hown hK.1 hP 0 rfl rfl 5 (by decide) fl19 (fun _ h9 => h9) rfl dX6_city_154 ?_
        refine lv_iload_n hx hb dX6_city_157 rfl (lv_at hl 1 rfl) ?_
        refine lv_aload_n hx hb dX6_city_158 rfl (lv_at hl 0 rfl) ?_
        refine va_get (ci := 6) (C := RX6) (T := TX6) (N := 27) hx hb hts inX6 hown hK.1 hP 0 rfl rfl 9 (by decide) fl31 (fun _ h9 => h9) rfl dX6_city_159 ?_
        refine lv_iconst (v := 2) hx hb dX6_city_162 (by decide) ?_
        refine lv_iload_n hx hb dX6_city_163 rfl (lv_at hl 1 rfl) ?_
        refine lv_imul hx hb dX6_city_164 ?_
        refine lv_iconst (v := 1) hx hb dX6_city_165 (by decide) ?_
        refine lv_iadd hx hb dX6_city_166 ?_
        obtain ⟨zz_10, ee_11, h⟩ := bnd1_s h
        refine wIald hx hb hK hP 8 rfl ee_11 dX6_city_167 ?_
        obtain ⟨dd_12, ee_13, h⟩ := bnd1_s h
        refine wIast hx hb hK hP (va_D_same hD rfl) hS 4 rfl ee_13 dX6_city_168 (fun H locs hP hS => ?_)
        replace hP : va_P G.1 vwCl (W_Y G y0 y1 y2 y3 y4 y5 y6 y7 y8 y9 y10 y11 y12 y13 y14 y15 Y_br Y_fa Y_rbs Y_rfs Y_len Y_at Y_fau Y_wk Y_ac Y_nx Y_hs Y_sd Y_st Y_kd dd_8 dd_12 Y_now Y_rd Y_rb Y_rf Y_tx Y_row Y_hh Y_hl Y_hw Y_ik Y_kp) H := hP
        refine lv_iinc (v := (v1 + 1)) (lv' := [(1, .int (v1 + 1)), (0, .ref y0)]) hx hb dX6_city_169 hl (k := 1) rfl rfl (by decide) rfl (fun ls hl => ?_)
        refine lv_goto (tgt := 131) hx hb dX6_city_172 (by decide) ?_
        exact ih (v1 + 1) Y_br Y_fa Y_rbs Y_rfs Y_at Y_fau Y_ac Y_st Y_kd dd_8 dd_12 Y_now Y_rd Y_rb Y_rf Y_ik _ _ _ h hP hS (lv_sub hl [1, 0] rfl)
  have J_66 : ∀ (fu : Nat), ∀ (v1 : Int32) (Y_br : Int32) (Y_fa : Int32) (Y_rbs : Int32) (Y_rfs : Int32) (Y_at : Int32) (Y_fau : Int32) (Y_ac : Int32) (Y_st : Nat → Int32) (Y_kd : Nat → Int32) (Y_fs : Nat → Int32) (Y_fl : Nat → Int32) (Y_now : Nat → Int32) (Y_rd : Nat → Int32) (Y_rb : Nat → Int32) (Y_rf : Nat → Int32) (Y_ik : Nat → Int32) (H : Heap) (locs : List Loc) (ls : Array Slot), f_X6_city_66 Y_len Y_tx fu v1 Y_br Y_fa Y_rbs Y_rfs Y_at Y_fau Y_ac Y_st Y_kd Y_fs Y_fl Y_now Y_rd Y_rb Y_rf Y_ik = some (r_, o_Y_br, o_Y_fa, o_Y_rbs, o_Y_rfs, o_Y_at, o_Y_fau, o_Y_ac, o_Y_st, o_Y_kd, o_Y_fs, o_Y_fl, o_Y_now, o_Y_rd, o_Y_rb, o_Y_rf, o_Y_ik) → va_P G.1 vwCl (W_Y G y0 y1 y2 y3 y4 y5 y6 y7 y8 y9 y10 y11 y12 y13 y14 y15 Y_br Y_fa Y_rbs Y_rfs Y_len Y_at Y_fau Y_wk Y_ac Y_nx Y_hs Y_sd Y_st Y_kd Y_fs Y_fl Y_now Y_rd Y_rb Y_rf Y_tx Y_row Y_hh Y_hl Y_hw Y_ik Y_kp) H → va_S A s.heap H locs → lv_has ls 2 [(0, .ref y0), (1, .int v1)] → W p l e (rmv 4 91) s m (List.toArray [.ref y0]) below meth c H locs 0 0 (MQ below ((QI G r_ (W_Y G y0 y1 y2 y3 y4 y5 y6 y7 y8 y9 y10 y11 y12 y13 y14 y15 o_Y_br o_Y_fa o_Y_rbs o_Y_rfs Y_len o_Y_at o_Y_fau Y_wk o_Y_ac Y_nx Y_hs Y_sd o_Y_st o_Y_kd o_Y_fs o_Y_fl o_Y_now o_Y_rd o_Y_rb o_Y_rf Y_tx Y_row Y_hh Y_hl Y_hw o_Y_ik Y_kp)) A) (List.toArray [.ref y0]) s 0 0 A) (F0 m 66 ls []) := by
    intro  fu
    induction fu with
    | zero =>
      intro v1 Y_br Y_fa Y_rbs Y_rfs Y_at Y_fau Y_ac Y_st Y_kd Y_fs Y_fl Y_now Y_rd Y_rb Y_rf Y_ik H locs ls h
      cases h
    | succ fu ih =>
      intro v1 Y_br Y_fa Y_rbs Y_rfs Y_at Y_fau Y_ac Y_st Y_kd Y_fs Y_fl Y_now Y_rd Y_rb Y_rf Y_ik H locs ls h hP hS hl
      rw [f_X6_city_66] at h
      refine lv_iload_n hx hb dX6_city_66 rfl (lv_at hl 1 rfl) ?_
      refine lv_aload_n hx hb dX6_city_67 rfl (lv_at hl 0 rfl) ?_
      refine va_get (ci := 6) (C := RX6) (T := TX6) (N := 27) hx hb hts inX6 hown hK.1 hP 0 rfl rfl 0 (by decide) fl93 (fun _ h9 => h9) rfl dX6_city_68 ?_
      refine lv_icmp_ge (tgt := 129) hx hb dX6_city_71 (by decide) (fun cc_14 => ?_) (fun cc_14 => ?_)
      · replace h := if_t cc_14 h
        refine lv_iconst (v := 0) hx hb dX6_city_129 (by decide) ?_
        refine lv_istore_n (lv' := [(1, .int (0 : Int32)), (0, .ref y0)]) hx hb dX6_city_130 rfl hl (by decide) rfl (fun ls hl => ?_)
        exact J_131  130 (0 : Int32) Y_br Y_fa Y_rbs Y_rfs Y_at Y_fau Y_ac Y_st Y_kd Y_fs Y_fl Y_now Y_rd Y_rb Y_rf Y_ik _ _ _ h hP hS (lv_sub hl [1, 0] rfl)
      · replace h := if_f cc_14 h
        refine lv_aload_n hx hb dX6_city_74 rfl (lv_at hl 0 rfl) ?_
        refine va_get (ci := 6) (C := RX6) (T := TX6) (N := 27) hx hb hts inX6 hown hK.1 hP 0 rfl rfl 6 (by decide) fl22 (fun _ h9 => h9) rfl dX6_city_75 ?_
        refine lv_bipush (v := 8) hx hb dX6_city_78 (by decide) ?_
        refine lv_iload_n hx hb dX6_city_80 rfl (lv_at hl 1 rfl) ?_
        refine lv_iadd hx hb dX6_city_81 ?_
        refine lv_aload_n hx hb dX6_city_82 rfl (lv_at hl 0 rfl) ?_
        refine va_get (ci := 6) (C := RX6) (T := TX6) (N := 27) hx hb hts inX6 hown hK.1 hP 0 rfl rfl 8 (by decide) fl28 (fun _ h9 => h9) rfl dX6_city_83 ?_
        refine lv_iconst (v := 3) hx hb dX6_city_86 (by decide) ?_
        refine lv_iload_n hx hb dX6_city_87 rfl (lv_at hl 1 rfl) ?_
        refine lv_imul hx hb dX6_city_88 ?_
        obtain ⟨zz_15, ee_16, h⟩ := bnd1_s h
        refine wIald hx hb hK hP 7 rfl ee_16 dX6_city_89 ?_
        obtain ⟨dd_17, ee_18, h⟩ := bnd1_s h
        refine wIast hx hb hK hP (va_D_same hD rfl) hS 5 rfl ee_18 dX6_city_90 (fun H locs hP hS => ?_)
        replace hP : va_P G.1 vwCl (W_Y G y0 y1 y2 y3 y4 y5 y6 y7 y8 y9 y10 y11 y12 y13 y14 y15 Y_br Y_fa Y_rbs Y_rfs Y_len Y_at Y_fau Y_wk Y_ac Y_nx Y_hs Y_sd Y_st Y_kd Y_fs Y_fl dd_17 Y_rd Y_rb Y_rf Y_tx Y_row Y_hh Y_hl Y_hw Y_ik Y_kp) H := hP
        refine lv_aload_n hx hb dX6_city_91 rfl (lv_at hl 0 rfl) ?_
        refine va_get (ci := 6) (C := RX6) (T := TX6) (N := 27) hx hb hts inX6 hown hK.1 hP 0 rfl rfl 2 (by decide) fl7 (fun _ h9 => h9) rfl dX6_city_92 ?_
        refine lv_iload_n hx hb dX6_city_95 rfl (lv_at hl 1 rfl) ?_
        refine lv_aload_n hx hb dX6_city_96 rfl (lv_at hl 0 rfl) ?_
        refine va_get (ci := 6) (C := RX6) (T := TX6) (N := 27) hx hb hts inX6 hown hK.1 hP 0 rfl rfl 8 (by decide) fl28 (fun _ h9 => h9) rfl dX6_city_97 ?_
        refine lv_iconst (v := 3) hx hb dX6_city_100 (by decide) ?_
        refine lv_iload_n hx hb dX6_city_101 rfl (lv_at hl 1 rfl) ?_
        refine lv_imul hx hb dX6_city_102 ?_
        refine lv_iconst (v := 1) hx hb dX6_city_103 (by decide) ?_
        refine lv_iadd hx hb dX6_city_104 ?_
        obtain ⟨zz_19, ee_20, h⟩ := bnd1_s h
        refine wIald hx hb hK hP 7 rfl ee_20 dX6_city_105 ?_
        obtain ⟨dd_21, ee_22, h⟩ := bnd1_s h
        refine wIast hx hb hK hP (va_D_same hD rfl) hS 1 rfl ee_22 dX6_city_106 (fun H locs hP hS => ?_)
        replace hP : va_P G.1 vwCl (W_Y G y0 y1 y2 y3 y4 y5 y6 y7 y8 y9 y10 y11 y12 y13 y14 y15 Y_br Y_fa Y_rbs Y_rfs Y_len Y_at Y_fau Y_wk Y_ac Y_nx Y_hs Y_sd dd_21 Y_kd Y_fs Y_fl dd_17 Y_rd Y_rb Y_rf Y_tx Y_row Y_hh Y_hl Y_hw Y_ik Y_kp) H := hP
        refine lv_aload_n hx hb dX6_city_107 rfl (lv_at hl 0 rfl) ?_
        refine va_get (ci := 6) (C := RX6) (T := TX6) (N := 27) hx hb hts inX6 hown hK.1 hP 0 rfl rfl 3 (by decide) fl13 (fun _ h9 => h9) rfl dX6_city_108 ?_
        refine lv_iload_n hx hb dX6_city_111 rfl (lv_at hl 1 rfl) ?_
        refine lv_aload_n hx hb dX6_city_112 rfl (lv_at hl 0 rfl) ?_
        refine va_get (ci := 6) (C := RX6) (T := TX6) (N := 27) hx hb hts inX6 hown hK.1 hP 0 rfl rfl 8 (by decide) fl28 (fun _ h9 => h9) rfl dX6_city_113 ?_
        refine lv_iconst (v := 3) hx hb dX6_city_116 (by decide) ?_
        refine lv_iload_n hx hb dX6_city_117 rfl (lv_at hl 1 rfl) ?_
        refine lv_imul hx hb dX6_city_118 ?_
        refine lv_iconst (v := 2) hx hb dX6_city_119 (by decide) ?_
        refine lv_iadd hx hb dX6_city_120 ?_
        obtain ⟨zz_23, ee_24, h⟩ := bnd1_s h
        refine wIald hx hb hK hP 7 rfl ee_24 dX6_city_121 ?_
        obtain ⟨dd_25, ee_26, h⟩ := bnd1_s h
        refine wIast hx hb hK hP (va_D_same hD rfl) hS 2 rfl ee_26 dX6_city_122 (fun H locs hP hS => ?_)
        replace hP : va_P G.1 vwCl (W_Y G y0 y1 y2 y3 y4 y5 y6 y7 y8 y9 y10 y11 y12 y13 y14 y15 Y_br Y_fa Y_rbs Y_rfs Y_len Y_at Y_fau Y_wk Y_ac Y_nx Y_hs Y_sd dd_21 dd_25 Y_fs Y_fl dd_17 Y_rd Y_rb Y_rf Y_tx Y_row Y_hh Y_hl Y_hw Y_ik Y_kp) H := hP
        refine lv_iinc (v := (v1 + 1)) (lv' := [(1, .int (v1 + 1)), (0, .ref y0)]) hx hb dX6_city_123 hl (k := 1) rfl rfl (by decide) rfl (fun ls hl => ?_)
        refine lv_goto (tgt := 66) hx hb dX6_city_126 (by decide) ?_
        exact ih (v1 + 1) Y_br Y_fa Y_rbs Y_rfs Y_at Y_fau Y_ac dd_21 dd_25 Y_fs Y_fl dd_17 Y_rd Y_rb Y_rf Y_ik _ _ _ h hP hS (lv_sub hl [1, 0] rfl)
  have J_57 : ∀ (kk30 : Int32 → Int32 → Int32 → Int32 → Int32 → Int32 → Int32 → Int32 → (Nat → Int32) → (Nat → Int32) → (Nat → Int32) → (Nat → Int32) → (Nat → Int32) → (Nat → Int32) → (Nat → Int32) → (Nat → Int32) → (Nat → Int32) → Option (Int32 × Int32 × Int32 × Int32 × Int32 × Int32 × Int32 × Int32 × (Nat → Int32) × (Nat → Int32) × (Nat → Int32) × (Nat → Int32) × (Nat → Int32) × (Nat → Int32) × (Nat → Int32) × (Nat → Int32) × (Nat → Int32))) (hk30 : ∀ (v1 : Int32) (Y_br : Int32) (Y_fa : Int32) (Y_rbs : Int32) (Y_rfs : Int32) (Y_at : Int32) (Y_fau : Int32) (Y_ac : Int32) (Y_st : Nat → Int32) (Y_kd : Nat → Int32) (Y_fs : Nat → Int32) (Y_fl : Nat → Int32) (Y_now : Nat → Int32) (Y_rd : Nat → Int32) (Y_rb : Nat → Int32) (Y_rf : Nat → Int32) (Y_ik : Nat → Int32) (H : Heap) (locs : List Loc) (ls : Array Slot), kk30 v1 Y_br Y_fa Y_rbs Y_rfs Y_at Y_fau Y_ac Y_st Y_kd Y_fs Y_fl Y_now Y_rd Y_rb Y_rf Y_ik = some (r_, o_Y_br, o_Y_fa, o_Y_rbs, o_Y_rfs, o_Y_at, o_Y_fau, o_Y_ac, o_Y_st, o_Y_kd, o_Y_fs, o_Y_fl, o_Y_now, o_Y_rd, o_Y_rb, o_Y_rf, o_Y_ik) → va_P G.1 vwCl (W_Y G y0 y1 y2 y3 y4 y5 y6 y7 y8 y9 y10 y11 y12 y13 y14 y15 Y_br Y_fa Y_rbs Y_rfs Y_len Y_at Y_fau Y_wk Y_ac Y_nx Y_hs Y_sd Y_st Y_kd Y_fs Y_fl Y_now Y_rd Y_rb Y_rf Y_tx Y_row Y_hh Y_hl Y_hw Y_ik Y_kp) H → va_S A s.heap H locs → lv_has ls 2 [(0, .ref y0), (1, .int v1)] → W p l e (rmv 4 91) s m (List.toArray [.ref y0]) below meth c H locs 0 0 (MQ below ((QI G r_ (W_Y G y0 y1 y2 y3 y4 y5 y6 y7 y8 y9 y10 y11 y12 y13 y14 y15 o_Y_br o_Y_fa o_Y_rbs o_Y_rfs Y_len o_Y_at o_Y_fau Y_wk o_Y_ac Y_nx Y_hs Y_sd o_Y_st o_Y_kd o_Y_fs o_Y_fl o_Y_now o_Y_rd o_Y_rb o_Y_rf Y_tx Y_row Y_hh Y_hl Y_hw o_Y_ik Y_kp)) A) (List.toArray [.ref y0]) s 0 0 A) (F0 m 30 ls [])), ∀ (v1 : Int32) (q1 : Int32) (q2 : Int32) (Y_br : Int32) (Y_fa : Int32) (Y_rbs : Int32) (Y_rfs : Int32) (Y_at : Int32) (Y_fau : Int32) (Y_ac : Int32) (Y_st : Nat → Int32) (Y_kd : Nat → Int32) (Y_fs : Nat → Int32) (Y_fl : Nat → Int32) (Y_now : Nat → Int32) (Y_rd : Nat → Int32) (Y_rb : Nat → Int32) (Y_rf : Nat → Int32) (Y_ik : Nat → Int32) (H : Heap) (locs : List Loc) (ls : Array Slot), f_X6_city_57 Y_len Y_tx kk30 v1 q1 q2 Y_br Y_fa Y_rbs Y_rfs Y_at Y_fau Y_ac Y_st Y_kd Y_fs Y_fl Y_now Y_rd Y_rb Y_rf Y_ik = some (r_, o_Y_br, o_Y_fa, o_Y_rbs, o_Y_rfs, o_Y_at, o_Y_fau, o_Y_ac, o_Y_st, o_Y_kd, o_Y_fs, o_Y_fl, o_Y_now, o_Y_rd, o_Y_rb, o_Y_rf, o_Y_ik) → va_P G.1 vwCl (W_Y G y0 y1 y2 y3 y4 y5 y6 y7 y8 y9 y10 y11 y12 y13 y14 y15 Y_br Y_fa Y_rbs Y_rfs Y_len Y_at Y_fau Y_wk Y_ac Y_nx Y_hs Y_sd Y_st Y_kd Y_fs Y_fl Y_now Y_rd Y_rb Y_rf Y_tx Y_row Y_hh Y_hl Y_hw Y_ik Y_kp) H → va_S A s.heap H locs → lv_has ls 2 [(0, .ref y0), (1, .int v1)] → W p l e (rmv 4 91) s m (List.toArray [.ref y0]) below meth c H locs 0 0 (MQ below ((QI G r_ (W_Y G y0 y1 y2 y3 y4 y5 y6 y7 y8 y9 y10 y11 y12 y13 y14 y15 o_Y_br o_Y_fa o_Y_rbs o_Y_rfs Y_len o_Y_at o_Y_fau Y_wk o_Y_ac Y_nx Y_hs Y_sd o_Y_st o_Y_kd o_Y_fs o_Y_fl o_Y_now o_Y_rd o_Y_rb o_Y_rf Y_tx Y_row Y_hh Y_hl Y_hw o_Y_ik Y_kp)) A) (List.toArray [.ref y0]) s 0 0 A) (F0 m 57 ls [.int q2, .int q1, .ref y5]) := by
    intro kk30 hk30 v1 q1 q2 Y_br Y_fa Y_rbs Y_rfs Y_at Y_fau Y_ac Y_st Y_kd Y_fs Y_fl Y_now Y_rd Y_rb Y_rf Y_ik H locs ls h hP hS hl
    unfold f_X6_city_57 at h
    obtain ⟨dd_27, ee_28, h⟩ := bnd1_s h
    refine wIast hx hb hK hP (va_D_same hD rfl) hS 5 rfl ee_28 dX6_city_57 (fun H locs hP hS => ?_)
    replace hP : va_P G.1 vwCl (W_Y G y0 y1 y2 y3 y4 y5 y6 y7 y8 y9 y10 y11 y12 y13 y14 y15 Y_br Y_fa Y_rbs Y_rfs Y_len Y_at Y_fau Y_wk Y_ac Y_nx Y_hs Y_sd Y_st Y_kd Y_fs Y_fl dd_27 Y_rd Y_rb Y_rf Y_tx Y_row Y_hh Y_hl Y_hw Y_ik Y_kp) H := hP
    refine lv_iinc (v := (v1 + 1)) (lv' := [(1, .int (v1 + 1)), (0, .ref y0)]) hx hb dX6_city_58 hl (k := 1) rfl rfl (by decide) rfl (fun ls hl => ?_)
    refine lv_goto (tgt := 30) hx hb dX6_city_61 (by decide) ?_
    exact hk30 (v1 + 1) Y_br Y_fa Y_rbs Y_rfs Y_at Y_fau Y_ac Y_st Y_kd Y_fs Y_fl dd_27 Y_rd Y_rb Y_rf Y_ik _ _ _ h hP hS (lv_sub hl [1, 0] rfl)
  have J_30 : ∀ (fu : Nat), ∀ (v1 : Int32) (Y_br : Int32) (Y_fa : Int32) (Y_rbs : Int32) (Y_rfs : Int32) (Y_at : Int32) (Y_fau : Int32) (Y_ac : Int32) (Y_st : Nat → Int32) (Y_kd : Nat → Int32) (Y_fs : Nat → Int32) (Y_fl : Nat → Int32) (Y_now : Nat → Int32) (Y_rd : Nat → Int32) (Y_rb : Nat → Int32) (Y_rf : Nat → Int32) (Y_ik : Nat → Int32) (H : Heap) (locs : List Loc) (ls : Array Slot), f_X6_city_30 Y_len Y_tx fu v1 Y_br Y_fa Y_rbs Y_rfs Y_at Y_fau Y_ac Y_st Y_kd Y_fs Y_fl Y_now Y_rd Y_rb Y_rf Y_ik = some (r_, o_Y_br, o_Y_fa, o_Y_rbs, o_Y_rfs, o_Y_at, o_Y_fau, o_Y_ac, o_Y_st, o_Y_kd, o_Y_fs, o_Y_fl, o_Y_now, o_Y_rd, o_Y_rb, o_Y_rf, o_Y_ik) → va_P G.1 vwCl (W_Y G y0 y1 y2 y3 y4 y5 y6 y7 y8 y9 y10 y11 y12 y13 y14 y15 Y_br Y_fa Y_rbs Y_rfs Y_len Y_at Y_fau Y_wk Y_ac Y_nx Y_hs Y_sd Y_st Y_kd Y_fs Y_fl Y_now Y_rd Y_rb Y_rf Y_tx Y_row Y_hh Y_hl Y_hw Y_ik Y_kp) H → va_S A s.heap H locs → lv_has ls 2 [(0, .ref y0), (1, .int v1)] → W p l e (rmv 4 91) s m (List.toArray [.ref y0]) below meth c H locs 0 0 (MQ below ((QI G r_ (W_Y G y0 y1 y2 y3 y4 y5 y6 y7 y8 y9 y10 y11 y12 y13 y14 y15 o_Y_br o_Y_fa o_Y_rbs o_Y_rfs Y_len o_Y_at o_Y_fau Y_wk o_Y_ac Y_nx Y_hs Y_sd o_Y_st o_Y_kd o_Y_fs o_Y_fl o_Y_now o_Y_rd o_Y_rb o_Y_rf Y_tx Y_row Y_hh Y_hl Y_hw o_Y_ik Y_kp)) A) (List.toArray [.ref y0]) s 0 0 A) (F0 m 30 ls []) := by
    intro  fu
    induction fu with
    | zero =>
      intro v1 Y_br Y_fa Y_rbs Y_rfs Y_at Y_fau Y_ac Y_st Y_kd Y_fs Y_fl Y_now Y_rd Y_rb Y_rf Y_ik H locs ls h
      cases h
    | succ fu ih =>
      intro v1 Y_br Y_fa Y_rbs Y_rfs Y_at Y_fau Y_ac Y_st Y_kd Y_fs Y_fl Y_now Y_rd Y_rb Y_rf Y_ik H locs ls h hP hS hl
      rw [f_X6_city_30] at h
      refine lv_iload_n hx hb dX6_city_30 rfl (lv_at hl 1 rfl) ?_
      refine lv_bipush (v := 16) hx hb dX6_city_31 (by decide) ?_
      refine lv_icmp_ge (tgt := 64) hx hb dX6_city_33 (by decide) (fun cc_29 => ?_) (fun cc_29 => ?_)
      · replace h := if_t cc_29 h
        refine lv_iconst (v := 0) hx hb dX6_city_64 (by decide) ?_
        refine lv_istore_n (lv' := [(1, .int (0 : Int32)), (0, .ref y0)]) hx hb dX6_city_65 rfl hl (by decide) rfl (fun ls hl => ?_)
        exact J_66  130 (0 : Int32) Y_br Y_fa Y_rbs Y_rfs Y_at Y_fau Y_ac Y_st Y_kd Y_fs Y_fl Y_now Y_rd Y_rb Y_rf Y_ik _ _ _ h hP hS (lv_sub hl [1, 0] rfl)
      · replace h := if_f cc_29 h
        refine lv_aload_n hx hb dX6_city_36 rfl (lv_at hl 0 rfl) ?_
        refine va_get (ci := 6) (C := RX6) (T := TX6) (N := 27) hx hb hts inX6 hown hK.1 hP 0 rfl rfl 6 (by decide) fl22 (fun _ h9 => h9) rfl dX6_city_37 ?_
        refine lv_iload_n hx hb dX6_city_40 rfl (lv_at hl 1 rfl) ?_
        refine lv_iload_n hx hb dX6_city_41 rfl (lv_at hl 1 rfl) ?_
        refine lv_bipush (v := 8) hx hb dX6_city_42 (by decide) ?_
        refine lv_icmp_ge (tgt := 56) hx hb dX6_city_44 (by decide) (fun cc_30 => ?_) (fun cc_30 => ?_)
        · replace h := if_t cc_30 h
          refine lv_iconst (v := 0) hx hb dX6_city_56 (by decide) ?_
          exact J_57 (f_X6_city_30 Y_len Y_tx fu) ih v1 v1 (0 : Int32) Y_br Y_fa Y_rbs Y_rfs Y_at Y_fau Y_ac Y_st Y_kd Y_fs Y_fl Y_now Y_rd Y_rb Y_rf Y_ik _ _ _ h hP hS (lv_sub hl [0, 1] rfl)
        · replace h := if_f cc_30 h
          refine lv_aload_n hx hb dX6_city_47 rfl (lv_at hl 0 rfl) ?_
          refine va_get (ci := 6) (C := RX6) (T := TX6) (N := 27) hx hb hts inX6 hown hK.1 hP 0 rfl rfl 7 (by decide) fl25 (fun _ h9 => h9) rfl dX6_city_48 ?_
          refine lv_iload_n hx hb dX6_city_51 rfl (lv_at hl 1 rfl) ?_
          obtain ⟨zz_31, ee_32, h⟩ := bnd1_s h
          refine wIald hx hb hK hP 6 rfl ee_32 dX6_city_52 ?_
          refine lv_goto (tgt := 57) hx hb dX6_city_53 (by decide) ?_
          exact J_57 (f_X6_city_30 Y_len Y_tx fu) ih v1 v1 zz_31 Y_br Y_fa Y_rbs Y_rfs Y_at Y_fau Y_ac Y_st Y_kd Y_fs Y_fl Y_now Y_rd Y_rb Y_rf Y_ik _ _ _ h hP hS (lv_sub hl [0, 1] rfl)
  unfold f_X6_city at h
  refine lv_aload_n hx hb dX6_city_0 rfl (lv_at hl 0 rfl) ?_
  obtain ⟨rr_33, dd_34, dd_35, dd_36, dd_37, dd_38, dd_39, dd_40, ee_41, h⟩ := bnd8_s h
  refine cFi (As := []) (rest := []) S0 hK hA hP (va_D_same hD rfl) hS (k_X6_readText l G y0 y1 y2 y3 y4 y5 y6 y7 y8 y9 y10 y11 y12 y13 y14 y15 Y_br Y_fa Y_rbs Y_rfs Y_len Y_at Y_fau Y_wk Y_ac Y_nx Y_hs Y_sd Y_st Y_kd Y_fs Y_fl Y_now Y_rd Y_rb Y_rf Y_tx Y_row Y_hh Y_hl Y_hw Y_ik Y_kp rr_33 dd_34 dd_35 dd_36 dd_37 dd_38 dd_39 dd_40 ee_41) cw_X6_readText 6 0 rfl rfl rfl rfl hl.1 rfl (Nat.le_of_ble_eq_true rfl) dX6_city_1 ⟨Nat.zero_le _, Nat.zero_le _⟩ (fun H locs hP hS => ?_)
  replace hP : va_P G.1 vwCl (W_Y G y0 y1 y2 y3 y4 y5 y6 y7 y8 y9 y10 y11 y12 y13 y14 y15 Y_br Y_fa dd_34 dd_35 Y_len dd_36 dd_37 Y_wk Y_ac Y_nx Y_hs Y_sd Y_st Y_kd Y_fs Y_fl Y_now dd_38 dd_39 dd_40 Y_tx Y_row Y_hh Y_hl Y_hw Y_ik Y_kp) H := hP
  refine lv_bipush (v := (-9)) hx hb dX6_city_4 (by decide) ?_
  refine lv_icmp_eq (tgt := 12) hx hb dX6_city_6 (by decide) (fun cc_42 => ?_) (fun cc_42 => ?_)
  · replace h := if_t cc_42 h
    refine lv_aload_n hx hb dX6_city_12 rfl (lv_at hl 0 rfl) ?_
    refine lv_aload_n hx hb dX6_city_13 rfl (lv_at hl 0 rfl) ?_
    refine va_get (ci := 6) (C := RX6) (T := TX6) (N := 27) hx hb hts inX6 hown hK.1 hP 0 rfl rfl 10 (by decide) fl75 (fun _ h9 => h9) rfl dX6_city_14 ?_
    refine va_put (ci := 6) (ty := .int) (C := RX6) (T := TX6) (N := 27) hx hb hts inX6 tyX6 tyX6_ok nmX6 hown hK.1 hP (va_D_same hD rfl) hS 0 rfl rfl 0 (by decide) fl93 (fun _ h9 => h9) rfl (by decide +kernel) rfl rfl (Nat.le_of_ble_eq_true rfl) dX6_city_17 (fun H locs hP _ hS => ?_)
    replace hP : va_P G.1 vwCl (W_Y G y0 y1 y2 y3 y4 y5 y6 y7 y8 y9 y10 y11 y12 y13 y14 y15 dd_34 Y_fa dd_34 dd_35 Y_len dd_36 dd_37 Y_wk Y_ac Y_nx Y_hs Y_sd Y_st Y_kd Y_fs Y_fl Y_now dd_38 dd_39 dd_40 Y_tx Y_row Y_hh Y_hl Y_hw Y_ik Y_kp) H := hP
    refine lv_aload_n hx hb dX6_city_20 rfl (lv_at hl 0 rfl) ?_
    refine lv_aload_n hx hb dX6_city_21 rfl (lv_at hl 0 rfl) ?_
    refine va_get (ci := 6) (C := RX6) (T := TX6) (N := 27) hx hb hts inX6 hown hK.1 hP 0 rfl rfl 11 (by decide) fl78 (fun _ h9 => h9) rfl dX6_city_22 ?_
    refine va_put (ci := 6) (ty := .int) (C := RX6) (T := TX6) (N := 27) hx hb hts inX6 tyX6 tyX6_ok nmX6 hown hK.1 hP (va_D_same hD rfl) hS 0 rfl rfl 1 (by decide) fl96 (fun _ h9 => h9) rfl (by decide +kernel) rfl rfl (Nat.le_of_ble_eq_true rfl) dX6_city_25 (fun H locs hP _ hS => ?_)
    replace hP : va_P G.1 vwCl (W_Y G y0 y1 y2 y3 y4 y5 y6 y7 y8 y9 y10 y11 y12 y13 y14 y15 dd_34 dd_35 dd_34 dd_35 Y_len dd_36 dd_37 Y_wk Y_ac Y_nx Y_hs Y_sd Y_st Y_kd Y_fs Y_fl Y_now dd_38 dd_39 dd_40 Y_tx Y_row Y_hh Y_hl Y_hw Y_ik Y_kp) H := hP
    refine lv_iconst (v := 0) hx hb dX6_city_28 (by decide) ?_
    refine lv_istore_n (lv' := [(1, .int (0 : Int32)), (0, .ref y0)]) hx hb dX6_city_29 rfl hl (by decide) rfl (fun ls hl => ?_)
    exact J_30  130 (0 : Int32) dd_34 dd_35 dd_34 dd_35 dd_36 dd_37 Y_ac Y_st Y_kd Y_fs Y_fl Y_now dd_38 dd_39 dd_40 Y_ik _ _ _ h hP hS (lv_sub hl [1, 0] rfl)
  · replace h := if_f cc_42 h
    refine lv_bipush (v := (-3)) hx hb dX6_city_9 (by decide) ?_
    cases h
    exact W.iret hx hb hr (fun t ht _ => ⟨⟨_, (), rfl, rfl, by show va_P G.1 vwCl _ t.heap; rw [ht]; exact hP⟩, hS.F ht⟩) hS.2.2 dX6_city_11
