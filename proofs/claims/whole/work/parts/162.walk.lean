def f_X6_thousandTo_4 : Nat → Int32 → Int64 → Int32 → Option (Int64)
  | 0, _, _, _ => none
  | fu + 1, v0, v1, v3 => if v0 ≤ v3 then (some v1) else (f_X6_thousandTo_4 fu v0 (v1 * (1000 : Int64)) (v3 + 1))
def f_X6_thousandTo (u1 : Int32) : Option (Int64) := f_X6_thousandTo_4  130 u1 (1 : Int64) (0 : Int32)
set_option maxRecDepth 100000 in
set_option maxHeartbeats 4000000 in
theorem k_X6_thousandTo (l : Launch) (G : Gt) (u1 : Int32) (r_ : Int64) (h : f_X6_thousandTo u1 = some r_) : CT l yX6_thousandTo wsX6_thousandTo 0 0 G [.int u1] (W_0 G) (QL G r_ (W_0 G)) := by
  refine met_of cX6_thousandTo 4 (some .long) (by decide) rfl (Nat.le_of_ble_eq_true rfl) ?_
  intro p e s m below meth c A ls hx hb hr hml hts hown hlocks hK hA hD hP hS hl
  replace hown : s.vm.findClass RX6 = some m.cls := hown
  replace hl : lv_has ls 4 [(0, .int u1)] := hl
  have S0 : CallFix p m c cX6_thousandTo 4 s _ wsX6_thousandTo RX6 := ⟨hx, hb, hml, hown, hts⟩
  have cl171 := hts (.constantLong RX6 171 (1000)) (by decide +kernel)
  have J_4 : ∀ (fu : Nat), ∀ (v0 : Int32) (v1 : Int64) (v3 : Int32) (H : Heap) (locs : List Loc) (ls : Array Slot), f_X6_thousandTo_4 fu v0 v1 v3 = some r_ → va_P G.1 vwCl (W_0 G) H → va_S A s.heap H locs → lv_has ls 4 [(0, .int v0), (1, .long v1), (3, .int v3)] → W p l e (rmv 0 0) s m (List.toArray [.int u1]) below meth c H locs 0 0 (MQ below ((QL G r_ (W_0 G)) A) (List.toArray [.int u1]) s 0 0 A) (F0 m 4 ls []) := by
    intro  fu
    induction fu with
    | zero =>
      intro v0 v1 v3 H locs ls h
      cases h
    | succ fu ih =>
      intro v0 v1 v3 H locs ls h hP hS hl
      rw [f_X6_thousandTo_4] at h
      refine lv_iload_n hx hb dX6_thousandTo_4 rfl (lv_at hl 2 rfl) ?_
      refine lv_iload_n hx hb dX6_thousandTo_5 rfl (lv_at hl 0 rfl) ?_
      refine lv_icmp_ge (tgt := 21) hx hb dX6_thousandTo_6 (by decide) (fun cc_1 => ?_) (fun cc_1 => ?_)
      · replace h := if_t cc_1 h
        refine lv_lload_n hx hb dX6_thousandTo_21 rfl (lv_at hl 1 rfl) ?_
        cases h
        exact W.lret hx hb hr (fun t ht _ => ⟨⟨_, (), rfl, rfl, by show va_P G.1 vwCl _ t.heap; rw [ht]; exact hP⟩, hS.F ht⟩) hS.2.2 dX6_thousandTo_22
      · replace h := if_f cc_1 h
        refine lv_lload_n hx hb dX6_thousandTo_9 rfl (lv_at hl 1 rfl) ?_
        refine lv_ldc2 (v := 1000) hx hb hown cl171 dX6_thousandTo_10 ?_
        refine lv_lmul hx hb dX6_thousandTo_13 ?_
        refine lv_lstore_n (lv' := [(1, .long (v1 * (1000 : Int64))), (0, .int v0), (3, .int v3)]) hx hb dX6_thousandTo_14 rfl hl (by decide) rfl (fun ls hl => ?_)
        refine lv_iinc (v := (v3 + 1)) (lv' := [(3, .int (v3 + 1)), (1, .long (v1 * (1000 : Int64))), (0, .int v0)]) hx hb dX6_thousandTo_15 hl (k := 2) rfl rfl (by decide) rfl (fun ls hl => ?_)
        refine lv_goto (tgt := 4) hx hb dX6_thousandTo_18 (by decide) ?_
        exact ih v0 (v1 * (1000 : Int64)) (v3 + 1) _ _ _ h hP hS (lv_sub hl [2, 1, 0] rfl)
  unfold f_X6_thousandTo at h
  refine lv_lconst (v := 1) hx hb dX6_thousandTo_0 (by decide) ?_
  refine lv_lstore_n (lv' := [(1, .long (1 : Int64)), (0, .int u1)]) hx hb dX6_thousandTo_1 rfl hl (by decide) rfl (fun ls hl => ?_)
  refine lv_iconst (v := 0) hx hb dX6_thousandTo_2 (by decide) ?_
  refine lv_istore_n (lv' := [(3, .int (0 : Int32)), (1, .long (1 : Int64)), (0, .int u1)]) hx hb dX6_thousandTo_3 rfl hl (by decide) rfl (fun ls hl => ?_)
  exact J_4  130 u1 (1 : Int64) (0 : Int32) _ _ _ h hP hS (lv_sub hl [2, 1, 0] rfl)
def f_X6_judge_36 (Y_br : Int32) (Y_fa : Int32) (Y_wk : Int32) (Y_st : Nat → Int32) (Y_kd : Nat → Int32) (Y_fs : Nat → Int32) (Y_fl : Nat → Int32) : Nat → Int32 → Int64 → Int32 → (Nat → Int32) → Option (Int32 × (Nat → Int32))
  | 0, _, _, _, _ => none
  | fu + 1, v1, v2, v4, Y_now => if v1 ≤ v4 then (some (((-9) : Int32), Y_now)) else (bnd1 (f_X6_thousandTo ((v1 - (1 : Int32)) - v4)) (fun rr_2 => if rr_2 = 0 then none else (nm (((v2 / rr_2) - (v2 / rr_2) / (1000 : Int64) * (1000 : Int64)).toInt32) (fun zz_5 => bnd2 (f_X6_tryThing Y_br Y_fa Y_wk Y_st Y_kd Y_fs Y_fl Y_now (zz_5 / (100 : Int32)) ((zz_5 / (10 : Int32)) - (zz_5 / (10 : Int32)) / (10 : Int32) * (10 : Int32)) (zz_5 - zz_5 / (10 : Int32) * (10 : Int32))) (fun rr_7 dd_8 => if rr_7 = 0 then (some (v4, dd_8)) else (f_X6_judge_36 Y_br Y_fa Y_wk Y_st Y_kd Y_fs Y_fl fu v1 v2 (v4 + 1) dd_8))))))
def f_X6_judge (Y_br : Int32) (Y_fa : Int32) (Y_wk : Int32) (Y_st : Nat → Int32) (Y_kd : Nat → Int32) (Y_fs : Nat → Int32) (Y_fl : Nat → Int32) (Y_now : Nat → Int32) (u1 : Int32) (u2 : Int64) : Option (Int32 × (Nat → Int32)) := bnd1 (f_X6_in (u1.toInt64) (1 : Int64) (4 : Int64)) (fun rr_11 => if rr_11 = 0 then (some (((-2) : Int32), Y_now)) else (bnd1 (f_X6_thousandTo u1) (fun rr_14 => bnd1 (f_X6_in u2 (0 : Int64) (rr_14 - (1 : Int64))) (fun rr_16 => if rr_16 = 0 then (some (((-2) : Int32), Y_now)) else (bnd1 (f_X6_layTrial Y_now) (fun dd_19 => f_X6_judge_36 Y_br Y_fa Y_wk Y_st Y_kd Y_fs Y_fl  130 u1 u2 (0 : Int32) dd_19))))))
set_option maxRecDepth 100000 in
set_option maxHeartbeats 4000000 in
theorem k_X6_judge (l : Launch) (G : Gt) (y0 y1 y2 y3 y4 y5 y6 y7 y8 y9 y10 y11 y12 y13 y14 y15 : Nat) (Y_br : Int32) (Y_fa : Int32) (Y_rbs : Int32) (Y_rfs : Int32) (Y_len : Int32) (Y_at : Int32) (Y_fau : Int32) (Y_wk : Int32) (Y_ac : Int32) (Y_nx : Int32) (Y_hs : Int32) (Y_sd : Int64) (Y_st : Nat → Int32) (Y_kd : Nat → Int32) (Y_fs : Nat → Int32) (Y_fl : Nat → Int32) (Y_now : Nat → Int32) (Y_rd : Nat → Int32) (Y_rb : Nat → Int32) (Y_rf : Nat → Int32) (Y_tx : Nat → Int32) (Y_row : Nat → Int32) (Y_hh : Nat → Int32) (Y_hl : Nat → Int32) (Y_hw : Nat → Int32) (Y_ik : Nat → Int32) (Y_kp : Nat → Int32) (u1 : Int32) (u2 : Int64) (r_ : Int32) (o_Y_now : Nat → Int32) (h : f_X6_judge Y_br Y_fa Y_wk Y_st Y_kd Y_fs Y_fl Y_now u1 u2 = some (r_, o_Y_now)) : CT l yX6_judge wsX6_judge 5 120 G [.ref y0, .int u1, .long u2] (W_Y G y0 y1 y2 y3 y4 y5 y6 y7 y8 y9 y10 y11 y12 y13 y14 y15 Y_br Y_fa Y_rbs Y_rfs Y_len Y_at Y_fau Y_wk Y_ac Y_nx Y_hs Y_sd Y_st Y_kd Y_fs Y_fl Y_now Y_rd Y_rb Y_rf Y_tx Y_row Y_hh Y_hl Y_hw Y_ik Y_kp) (QI G r_ (W_Y G y0 y1 y2 y3 y4 y5 y6 y7 y8 y9 y10 y11 y12 y13 y14 y15 Y_br Y_fa Y_rbs Y_rfs Y_len Y_at Y_fau Y_wk Y_ac Y_nx Y_hs Y_sd Y_st Y_kd Y_fs Y_fl o_Y_now Y_rd Y_rb Y_rf Y_tx Y_row Y_hh Y_hl Y_hw Y_ik Y_kp)) := by
  refine met_of cX6_judge 6 (some .int) (by decide) rfl (Nat.le_of_ble_eq_true rfl) ?_
  intro p e s m below meth c A ls hx hb hr hml hts hown hlocks hK hA hD hP hS hl
  replace hown : s.vm.findClass RX6 = some m.cls := hown
  replace hl : lv_has ls 6 [(0, .ref y0), (1, .int u1), (2, .long u2)] := hl
  have S0 : CallFix p m c cX6_judge 6 s _ wsX6_judge RX6 := ⟨hx, hb, hml, hown, hts⟩
  have cw_X6_thousandTo := show CallB (rmv 5 120) s _ RX6 175 yX6_thousandTo cX6_thousandTo 4 (some .long) wsX6_thousandTo (rmv 0 0) 0 0 1 ∧ (Cond.static yX6_thousandTo).before _ s = true from va_cwS 1 hts gX6_judge_X6_thousandTo rfl rfl rfl (by decide +kernel) ⟨Nat.le_of_ble_eq_true rfl, Nat.le_of_ble_eq_true rfl⟩
  have cl171 := hts (.constantLong RX6 171 (1000)) (by decide +kernel)
  have cw_X6_tryThing := show CallW (rmv 5 120) s _ RX6 RX6 179 yX6_tryThing cX6_tryThing 7 (some .boolean) wsX6_tryThing (rmv 4 94) 0 0 3 from cwV 3 hts gX6_judge_X6_tryThing rfl rfl rfl (by decide +kernel) ⟨Nat.le_of_ble_eq_true rfl, Nat.le_of_ble_eq_true rfl⟩
  have cl173 := hts (.constantLong RX6 173 (4)) (by decide +kernel)
  have cw_X6_in := show CallB (rmv 5 120) s _ RX6 62 yX6_in cX6_in 6 (some .boolean) wsX6_in (rmv 0 0) 0 0 3 ∧ (Cond.static yX6_in).before _ s = true from va_cwS 3 hts gX6_judge_X6_in rfl rfl rfl (by decide +kernel) ⟨Nat.le_of_ble_eq_true rfl, Nat.le_of_ble_eq_true rfl⟩
  have cw_X6_layTrial := show CallW (rmv 5 120) s _ RX6 RX6 157 yX6_layTrial cX6_layTrial 2 none wsX6_layTrial (rmv 0 0) 0 0 0 from cwV 0 hts gX6_judge_X6_layTrial rfl rfl rfl (by decide +kernel) ⟨Nat.le_of_ble_eq_true rfl, Nat.le_of_ble_eq_true rfl⟩
  have J_36 : ∀ (fu : Nat), ∀ (v1 : Int32) (v2 : Int64) (v4 : Int32) (Y_now : Nat → Int32) (H : Heap) (locs : List Loc) (ls : Array Slot), f_X6_judge_36 Y_br Y_fa Y_wk Y_st Y_kd Y_fs Y_fl fu v1 v2 v4 Y_now = some (r_, o_Y_now) → va_P G.1 vwCl (W_Y G y0 y1 y2 y3 y4 y5 y6 y7 y8 y9 y10 y11 y12 y13 y14 y15 Y_br Y_fa Y_rbs Y_rfs Y_len Y_at Y_fau Y_wk Y_ac Y_nx Y_hs Y_sd Y_st Y_kd Y_fs Y_fl Y_now Y_rd Y_rb Y_rf Y_tx Y_row Y_hh Y_hl Y_hw Y_ik Y_kp) H → va_S A s.heap H locs → lv_has ls 6 [(0, .ref y0), (1, .int v1), (2, .long v2), (4, .int v4)] → W p l e (rmv 5 120) s m (List.toArray [.ref y0, .int u1, .long u2]) below meth c H locs 0 0 (MQ below ((QI G r_ (W_Y G y0 y1 y2 y3 y4 y5 y6 y7 y8 y9 y10 y11 y12 y13 y14 y15 Y_br Y_fa Y_rbs Y_rfs Y_len Y_at Y_fau Y_wk Y_ac Y_nx Y_hs Y_sd Y_st Y_kd Y_fs Y_fl o_Y_now Y_rd Y_rb Y_rf Y_tx Y_row Y_hh Y_hl Y_hw Y_ik Y_kp)) A) (List.toArray [.ref y0, .int u1, .long u2]) s 0 0 A) (F0 m 36 ls []) := by
    intro  fu
    induction fu with
    | zero =>
      intro v1 v2 v4 Y_now H locs ls h
      cases h
    | succ fu ih =>
      intro v1 v2 v4 Y_now H locs ls h hP hS hl
      rw [f_X6_judge_36] at h
      refine lv_iload hx hb dX6_judge_36 (lv_at hl 3 rfl) ?_
      refine lv_iload_n hx hb dX6_judge_38 rfl (lv_at hl 1 rfl) ?_
      refine lv_icmp_ge (tgt := 94) hx hb dX6_judge_39 (by decide) (fun cc_1 => ?_) (fun cc_1 => ?_)
      · replace h := if_t cc_1 h
        refine lv_bipush (v := (-9)) hx hb dX6_judge_94 (by decide) ?_
        cases h
        exact W.iret hx hb hr (fun t ht _ => ⟨⟨_, (), rfl, rfl, by show va_P G.1 vwCl _ t.heap; rw [ht]; exact hP⟩, hS.F ht⟩) hS.2.2 dX6_judge_96
      · replace h := if_f cc_1 h
        refine lv_lload_n hx hb dX6_judge_42 rfl (lv_at hl 2 rfl) ?_
        refine lv_iload_n hx hb dX6_judge_43 rfl (lv_at hl 1 rfl) ?_
        refine lv_iconst (v := 1) hx hb dX6_judge_44 (by decide) ?_
        refine lv_isub hx hb dX6_judge_45 ?_
        refine lv_iload hx hb dX6_judge_46 (lv_at hl 3 rfl) ?_
        refine lv_isub hx hb dX6_judge_48 ?_
        obtain ⟨rr_2, ee_3, h⟩ := bnd1_s h
        refine cSl (As := [.int ((v1 - (1 : Int32)) - v4)]) (rest := [.long v2]) S0 hK hA hP (va_D_same hD rfl) hS [] (k_X6_thousandTo l G ((v1 - (1 : Int32)) - v4) rr_2 ee_3) cw_X6_thousandTo rfl rfl (Nat.le_of_ble_eq_true rfl) rfl hl.1 rfl (Nat.le_of_ble_eq_true rfl) dX6_judge_49 ⟨Nat.zero_le _, Nat.zero_le _⟩ (fun H locs hP hS => ?_)
        replace hP : va_P G.1 vwCl (W_Y G y0 y1 y2 y3 y4 y5 y6 y7 y8 y9 y10 y11 y12 y13 y14 y15 Y_br Y_fa Y_rbs Y_rfs Y_len Y_at Y_fau Y_wk Y_ac Y_nx Y_hs Y_sd Y_st Y_kd Y_fs Y_fl Y_now Y_rd Y_rb Y_rf Y_tx Y_row Y_hh Y_hl Y_hw Y_ik Y_kp) H := hP
        by_cases cc_4 : rr_2 = 0
        · cases (if_t cc_4 h)
        replace h := if_f cc_4 h
        refine lv_ldiv hx hb dX6_judge_52 cc_4 ?_
        refine lv_ldc2 (v := 1000) hx hb hown cl171 dX6_judge_53 ?_
        refine lv_lrem hx hb dX6_judge_56 (by decide) ?_
        refine lv_l2i (v := ((v2 / rr_2) - (v2 / rr_2) / (1000 : Int64) * (1000 : Int64)).toInt32) hx hb dX6_judge_57 rfl ?_
        refine lv_topi (fun zz_5 ee_6 => ?_)
        replace h := nm_s ee_6 h
        refine lv_istore (lv' := [(5, .int zz_5), (0, .ref y0), (1, .int v1), (2, .long v2), (4, .int v4)]) hx hb dX6_judge_58 hl (by decide) rfl (fun ls hl => ?_)
        refine lv_aload_n hx hb dX6_judge_60 rfl (lv_at hl 1 rfl) ?_
        refine lv_iload hx hb dX6_judge_61 (lv_at hl 0 rfl) ?_
        refine lv_bipush (v := 100) hx hb dX6_judge_63 (by decide) ?_
        refine lv_idiv hx hb dX6_judge_65 (by decide) ?_
        refine lv_iload hx hb dX6_judge_66 (lv_at hl 0 rfl) ?_
        refine lv_bipush (v := 10) hx hb dX6_judge_68 (by decide) ?_
        refine lv_idiv hx hb dX6_judge_70 (by decide) ?_
        refine lv_bipush (v := 10) hx hb dX6_judge_71 (by decide) ?_
        refine lv_irem hx hb dX6_judge_73 (by decide) ?_
        refine lv_iload hx hb dX6_judge_74 (lv_at hl 0 rfl) ?_
        refine lv_bipush (v := 10) hx hb dX6_judge_76 (by decide) ?_
        refine lv_irem hx hb dX6_judge_78 (by decide) ?_
        obtain ⟨rr_7, dd_8, ee_9, h⟩ := bnd2_s h
        refine cFi (As := [.int (zz_5 / (100 : Int32)), .int ((zz_5 / (10 : Int32)) - (zz_5 / (10 : Int32)) / (10 : Int32) * (10 : Int32)), .int (zz_5 - zz_5 / (10 : Int32) * (10 : Int32))]) (rest := []) S0 hK hA hP (va_D_same hD rfl) hS (k_X6_tryThing l G y0 y1 y2 y3 y4 y5 y6 y7 y8 y9 y10 y11 y12 y13 y14 y15 Y_br Y_fa Y_rbs Y_rfs Y_len Y_at Y_fau Y_wk Y_ac Y_nx Y_hs Y_sd Y_st Y_kd Y_fs Y_fl Y_now Y_rd Y_rb Y_rf Y_tx Y_row Y_hh Y_hl Y_hw Y_ik Y_kp (zz_5 / (100 : Int32)) ((zz_5 / (10 : Int32)) - (zz_5 / (10 : Int32)) / (10 : Int32) * (10 : Int32)) (zz_5 - zz_5 / (10 : Int32) * (10 : Int32)) rr_7 dd_8 ee_9) cw_X6_tryThing 6 0 rfl rfl rfl rfl hl.1 rfl (Nat.le_of_ble_eq_true rfl) dX6_judge_79 ⟨Nat.zero_le _, Nat.zero_le _⟩ (fun H locs hP hS => ?_)
        replace hP : va_P G.1 vwCl (W_Y G y0 y1 y2 y3 y4 y5 y6 y7 y8 y9 y10 y11 y12 y13 y14 y15 Y_br Y_fa Y_rbs Y_rfs Y_len Y_at Y_fau Y_wk Y_ac Y_nx Y_hs Y_sd Y_st Y_kd Y_fs Y_fl dd_8 Y_rd Y_rb Y_rf Y_tx Y_row Y_hh Y_hl Y_hw Y_ik Y_kp) H := hP
        refine lv_if_ne (tgt := 88) hx hb dX6_judge_82 (by decide) (fun cc_10 => ?_) (fun cc_10 => ?_)
        · replace h := if_f cc_10 h
          refine lv_iinc (v := (v4 + 1)) (lv' := [(4, .int (v4 + 1)), (5, .int zz_5), (0, .ref y0), (1, .int v1), (2, .long v2)]) hx hb dX6_judge_88 hl (k := 4) rfl rfl (by decide) rfl (fun ls hl => ?_)
          refine lv_goto (tgt := 36) hx hb dX6_judge_91 (by decide) ?_
          exact ih v1 v2 (v4 + 1) dd_8 _ _ _ h hP hS (lv_sub hl [2, 3, 4, 0] rfl)
        · replace h := if_t cc_10 h
          refine lv_iload hx hb dX6_judge_85 (lv_at hl 4 rfl) ?_
          cases h
          exact W.iret hx hb hr (fun t ht _ => ⟨⟨_, (), rfl, rfl, by show va_P G.1 vwCl _ t.heap; rw [ht]; exact hP⟩, hS.F ht⟩) hS.2.2 dX6_judge_87
  unfold f_X6_judge at h
  refine lv_iload_n hx hb dX6_judge_0 rfl (lv_at hl 1 rfl) ?_
  refine lv_i2l (v := u1.toInt64) hx hb dX6_judge_1 rfl ?_
  refine lv_lconst (v := 1) hx hb dX6_judge_2 (by decide) ?_
  refine lv_ldc2 (v := 4) hx hb hown cl173 dX6_judge_3 ?_
  obtain ⟨rr_11, ee_12, h⟩ := bnd1_s h
  refine cSi (As := [.long (u1.toInt64), .long (1 : Int64), .long (4 : Int64)]) (rest := []) S0 hK hA hP (va_D_same hD rfl) hS [] (k_X6_in l G (u1.toInt64) (1 : Int64) (4 : Int64) rr_11 ee_12) cw_X6_in rfl rfl (Nat.le_of_ble_eq_true rfl) rfl hl.1 rfl (Nat.le_of_ble_eq_true rfl) dX6_judge_6 ⟨Nat.zero_le _, Nat.zero_le _⟩ (fun H locs hP hS => ?_)
  replace hP : va_P G.1 vwCl (W_Y G y0 y1 y2 y3 y4 y5 y6 y7 y8 y9 y10 y11 y12 y13 y14 y15 Y_br Y_fa Y_rbs Y_rfs Y_len Y_at Y_fau Y_wk Y_ac Y_nx Y_hs Y_sd Y_st Y_kd Y_fs Y_fl Y_now Y_rd Y_rb Y_rf Y_tx Y_row Y_hh Y_hl Y_hw Y_ik Y_kp) H := hP
  refine lv_if_eq (tgt := 26) hx hb dX6_judge_9 (by decide) (fun cc_13 => ?_) (fun cc_13 => ?_)
  · replace h := if_t cc_13 h
    refine lv_bipush (v := (-2)) hx hb dX6_judge_26 (by decide) ?_
    cases h
    exact W.iret hx hb hr (fun t ht _ => ⟨⟨_, (), rfl, rfl, by show va_P G.1 vwCl _ t.heap; rw [ht]; exact hP⟩, hS.F ht⟩) hS.2.2 dX6_judge_28
  · replace h := if_f cc_13 h
    refine lv_lload_n hx hb dX6_judge_12 rfl (lv_at hl 2 rfl) ?_
    refine lv_lconst (v := 0) hx hb dX6_judge_13 (by decide) ?_
    refine lv_iload_n hx hb dX6_judge_14 rfl (lv_at hl 1 rfl) ?_
    obtain ⟨rr_14, ee_15, h⟩ := bnd1_s h
    refine cSl (As := [.int u1]) (rest := [.long (0 : Int64), .long u2]) S0 hK hA hP (va_D_same hD rfl) hS [] (k_X6_thousandTo l G u1 rr_14 ee_15) cw_X6_thousandTo rfl rfl (Nat.le_of_ble_eq_true rfl) rfl hl.1 rfl (Nat.le_of_ble_eq_true rfl) dX6_judge_15 ⟨Nat.zero_le _, Nat.zero_le _⟩ (fun H locs hP hS => ?_)
    replace hP : va_P G.1 vwCl (W_Y G y0 y1 y2 y3 y4 y5 y6 y7 y8 y9 y10 y11 y12 y13 y14 y15 Y_br Y_fa Y_rbs Y_rfs Y_len Y_at Y_fau Y_wk Y_ac Y_nx Y_hs Y_sd Y_st Y_kd Y_fs Y_fl Y_now Y_rd Y_rb Y_rf Y_tx Y_row Y_hh Y_hl Y_hw Y_ik Y_kp) H := hP
    refine lv_lconst (v := 1) hx hb dX6_judge_18 (by decide) ?_
    refine lv_lsub hx hb dX6_judge_19 ?_
    obtain ⟨rr_16, ee_17, h⟩ := bnd1_s h
    refine cSi (As := [.long u2, .long (0 : Int64), .long (rr_14 - (1 : Int64))]) (rest := []) S0 hK hA hP (va_D_same hD rfl) hS [] (k_X6_in l G u2 (0 : Int64) (rr_14 - (1 : Int64)) rr_16 ee_17) cw_X6_in rfl rfl (Nat.le_of_ble_eq_true rfl) rfl hl.1 rfl (Nat.le_of_ble_eq_true rfl) dX6_judge_20 ⟨Nat.zero_le _, Nat.zero_le _⟩ (fun H locs hP hS => ?_)
    replace hP : va_P G.1 vwCl (W_Y G y0 y1 y2 y3 y4 y5 y6 y7 y8 y9 y10 y11 y12 y13 y14 y15 Y_br Y_fa Y_rbs Y_rfs Y_len Y_at Y_fau Y_wk Y_ac Y_nx Y_hs Y_sd Y_st Y_kd Y_fs Y_fl Y_now Y_rd Y_rb Y_rf Y_tx Y_row Y_hh Y_hl Y_hw Y_ik Y_kp) H := hP
    refine lv_if_ne (tgt := 29) hx hb dX6_judge_23 (by decide) (fun cc_18 => ?_) (fun cc_18 => ?_)
    · replace h := if_f cc_18 h
      refine lv_aload_n hx hb dX6_judge_29 rfl (lv_at hl 0 rfl) ?_
      obtain ⟨dd_19, ee_20, h⟩ := bnd1_s h
      refine cFv (As := []) (rest := []) S0 hK hA hP (va_D_same hD rfl) hS (k_X6_layTrial l G y0 y1 y2 y3 y4 y5 y6 y7 y8 y9 y10 y11 y12 y13 y14 y15 Y_br Y_fa Y_rbs Y_rfs Y_len Y_at Y_fau Y_wk Y_ac Y_nx Y_hs Y_sd Y_st Y_kd Y_fs Y_fl Y_now Y_rd Y_rb Y_rf Y_tx Y_row Y_hh Y_hl Y_hw Y_ik Y_kp dd_19 ee_20) cw_X6_layTrial 6 0 rfl rfl rfl rfl hl.1 rfl (Nat.le_of_ble_eq_true rfl) dX6_judge_30 ⟨Nat.zero_le _, Nat.zero_le _⟩ (fun H locs hP hS => ?_)
      replace hP : va_P G.1 vwCl (W_Y G y0 y1 y2 y3 y4 y5 y6 y7 y8 y9 y10 y11 y12 y13 y14 y15 Y_br Y_fa Y_rbs Y_rfs Y_len Y_at Y_fau Y_wk Y_ac Y_nx Y_hs Y_sd Y_st Y_kd Y_fs Y_fl dd_19 Y_rd Y_rb Y_rf Y_tx Y_row Y_hh Y_hl Y_hw Y_ik Y_kp) H := hP
      refine lv_iconst (v := 0) hx hb dX6_judge_33 (by decide) ?_
      refine lv_istore (lv' := [(4, .int (0 : Int32)), (0, .ref y0), (1, .int u1), (2, .long u2)]) hx hb dX6_judge_34 hl (by decide) rfl (fun ls hl => ?_)
      exact J_36  130 u1 u2 (0 : Int32) dd_19 _ _ _ h hP hS (lv_sub hl [1, 2, 3, 0] rfl)
    · replace h := if_t cc_18 h
      refine lv_bipush (v := (-2)) hx hb dX6_judge_26 (by decide) ?_
      cases h
      exact W.iret hx hb hr (fun t ht _ => ⟨⟨_, (), rfl, rfl, by show va_P G.1 vwCl _ t.heap; rw [ht]; exact hP⟩, hS.F ht⟩) hS.2.2 dX6_judge_28
