def f_X6_factorial_4 : Nat → Int32 → Int32 → Int32 → Option (Int32)
  | 0, _, _, _ => none
  | fu + 1, v0, v1, v2 => if v0 < v2 then (some v1) else (f_X6_factorial_4 fu v0 (v1 * v2) (v2 + 1))
def f_X6_factorial (u1 : Int32) : Option (Int32) := f_X6_factorial_4  130 u1 (1 : Int32) (2 : Int32)
set_option maxRecDepth 100000 in
set_option maxHeartbeats 4000000 in
theorem k_X6_factorial (l : Launch) (G : Gt) (u1 : Int32) (r_ : Int32) (h : f_X6_factorial u1 = some r_) : CT l yX6_factorial wsX6_factorial 0 0 G [.int u1] (W_0 G) (QI G r_ (W_0 G)) := by
  refine met_of cX6_factorial 3 (some .int) (by decide) rfl (Nat.le_of_ble_eq_true rfl) ?_
  intro p e s m below meth c A ls hx hb hr hml hts hown hlocks hK hA hD hP hS hl
  replace hown : s.vm.findClass RX6 = some m.cls := hown
  replace hl : lv_has ls 3 [(0, .int u1)] := hl
  have S0 : CallFix p m c cX6_factorial 3 s _ wsX6_factorial RX6 := ⟨hx, hb, hml, hown, hts⟩
  have J_4 : ∀ (fu : Nat), ∀ (v0 : Int32) (v1 : Int32) (v2 : Int32) (H : Heap) (locs : List Loc) (ls : Array Slot), f_X6_factorial_4 fu v0 v1 v2 = some r_ → va_P G.1 vwCl (W_0 G) H → va_S A s.heap H locs → lv_has ls 3 [(0, .int v0), (1, .int v1), (2, .int v2)] → W p l e (rmv 0 0) s m (List.toArray [.int u1]) below meth c H locs 0 0 (MQ below ((QI G r_ (W_0 G)) A) (List.toArray [.int u1]) s 0 0 A) (F0 m 4 ls []) := by
    intro  fu
    induction fu with
    | zero =>
      intro v0 v1 v2 H locs ls h
      cases h
    | succ fu ih =>
      intro v0 v1 v2 H locs ls h hP hS hl
      rw [f_X6_factorial_4] at h
      refine lv_iload_n hx hb dX6_factorial_4 rfl (lv_at hl 2 rfl) ?_
      refine lv_iload_n hx hb dX6_factorial_5 rfl (lv_at hl 0 rfl) ?_
      refine lv_icmp_gt (tgt := 19) hx hb dX6_factorial_6 (by decide) (fun cc_1 => ?_) (fun cc_1 => ?_)
      · replace h := if_t cc_1 h
        refine lv_iload_n hx hb dX6_factorial_19 rfl (lv_at hl 1 rfl) ?_
        cases h
        exact W.iret hx hb hr (fun t ht _ => ⟨⟨_, (), rfl, rfl, by show va_P G.1 vwCl _ t.heap; rw [ht]; exact hP⟩, hS.F ht⟩) hS.2.2 dX6_factorial_20
      · replace h := if_f cc_1 h
        refine lv_iload_n hx hb dX6_factorial_9 rfl (lv_at hl 1 rfl) ?_
        refine lv_iload_n hx hb dX6_factorial_10 rfl (lv_at hl 2 rfl) ?_
        refine lv_imul hx hb dX6_factorial_11 ?_
        refine lv_istore_n (lv' := [(1, .int (v1 * v2)), (0, .int v0), (2, .int v2)]) hx hb dX6_factorial_12 rfl hl (by decide) rfl (fun ls hl => ?_)
        refine lv_iinc (v := (v2 + 1)) (lv' := [(2, .int (v2 + 1)), (1, .int (v1 * v2)), (0, .int v0)]) hx hb dX6_factorial_13 hl (k := 2) rfl rfl (by decide) rfl (fun ls hl => ?_)
        refine lv_goto (tgt := 4) hx hb dX6_factorial_16 (by decide) ?_
        exact ih v0 (v1 * v2) (v2 + 1) _ _ _ h hP hS (lv_sub hl [2, 1, 0] rfl)
  unfold f_X6_factorial at h
  refine lv_iconst (v := 1) hx hb dX6_factorial_0 (by decide) ?_
  refine lv_istore_n (lv' := [(1, .int (1 : Int32)), (0, .int u1)]) hx hb dX6_factorial_1 rfl hl (by decide) rfl (fun ls hl => ?_)
  refine lv_iconst (v := 2) hx hb dX6_factorial_2 (by decide) ?_
  refine lv_istore_n (lv' := [(2, .int (2 : Int32)), (1, .int (1 : Int32)), (0, .int u1)]) hx hb dX6_factorial_3 rfl hl (by decide) rfl (fun ls hl => ?_)
  exact J_4  130 u1 (1 : Int32) (2 : Int32) _ _ _ h hP hS (lv_sub hl [2, 1, 0] rfl)
def f_X6_common_13 : Nat → Int32 → Int32 → Option (Int32)
  | 0, _, _ => none
  | fu + 1, v2, v3 => if v3 = 0 then (some v2) else (if v3 = 0 then none else (f_X6_common_13 fu v3 (v2 - v2 / v3 * v3)))
def f_X6_common_10 (v1 : Int32) (q0 : Int32) : Option (Int32) := f_X6_common_13  130 q0 v1
def f_X6_common (u1 : Int32) (u2 : Int32) : Option (Int32) := if 0 ≤ u1 then (f_X6_common_10  u2 u1) else (f_X6_common_10  u2 (-u1))
set_option maxRecDepth 100000 in
set_option maxHeartbeats 4000000 in
theorem k_X6_common (l : Launch) (G : Gt) (u1 : Int32) (u2 : Int32) (r_ : Int32) (h : f_X6_common u1 u2 = some r_) : CT l yX6_common wsX6_common 0 0 G [.int u1, .int u2] (W_0 G) (QI G r_ (W_0 G)) := by
  refine met_of cX6_common 5 (some .int) (by decide) rfl (Nat.le_of_ble_eq_true rfl) ?_
  intro p e s m below meth c A ls hx hb hr hml hts hown hlocks hK hA hD hP hS hl
  replace hown : s.vm.findClass RX6 = some m.cls := hown
  replace hl : lv_has ls 5 [(0, .int u1), (1, .int u2)] := hl
  have S0 : CallFix p m c cX6_common 5 s _ wsX6_common RX6 := ⟨hx, hb, hml, hown, hts⟩
  have J_13 : ∀ (fu : Nat), ∀ (v2 : Int32) (v3 : Int32) (H : Heap) (locs : List Loc) (ls : Array Slot), f_X6_common_13 fu v2 v3 = some r_ → va_P G.1 vwCl (W_0 G) H → va_S A s.heap H locs → lv_has ls 5 [(2, .int v2), (3, .int v3)] → W p l e (rmv 0 0) s m (List.toArray [.int u1, .int u2]) below meth c H locs 0 0 (MQ below ((QI G r_ (W_0 G)) A) (List.toArray [.int u1, .int u2]) s 0 0 A) (F0 m 13 ls []) := by
    intro  fu
    induction fu with
    | zero =>
      intro v2 v3 H locs ls h
      cases h
    | succ fu ih =>
      intro v2 v3 H locs ls h hP hS hl
      rw [f_X6_common_13] at h
      refine lv_iload_n hx hb dX6_common_13 rfl (lv_at hl 1 rfl) ?_
      refine lv_if_eq (tgt := 30) hx hb dX6_common_14 (by decide) (fun cc_1 => ?_) (fun cc_1 => ?_)
      · replace h := if_t cc_1 h
        refine lv_iload_n hx hb dX6_common_30 rfl (lv_at hl 0 rfl) ?_
        cases h
        exact W.iret hx hb hr (fun t ht _ => ⟨⟨_, (), rfl, rfl, by show va_P G.1 vwCl _ t.heap; rw [ht]; exact hP⟩, hS.F ht⟩) hS.2.2 dX6_common_31
      · replace h := if_f cc_1 h
        refine lv_iload_n hx hb dX6_common_17 rfl (lv_at hl 0 rfl) ?_
        refine lv_iload_n hx hb dX6_common_18 rfl (lv_at hl 1 rfl) ?_
        by_cases cc_2 : v3 = 0
        · cases (if_t cc_2 h)
        replace h := if_f cc_2 h
        refine lv_irem hx hb dX6_common_19 cc_2 ?_
        refine lv_istore (lv' := [(4, .int (v2 - v2 / v3 * v3)), (2, .int v2), (3, .int v3)]) hx hb dX6_common_20 hl (by decide) rfl (fun ls hl => ?_)
        refine lv_iload_n hx hb dX6_common_22 rfl (lv_at hl 2 rfl) ?_
        refine lv_istore_n (lv' := [(2, .int v3), (4, .int (v2 - v2 / v3 * v3)), (3, .int v3)]) hx hb dX6_common_23 rfl hl (by decide) rfl (fun ls hl => ?_)
        refine lv_iload hx hb dX6_common_24 (lv_at hl 1 rfl) ?_
        refine lv_istore_n (lv' := [(3, .int (v2 - v2 / v3 * v3)), (2, .int v3), (4, .int (v2 - v2 / v3 * v3))]) hx hb dX6_common_26 rfl hl (by decide) rfl (fun ls hl => ?_)
        refine lv_goto (tgt := 13) hx hb dX6_common_27 (by decide) ?_
        exact ih v3 (v2 - v2 / v3 * v3) _ _ _ h hP hS (lv_sub hl [1, 0] rfl)
  have J_10 : ∀ (v1 : Int32) (q0 : Int32) (H : Heap) (locs : List Loc) (ls : Array Slot), f_X6_common_10 v1 q0 = some r_ → va_P G.1 vwCl (W_0 G) H → va_S A s.heap H locs → lv_has ls 5 [(1, .int v1)] → W p l e (rmv 0 0) s m (List.toArray [.int u1, .int u2]) below meth c H locs 0 0 (MQ below ((QI G r_ (W_0 G)) A) (List.toArray [.int u1, .int u2]) s 0 0 A) (F0 m 10 ls [.int q0]) := by
    intro v1 q0 H locs ls h hP hS hl
    unfold f_X6_common_10 at h
    refine lv_istore_n (lv' := [(2, .int q0), (1, .int v1)]) hx hb dX6_common_10 rfl hl (by decide) rfl (fun ls hl => ?_)
    refine lv_iload_n hx hb dX6_common_11 rfl (lv_at hl 1 rfl) ?_
    refine lv_istore_n (lv' := [(3, .int v1), (2, .int q0), (1, .int v1)]) hx hb dX6_common_12 rfl hl (by decide) rfl (fun ls hl => ?_)
    exact J_13  130 q0 v1 _ _ _ h hP hS (lv_sub hl [1, 0] rfl)
  unfold f_X6_common at h
  refine lv_iload_n hx hb dX6_common_0 rfl (lv_at hl 0 rfl) ?_
  refine lv_if_ge (tgt := 9) hx hb dX6_common_1 (by decide) (fun cc_3 => ?_) (fun cc_3 => ?_)
  · replace h := if_t cc_3 h
    refine lv_iload_n hx hb dX6_common_9 rfl (lv_at hl 0 rfl) ?_
    exact J_10  u2 u1 _ _ _ h hP hS (lv_sub hl [1] rfl)
  · replace h := if_f cc_3 h
    refine lv_iload_n hx hb dX6_common_4 rfl (lv_at hl 0 rfl) ?_
    refine lv_ineg hx hb dX6_common_5 ?_
    refine lv_goto (tgt := 10) hx hb dX6_common_6 (by decide) ?_
    exact J_10  u2 (-u1) _ _ _ h hP hS (lv_sub hl [1] rfl)
def f_X6_dustBy (Y_br : Int32) (Y_fa : Int32) (Y_wk : Int32) (Y_st : Nat → Int32) (Y_kd : Nat → Int32) (Y_fs : Nat → Int32) (Y_fl : Nat → Int32) (Y_now : Nat → Int32) (u1 : Int32) : Option (Int32 × Int32 × (Nat → Int32)) := bnd1 (f_X6_layTrial Y_now) (fun dd_1 => bnd1 (f_X6_goOn Y_br Y_fa u1 Y_st Y_kd Y_fs Y_fl dd_1 (6 : Int32)) (fun dd_3 => bnd1 (f_X6_dustOn dd_3 (1 : Int32)) (fun rr_5 => some (rr_5, (31 : Int32), dd_3))))
set_option maxRecDepth 100000 in
set_option maxHeartbeats 4000000 in
theorem k_X6_dustBy (l : Launch) (G : Gt) (y0 y1 y2 y3 y4 y5 y6 y7 y8 y9 y10 y11 y12 y13 y14 y15 : Nat) (Y_br : Int32) (Y_fa : Int32) (Y_rbs : Int32) (Y_rfs : Int32) (Y_len : Int32) (Y_at : Int32) (Y_fau : Int32) (Y_wk : Int32) (Y_ac : Int32) (Y_nx : Int32) (Y_hs : Int32) (Y_sd : Int64) (Y_st : Nat → Int32) (Y_kd : Nat → Int32) (Y_fs : Nat → Int32) (Y_fl : Nat → Int32) (Y_now : Nat → Int32) (Y_rd : Nat → Int32) (Y_rb : Nat → Int32) (Y_rf : Nat → Int32) (Y_tx : Nat → Int32) (Y_row : Nat → Int32) (Y_hh : Nat → Int32) (Y_hl : Nat → Int32) (Y_hw : Nat → Int32) (Y_ik : Nat → Int32) (Y_kp : Nat → Int32) (u1 : Int32) (r_ : Int32) (o_Y_wk : Int32) (o_Y_now : Nat → Int32) (h : f_X6_dustBy Y_br Y_fa Y_wk Y_st Y_kd Y_fs Y_fl Y_now u1 = some (r_, o_Y_wk, o_Y_now)) : CT l yX6_dustBy wsX6_dustBy 5 116 G [.ref y0, .int u1] (W_Y G y0 y1 y2 y3 y4 y5 y6 y7 y8 y9 y10 y11 y12 y13 y14 y15 Y_br Y_fa Y_rbs Y_rfs Y_len Y_at Y_fau Y_wk Y_ac Y_nx Y_hs Y_sd Y_st Y_kd Y_fs Y_fl Y_now Y_rd Y_rb Y_rf Y_tx Y_row Y_hh Y_hl Y_hw Y_ik Y_kp) (QI G r_ (W_Y G y0 y1 y2 y3 y4 y5 y6 y7 y8 y9 y10 y11 y12 y13 y14 y15 Y_br Y_fa Y_rbs Y_rfs Y_len Y_at Y_fau o_Y_wk Y_ac Y_nx Y_hs Y_sd Y_st Y_kd Y_fs Y_fl o_Y_now Y_rd Y_rb Y_rf Y_tx Y_row Y_hh Y_hl Y_hw Y_ik Y_kp)) := by
  refine met_of cX6_dustBy 2 (some .int) (by decide) rfl (Nat.le_of_ble_eq_true rfl) ?_
  intro p e s m below meth c A ls hx hb hr hml hts hown hlocks hK hA hD hP hS hl
  replace hown : s.vm.findClass RX6 = some m.cls := hown
  replace hl : lv_has ls 2 [(0, .ref y0), (1, .int u1)] := hl
  have S0 : CallFix p m c cX6_dustBy 2 s _ wsX6_dustBy RX6 := ⟨hx, hb, hml, hown, hts⟩
  have fl37 := hts (.fieldLink RX6 37 "DustVoteModel" "working" "I") (by decide +kernel)
  have inX6 := show ∀ w ∈ wsX60, w ∈ wsX6_dustBy from by decide +kernel
  have cw_X6_layTrial := show CallW (rmv 5 116) s _ RX6 RX6 157 yX6_layTrial cX6_layTrial 2 none wsX6_layTrial (rmv 0 0) 0 0 0 from cwV 0 hts gX6_dustBy_X6_layTrial rfl rfl rfl (by decide +kernel) ⟨Nat.le_of_ble_eq_true rfl, Nat.le_of_ble_eq_true rfl⟩
  have cw_X6_goOn := show CallW (rmv 5 116) s _ RX6 RX6 160 yX6_goOn cX6_goOn 3 none wsX6_goOn (rmv 4 94) 0 0 1 from cwV 1 hts gX6_dustBy_X6_goOn rfl rfl rfl (by decide +kernel) ⟨Nat.le_of_ble_eq_true rfl, Nat.le_of_ble_eq_true rfl⟩
  have cw_X6_dustOn := show CallW (rmv 5 116) s _ RX6 RX6 146 yX6_dustOn cX6_dustOn 4 (some .int) wsX6_dustOn (rmv 0 0) 0 0 1 from cwV 1 hts gX6_dustBy_X6_dustOn rfl rfl rfl (by decide +kernel) ⟨Nat.le_of_ble_eq_true rfl, Nat.le_of_ble_eq_true rfl⟩
  unfold f_X6_dustBy at h
  refine lv_aload_n hx hb dX6_dustBy_0 rfl (lv_at hl 0 rfl) ?_
  refine lv_iload_n hx hb dX6_dustBy_1 rfl (lv_at hl 1 rfl) ?_
  refine va_put (ci := 6) (ty := .int) (C := RX6) (T := TX6) (N := 27) hx hb hts inX6 tyX6 tyX6_ok nmX6 hown hK.1 hP (va_D_same hD rfl) hS 0 rfl rfl 16 (by decide) fl37 (fun _ h9 => h9) rfl (by decide +kernel) rfl rfl (Nat.le_of_ble_eq_true rfl) dX6_dustBy_2 (fun H locs hP _ hS => ?_)
  replace hP : va_P G.1 vwCl (W_Y G y0 y1 y2 y3 y4 y5 y6 y7 y8 y9 y10 y11 y12 y13 y14 y15 Y_br Y_fa Y_rbs Y_rfs Y_len Y_at Y_fau u1 Y_ac Y_nx Y_hs Y_sd Y_st Y_kd Y_fs Y_fl Y_now Y_rd Y_rb Y_rf Y_tx Y_row Y_hh Y_hl Y_hw Y_ik Y_kp) H := hP
  refine lv_aload_n hx hb dX6_dustBy_5 rfl (lv_at hl 0 rfl) ?_
  obtain ⟨dd_1, ee_2, h⟩ := bnd1_s h
  refine cFv (As := []) (rest := []) S0 hK hA hP (va_D_same hD rfl) hS (k_X6_layTrial l G y0 y1 y2 y3 y4 y5 y6 y7 y8 y9 y10 y11 y12 y13 y14 y15 Y_br Y_fa Y_rbs Y_rfs Y_len Y_at Y_fau u1 Y_ac Y_nx Y_hs Y_sd Y_st Y_kd Y_fs Y_fl Y_now Y_rd Y_rb Y_rf Y_tx Y_row Y_hh Y_hl Y_hw Y_ik Y_kp dd_1 ee_2) cw_X6_layTrial 6 0 rfl rfl rfl rfl hl.1 rfl (Nat.le_of_ble_eq_true rfl) dX6_dustBy_6 ⟨Nat.zero_le _, Nat.zero_le _⟩ (fun H locs hP hS => ?_)
  replace hP : va_P G.1 vwCl (W_Y G y0 y1 y2 y3 y4 y5 y6 y7 y8 y9 y10 y11 y12 y13 y14 y15 Y_br Y_fa Y_rbs Y_rfs Y_len Y_at Y_fau u1 Y_ac Y_nx Y_hs Y_sd Y_st Y_kd Y_fs Y_fl dd_1 Y_rd Y_rb Y_rf Y_tx Y_row Y_hh Y_hl Y_hw Y_ik Y_kp) H := hP
  refine lv_aload_n hx hb dX6_dustBy_9 rfl (lv_at hl 0 rfl) ?_
  refine lv_bipush (v := 6) hx hb dX6_dustBy_10 (by decide) ?_
  obtain ⟨dd_3, ee_4, h⟩ := bnd1_s h
  refine cFv (As := [.int (6 : Int32)]) (rest := []) S0 hK hA hP (va_D_same hD rfl) hS (k_X6_goOn l G y0 y1 y2 y3 y4 y5 y6 y7 y8 y9 y10 y11 y12 y13 y14 y15 Y_br Y_fa Y_rbs Y_rfs Y_len Y_at Y_fau u1 Y_ac Y_nx Y_hs Y_sd Y_st Y_kd Y_fs Y_fl dd_1 Y_rd Y_rb Y_rf Y_tx Y_row Y_hh Y_hl Y_hw Y_ik Y_kp (6 : Int32) dd_3 ee_4) cw_X6_goOn 6 0 rfl rfl rfl rfl hl.1 rfl (Nat.le_of_ble_eq_true rfl) dX6_dustBy_12 ⟨Nat.zero_le _, Nat.zero_le _⟩ (fun H locs hP hS => ?_)
  replace hP : va_P G.1 vwCl (W_Y G y0 y1 y2 y3 y4 y5 y6 y7 y8 y9 y10 y11 y12 y13 y14 y15 Y_br Y_fa Y_rbs Y_rfs Y_len Y_at Y_fau u1 Y_ac Y_nx Y_hs Y_sd Y_st Y_kd Y_fs Y_fl dd_3 Y_rd Y_rb Y_rf Y_tx Y_row Y_hh Y_hl Y_hw Y_ik Y_kp) H := hP
  refine lv_aload_n hx hb dX6_dustBy_15 rfl (lv_at hl 0 rfl) ?_
  refine lv_bipush (v := 31) hx hb dX6_dustBy_16 (by decide) ?_
  refine va_put (ci := 6) (ty := .int) (C := RX6) (T := TX6) (N := 27) hx hb hts inX6 tyX6 tyX6_ok nmX6 hown hK.1 hP (va_D_same hD rfl) hS 0 rfl rfl 16 (by decide) fl37 (fun _ h9 => h9) rfl (by decide +kernel) rfl rfl (Nat.le_of_ble_eq_true rfl) dX6_dustBy_18 (fun H locs hP _ hS => ?_)
  replace hP : va_P G.1 vwCl (W_Y G y0 y1 y2 y3 y4 y5 y6 y7 y8 y9 y10 y11 y12 y13 y14 y15 Y_br Y_fa Y_rbs Y_rfs Y_len Y_at Y_fau (31 : Int32) Y_ac Y_nx Y_hs Y_sd Y_st Y_kd Y_fs Y_fl dd_3 Y_rd Y_rb Y_rf Y_tx Y_row Y_hh Y_hl Y_hw Y_ik Y_kp) H := hP
  refine lv_aload_n hx hb dX6_dustBy_21 rfl (lv_at hl 0 rfl) ?_
  refine lv_iconst (v := 1) hx hb dX6_dustBy_22 (by decide) ?_
  obtain ⟨rr_5, ee_6, h⟩ := bnd1_s h
  refine cFi (As := [.int (1 : Int32)]) (rest := []) S0 hK hA hP (va_D_same hD rfl) hS (k_X6_dustOn l G y0 y1 y2 y3 y4 y5 y6 y7 y8 y9 y10 y11 y12 y13 y14 y15 Y_br Y_fa Y_rbs Y_rfs Y_len Y_at Y_fau (31 : Int32) Y_ac Y_nx Y_hs Y_sd Y_st Y_kd Y_fs Y_fl dd_3 Y_rd Y_rb Y_rf Y_tx Y_row Y_hh Y_hl Y_hw Y_ik Y_kp (1 : Int32) rr_5 ee_6) cw_X6_dustOn 6 0 rfl rfl rfl rfl hl.1 rfl (Nat.le_of_ble_eq_true rfl) dX6_dustBy_23 ⟨Nat.zero_le _, Nat.zero_le _⟩ (fun H locs hP hS => ?_)
  replace hP : va_P G.1 vwCl (W_Y G y0 y1 y2 y3 y4 y5 y6 y7 y8 y9 y10 y11 y12 y13 y14 y15 Y_br Y_fa Y_rbs Y_rfs Y_len Y_at Y_fau (31 : Int32) Y_ac Y_nx Y_hs Y_sd Y_st Y_kd Y_fs Y_fl dd_3 Y_rd Y_rb Y_rf Y_tx Y_row Y_hh Y_hl Y_hw Y_ik Y_kp) H := hP
  cases h
  exact W.iret hx hb hr (fun t ht _ => ⟨⟨_, (), rfl, rfl, by show va_P G.1 vwCl _ t.heap; rw [ht]; exact hP⟩, hS.F ht⟩) hS.2.2 dX6_dustBy_26
