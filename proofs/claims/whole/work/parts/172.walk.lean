def f_X6_years_128 (Y_br : Int32) (Y_fa : Int32) (Y_wk : Int32) (Y_st : Nat → Int32) (Y_kd : Nat → Int32) (Y_fs : Nat → Int32) (Y_fl : Nat → Int32) (kk23 : Int32 → Int32 → Int32 → Int64 → (Nat → Int32) → Option (Int32 × Int64 × (Nat → Int32))) (v1 : Int32) (v2 : Int32) (v3 : Int32) (Y_sd : Int64) (Y_now : Nat → Int32) : Option (Int32 × Int64 × (Nat → Int32)) := bnd1 (f_X6_dustOn Y_now (1 : Int32)) (fun rr_1 => kk23 v1 (v2 + rr_1) (v3 + 1) Y_sd Y_now)
def f_X6_years_23 (Y_br : Int32) (Y_fa : Int32) (Y_wk : Int32) (Y_st : Nat → Int32) (Y_kd : Nat → Int32) (Y_fs : Nat → Int32) (Y_fl : Nat → Int32) : Nat → Int32 → Int32 → Int32 → Int64 → (Nat → Int32) → Option (Int32 × Int64 × (Nat → Int32))
  | 0, _, _, _, _, _ => none
  | fu + 1, v1, v2, v3, Y_sd, Y_now => if v1 ≤ v3 then (some (v2, Y_sd, Y_now)) else (nm ((Y_sd * (6364136223846793005 : Int64)) + (1442695040888963407 : Int64)) (fun zz_4 => nm ((((zz_4.toUInt64 >>> ((33 : Int32).toInt64.toUInt64 &&& Int64.toUInt64 63)).toInt64) - ((zz_4.toUInt64 >>> ((33 : Int32).toInt64.toUInt64 &&& Int64.toUInt64 63)).toInt64) / (32 : Int64) * (32 : Int64)).toInt32) (fun zz_6 => if zz_6 ≤ (18 : Int32) then (if zz_6 ≤ (10 : Int32) then (if zz_6 = (10 : Int32) then (bnd2 (f_X6_tryThing Y_br Y_fa Y_wk Y_st Y_kd Y_fs Y_fl Y_now (2 : Int32) (0 : Int32) (0 : Int32)) (fun rr_14 dd_15 => f_X6_years_128 Y_br Y_fa Y_wk Y_st Y_kd Y_fs Y_fl (f_X6_years_23 Y_br Y_fa Y_wk Y_st Y_kd Y_fs Y_fl fu) v1 v2 v3 zz_4 dd_15)) else (bnd2 (f_X6_tryThing Y_br Y_fa Y_wk Y_st Y_kd Y_fs Y_fl Y_now (1 : Int32) (zz_6 / (2 : Int32)) (zz_6 - zz_6 / (2 : Int32) * (2 : Int32))) (fun rr_11 dd_12 => f_X6_years_128 Y_br Y_fa Y_wk Y_st Y_kd Y_fs Y_fl (f_X6_years_23 Y_br Y_fa Y_wk Y_st Y_kd Y_fs Y_fl fu) v1 v2 v3 zz_4 dd_12))) else (bnd2 (f_X6_tryThing Y_br Y_fa Y_wk Y_st Y_kd Y_fs Y_fl Y_now (4 : Int32) (0 : Int32) (zz_6 - (11 : Int32))) (fun rr_17 dd_18 => f_X6_years_128 Y_br Y_fa Y_wk Y_st Y_kd Y_fs Y_fl (f_X6_years_23 Y_br Y_fa Y_wk Y_st Y_kd Y_fs Y_fl fu) v1 v2 v3 zz_4 dd_18))) else (bnd1 (f_X6_passOn Y_br Y_fa Y_wk Y_st Y_kd Y_fs Y_fl Y_now (1 : Int32) (1 : Int32)) (fun dd_20 => f_X6_years_128 Y_br Y_fa Y_wk Y_st Y_kd Y_fs Y_fl (f_X6_years_23 Y_br Y_fa Y_wk Y_st Y_kd Y_fs Y_fl fu) v1 v2 v3 zz_4 dd_20)))))
def f_X6_years (Y_br : Int32) (Y_fa : Int32) (Y_wk : Int32) (Y_sd : Int64) (Y_st : Nat → Int32) (Y_kd : Nat → Int32) (Y_fs : Nat → Int32) (Y_fl : Nat → Int32) (Y_now : Nat → Int32) (u1 : Int32) : Option (Int32 × Int64 × (Nat → Int32)) := bnd1 (f_X6_in (u1.toInt64) (1 : Int64) (30 : Int64)) (fun rr_22 => if rr_22 = 0 then (some (((-2) : Int32), Y_sd, Y_now)) else (bnd1 (f_X6_layTrial Y_now) (fun dd_25 => f_X6_years_23 Y_br Y_fa Y_wk Y_st Y_kd Y_fs Y_fl  130 u1 (0 : Int32) (0 : Int32) Y_sd dd_25)))
set_option maxRecDepth 100000 in
set_option maxHeartbeats 4000000 in
theorem k_X6_years (l : Launch) (G : Gt) (y0 y1 y2 y3 y4 y5 y6 y7 y8 y9 y10 y11 y12 y13 y14 y15 : Nat) (Y_br : Int32) (Y_fa : Int32) (Y_rbs : Int32) (Y_rfs : Int32) (Y_len : Int32) (Y_at : Int32) (Y_fau : Int32) (Y_wk : Int32) (Y_ac : Int32) (Y_nx : Int32) (Y_hs : Int32) (Y_sd : Int64) (Y_st : Nat → Int32) (Y_kd : Nat → Int32) (Y_fs : Nat → Int32) (Y_fl : Nat → Int32) (Y_now : Nat → Int32) (Y_rd : Nat → Int32) (Y_rb : Nat → Int32) (Y_rf : Nat → Int32) (Y_tx : Nat → Int32) (Y_row : Nat → Int32) (Y_hh : Nat → Int32) (Y_hl : Nat → Int32) (Y_hw : Nat → Int32) (Y_ik : Nat → Int32) (Y_kp : Nat → Int32) (u1 : Int32) (r_ : Int32) (o_Y_sd : Int64) (o_Y_now : Nat → Int32) (h : f_X6_years Y_br Y_fa Y_wk Y_sd Y_st Y_kd Y_fs Y_fl Y_now u1 = some (r_, o_Y_sd, o_Y_now)) : CT l yX6_years wsX6_years 5 120 G [.ref y0, .int u1] (W_Y G y0 y1 y2 y3 y4 y5 y6 y7 y8 y9 y10 y11 y12 y13 y14 y15 Y_br Y_fa Y_rbs Y_rfs Y_len Y_at Y_fau Y_wk Y_ac Y_nx Y_hs Y_sd Y_st Y_kd Y_fs Y_fl Y_now Y_rd Y_rb Y_rf Y_tx Y_row Y_hh Y_hl Y_hw Y_ik Y_kp) (QI G r_ (W_Y G y0 y1 y2 y3 y4 y5 y6 y7 y8 y9 y10 y11 y12 y13 y14 y15 Y_br Y_fa Y_rbs Y_rfs Y_len Y_at Y_fau Y_wk Y_ac Y_nx Y_hs o_Y_sd Y_st Y_kd Y_fs Y_fl o_Y_now Y_rd Y_rb Y_rf Y_tx Y_row Y_hh Y_hl Y_hw Y_ik Y_kp)) := by
  refine met_of cX6_years 5 (some .int) (by decide) rfl (Nat.le_of_ble_eq_true rfl) ?_
  intro p e s m below meth c A ls hx hb hr hml hts hown hlocks hK hA hD hP hS hl
  replace hown : s.vm.findClass RX6 = some m.cls := hown
  replace hl : lv_has ls 5 [(0, .ref y0), (1, .int u1)] := hl
  have S0 : CallFix p m c cX6_years 5 s _ wsX6_years RX6 := ⟨hx, hb, hml, hown, hts⟩
  have cw_X6_dustOn := show CallW (rmv 5 120) s _ RX6 RX6 146 yX6_dustOn cX6_dustOn 4 (some .int) wsX6_dustOn (rmv 0 0) 0 0 1 from cwV 1 hts gX6_years_X6_dustOn rfl rfl rfl (by decide +kernel) ⟨Nat.le_of_ble_eq_true rfl, Nat.le_of_ble_eq_true rfl⟩
  have fl209 := hts (.fieldLink RX6 209 "DustVoteModel" "seed" "J") (by decide +kernel)
  have inX6 := show ∀ w ∈ wsX60, w ∈ wsX6_years from by decide +kernel
  have cl213 := hts (.constantLong RX6 213 (6364136223846793005)) (by decide +kernel)
  have cl215 := hts (.constantLong RX6 215 (1442695040888963407)) (by decide +kernel)
  have cl217 := hts (.constantLong RX6 217 (32)) (by decide +kernel)
  have cw_X6_tryThing := show CallW (rmv 5 120) s _ RX6 RX6 179 yX6_tryThing cX6_tryThing 7 (some .boolean) wsX6_tryThing (rmv 4 94) 0 0 3 from cwV 3 hts gX6_years_X6_tryThing rfl rfl rfl (by decide +kernel) ⟨Nat.le_of_ble_eq_true rfl, Nat.le_of_ble_eq_true rfl⟩
  have cw_X6_passOn := show CallW (rmv 5 120) s _ RX6 RX6 143 yX6_passOn cX6_passOn 6 none wsX6_passOn (rmv 3 69) 0 0 2 from cwV 2 hts gX6_years_X6_passOn rfl rfl rfl (by decide +kernel) ⟨Nat.le_of_ble_eq_true rfl, Nat.le_of_ble_eq_true rfl⟩
  have cl155 := hts (.constantLong RX6 155 (30)) (by decide +kernel)
  have cw_X6_in := show CallB (rmv 5 120) s _ RX6 62 yX6_in cX6_in 6 (some .boolean) wsX6_in (rmv 0 0) 0 0 3 ∧ (Cond.static yX6_in).before _ s = true from va_cwS 3 hts gX6_years_X6_in rfl rfl rfl (by decide +kernel) ⟨Nat.le_of_ble_eq_true rfl, Nat.le_of_ble_eq_true rfl⟩
  have cw_X6_layTrial := show CallW (rmv 5 120) s _ RX6 RX6 157 yX6_layTrial cX6_layTrial 2 none wsX6_layTrial (rmv 0 0) 0 0 0 from cwV 0 hts gX6_years_X6_layTrial rfl rfl rfl (by decide +kernel) ⟨Nat.le_of_ble_eq_true rfl, Nat.le_of_ble_eq_true rfl⟩
  have J_128 : ∀ (kk23 : Int32 → Int32 → Int32 → Int64 → (Nat → Int32) → Option (Int32 × Int64 × (Nat → Int32))) (hk23 : ∀ (v1 : Int32) (v2 : Int32) (v3 : Int32) (Y_sd : Int64) (Y_now : Nat → Int32) (H : Heap) (locs : List Loc) (ls : Array Slot), kk23 v1 v2 v3 Y_sd Y_now = some (r_, o_Y_sd, o_Y_now) → va_P G.1 vwCl (W_Y G y0 y1 y2 y3 y4 y5 y6 y7 y8 y9 y10 y11 y12 y13 y14 y15 Y_br Y_fa Y_rbs Y_rfs Y_len Y_at Y_fau Y_wk Y_ac Y_nx Y_hs Y_sd Y_st Y_kd Y_fs Y_fl Y_now Y_rd Y_rb Y_rf Y_tx Y_row Y_hh Y_hl Y_hw Y_ik Y_kp) H → va_S A s.heap H locs → lv_has ls 5 [(0, .ref y0), (1, .int v1), (2, .int v2), (3, .int v3)] → W p l e (rmv 5 120) s m (List.toArray [.ref y0, .int u1]) below meth c H locs 0 0 (MQ below ((QI G r_ (W_Y G y0 y1 y2 y3 y4 y5 y6 y7 y8 y9 y10 y11 y12 y13 y14 y15 Y_br Y_fa Y_rbs Y_rfs Y_len Y_at Y_fau Y_wk Y_ac Y_nx Y_hs o_Y_sd Y_st Y_kd Y_fs Y_fl o_Y_now Y_rd Y_rb Y_rf Y_tx Y_row Y_hh Y_hl Y_hw Y_ik Y_kp)) A) (List.toArray [.ref y0, .int u1]) s 0 0 A) (F0 m 23 ls [])), ∀ (v1 : Int32) (v2 : Int32) (v3 : Int32) (Y_sd : Int64) (Y_now : Nat → Int32) (H : Heap) (locs : List Loc) (ls : Array Slot), f_X6_years_128 Y_br Y_fa Y_wk Y_st Y_kd Y_fs Y_fl kk23 v1 v2 v3 Y_sd Y_now = some (r_, o_Y_sd, o_Y_now) → va_P G.1 vwCl (W_Y G y0 y1 y2 y3 y4 y5 y6 y7 y8 y9 y10 y11 y12 y13 y14 y15 Y_br Y_fa Y_rbs Y_rfs Y_len Y_at Y_fau Y_wk Y_ac Y_nx Y_hs Y_sd Y_st Y_kd Y_fs Y_fl Y_now Y_rd Y_rb Y_rf Y_tx Y_row Y_hh Y_hl Y_hw Y_ik Y_kp) H → va_S A s.heap H locs → lv_has ls 5 [(0, .ref y0), (1, .int v1), (2, .int v2), (3, .int v3)] → W p l e (rmv 5 120) s m (List.toArray [.ref y0, .int u1]) below meth c H locs 0 0 (MQ below ((QI G r_ (W_Y G y0 y1 y2 y3 y4 y5 y6 y7 y8 y9 y10 y11 y12 y13 y14 y15 Y_br Y_fa Y_rbs Y_rfs Y_len Y_at Y_fau Y_wk Y_ac Y_nx Y_hs o_Y_sd Y_st Y_kd Y_fs Y_fl o_Y_now Y_rd Y_rb Y_rf Y_tx Y_row Y_hh Y_hl Y_hw Y_ik Y_kp)) A) (List.toArray [.ref y0, .int u1]) s 0 0 A) (F0 m 128 ls []) := by
    intro kk23 hk23 v1 v2 v3 Y_sd Y_now H locs ls h hP hS hl
    unfold f_X6_years_128 at h
    refine lv_iload_n hx hb dX6_years_128 rfl (lv_at hl 2 rfl) ?_
    refine lv_aload_n hx hb dX6_years_129 rfl (lv_at hl 0 rfl) ?_
    refine lv_iconst (v := 1) hx hb dX6_years_130 (by decide) ?_
    obtain ⟨rr_1, ee_2, h⟩ := bnd1_s h
    refine cFi (As := [.int (1 : Int32)]) (rest := [.int v2]) S0 hK hA hP (va_D_same hD rfl) hS (k_X6_dustOn l G y0 y1 y2 y3 y4 y5 y6 y7 y8 y9 y10 y11 y12 y13 y14 y15 Y_br Y_fa Y_rbs Y_rfs Y_len Y_at Y_fau Y_wk Y_ac Y_nx Y_hs Y_sd Y_st Y_kd Y_fs Y_fl Y_now Y_rd Y_rb Y_rf Y_tx Y_row Y_hh Y_hl Y_hw Y_ik Y_kp (1 : Int32) rr_1 ee_2) cw_X6_dustOn 6 0 rfl rfl rfl rfl hl.1 rfl (Nat.le_of_ble_eq_true rfl) dX6_years_131 ⟨Nat.zero_le _, Nat.zero_le _⟩ (fun H locs hP hS => ?_)
    replace hP : va_P G.1 vwCl (W_Y G y0 y1 y2 y3 y4 y5 y6 y7 y8 y9 y10 y11 y12 y13 y14 y15 Y_br Y_fa Y_rbs Y_rfs Y_len Y_at Y_fau Y_wk Y_ac Y_nx Y_hs Y_sd Y_st Y_kd Y_fs Y_fl Y_now Y_rd Y_rb Y_rf Y_tx Y_row Y_hh Y_hl Y_hw Y_ik Y_kp) H := hP
    refine lv_iadd hx hb dX6_years_134 ?_
    refine lv_istore_n (lv' := [(2, .int (v2 + rr_1)), (0, .ref y0), (1, .int v1), (3, .int v3)]) hx hb dX6_years_135 rfl hl (by decide) rfl (fun ls hl => ?_)
    refine lv_iinc (v := (v3 + 1)) (lv' := [(3, .int (v3 + 1)), (2, .int (v2 + rr_1)), (0, .ref y0), (1, .int v1)]) hx hb dX6_years_136 hl (k := 3) rfl rfl (by decide) rfl (fun ls hl => ?_)
    refine lv_goto (tgt := 23) hx hb dX6_years_139 (by decide) ?_
    exact hk23 v1 (v2 + rr_1) (v3 + 1) Y_sd Y_now _ _ _ h hP hS (lv_sub hl [2, 3, 1, 0] rfl)
  have J_23 : ∀ (fu : Nat), ∀ (v1 : Int32) (v2 : Int32) (v3 : Int32) (Y_sd : Int64) (Y_now : Nat → Int32) (H : Heap) (locs : List Loc) (ls : Array Slot), f_X6_years_23 Y_br Y_fa Y_wk Y_st Y_kd Y_fs Y_fl fu v1 v2 v3 Y_sd Y_now = some (r_, o_Y_sd, o_Y_now) → va_P G.1 vwCl (W_Y G y0 y1 y2 y3 y4 y5 y6 y7 y8 y9 y10 y11 y12 y13 y14 y15 Y_br Y_fa Y_rbs Y_rfs Y_len Y_at Y_fau Y_wk Y_ac Y_nx Y_hs Y_sd Y_st Y_kd Y_fs Y_fl Y_now Y_rd Y_rb Y_rf Y_tx Y_row Y_hh Y_hl Y_hw Y_ik Y_kp) H → va_S A s.heap H locs → lv_has ls 5 [(0, .ref y0), (1, .int v1), (2, .int v2), (3, .int v3)] → W p l e (rmv 5 120) s m (List.toArray [.ref y0, .int u1]) below meth c H locs 0 0 (MQ below ((QI G r_ (W_Y G y0 y1 y2 y3 y4 y5 y6 y7 y8 y9 y10 y11 y12 y13 y14 y15 Y_br Y_fa Y_rbs Y_rfs Y_len Y_at Y_fau Y_wk Y_ac Y_nx Y_hs o_Y_sd Y_st Y_kd Y_fs Y_fl o_Y_now Y_rd Y_rb Y_rf Y_tx Y_row Y_hh Y_hl Y_hw Y_ik Y_kp)) A) (List.toArray [.ref y0, .int u1]) s 0 0 A) (F0 m 23 ls []) := by
    intro  fu
    induction fu with
    | zero =>
      intro v1 v2 v3 Y_sd Y_now H locs ls h
      cases h
    | succ fu ih =>
      intro v1 v2 v3 Y_sd Y_now H locs ls h hP hS hl
      rw [f_X6_years_23] at h
      refine lv_iload_n hx hb dX6_years_23 rfl (lv_at hl 3 rfl) ?_
      refine lv_iload_n hx hb dX6_years_24 rfl (lv_at hl 1 rfl) ?_
      refine lv_icmp_ge (tgt := 142) hx hb dX6_years_25 (by decide) (fun cc_3 => ?_) (fun cc_3 => ?_)
      · replace h := if_t cc_3 h
        refine lv_iload_n hx hb dX6_years_142 rfl (lv_at hl 2 rfl) ?_
        cases h
        exact W.iret hx hb hr (fun t ht _ => ⟨⟨_, (), rfl, rfl, by show va_P G.1 vwCl _ t.heap; rw [ht]; exact hP⟩, hS.F ht⟩) hS.2.2 dX6_years_143
      · replace h := if_f cc_3 h
        refine lv_aload_n hx hb dX6_years_28 rfl (lv_at hl 0 rfl) ?_
        refine lv_aload_n hx hb dX6_years_29 rfl (lv_at hl 0 rfl) ?_
        refine va_get (ci := 6) (C := RX6) (T := TX6) (N := 27) hx hb hts inX6 hown hK.1 hP 0 rfl rfl 24 (by decide) fl209 (fun _ h9 => h9) rfl dX6_years_30 ?_
        refine lv_ldc2 (v := 6364136223846793005) hx hb hown cl213 dX6_years_33 ?_
        refine lv_lmul hx hb dX6_years_36 ?_
        refine lv_ldc2 (v := 1442695040888963407) hx hb hown cl215 dX6_years_37 ?_
        refine lv_ladd hx hb dX6_years_40 ?_
        refine lv_topl (fun zz_4 ee_5 => ?_)
        replace h := nm_s ee_5 h
        refine va_put (ci := 6) (ty := .long) (C := RX6) (T := TX6) (N := 27) hx hb hts inX6 tyX6 tyX6_ok nmX6 hown hK.1 hP (va_D_same hD rfl) hS 0 rfl rfl 24 (by decide) fl209 (fun _ h9 => h9) rfl (by decide +kernel) rfl rfl (Nat.le_of_ble_eq_true rfl) dX6_years_41 (fun H locs hP _ hS => ?_)
        replace hP : va_P G.1 vwCl (W_Y G y0 y1 y2 y3 y4 y5 y6 y7 y8 y9 y10 y11 y12 y13 y14 y15 Y_br Y_fa Y_rbs Y_rfs Y_len Y_at Y_fau Y_wk Y_ac Y_nx Y_hs zz_4 Y_st Y_kd Y_fs Y_fl Y_now Y_rd Y_rb Y_rf Y_tx Y_row Y_hh Y_hl Y_hw Y_ik Y_kp) H := hP
        refine lv_aload_n hx hb dX6_years_44 rfl (lv_at hl 0 rfl) ?_
        refine va_get (ci := 6) (C := RX6) (T := TX6) (N := 27) hx hb hts inX6 hown hK.1 hP 0 rfl rfl 24 (by decide) fl209 (fun _ h9 => h9) rfl dX6_years_45 ?_
        refine lv_bipush (v := 33) hx hb dX6_years_48 (by decide) ?_
        refine lv_lushr (v := (zz_4.toUInt64 >>> ((33 : Int32).toInt64.toUInt64 &&& Int64.toUInt64 63)).toInt64) hx hb dX6_years_50 rfl ?_
        refine lv_ldc2 (v := 32) hx hb hown cl217 dX6_years_51 ?_
        refine lv_lrem hx hb dX6_years_54 (by decide) ?_
        refine lv_l2i (v := (((zz_4.toUInt64 >>> ((33 : Int32).toInt64.toUInt64 &&& Int64.toUInt64 63)).toInt64) - ((zz_4.toUInt64 >>> ((33 : Int32).toInt64.toUInt64 &&& Int64.toUInt64 63)).toInt64) / (32 : Int64) * (32 : Int64)).toInt32) hx hb dX6_years_55 rfl ?_
        refine lv_topi (fun zz_6 ee_7 => ?_)
        replace h := nm_s ee_7 h
        refine lv_istore (lv' := [(4, .int zz_6), (0, .ref y0), (1, .int v1), (2, .int v2), (3, .int v3)]) hx hb dX6_years_56 hl (by decide) rfl (fun ls hl => ?_)
        refine lv_iload hx hb dX6_years_58 (lv_at hl 0 rfl) ?_
        refine lv_bipush (v := 18) hx hb dX6_years_60 (by decide) ?_
        refine lv_icmp_le (tgt := 74) hx hb dX6_years_62 (by decide) (fun cc_8 => ?_) (fun cc_8 => ?_)
        · replace h := if_t cc_8 h
          refine lv_iload hx hb dX6_years_74 (lv_at hl 0 rfl) ?_
          refine lv_bipush (v := 10) hx hb dX6_years_76 (by decide) ?_
          refine lv_icmp_le (tgt := 96) hx hb dX6_years_78 (by decide) (fun cc_9 => ?_) (fun cc_9 => ?_)
          · replace h := if_t cc_9 h
            refine lv_iload hx hb dX6_years_96 (lv_at hl 0 rfl) ?_
            refine lv_bipush (v := 10) hx hb dX6_years_98 (by decide) ?_
            refine lv_icmp_ne (tgt := 114) hx hb dX6_years_100 (by decide) (fun cc_10 => ?_) (fun cc_10 => ?_)
            · replace h := if_f cc_10 h
              refine lv_aload_n hx hb dX6_years_114 rfl (lv_at hl 1 rfl) ?_
              refine lv_iconst (v := 1) hx hb dX6_years_115 (by decide) ?_
              refine lv_iload hx hb dX6_years_116 (lv_at hl 0 rfl) ?_
              refine lv_iconst (v := 2) hx hb dX6_years_118 (by decide) ?_
              refine lv_idiv hx hb dX6_years_119 (by decide) ?_
              refine lv_iload hx hb dX6_years_120 (lv_at hl 0 rfl) ?_
              refine lv_iconst (v := 2) hx hb dX6_years_122 (by decide) ?_
              refine lv_irem hx hb dX6_years_123 (by decide) ?_
              obtain ⟨rr_11, dd_12, ee_13, h⟩ := bnd2_s h
              refine cFi (As := [.int (1 : Int32), .int (zz_6 / (2 : Int32)), .int (zz_6 - zz_6 / (2 : Int32) * (2 : Int32))]) (rest := []) S0 hK hA hP (va_D_same hD rfl) hS (k_X6_tryThing l G y0 y1 y2 y3 y4 y5 y6 y7 y8 y9 y10 y11 y12 y13 y14 y15 Y_br Y_fa Y_rbs Y_rfs Y_len Y_at Y_fau Y_wk Y_ac Y_nx Y_hs zz_4 Y_st Y_kd Y_fs Y_fl Y_now Y_rd Y_rb Y_rf Y_tx Y_row Y_hh Y_hl Y_hw Y_ik Y_kp (1 : Int32) (zz_6 / (2 : Int32)) (zz_6 - zz_6 / (2 : Int32) * (2 : Int32)) rr_11 dd_12 ee_13) cw_X6_tryThing 6 0 rfl rfl rfl rfl hl.1 rfl (Nat.le_of_ble_eq_true rfl) dX6_years_124 ⟨Nat.zero_le _, Nat.zero_le _⟩ (fun H locs hP hS => ?_)
              replace hP : va_P G.1 vwCl (W_Y G y0 y1 y2 y3 y4 y5 y6 y7 y8 y9 y10 y11 y12 y13 y14 y15 Y_br Y_fa Y_rbs Y_rfs Y_len Y_at Y_fau Y_wk Y_ac Y_nx Y_hs zz_4 Y_st Y_kd Y_fs Y_fl dd_12 Y_rd Y_rb Y_rf Y_tx Y_row Y_hh Y_hl Y_hw Y_ik Y_kp) H := hP
              refine lv_pop hx hb dX6_years_127 rfl ?_
              exact J_128 (f_X6_years_23 Y_br Y_fa Y_wk Y_st Y_kd Y_fs Y_fl fu) ih v1 v2 v3 zz_4 dd_12 _ _ _ h hP hS (lv_sub hl [1, 2, 3, 4] rfl)
            · replace h := if_t cc_10 h
              refine lv_aload_n hx hb dX6_years_103 rfl (lv_at hl 1 rfl) ?_
              refine lv_iconst (v := 2) hx hb dX6_years_104 (by decide) ?_
              refine lv_iconst (v := 0) hx hb dX6_years_105 (by decide) ?_
              refine lv_iconst (v := 0) hx hb dX6_years_106 (by decide) ?_
              obtain ⟨rr_14, dd_15, ee_16, h⟩ := bnd2_s h
              refine cFi (As := [.int (2 : Int32), .int (0 : Int32), .int (0 : Int32)]) (rest := []) S0 hK hA hP (va_D_same hD rfl) hS (k_X6_tryThing l G y0 y1 y2 y3 y4 y5 y6 y7 y8 y9 y10 y11 y12 y13 y14 y15 Y_br Y_fa Y_rbs Y_rfs Y_len Y_at Y_fau Y_wk Y_ac Y_nx Y_hs zz_4 Y_st Y_kd Y_fs Y_fl Y_now Y_rd Y_rb Y_rf Y_tx Y_row Y_hh Y_hl Y_hw Y_ik Y_kp (2 : Int32) (0 : Int32) (0 : Int32) rr_14 dd_15 ee_16) cw_X6_tryThing 6 0 rfl rfl rfl rfl hl.1 rfl (Nat.le_of_ble_eq_true rfl) dX6_years_107 ⟨Nat.zero_le _, Nat.zero_le _⟩ (fun H locs hP hS => ?_)
              replace hP : va_P G.1 vwCl (W_Y G y0 y1 y2 y3 y4 y5 y6 y7 y8 y9 y10 y11 y12 y13 y14 y15 Y_br Y_fa Y_rbs Y_rfs Y_len Y_at Y_fau Y_wk Y_ac Y_nx Y_hs zz_4 Y_st Y_kd Y_fs Y_fl dd_15 Y_rd Y_rb Y_rf Y_tx Y_row Y_hh Y_hl Y_hw Y_ik Y_kp) H := hP
              refine lv_pop hx hb dX6_years_110 rfl ?_
              refine lv_goto (tgt := 128) hx hb dX6_years_111 (by decide) ?_
              exact J_128 (f_X6_years_23 Y_br Y_fa Y_wk Y_st Y_kd Y_fs Y_fl fu) ih v1 v2 v3 zz_4 dd_15 _ _ _ h hP hS (lv_sub hl [1, 2, 3, 4] rfl)
          · replace h := if_f cc_9 h
            refine lv_aload_n hx hb dX6_years_81 rfl (lv_at hl 1 rfl) ?_
            refine lv_iconst (v := 4) hx hb dX6_years_82 (by decide) ?_
            refine lv_iconst (v := 0) hx hb dX6_years_83 (by decide) ?_
            refine lv_iload hx hb dX6_years_84 (lv_at hl 0 rfl) ?_
            refine lv_bipush (v := 11) hx hb dX6_years_86 (by decide) ?_
            refine lv_isub hx hb dX6_years_88 ?_
            obtain ⟨rr_17, dd_18, ee_19, h⟩ := bnd2_s h
            refine cFi (As := [.int (4 : Int32), .int (0 : Int32), .int (zz_6 - (11 : Int32))]) (rest := []) S0 hK hA hP (va_D_same hD rfl) hS (k_X6_tryThing l G y0 y1 y2 y3 y4 y5 y6 y7 y8 y9 y10 y11 y12 y13 y14 y15 Y_br Y_fa Y_rbs Y_rfs Y_len Y_at Y_fau Y_wk Y_ac Y_nx Y_hs zz_4 Y_st Y_kd Y_fs Y_fl Y_now Y_rd Y_rb Y_rf Y_tx Y_row Y_hh Y_hl Y_hw Y_ik Y_kp (4 : Int32) (0 : Int32) (zz_6 - (11 : Int32)) rr_17 dd_18 ee_19) cw_X6_tryThing 6 0 rfl rfl rfl rfl hl.1 rfl (Nat.le_of_ble_eq_true rfl) dX6_years_89 ⟨Nat.zero_le _, Nat.zero_le _⟩ (fun H locs hP hS => ?_)
            replace hP : va_P G.1 vwCl (W_Y G y0 y1 y2 y3 y4 y5 y6 y7 y8 y9 y10 y11 y12 y13 y14 y15 Y_br Y_fa Y_rbs Y_rfs Y_len Y_at Y_fau Y_wk Y_ac Y_nx Y_hs zz_4 Y_st Y_kd Y_fs Y_fl dd_18 Y_rd Y_rb Y_rf Y_tx Y_row Y_hh Y_hl Y_hw Y_ik Y_kp) H := hP
            refine lv_pop hx hb dX6_years_92 rfl ?_
            refine lv_goto (tgt := 128) hx hb dX6_years_93 (by decide) ?_
            exact J_128 (f_X6_years_23 Y_br Y_fa Y_wk Y_st Y_kd Y_fs Y_fl fu) ih v1 v2 v3 zz_4 dd_18 _ _ _ h hP hS (lv_sub hl [1, 2, 3, 4] rfl)
        · replace h := if_f cc_8 h
          refine lv_aload_n hx hb dX6_years_65 rfl (lv_at hl 1 rfl) ?_
          refine lv_iconst (v := 1) hx hb dX6_years_66 (by decide) ?_
          refine lv_iconst (v := 1) hx hb dX6_years_67 (by decide) ?_
          obtain ⟨dd_20, ee_21, h⟩ := bnd1_s h
          refine cFv (As := [.int (1 : Int32), .int (1 : Int32)]) (rest := []) S0 hK hA hP (va_D_same hD rfl) hS (k_X6_passOn l G y0 y1 y2 y3 y4 y5 y6 y7 y8 y9 y10 y11 y12 y13 y14 y15 Y_br Y_fa Y_rbs Y_rfs Y_len Y_at Y_fau Y_wk Y_ac Y_nx Y_hs zz_4 Y_st Y_kd Y_fs Y_fl Y_now Y_rd Y_rb Y_rf Y_tx Y_row Y_hh Y_hl Y_hw Y_ik Y_kp (1 : Int32) (1 : Int32) dd_20 ee_21) cw_X6_passOn 6 0 rfl rfl rfl rfl hl.1 rfl (Nat.le_of_ble_eq_true rfl) dX6_years_68 ⟨Nat.zero_le _, Nat.zero_le _⟩ (fun H locs hP hS => ?_)
          replace hP : va_P G.1 vwCl (W_Y G y0 y1 y2 y3 y4 y5 y6 y7 y8 y9 y10 y11 y12 y13 y14 y15 Y_br Y_fa Y_rbs Y_rfs Y_len Y_at Y_fau Y_wk Y_ac Y_nx Y_hs zz_4 Y_st Y_kd Y_fs Y_fl dd_20 Y_rd Y_rb Y_rf Y_tx Y_row Y_hh Y_hl Y_hw Y_ik Y_kp) H := hP
          refine lv_goto (tgt := 128) hx hb dX6_years_71 (by decide) ?_
          exact J_128 (f_X6_years_23 Y_br Y_fa Y_wk Y_st Y_kd Y_fs Y_fl fu) ih v1 v2 v3 zz_4 dd_20 _ _ _ h hP hS (lv_sub hl [1, 2, 3, 4] rfl)
  unfold f_X6_years at h
  refine lv_iload_n hx hb dX6_years_0 rfl (lv_at hl 1 rfl) ?_
  refine lv_i2l (v := u1.toInt64) hx hb dX6_years_1 rfl ?_
  refine lv_lconst (v := 1) hx hb dX6_years_2 (by decide) ?_
  refine lv_ldc2 (v := 30) hx hb hown cl155 dX6_years_3 ?_
  obtain ⟨rr_22, ee_23, h⟩ := bnd1_s h
  refine cSi (As := [.long (u1.toInt64), .long (1 : Int64), .long (30 : Int64)]) (rest := []) S0 hK hA hP (va_D_same hD rfl) hS [] (k_X6_in l G (u1.toInt64) (1 : Int64) (30 : Int64) rr_22 ee_23) cw_X6_in rfl rfl (Nat.le_of_ble_eq_true rfl) rfl hl.1 rfl (Nat.le_of_ble_eq_true rfl) dX6_years_6 ⟨Nat.zero_le _, Nat.zero_le _⟩ (fun H locs hP hS => ?_)
  replace hP : va_P G.1 vwCl (W_Y G y0 y1 y2 y3 y4 y5 y6 y7 y8 y9 y10 y11 y12 y13 y14 y15 Y_br Y_fa Y_rbs Y_rfs Y_len Y_at Y_fau Y_wk Y_ac Y_nx Y_hs Y_sd Y_st Y_kd Y_fs Y_fl Y_now Y_rd Y_rb Y_rf Y_tx Y_row Y_hh Y_hl Y_hw Y_ik Y_kp) H := hP
  refine lv_if_ne (tgt := 15) hx hb dX6_years_9 (by decide) (fun cc_24 => ?_) (fun cc_24 => ?_)
  · replace h := if_f cc_24 h
    refine lv_aload_n hx hb dX6_years_15 rfl (lv_at hl 0 rfl) ?_
    obtain ⟨dd_25, ee_26, h⟩ := bnd1_s h
    refine cFv (As := []) (rest := []) S0 hK hA hP (va_D_same hD rfl) hS (k_X6_layTrial l G y0 y1 y2 y3 y4 y5 y6 y7 y8 y9 y10 y11 y12 y13 y14 y15 Y_br Y_fa Y_rbs Y_rfs Y_len Y_at Y_fau Y_wk Y_ac Y_nx Y_hs Y_sd Y_st Y_kd Y_fs Y_fl Y_now Y_rd Y_rb Y_rf Y_tx Y_row Y_hh Y_hl Y_hw Y_ik Y_kp dd_25 ee_26) cw_X6_layTrial 6 0 rfl rfl rfl rfl hl.1 rfl (Nat.le_of_ble_eq_true rfl) dX6_years_16 ⟨Nat.zero_le _, Nat.zero_le _⟩ (fun H locs hP hS => ?_)
    replace hP : va_P G.1 vwCl (W_Y G y0 y1 y2 y3 y4 y5 y6 y7 y8 y9 y10 y11 y12 y13 y14 y15 Y_br Y_fa Y_rbs Y_rfs Y_len Y_at Y_fau Y_wk Y_ac Y_nx Y_hs Y_sd Y_st Y_kd Y_fs Y_fl dd_25 Y_rd Y_rb Y_rf Y_tx Y_row Y_hh Y_hl Y_hw Y_ik Y_kp) H := hP
    refine lv_iconst (v := 0) hx hb dX6_years_19 (by decide) ?_
    refine lv_istore_n (lv' := [(2, .int (0 : Int32)), (0, .ref y0), (1, .int u1)]) hx hb dX6_years_20 rfl hl (by decide) rfl (fun ls hl => ?_)
    refine lv_iconst (v := 0) hx hb dX6_years_21 (by decide) ?_
    refine lv_istore_n (lv' := [(3, .int (0 : Int32)), (2, .int (0 : Int32)), (0, .ref y0), (1, .int u1)]) hx hb dX6_years_22 rfl hl (by decide) rfl (fun ls hl => ?_)
    exact J_23  130 u1 (0 : Int32) (0 : Int32) Y_sd dd_25 _ _ _ h hP hS (lv_sub hl [2, 3, 1, 0] rfl)
  · replace h := if_t cc_24 h
    refine lv_bipush (v := (-2)) hx hb dX6_years_12 (by decide) ?_
    cases h
    exact W.iret hx hb hr (fun t ht _ => ⟨⟨_, (), rfl, rfl, by show va_P G.1 vwCl _ t.heap; rw [ht]; exact hP⟩, hS.F ht⟩) hS.2.2 dX6_years_14
