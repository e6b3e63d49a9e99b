def f_X6_sweep_71 (Y_wk : Int32) (Y_st : Nat → Int32) (Y_kd : Nat → Int32) (v1 : Int32) (v2 : Int32) (v3 : Int32) (v4 : Int32) (Y_now : Nat → Int32) : Option ((Nat → Int32)) := if v4 = (2 : Int32) then (bnd1 (rd Y_st 5 v2) (fun zz_2 => bnd2 (f_X6_takeOff Y_now v1 (v3 - (1 : Int32)) (zz_2 / (2 : Int32))) (fun rr_4 dd_5 => bnd1 (rd Y_st 5 v2) (fun zz_7 => bnd2 (f_X6_takeOff dd_5 v1 (v3 + (1 : Int32)) (zz_7 / (2 : Int32))) (fun rr_9 dd_10 => some dd_10))))) else (some Y_now)
def f_X6_sweep (Y_wk : Int32) (Y_st : Nat → Int32) (Y_kd : Nat → Int32) (Y_now : Nat → Int32) (u1 : Int32) (u2 : Int32) : Option ((Nat → Int32)) := bnd1 (rd Y_now 32 ((((16 : Int32) * u1) + (8 : Int32)) + u2)) (fun zz_12 => bnd1 (f_X6_worksAs Y_kd Y_now u1 u2) (fun rr_14 => bnd1 (f_X6_has Y_wk u2) (fun rr_16 => if rr_16 = 0 then (some Y_now) else (if rr_14 = (3 : Int32) then (some Y_now) else (bnd1 (rd Y_st 5 u2) (fun zz_20 => bnd2 (f_X6_takeOff Y_now u1 zz_12 zz_20) (fun rr_22 dd_23 => if rr_14 = (1 : Int32) then (bnd1 (f_X6_add dd_23 u1 (zz_12 + (1 : Int32)) rr_22) (fun dd_26 => f_X6_sweep_71 Y_wk Y_st Y_kd  u1 u2 zz_12 rr_14 dd_26)) else (f_X6_sweep_71 Y_wk Y_st Y_kd  u1 u2 zz_12 rr_14 dd_23))))))))
set_option maxRecDepth 100000 in
set_option maxHeartbeats 4000000 in
theorem k_X6_sweep (l : Launch) (G : Gt) (y0 y1 y2 y3 y4 y5 y6 y7 y8 y9 y10 y11 y12 y13 y14 y15 : Nat) (Y_br : Int32) (Y_fa : Int32) (Y_rbs : Int32) (Y_rfs : Int32) (Y_len : Int32) (Y_at : Int32) (Y_fau : Int32) (Y_wk : Int32) (Y_ac : Int32) (Y_nx : Int32) (Y_hs : Int32) (Y_sd : Int64) (Y_st : Nat → Int32) (Y_kd : Nat → Int32) (Y_fs : Nat → Int32) (Y_fl : Nat → Int32) (Y_now : Nat → Int32) (Y_rd : Nat → Int32) (Y_rb : Nat → Int32) (Y_rf : Nat → Int32) (Y_tx : Nat → Int32) (Y_row : Nat → Int32) (Y_hh : Nat → Int32) (Y_hl : Nat → Int32) (Y_hw : Nat → Int32) (Y_ik : Nat → Int32) (Y_kp : Nat → Int32) (u1 : Int32) (u2 : Int32) (o_Y_now : Nat → Int32) (h : f_X6_sweep Y_wk Y_st Y_kd Y_now u1 u2 = some o_Y_now) : CT l yX6_sweep wsX6_sweep 2 44 G [.ref y0, .int u1, .int u2] (W_Y G y0 y1 y2 y3 y4 y5 y6 y7 y8 y9 y10 y11 y12 y13 y14 y15 Y_br Y_fa Y_rbs Y_rfs Y_len Y_at Y_fau Y_wk Y_ac Y_nx Y_hs Y_sd Y_st Y_kd Y_fs Y_fl Y_now Y_rd Y_rb Y_rf Y_tx Y_row Y_hh Y_hl Y_hw Y_ik Y_kp) (QV G (W_Y G y0 y1 y2 y3 y4 y5 y6 y7 y8 y9 y10 y11 y12 y13 y14 y15 Y_br Y_fa Y_rbs Y_rfs Y_len Y_at Y_fau Y_wk Y_ac Y_nx Y_hs Y_sd Y_st Y_kd Y_fs Y_fl o_Y_now Y_rd Y_rb Y_rf Y_tx Y_row Y_hh Y_hl Y_hw Y_ik Y_kp)) := by
  refine met_of cX6_sweep 6 none (by decide) rfl (Nat.le_of_ble_eq_true rfl) ?_
  intro p e s m below meth c A ls hx hb hr hml hts hown hlocks hK hA hD hP hS hl
  replace hown : s.vm.findClass RX6 = some m.cls := hown
  replace hl : lv_has ls 6 [(0, .ref y0), (1, .int u1), (2, .int u2)] := hl
  have S0 : CallFix p m c cX6_sweep 6 s _ wsX6_sweep RX6 := ⟨hx, hb, hml, hown, hts⟩
  have fl7 := hts (.fieldLink RX6 7 "DustVoteModel" "strength" "[I") (by decide +kernel)
  have inX6 := show ∀ w ∈ wsX60, w ∈ wsX6_sweep from by decide +kernel
  have cw_X6_takeOff := show CallW (rmv 2 44) s _ RX6 RX6 111 yX6_takeOff cX6_takeOff 6 (some .int) wsX6_takeOff (rmv 0 0) 0 0 3 from cwV 3 hts gX6_sweep_X6_takeOff rfl rfl rfl (by decide +kernel) ⟨Nat.le_of_ble_eq_true rfl, Nat.le_of_ble_eq_true rfl⟩
  have fl22 := hts (.fieldLink RX6 22 "DustVoteModel" "now" "[I") (by decide +kernel)
  have cw_X6_worksAs := show CallW (rmv 2 44) s _ RX6 RX6 108 yX6_worksAs cX6_worksAs 4 (some .int) wsX6_worksAs (rmv 1 21) 0 0 2 from cwV 2 hts gX6_sweep_X6_worksAs rfl rfl rfl (by decide +kernel) ⟨Nat.le_of_ble_eq_true rfl, Nat.le_of_ble_eq_true rfl⟩
  have fl37 := hts (.fieldLink RX6 37 "DustVoteModel" "working" "I") (by decide +kernel)
  have cw_X6_has := show CallB (rmv 2 44) s _ RX6 104 yX6_has cX6_has 2 (some .boolean) wsX6_has (rmv 0 0) 0 0 2 ∧ (Cond.static yX6_has).before _ s = true from va_cwS 2 hts gX6_sweep_X6_has rfl rfl rfl (by decide +kernel) ⟨Nat.le_of_ble_eq_true rfl, Nat.le_of_ble_eq_true rfl⟩
  have cw_X6_add := show CallW (rmv 2 44) s _ RX6 RX6 115 yX6_add cX6_add 5 none wsX6_add (rmv 0 0) 0 0 3 from cwV 3 hts gX6_sweep_X6_add rfl rfl rfl (by decide +kernel) ⟨Nat.le_of_ble_eq_true rfl, Nat.le_of_ble_eq_true rfl⟩
  have J_71 : ∀ (v1 : Int32) (v2 : Int32) (v3 : Int32) (v4 : Int32) (Y_now : Nat → Int32) (H : Heap) (locs : List Loc) (ls : Array Slot), f_X6_sweep_71 Y_wk Y_st Y_kd v1 v2 v3 v4 Y_now = some o_Y_now → va_P G.1 vwCl (W_Y G y0 y1 y2 y3 y4 y5 y6 y7 y8 y9 y10 y11 y12 y13 y14 y15 Y_br Y_fa Y_rbs Y_rfs Y_len Y_at Y_fau Y_wk Y_ac Y_nx Y_hs Y_sd Y_st Y_kd Y_fs Y_fl Y_now Y_rd Y_rb Y_rf Y_tx Y_row Y_hh Y_hl Y_hw Y_ik Y_kp) H → va_S A s.heap H locs → lv_has ls 6 [(0, .ref y0), (1, .int v1), (2, .int v2), (3, .int v3), (4, .int v4)] → W p l e (rmv 2 44) s m (List.toArray [.ref y0, .int u1, .int u2]) below meth c H locs 0 0 (MQ below ((QV G (W_Y G y0 y1 y2 y3 y4 y5 y6 y7 y8 y9 y10 y11 y12 y13 y14 y15 Y_br Y_fa Y_rbs Y_rfs Y_len Y_at Y_fau Y_wk Y_ac Y_nx Y_hs Y_sd Y_st Y_kd Y_fs Y_fl o_Y_now Y_rd Y_rb Y_rf Y_tx Y_row Y_hh Y_hl Y_hw Y_ik Y_kp)) A) (List.toArray [.ref y0, .int u1, .int u2]) s 0 0 A) (F0 m 71 ls []) := by
    intro v1 v2 v3 v4 Y_now H locs ls h hP hS hl
    unfold f_X6_sweep_71 at h
    refine lv_iload hx hb dX6_sweep_71 (lv_at hl 4 rfl) ?_
    refine lv_iconst (v := 2) hx hb dX6_sweep_73 (by decide) ?_
    refine lv_icmp_ne (tgt := 111) hx hb dX6_sweep_74 (by decide) (fun cc_1 => ?_) (fun cc_1 => ?_)
    · replace h := if_f cc_1 h
      cases h
      exact W.vret hx hb hr (fun t ht _ => ⟨⟨(), rfl, trivial, by show va_P G.1 vwCl _ t.heap; rw [ht]; exact hP⟩, hS.F ht⟩) hS.2.2 dX6_sweep_111
    · replace h := if_t cc_1 h
      refine lv_aload_n hx hb dX6_sweep_77 rfl (lv_at hl 0 rfl) ?_
      refine lv_iload_n hx hb dX6_sweep_78 rfl (lv_at hl 1 rfl) ?_
      refine lv_iload_n hx hb dX6_sweep_79 rfl (lv_at hl 3 rfl) ?_
      refine lv_iconst (v := 1) hx hb dX6_sweep_80 (by decide) ?_
      refine lv_isub hx hb dX6_sweep_81 ?_
      refine lv_aload_n hx hb dX6_sweep_82 rfl (lv_at hl 0 rfl) ?_
      refine va_get (ci := 6) (C := RX6) (T := TX6) (N := 27) hx hb hts inX6 hown hK.1 hP 0 rfl rfl 2 (by decide) fl7 (fun _ h9 => h9) rfl dX6_sweep_83 ?_
      refine lv_iload_n hx hb dX6_sweep_86 rfl (lv_at hl 2 rfl) ?_
      obtain ⟨zz_2, ee_3, h⟩ := bnd1_s h
      refine wIald hx hb hK hP 1 rfl ee_3 dX6_sweep_87 ?_
      refine lv_iconst (v := 2) hx hb dX6_sweep_88 (by decide) ?_
      refine lv_idiv hx hb dX6_sweep_89 (by decide) ?_
      obtain ⟨rr_4, dd_5, ee_6, h⟩ := bnd2_s h
      refine cFi (As := [.int v1, .int (v3 - (1 : Int32)), .int (zz_2 / (2 : Int32))]) (rest := []) S0 hK hA hP (va_D_same hD rfl) hS (k_X6_takeOff l G y0 y1 y2 y3 y4 y5 y6 y7 y8 y9 y10 y11 y12 y13 y14 y15 Y_br Y_fa Y_rbs Y_rfs Y_len Y_at Y_fau Y_wk Y_ac Y_nx Y_hs Y_sd Y_st Y_kd Y_fs Y_fl Y_now Y_rd Y_rb Y_rf Y_tx Y_row Y_hh Y_hl Y_hw Y_ik Y_kp v1 (v3 - (1 : Int32)) (zz_2 / (2 : Int32)) rr_4 dd_5 ee_6) cw_X6_takeOff 6 0 rfl rfl rfl rfl hl.1 rfl (Nat.le_of_ble_eq_true rfl) dX6_sweep_90 ⟨Nat.zero_le _, Nat.zero_le _⟩ (fun H locs hP hS => ?_)
      replace hP : va_P G.1 vwCl (W_Y G y0 y1 y2 y3 y4 y5 y6 y7 y8 y9 y10 y11 y12 y13 y14 y15 Y_br Y_fa Y_rbs Y_rfs Y_len Y_at Y_fau Y_wk Y_ac Y_nx Y_hs Y_sd Y_st Y_kd Y_fs Y_fl dd_5 Y_rd Y_rb Y_rf Y_tx Y_row Y_hh Y_hl Y_hw Y_ik Y_kp) H := hP
      refine lv_pop hx hb dX6_sweep_93 rfl ?_
      refine lv_aload_n hx hb dX6_sweep_94 rfl (lv_at hl 0 rfl) ?_
      refine lv_iload_n hx hb dX6_sweep_95 rfl (lv_at hl 1 rfl) ?_
      refine lv_iload_n hx hb dX6_sweep_96 rfl (lv_at hl 3 rfl) ?_
      refine lv_iconst (v := 1) hx hb dX6_sweep_97 (by decide) ?_
      refine lv_iadd hx hb dX6_sweep_98 ?_
      refine lv_aload_n hx hb dX6_sweep_99 rfl (lv_at hl 0 rfl) ?_
      refine va_get (ci := 6) (C := RX6) (T := TX6) (N := 27) hx hb hts inX6 hown hK.1 hP 0 rfl rfl 2 (by decide) fl7 (fun _ h9 => h9) rfl dX6_sweep_100 ?_
      refine lv_iload_n hx hb dX6_sweep_103 rfl (lv_at hl 2 rfl) ?_
      obtain ⟨zz_7, ee_8, h⟩ := bnd1_s h
      refine wIald hx hb hK hP 1 rfl ee_8 dX6_sweep_104 ?_
      refine lv_iconst (v := 2) hx hb dX6_sweep_105 (by decide) ?_
      refine lv_idiv hx hb dX6_sweep_106 (by decide) ?_
      obtain ⟨rr_9, dd_10, ee_11, h⟩ := bnd2_s h
      refine cFi (As := [.int v1, .int (v3 + (1 : Int32)), .int (zz_7 / (2 : Int32))]) (rest := []) S0 hK hA hP (va_D_same hD rfl) hS (k_X6_takeOff l G y0 y1 y2 y3 y4 y5 y6 y7 y8 y9 y10 y11 y12 y13 y14 y15 Y_br Y_fa Y_rbs Y_rfs Y_len Y_at Y_fau Y_wk Y_ac Y_nx Y_hs Y_sd Y_st Y_kd Y_fs Y_fl dd_5 Y_rd Y_rb Y_rf Y_tx Y_row Y_hh Y_hl Y_hw Y_ik Y_kp v1 (v3 + (1 : Int32)) (zz_7 / (2 : Int32)) rr_9 dd_10 ee_11) cw_X6_takeOff 6 0 rfl rfl rfl rfl hl.1 rfl (Nat.le_of_ble_eq_true rfl) dX6_sweep_107 ⟨Nat.zero_le _, Nat.zero_le _⟩ (fun H locs hP hS => ?_)
      replace hP : va_P G.1 vwCl (W_Y G y0 y1 y2 y3 y4 y5 y6 y7 y8 y9 y10 y11 y12 y13 y14 y15 Y_br Y_fa Y_rbs Y_rfs Y_len Y_at Y_fau Y_wk Y_ac Y_nx Y_hs Y_sd Y_st Y_kd Y_fs Y_fl dd_10 Y_rd Y_rb Y_rf Y_tx Y_row Y_hh Y_hl Y_hw Y_ik Y_kp) H := hP
      refine lv_pop hx hb dX6_sweep_110 rfl ?_
      cases h
      exact W.vret hx hb hr (fun t ht _ => ⟨⟨(), rfl, trivial, by show va_P G.1 vwCl _ t.heap; rw [ht]; exact hP⟩, hS.F ht⟩) hS.2.2 dX6_sweep_111
  unfold f_X6_sweep at h
  refine lv_aload_n hx hb dX6_sweep_0 rfl (lv_at hl 0 rfl) ?_
  refine va_get (ci := 6) (C := RX6) (T := TX6) (N := 27) hx hb hts inX6 hown hK.1 hP 0 rfl rfl 6 (by decide) fl22 (fun _ h9 => h9) rfl dX6_sweep_1 ?_
  refine lv_bipush (v := 16) hx hb dX6_sweep_4 (by decide) ?_
  refine lv_iload_n hx hb dX6_sweep_6 rfl (lv_at hl 1 rfl) ?_
  refine lv_imul hx hb dX6_sweep_7 ?_
  refine lv_bipush (v := 8) hx hb dX6_sweep_8 (by decide) ?_
  refine lv_iadd hx hb dX6_sweep_10 ?_
  refine lv_iload_n hx hb dX6_sweep_11 rfl (lv_at hl 2 rfl) ?_
  refine lv_iadd hx hb dX6_sweep_12 ?_
  obtain ⟨zz_12, ee_13, h⟩ := bnd1_s h
  refine wIald hx hb hK hP 5 rfl ee_13 dX6_sweep_13 ?_
  refine lv_istore_n (lv' := [(3, .int zz_12), (0, .ref y0), (1, .int u1), (2, .int u2)]) hx hb dX6_sweep_14 rfl hl (by decide) rfl (fun ls hl => ?_)
  refine lv_aload_n hx hb dX6_sweep_15 rfl (lv_at hl 1 rfl) ?_
  refine lv_iload_n hx hb dX6_sweep_16 rfl (lv_at hl 2 rfl) ?_
  refine lv_iload_n hx hb dX6_sweep_17 rfl (lv_at hl 3 rfl) ?_
  obtain ⟨rr_14, ee_15, h⟩ := bnd1_s h
  refine cFi (As := [.int u1, .int u2]) (rest := []) S0 hK hA hP (va_D_same hD rfl) hS (k_X6_worksAs l G y0 y1 y2 y3 y4 y5 y6 y7 y8 y9 y10 y11 y12 y13 y14 y15 Y_br Y_fa Y_rbs Y_rfs Y_len Y_at Y_fau Y_wk Y_ac Y_nx Y_hs Y_sd Y_st Y_kd Y_fs Y_fl Y_now Y_rd Y_rb Y_rf Y_tx Y_row Y_hh Y_hl Y_hw Y_ik Y_kp u1 u2 rr_14 ee_15) cw_X6_worksAs 6 0 rfl rfl rfl rfl hl.1 rfl (Nat.le_of_ble_eq_true rfl) dX6_sweep_18 ⟨Nat.zero_le _, Nat.zero_le _⟩ (fun H locs hP hS => ?_)
  replace hP : va_P G.1 vwCl (W_Y G y0 y1 y2 y3 y4 y5 y6 y7 y8 y9 y10 y11 y12 y13 y14 y15 Y_br Y_fa Y_rbs Y_rfs Y_len Y_at Y_fau Y_wk Y_ac Y_nx Y_hs Y_sd Y_st Y_kd Y_fs Y_fl Y_now Y_rd Y_rb Y_rf Y_tx Y_row Y_hh Y_hl Y_hw Y_ik Y_kp) H := hP
  refine lv_istore (lv' := [(4, .int rr_14), (3, .int zz_12), (0, .ref y0), (1, .int u1), (2, .int u2)]) hx hb dX6_sweep_21 hl (by decide) rfl (fun ls hl => ?_)
  refine lv_aload_n hx hb dX6_sweep_23 rfl (lv_at hl 2 rfl) ?_
  refine va_get (ci := 6) (C := RX6) (T := TX6) (N := 27) hx hb hts inX6 hown hK.1 hP 0 rfl rfl 16 (by decide) fl37 (fun _ h9 => h9) rfl dX6_sweep_24 ?_
  refine lv_iload_n hx hb dX6_sweep_27 rfl (lv_at hl 4 rfl) ?_
  obtain ⟨rr_16, ee_17, h⟩ := bnd1_s h
  refine cSi (As := [.int Y_wk, .int u2]) (rest := []) S0 hK hA hP (va_D_same hD rfl) hS [] (k_X6_has l G Y_wk u2 rr_16 ee_17) cw_X6_has rfl rfl (Nat.le_of_ble_eq_true rfl) rfl hl.1 rfl (Nat.le_of_ble_eq_true rfl) dX6_sweep_28 ⟨Nat.zero_le _, Nat.zero_le _⟩ (fun H locs hP hS => ?_)
  replace hP : va_P G.1 vwCl (W_Y G y0 y1 y2 y3 y4 y5 y6 y7 y8 y9 y10 y11 y12 y13 y14 y15 Y_br Y_fa Y_rbs Y_rfs Y_len Y_at Y_fau Y_wk Y_ac Y_nx Y_hs Y_sd Y_st Y_kd Y_fs Y_fl Y_now Y_rd Y_rb Y_rf Y_tx Y_row Y_hh Y_hl Y_hw Y_ik Y_kp) H := hP
  refine lv_if_eq (tgt := 40) hx hb dX6_sweep_31 (by decide) (fun cc_18 => ?_) (fun cc_18 => ?_)
  · replace h := if_t cc_18 h
    cases h
    exact W.vret hx hb hr (fun t ht _ => ⟨⟨(), rfl, trivial, by show va_P G.1 vwCl _ t.heap; rw [ht]; exact hP⟩, hS.F ht⟩) hS.2.2 dX6_sweep_40
  · replace h := if_f cc_18 h
    refine lv_iload hx hb dX6_sweep_34 (lv_at hl 0 rfl) ?_
    refine lv_iconst (v := 3) hx hb dX6_sweep_36 (by decide) ?_
    refine lv_icmp_ne (tgt := 41) hx hb dX6_sweep_37 (by decide) (fun cc_19 => ?_) (fun cc_19 => ?_)
    · replace h := if_f cc_19 h
      refine lv_aload_n hx hb dX6_sweep_41 rfl (lv_at hl 2 rfl) ?_
      refine lv_iload_n hx hb dX6_sweep_42 rfl (lv_at hl 3 rfl) ?_
      refine lv_iload_n hx hb dX6_sweep_43 rfl (lv_at hl 1 rfl) ?_
      refine lv_aload_n hx hb dX6_sweep_44 rfl (lv_at hl 2 rfl) ?_
      refine va_get (ci := 6) (C := RX6) (T := TX6) (N := 27) hx hb hts inX6 hown hK.1 hP 0 rfl rfl 2 (by decide) fl7 (fun _ h9 => h9) rfl dX6_sweep_45 ?_
      refine lv_iload_n hx hb dX6_sweep_48 rfl (lv_at hl 4 rfl) ?_
      obtain ⟨zz_20, ee_21, h⟩ := bnd1_s h
      refine wIald hx hb hK hP 1 rfl ee_21 dX6_sweep_49 ?_
      obtain ⟨rr_22, dd_23, ee_24, h⟩ := bnd2_s h
      refine cFi (As := [.int u1, .int zz_12, .int zz_20]) (rest := []) S0 hK hA hP (va_D_same hD rfl) hS (k_X6_takeOff l G y0 y1 y2 y3 y4 y5 y6 y7 y8 y9 y10 y11 y12 y13 y14 y15 Y_br Y_fa Y_rbs Y_rfs Y_len Y_at Y_fau Y_wk Y_ac Y_nx Y_hs Y_sd Y_st Y_kd Y_fs Y_fl Y_now Y_rd Y_rb Y_rf Y_tx Y_row Y_hh Y_hl Y_hw Y_ik Y_kp u1 zz_12 zz_20 rr_22 dd_23 ee_24) cw_X6_takeOff 6 0 rfl rfl rfl rfl hl.1 rfl (Nat.le_of_ble_eq_true rfl) dX6_sweep_50 ⟨Nat.zero_le _, Nat.zero_le _⟩ (fun H locs hP hS => ?_)
      replace hP : va_P G.1 vwCl (W_Y G y0 y1 y2 y3 y4 y5 y6 y7 y8 y9 y10 y11 y12 y13 y14 y15 Y_br Y_fa Y_rbs Y_rfs Y_len Y_at Y_fau Y_wk Y_ac Y_nx Y_hs Y_sd Y_st Y_kd Y_fs Y_fl dd_23 Y_rd Y_rb Y_rf Y_tx Y_row Y_hh Y_hl Y_hw Y_ik Y_kp) H := hP
      refine lv_istore (lv' := [(5, .int rr_22), (4, .int rr_14), (3, .int zz_12), (0, .ref y0), (1, .int u1), (2, .int u2)]) hx hb dX6_sweep_53 hl (by decide) rfl (fun ls hl => ?_)
      refine lv_iload hx hb dX6_sweep_55 (lv_at hl 1 rfl) ?_
      refine lv_iconst (v := 1) hx hb dX6_sweep_57 (by decide) ?_
      refine lv_icmp_ne (tgt := 71) hx hb dX6_sweep_58 (by decide) (fun cc_25 => ?_) (fun cc_25 => ?_)
      · replace h := if_f cc_25 h
        exact J_71  u1 u2 zz_12 rr_14 dd_23 _ _ _ h hP hS (lv_sub hl [3, 4, 5, 2, 1] rfl)
      · replace h := if_t cc_25 h
        refine lv_aload_n hx hb dX6_sweep_61 rfl (lv_at hl 3 rfl) ?_
        refine lv_iload_n hx hb dX6_sweep_62 rfl (lv_at hl 4 rfl) ?_
        refine lv_iload_n hx hb dX6_sweep_63 rfl (lv_at hl 2 rfl) ?_
        refine lv_iconst (v := 1) hx hb dX6_sweep_64 (by decide) ?_
        refine lv_iadd hx hb dX6_sweep_65 ?_
        refine lv_iload hx hb dX6_sweep_66 (lv_at hl 0 rfl) ?_
        obtain ⟨dd_26, ee_27, h⟩ := bnd1_s h
        refine cFv (As := [.int u1, .int (zz_12 + (1 : Int32)), .int rr_22]) (rest := []) S0 hK hA hP (va_D_same hD rfl) hS (k_X6_add l G y0 y1 y2 y3 y4 y5 y6 y7 y8 y9 y10 y11 y12 y13 y14 y15 Y_br Y_fa Y_rbs Y_rfs Y_len Y_at Y_fau Y_wk Y_ac Y_nx Y_hs Y_sd Y_st Y_kd Y_fs Y_fl dd_23 Y_rd Y_rb Y_rf Y_tx Y_row Y_hh Y_hl Y_hw Y_ik Y_kp u1 (zz_12 + (1 : Int32)) rr_22 dd_26 ee_27) cw_X6_add 6 0 rfl rfl rfl rfl hl.1 rfl (Nat.le_of_ble_eq_true rfl) dX6_sweep_68 ⟨Nat.zero_le _, Nat.zero_le _⟩ (fun H locs hP hS => ?_)
        replace hP : va_P G.1 vwCl (W_Y G y0 y1 y2 y3 y4 y5 y6 y7 y8 y9 y10 y11 y12 y13 y14 y15 Y_br Y_fa Y_rbs Y_rfs Y_len Y_at Y_fau Y_wk Y_ac Y_nx Y_hs Y_sd Y_st Y_kd Y_fs Y_fl dd_26 Y_rd Y_rb Y_rf Y_tx Y_row Y_hh Y_hl Y_hw Y_ik Y_kp) H := hP
        exact J_71  u1 u2 zz_12 rr_14 dd_26 _ _ _ h hP hS (lv_sub hl [3, 4, 5, 2, 1] rfl)
    · replace h := if_t cc_19 h
      cases h
      exact W.vret hx hb hr (fun t ht _ => ⟨⟨(), rfl, trivial, by show va_P G.1 vwCl _ t.heap; rw [ht]; exact hP⟩, hS.F ht⟩) hS.2.2 dX6_sweep_40
