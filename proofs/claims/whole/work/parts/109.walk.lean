def f_X2_sweep (M_du : Nat → Int32) (u1 : Int32) (u2 : Int32) : Option (Int32 × (Nat → Int32)) := bnd1 (f_X5_isStreet u1) (fun rr_1 => if rr_1 = 0 then (some ((0 : Int32), M_du)) else (bnd1 (rd M_du 8 u1) (fun zz_4 => bnd1 (rd M_du 8 u1) (fun zz_6 => bnd1 (wr M_du 8 u1 (zz_6 - (if zz_4 < u2 then zz_4 else u2))) (fun dd_8 => some ((if zz_4 < u2 then zz_4 else u2), dd_8))))))
set_option maxRecDepth 100000 in
set_option maxHeartbeats 4000000 in
theorem k_X2_sweep (l : Launch) (G : Gt) (m0 m1 m2 m3 t0 t1 t2 t3 t4 t5 t6 : Nat) (M_gi : Int32) (M_be : Int32) (M_da : Int32) (M_du : Nat → Int32) (M_pl : Nat → Int32) (M_de : Nat → Int32) (T_br : Int32) (T_fa : Int32) (T_fd : Nat → Int32) (T_fp : Nat → Int32) (T_st : Nat → Int32) (T_kd : Nat → Int32) (T_fs : Nat → Int32) (T_fl : Nat → Int32) (u1 : Int32) (u2 : Int32) (r_ : Int32) (o_M_du : Nat → Int32) (h : f_X2_sweep M_du u1 u2 = some (r_, o_M_du)) : CT l yX2_sweep wsX2_sweep 1 21 G [.ref m0, .int u1, .int u2] (W_MT G m0 m1 m2 m3 t0 t1 t2 t3 t4 t5 t6 M_gi M_be M_da M_du M_pl M_de T_br T_fa T_fd T_fp T_st T_kd T_fs T_fl) (QI G r_ (W_MT G m0 m1 m2 m3 t0 t1 t2 t3 t4 t5 t6 M_gi M_be M_da o_M_du M_pl M_de T_br T_fa T_fd T_fp T_st T_kd T_fs T_fl)) := by
  refine met_of cX2_sweep 4 (some .int) (by decide) rfl (Nat.le_of_ble_eq_true rfl) ?_
  intro p e s m below meth c A ls hx hb hr hml hts hown hlocks hK hA hD hP hS hl
  replace hown : s.vm.findClass RX2 = some m.cls := hown
  replace hl : lv_has ls 4 [(0, .ref m0), (1, .int u1), (2, .int u2)] := hl
  have S0 : CallFix p m c cX2_sweep 4 s _ wsX2_sweep RX2 := ⟨hx, hb, hml, hown, hts⟩
  have cw_X5_isStreet := show va_CN (rmv 1 21) s _ RX2 51 yX5_isStreet "DustVote" cX5_isStreet 1 (some .boolean) wsX5_isStreet (rmv 0 0) 0 0 1 ∧ (Cond.static yX5_isStreet).before _ s = true ∧ True from ⟨va_cnB 1 hts gX2_sweep_X5_isStreet_n51 rfl rfl rfl (hK.m (by decide)) (hts (.initialized RX5) (by decide +kernel)) (by decide +kernel) ⟨Nat.le_of_ble_eq_true rfl, Nat.le_of_ble_eq_true rfl⟩, hts (.static yX5_isStreet) (by decide +kernel), trivial⟩
  have fl9 := hts (.fieldLink RX2 9 "DustVote$Moment" "dust" "[I") (by decide +kernel)
  have inX2 := show ∀ w ∈ wsX20, w ∈ wsX2_sweep from by decide +kernel
  have jmin1 := hts (.methodLink RX2 119 Lib.Math.min.name) (by decide +kernel)
  have jmin2 := hts (.static Lib.Math.min.name) (by decide +kernel)
  have jmin3 := hts (.initialized "java/lang/Math") (by decide +kernel)
  have jmin4 := hts (.code Lib.Math.min.name Lib.Math.min.code 2 (some .int)) (by decide +kernel)
  unfold f_X2_sweep at h
  refine lv_iload_n hx hb dX2_sweep_0 rfl (lv_at hl 1 rfl) ?_
  obtain ⟨rr_1, ee_2, h⟩ := bnd1_s h
  refine cNi (As := [.int u1]) (rest := []) S0 hK hA hP (va_D_same hD rfl) hS [] (k_X5_isStreet l G u1 rr_1 ee_2) cw_X5_isStreet rfl rfl (Nat.le_of_ble_eq_true rfl) rfl hl.1 rfl (Nat.le_of_ble_eq_true rfl) dX2_sweep_1 ⟨Nat.zero_le _, Nat.zero_le _⟩ (fun H locs hP hS => ?_)
  replace hP : va_P G.1 vwCl (W_MT G m0 m1 m2 m3 t0 t1 t2 t3 t4 t5 t6 M_gi M_be M_da M_du M_pl M_de T_br T_fa T_fd T_fp T_st T_kd T_fs T_fl) H := hP
  refine lv_if_ne (tgt := 9) hx hb dX2_sweep_4 (by decide) (fun cc_3 => ?_) (fun cc_3 => ?_)
  · replace h := if_f cc_3 h
    refine lv_iload_n hx hb dX2_sweep_9 rfl (lv_at hl 2 rfl) ?_
    refine lv_aload_n hx hb dX2_sweep_10 rfl (lv_at hl 0 rfl) ?_
    refine va_get (ci := 2) (C := RX2) (T := TX2) (N := 7) hx hb hts inX2 hown hK.1 hP 0 rfl rfl 1 (by decide) fl9 (fun _ h9 => h9) rfl dX2_sweep_11 ?_
    refine lv_iload_n hx hb dX2_sweep_14 rfl (lv_at hl 1 rfl) ?_
    obtain ⟨zz_4, ee_5, h⟩ := bnd1_s h
    refine wIald hx hb hK hP 1 rfl ee_5 dX2_sweep_15 ?_
    refine va_mmin hx hb (hml.trans hl.1.symm) hown jmin1 jmin2 jmin3 jmin4 (Nat.le_of_ble_eq_true rfl) (Nat.le_of_ble_eq_true rfl) (Nat.zero_le _) (Nat.zero_le _) dX2_sweep_16 ?_
    refine lv_istore_n (lv' := [(3, .int (if zz_4 < u2 then zz_4 else u2)), (0, .ref m0), (1, .int u1), (2, .int u2)]) hx hb dX2_sweep_19 rfl hl (by decide) rfl (fun ls hl => ?_)
    refine lv_aload_n hx hb dX2_sweep_20 rfl (lv_at hl 1 rfl) ?_
    refine va_get (ci := 2) (C := RX2) (T := TX2) (N := 7) hx hb hts inX2 hown hK.1 hP 0 rfl rfl 1 (by decide) fl9 (fun _ h9 => h9) rfl dX2_sweep_21 ?_
    refine lv_iload_n hx hb dX2_sweep_24 rfl (lv_at hl 2 rfl) ?_
    refine lv_dup2_11 hx hb dX2_sweep_25 rfl rfl ?_
    obtain ⟨zz_6, ee_7, h⟩ := bnd1_s h
    refine wIald hx hb hK hP 1 rfl ee_7 dX2_sweep_26 ?_
    refine lv_iload_n hx hb dX2_sweep_27 rfl (lv_at hl 0 rfl) ?_
    refine lv_isub hx hb dX2_sweep_28 ?_
    obtain ⟨dd_8, ee_9, h⟩ := bnd1_s h
    refine wIast hx hb hK hP (va_D_same hD rfl) hS 1 rfl ee_9 dX2_sweep_29 (fun H locs hP hS => ?_)
    replace hP : va_P G.1 vwCl (W_MT G m0 m1 m2 m3 t0 t1 t2 t3 t4 t5 t6 M_gi M_be M_da dd_8 M_pl M_de T_br T_fa T_fd T_fp T_st T_kd T_fs T_fl) H := hP
    refine lv_iload_n hx hb dX2_sweep_30 rfl (lv_at hl 0 rfl) ?_
    cases h
    exact W.iret hx hb hr (fun t ht _ => ⟨⟨_, (), rfl, rfl, by show va_P G.1 vwCl _ t.heap; rw [ht]; exact hP⟩, hS.F ht⟩) hS.2.2 dX2_sweep_31
  · replace h := if_t cc_3 h
    refine lv_iconst (v := 0) hx hb dX2_sweep_7 (by decide) ?_
    cases h
    exact W.iret hx hb hr (fun t ht _ => ⟨⟨_, (), rfl, rfl, by show va_P G.1 vwCl _ t.heap; rw [ht]; exact hP⟩, hS.F ht⟩) hS.2.2 dX2_sweep_8
def f_X2_rightOf (u1 : Int32) : Option (Int32) := some ((u1 + (1 : Int32)) &&& (7 : Int32))
set_option maxRecDepth 100000 in
set_option maxHeartbeats 4000000 in
theorem k_X2_rightOf (l : Launch) (G : Gt) (u1 : Int32) (r_ : Int32) (h : f_X2_rightOf u1 = some r_) : CT l yX2_rightOf wsX2_rightOf 0 0 G [.int u1] (W_0 G) (QI G r_ (W_0 G)) := by
  refine met_of cX2_rightOf 1 (some .int) (by decide) rfl (Nat.le_of_ble_eq_true rfl) ?_
  intro p e s m below meth c A ls hx hb hr hml hts hown hlocks hK hA hD hP hS hl
  replace hown : s.vm.findClass RX2 = some m.cls := hown
  replace hl : lv_has ls 1 [(0, .int u1)] := hl
  have S0 : CallFix p m c cX2_rightOf 1 s _ wsX2_rightOf RX2 := ⟨hx, hb, hml, hown, hts⟩
  unfold f_X2_rightOf at h
  refine lv_iload_n hx hb dX2_rightOf_0 rfl (lv_at hl 0 rfl) ?_
  refine lv_iconst (v := 1) hx hb dX2_rightOf_1 (by decide) ?_
  refine lv_iadd hx hb dX2_rightOf_2 ?_
  refine lv_bipush (v := 7) hx hb dX2_rightOf_3 (by decide) ?_
  refine lv_iand hx hb dX2_rightOf_5 ?_
  cases h
  exact W.iret hx hb hr (fun t ht _ => ⟨⟨_, (), rfl, rfl, by show va_P G.1 vwCl _ t.heap; rw [ht]; exact hP⟩, hS.F ht⟩) hS.2.2 dX2_rightOf_6
def f_X2_leftOf (u1 : Int32) : Option (Int32) := some (((u1 + (8 : Int32)) - (1 : Int32)) &&& (7 : Int32))
set_option maxRecDepth 100000 in
set_option maxHeartbeats 4000000 in
theorem k_X2_leftOf (l : Launch) (G : Gt) (u1 : Int32) (r_ : Int32) (h : f_X2_leftOf u1 = some r_) : CT l yX2_leftOf wsX2_leftOf 0 0 G [.int u1] (W_0 G) (QI G r_ (W_0 G)) := by
  refine met_of cX2_leftOf 1 (some .int) (by decide) rfl (Nat.le_of_ble_eq_true rfl) ?_
  intro p e s m below meth c A ls hx hb hr hml hts hown hlocks hK hA hD hP hS hl
  replace hown : s.vm.findClass RX2 = some m.cls := hown
  replace hl : lv_has ls 1 [(0, .int u1)] := hl
  have S0 : CallFix p m c cX2_leftOf 1 s _ wsX2_leftOf RX2 := ⟨hx, hb, hml, hown, hts⟩
  unfold f_X2_leftOf at h
  refine lv_iload_n hx hb dX2_leftOf_0 rfl (lv_at hl 0 rfl) ?_
  refine lv_bipush (v := 8) hx hb dX2_leftOf_1 (by decide) ?_
  refine lv_iadd hx hb dX2_leftOf_3 ?_
  refine lv_iconst (v := 1) hx hb dX2_leftOf_4 (by decide) ?_
  refine lv_isub hx hb dX2_leftOf_5 ?_
  refine lv_bipush (v := 7) hx hb dX2_leftOf_6 (by decide) ?_
  refine lv_iand hx hb dX2_leftOf_8 ?_
  cases h
  exact W.iret hx hb hr (fun t ht _ => ⟨⟨_, (), rfl, rfl, by show va_P G.1 vwCl _ t.heap; rw [ht]; exact hP⟩, hS.F ht⟩) hS.2.2 dX2_leftOf_9
def f_X2_work (M_gi : Int32) (M_be : Int32) (M_du : Nat → Int32) (M_pl : Nat → Int32) (T_br : Int32) (T_st : Nat → Int32) (T_kd : Nat → Int32) (u1 : Int32) : Option ((Nat → Int32)) := bnd1 (f_X2_placeOf M_pl T_br u1) (fun rr_1 => bnd1 (f_X4_strengthOf T_st u1) (fun rr_3 => bnd1 (f_X2_worksAs M_gi M_be T_kd u1) (fun rr_5 => if rr_5 = 0 then (bnd2 (f_X2_sweep M_du rr_1 rr_3) (fun rr_8 dd_9 => some dd_9)) else (if rr_5 = 1 then (bnd1 (f_X2_rightOf rr_1) (fun rr_12 => bnd2 (f_X2_sweep M_du rr_1 rr_3) (fun rr_14 dd_15 => bnd1 (f_X2_pour dd_15 rr_12 rr_14) (fun dd_17 => some dd_17)))) else (if rr_5 = 2 then (bnd2 (f_X2_sweep M_du rr_1 rr_3) (fun rr_20 dd_21 => bnd1 (f_X2_leftOf rr_1) (fun rr_23 => bnd2 (f_X2_sweep dd_21 rr_23 (rr_3 / (2 : Int32))) (fun rr_25 dd_26 => bnd1 (f_X2_rightOf rr_1) (fun rr_28 => bnd2 (f_X2_sweep dd_26 rr_28 (rr_3 / (2 : Int32))) (fun rr_30 dd_31 => some dd_31)))))) else (some M_du))))))
set_option maxRecDepth 100000 in
set_option maxHeartbeats 4000000 in
theorem k_X2_work (l : Launch) (G : Gt) (m0 m1 m2 m3 t0 t1 t2 t3 t4 t5 t6 : Nat) (M_gi : Int32) (M_be : Int32) (M_da : Int32) (M_du : Nat → Int32) (M_pl : Nat → Int32) (M_de : Nat → Int32) (T_br : Int32) (T_fa : Int32) (T_fd : Nat → Int32) (T_fp : Nat → Int32) (T_st : Nat → Int32) (T_kd : Nat → Int32) (T_fs : Nat → Int32) (T_fl : Nat → Int32) (u1 : Int32) (o_M_du : Nat → Int32) (h : f_X2_work M_gi M_be M_du M_pl T_br T_st T_kd u1 = some o_M_du) : CT l yX2_work wsX2_work 2 44 G [.ref m0, .int u1] (W_MT G m0 m1 m2 m3 t0 t1 t2 t3 t4 t5 t6 M_gi M_be M_da M_du M_pl M_de T_br T_fa T_fd T_fp T_st T_kd T_fs T_fl) (QV G (W_MT G m0 m1 m2 m3 t0 t1 t2 t3 t4 t5 t6 M_gi M_be M_da o_M_du M_pl M_de T_br T_fa T_fd T_fp T_st T_kd T_fs T_fl)) := by
  refine met_of cX2_work 4 none (by decide) rfl (Nat.le_of_ble_eq_true rfl) ?_
  intro p e s m below meth c A ls hx hb hr hml hts hown hlocks hK hA hD hP hS hl
  replace hown : s.vm.findClass RX2 = some m.cls := hown
  replace hl : lv_has ls 4 [(0, .ref m0), (1, .int u1)] := hl
  have S0 : CallFix p m c cX2_work 4 s _ wsX2_work RX2 := ⟨hx, hb, hml, hown, hts⟩
  have cw_X2_placeOf := show CallW (rmv 2 44) s _ RX2 RX2 68 yX2_placeOf cX2_placeOf 2 (some .int) wsX2_placeOf (rmv 1 21) 0 0 1 from cwV 1 hts gX2_work_X2_placeOf rfl rfl rfl (by decide +kernel) ⟨Nat.le_of_ble_eq_true rfl, Nat.le_of_ble_eq_true rfl⟩
  have fl33 := hts (.fieldLink RX2 33 "DustVote$Moment" "told" "LDustVote$Told;") (by decide +kernel)
  have inX2 := show ∀ w ∈ wsX20, w ∈ wsX2_work from by decide +kernel
  have cw_X4_strengthOf := show CallW (rmv 2 44) s _ RX2 RX4 109 yX4_strengthOf cX4_strengthOf 2 (some .int) wsX4_strengthOf (rmv 0 0) 0 0 1 from cwV 1 hts gX2_work_X4_strengthOf rfl rfl rfl (by decide +kernel) ⟨Nat.le_of_ble_eq_true rfl, Nat.le_of_ble_eq_true rfl⟩
  have cw_X2_worksAs := show CallW (rmv 2 44) s _ RX2 RX2 112 yX2_worksAs cX2_worksAs 3 (some .int) wsX2_worksAs (rmv 1 21) 0 0 1 from cwV 1 hts gX2_work_X2_worksAs rfl rfl rfl (by decide +kernel) ⟨Nat.le_of_ble_eq_true rfl, Nat.le_of_ble_eq_true rfl⟩
  have cw_X2_sweep := show CallW (rmv 2 44) s _ RX2 RX2 115 yX2_sweep cX2_sweep 4 (some .int) wsX2_sweep (rmv 1 21) 0 0 2 from cwV 2 hts gX2_work_X2_sweep rfl rfl rfl (by decide +kernel) ⟨Nat.le_of_ble_eq_true rfl, Nat.le_of_ble_eq_true rfl⟩
  have cw_X2_rightOf := show CallB (rmv 2 44) s _ RX2 80 yX2_rightOf cX2_rightOf 1 (some .int) wsX2_rightOf (rmv 0 0) 0 0 1 ∧ (Cond.static yX2_rightOf).before _ s = true from va_cwS 1 hts gX2_work_X2_rightOf rfl rfl rfl (by decide +kernel) ⟨Nat.le_of_ble_eq_true rfl, Nat.le_of_ble_eq_true rfl⟩
  have cw_X2_pour := show CallW (rmv 2 44) s _ RX2 RX2 106 yX2_pour cX2_pour 3 none wsX2_pour (rmv 1 21) 0 0 2 from cwV 2 hts gX2_work_X2_pour rfl rfl rfl (by decide +kernel) ⟨Nat.le_of_ble_eq_true rfl, Nat.le_of_ble_eq_true rfl⟩
  have cw_X2_leftOf := show CallB (rmv 2 44) s _ RX2 77 yX2_leftOf cX2_leftOf 1 (some .int) wsX2_leftOf (rmv 0 0) 0 0 1 ∧ (Cond.static yX2_leftOf).before _ s = true from va_cwS 1 hts gX2_work_X2_leftOf rfl rfl rfl (by decide +kernel) ⟨Nat.le_of_ble_eq_true rfl, Nat.le_of_ble_eq_true rfl⟩
  unfold f_X2_work at h
  refine lv_aload_n hx hb dX2_work_0 rfl (lv_at hl 0 rfl) ?_
  refine lv_iload_n hx hb dX2_work_1 rfl (lv_at hl 1 rfl) ?_
  obtain ⟨rr_1, ee_2, h⟩ := bnd1_s h
  refine cFi (As := [.int u1]) (rest := []) S0 hK hA hP (va_D_same hD rfl) hS (k_X2_placeOf l G m0 m1 m2 m3 t0 t1 t2 t3 t4 t5 t6 M_gi M_be M_da M_du M_pl M_de T_br T_fa T_fd T_fp T_st T_kd T_fs T_fl u1 rr_1 ee_2) cw_X2_placeOf 2 0 rfl rfl rfl rfl hl.1 rfl (Nat.le_of_ble_eq_true rfl) dX2_work_2 ⟨Nat.zero_le _, Nat.zero_le _⟩ (fun H locs hP hS => ?_)
  replace hP : va_P G.1 vwCl (W_MT G m0 m1 m2 m3 t0 t1 t2 t3 t4 t5 t6 M_gi M_be M_da M_du M_pl M_de T_br T_fa T_fd T_fp T_st T_kd T_fs T_fl) H := hP
  refine lv_istore_n (lv' := [(2, .int rr_1), (0, .ref m0), (1, .int u1)]) hx hb dX2_work_5 rfl hl (by decide) rfl (fun ls hl => ?_)
  refine lv_aload_n hx hb dX2_work_6 rfl (lv_at hl 1 rfl) ?_
  refine va_get (ci := 2) (C := RX2) (T := TX2) (N := 7) hx hb hts inX2 hown hK.1 hP 0 rfl rfl 0 (by decide) fl33 (fun _ h9 => h9) rfl dX2_work_7 ?_
  refine lv_iload_n hx hb dX2_work_10 rfl (lv_at hl 2 rfl) ?_
  obtain ⟨rr_3, ee_4, h⟩ := bnd1_s h
  refine cVi (As := [.int u1]) (rest := []) S0 hK hA hP (va_D_same hD rfl) hS [4, 5, 6, 7, 8, 9, 10] (k_X4_strengthOf l G t0 t1 t2 t3 t4 t5 t6 T_br T_fa T_fd T_fp T_st T_kd T_fs T_fl u1 rr_3 ee_4) cw_X4_strengthOf rfl rfl (Nat.le_of_ble_eq_true rfl) 4 0 rfl rfl rfl rfl hl.1 rfl (Nat.le_of_ble_eq_true rfl) dX2_work_11 ⟨Nat.zero_le _, Nat.zero_le _⟩ (fun H locs hP hS => ?_)
  replace hP : va_P G.1 vwCl (W_MT G m0 m1 m2 m3 t0 t1 t2 t3 t4 t5 t6 M_gi M_be M_da M_du M_pl M_de T_br T_fa T_fd T_fp T_st T_kd T_fs T_fl) H := hP
  refine lv_istore_n (lv' := [(3, .int rr_3), (2, .int rr_1), (0, .ref m0), (1, .int u1)]) hx hb dX2_work_14 rfl hl (by decide) rfl (fun ls hl => ?_)
  refine lv_aload_n hx hb dX2_work_15 rfl (lv_at hl 2 rfl) ?_
  refine lv_iload_n hx hb dX2_work_16 rfl (lv_at hl 3 rfl) ?_
  obtain ⟨rr_5, ee_6, h⟩ := bnd1_s h
  refine cFi (As := [.int u1]) (rest := []) S0 hK hA hP (va_D_same hD rfl) hS (k_X2_worksAs l G m0 m1 m2 m3 t0 t1 t2 t3 t4 t5 t6 M_gi M_be M_da M_du M_pl M_de T_br T_fa T_fd T_fp T_st T_kd T_fs T_fl u1 rr_5 ee_6) cw_X2_worksAs 2 0 rfl rfl rfl rfl hl.1 rfl (Nat.le_of_ble_eq_true rfl) dX2_work_17 ⟨Nat.zero_le _, Nat.zero_le _⟩ (fun H locs hP hS => ?_)
  replace hP : va_P G.1 vwCl (W_MT G m0 m1 m2 m3 t0 t1 t2 t3 t4 t5 t6 M_gi M_be M_da M_du M_pl M_de T_br T_fa T_fd T_fp T_st T_kd T_fs T_fl) H := hP
  by_cases cc_7 : rr_5 = 0
  · refine lv_tableIn (off := 28) (tgt := 48) hx hb dX2_work_20 (by rw [cc_7]; decide) (by rw [cc_7]; decide) (by rw [cc_7]; rfl) (by decide) ?_
    replace h := if_t cc_7 h
    refine lv_aload_n hx hb dX2_work_48 rfl (lv_at hl 2 rfl) ?_
    refine lv_iload_n hx hb dX2_work_49 rfl (lv_at hl 1 rfl) ?_
    refine lv_iload_n hx hb dX2_work_50 rfl (lv_at hl 0 rfl) ?_
    obtain ⟨rr_8, dd_9, ee_10, h⟩ := bnd2_s h
    refine cFi (As := [.int rr_1, .int rr_3]) (rest := []) S0 hK hA hP (va_D_same hD rfl) hS (k_X2_sweep l G m0 m1 m2 m3 t0 t1 t2 t3 t4 t5 t6 M_gi M_be M_da M_du M_pl M_de T_br T_fa T_fd T_fp T_st T_kd T_fs T_fl rr_1 rr_3 rr_8 dd_9 ee_10) cw_X2_sweep 2 0 rfl rfl rfl rfl hl.1 rfl (Nat.le_of_ble_eq_true rfl) dX2_work_51 ⟨Nat.zero_le _, Nat.zero_le _⟩ (fun H locs hP hS => ?_)
    replace hP : va_P G.1 vwCl (W_MT G m0 m1 m2 m3 t0 t1 t2 t3 t4 t5 t6 M_gi M_be M_da dd_9 M_pl M_de T_br T_fa T_fd T_fp T_st T_kd T_fs T_fl) H := hP
    refine lv_pop hx hb dX2_work_54 rfl ?_
    refine lv_goto (tgt := 109) hx hb dX2_work_55 (by decide) ?_
    cases h
    exact W.vret hx hb hr (fun t ht _ => ⟨⟨(), rfl, trivial, by show va_P G.1 vwCl _ t.heap; rw [ht]; exact hP⟩, hS.F ht⟩) hS.2.2 dX2_work_109
  replace h := if_f cc_7 h
  by_cases cc_11 : rr_5 = 1
  · refine lv_tableIn (off := 38) (tgt := 58) hx hb dX2_work_20 (by rw [cc_11]; decide) (by rw [cc_11]; decide) (by rw [cc_11]; rfl) (by decide) ?_
    replace h := if_t cc_11 h
    refine lv_aload_n hx hb dX2_work_58 rfl (lv_at hl 2 rfl) ?_
    refine lv_iload_n hx hb dX2_work_59 rfl (lv_at hl 1 rfl) ?_
    obtain ⟨rr_12, ee_13, h⟩ := bnd1_s h
    refine cSi (As := [.int rr_1]) (rest := [.ref m0]) S0 hK hA hP (va_D_same hD rfl) hS [] (k_X2_rightOf l G rr_1 rr_12 ee_13) cw_X2_rightOf rfl rfl (Nat.le_of_ble_eq_true rfl) rfl hl.1 rfl (Nat.le_of_ble_eq_true rfl) dX2_work_60 ⟨Nat.zero_le _, Nat.zero_le _⟩ (fun H locs hP hS => ?_)
    replace hP : va_P G.1 vwCl (W_MT G m0 m1 m2 m3 t0 t1 t2 t3 t4 t5 t6 M_gi M_be M_da M_du M_pl M_de T_br T_fa T_fd T_fp T_st T_kd T_fs T_fl) H := hP
    refine lv_aload_n hx hb dX2_work_63 rfl (lv_at hl 2 rfl) ?_
    refine lv_iload_n hx hb dX2_work_64 rfl (lv_at hl 1 rfl) ?_
    refine lv_iload_n hx hb dX2_work_65 rfl (lv_at hl 0 rfl) ?_
    obtain ⟨rr_14, dd_15, ee_16, h⟩ := bnd2_s h
    refine cFi (As := [.int rr_1, .int rr_3]) (rest := [.int rr_12, .ref m0]) S0 hK hA hP (va_D_same hD rfl) hS (k_X2_sweep l G m0 m1 m2 m3 t0 t1 t2 t3 t4 t5 t6 M_gi M_be M_da M_du M_pl M_de T_br T_fa T_fd T_fp T_st T_kd T_fs T_fl rr_1 rr_3 rr_14 dd_15 ee_16) cw_X2_sweep 2 0 rfl rfl rfl rfl hl.1 rfl (Nat.le_of_ble_eq_true rfl) dX2_work_66 ⟨Nat.zero_le _, Nat.zero_le _⟩ (fun H locs hP hS => ?_)
    replace hP : va_P G.1 vwCl (W_MT G m0 m1 m2 m3 t0 t1 t2 t3 t4 t5 t6 M_gi M_be M_da dd_15 M_pl M_de T_br T_fa T_fd T_fp T_st T_kd T_fs T_fl) H := hP
    obtain ⟨dd_17, ee_18, h⟩ := bnd1_s h
    refine cFv (As := [.int rr_12, .int rr_14]) (rest := []) S0 hK hA hP (va_D_same hD rfl) hS (k_X2_pour l G m0 m1 m2 m3 t0 t1 t2 t3 t4 t5 t6 M_gi M_be M_da dd_15 M_pl M_de T_br T_fa T_fd T_fp T_st T_kd T_fs T_fl rr_12 rr_14 dd_17 ee_18) cw_X2_pour 2 0 rfl rfl rfl rfl hl.1 rfl (Nat.le_of_ble_eq_true rfl) dX2_work_69 ⟨Nat.zero_le _, Nat.zero_le _⟩ (fun H locs hP hS => ?_)
    replace hP : va_P G.1 vwCl (W_MT G m0 m1 m2 m3 t0 t1 t2 t3 t4 t5 t6 M_gi M_be M_da dd_17 M_pl M_de T_br T_fa T_fd T_fp T_st T_kd T_fs T_fl) H := hP
    refine lv_goto (tgt := 109) hx hb dX2_work_72 (by decide) ?_
    cases h
    exact W.vret hx hb hr (fun t ht _ => ⟨⟨(), rfl, trivial, by show va_P G.1 vwCl _ t.heap; rw [ht]; exact hP⟩, hS.F ht⟩) hS.2.2 dX2_work_109
  replace h := if_f cc_11 h
  by_cases cc_19 : rr_5 = 2
  · refine lv_tableIn (off := 55) (tgt := 75) hx hb dX2_work_20 (by rw [cc_19]; decide) (by rw [cc_19]; decide) (by rw [cc_19]; rfl) (by decide) ?_
    replace h := if_t cc_19 h
    refine lv_aload_n hx hb dX2_work_75 rfl (lv_at hl 2 rfl) ?_
    refine lv_iload_n hx hb dX2_work_76 rfl (lv_at hl 1 rfl) ?_
    refine lv_iload_n hx hb dX2_work_77 rfl (lv_at hl 0 rfl) ?_
    obtain ⟨rr_20, dd_21, ee_22, h⟩ := bnd2_s h
    refine cFi (As := [.int rr_1, .int rr_3]) (rest := []) S0 hK hA hP (va_D_same hD rfl) hS (k_X2_sweep l G m0 m1 m2 m3 t0 t1 t2 t3 t4 t5 t6 M_gi M_be M_da M_du M_pl M_de T_br T_fa T_fd T_fp T_st T_kd T_fs T_fl rr_1 rr_3 rr_20 dd_21 ee_22) cw_X2_sweep 2 0 rfl rfl rfl rfl hl.1 rfl (Nat.le_of_ble_eq_true rfl) dX2_work_78 ⟨Nat.zero_le _, Nat.zero_le _⟩ (fun H locs hP hS => ?_)
    replace hP : va_P G.1 vwCl (W_MT G m0 m1 m2 m3 t0 t1 t2 t3 t4 t5 t6 M_gi M_be M_da dd_21 M_pl M_de T_br T_fa T_fd T_fp T_st T_kd T_fs T_fl) H := hP
    refine lv_pop hx hb dX2_work_81 rfl ?_
    refine lv_aload_n hx hb dX2_work_82 rfl (lv_at hl 2 rfl) ?_
    refine lv_iload_n hx hb dX2_work_83 rfl (lv_at hl 1 rfl) ?_
    obtain ⟨rr_23, ee_24, h⟩ := bnd1_s h
    refine cSi (As := [.int rr_1]) (rest := [.ref m0]) S0 hK hA hP (va_D_same hD rfl) hS [] (k_X2_leftOf l G rr_1 rr_23 ee_24) cw_X2_leftOf rfl rfl (Nat.le_of_ble_eq_true rfl) rfl hl.1 rfl (Nat.le_of_ble_eq_true rfl) dX2_work_84 ⟨Nat.zero_le _, Nat.zero_le _⟩ (fun H locs hP hS => ?_)
    replace hP : va_P G.1 vwCl (W_MT G m0 m1 m2 m3 t0 t1 t2 t3 t4 t5 t6 M_gi M_be M_da dd_21 M_pl M_de T_br T_fa T_fd T_fp T_st T_kd T_fs T_fl) H := hP
    refine lv_iload_n hx hb dX2_work_87 rfl (lv_at hl 0 rfl) ?_
    refine lv_iconst (v := 2) hx hb dX2_work_88 (by decide) ?_
    refine lv_idiv hx hb dX2_work_89 (by decide) ?_
    obtain ⟨rr_25, dd_26, ee_27, h⟩ := bnd2_s h
    refine cFi (As := [.int rr_23, .int (rr_3 / (2 : Int32))]) (rest := []) S0 hK hA hP (va_D_same hD rfl) hS (k_X2_sweep l G m0 m1 m2 m3 t0 t1 t2 t3 t4 t5 t6 M_gi M_be M_da dd_21 M_pl M_de T_br T_fa T_fd T_fp T_st T_kd T_fs T_fl rr_23 (rr_3 / (2 : Int32)) rr_25 dd_26 ee_27) cw_X2_sweep 2 0 rfl rfl rfl rfl hl.1 rfl (Nat.le_of_ble_eq_true rfl) dX2_work_90 ⟨Nat.zero_le _, Nat.zero_le _⟩ (fun H locs hP hS => ?_)
    replace hP : va_P G.1 vwCl (W_MT G m0 m1 m2 m3 t0 t1 t2 t3 t4 t5 t6 M_gi M_be M_da dd_26 M_pl M_de T_br T_fa T_fd T_fp T_st T_kd T_fs T_fl) H := hP
    refine lv_pop hx hb dX2_work_93 rfl ?_
    refine lv_aload_n hx hb dX2_work_94 rfl (lv_at hl 2 rfl) ?_
    refine lv_iload_n hx hb dX2_work_95 rfl (lv_at hl 1 rfl) ?_
    obtain ⟨rr_28, ee_29, h⟩ := bnd1_s h
    refine cSi (As := [.int rr_1]) (rest := [.ref m0]) S0 hK hA hP (va_D_same hD rfl) hS [] (k_X2_rightOf l G rr_1 rr_28 ee_29) cw_X2_rightOf rfl rfl (Nat.le_of_ble_eq_true rfl) rfl hl.1 rfl (Nat.le_of_ble_eq_true rfl) dX2_work_96 ⟨Nat.zero_le _, Nat.zero_le _⟩ (fun H locs hP hS => ?_)
    replace hP : va_P G.1 vwCl (W_MT G m0 m1 m2 m3 t0 t1 t2 t3 t4 t5 t6 M_gi M_be M_da dd_26 M_pl M_de T_br T_fa T_fd T_fp T_st T_kd T_fs T_fl) H := hP
    refine lv_iload_n hx hb dX2_work_99 rfl (lv_at hl 0 rfl) ?_
    refine lv_iconst (v := 2) hx hb dX2_work_100 (by decide) ?_
    refine lv_idiv hx hb dX2_work_101 (by decide) ?_
    obtain ⟨rr_30, dd_31, ee_32, h⟩ := bnd2_s h
    refine cFi (As := [.int rr_28, .int (rr_3 / (2 : Int32))]) (rest := []) S0 hK hA hP (va_D_same hD rfl) hS (k_X2_sweep l G m0 m1 m2 m3 t0 t1 t2 t3 t4 t5 t6 M_gi M_be M_da dd_26 M_pl M_de T_br T_fa T_fd T_fp T_st T_kd T_fs T_fl rr_28 (rr_3 / (2 : Int32)) rr_30 dd_31 ee_32) cw_X2_sweep 2 0 rfl rfl rfl rfl hl.1 rfl (Nat.le_of_ble_eq_true rfl) dX2_work_102 ⟨Nat.zero_le _, Nat.zero_le _⟩ (fun H locs hP hS => ?_)
    replace hP : va_P G.1 vwCl (W_MT G m0 m1 m2 m3 t0 t1 t2 t3 t4 t5 t6 M_gi M_be M_da dd_31 M_pl M_de T_br T_fa T_fd T_fp T_st T_kd T_fs T_fl) H := hP
    refine lv_pop hx hb dX2_work_105 rfl ?_
    refine lv_goto (tgt := 109) hx hb dX2_work_106 (by decide) ?_
    cases h
    exact W.vret hx hb hr (fun t ht _ => ⟨⟨(), rfl, trivial, by show va_P G.1 vwCl _ t.heap; rw [ht]; exact hP⟩, hS.F ht⟩) hS.2.2 dX2_work_109
  replace h := if_f cc_19 h
  refine lv_tableOut (tgt := 109) hx hb dX2_work_20 (by have acc_7 := ne_toInt cc_7 (k := 0) (by decide); have acc_11 := ne_toInt cc_11 (k := 1) (by decide); have acc_19 := ne_toInt cc_19 (k := 2) (by decide); omega) (by decide) ?_
  cases h
  exact W.vret hx hb hr (fun t ht _ => ⟨⟨(), rfl, trivial, by show va_P G.1 vwCl _ t.heap; rw [ht]; exact hP⟩, hS.F ht⟩) hS.2.2 dX2_work_109
def f_X2_spread_89 (kk38 : Int32 → (Nat → Int32) → (Nat → Int32) → Option ((Nat → Int32) × (Nat → Int32))) (v1 : Int32) (M_du : Nat → Int32) (M_de : Nat → Int32) : Option ((Nat → Int32) × (Nat → Int32)) := kk38 (v1 + 1) M_du M_de
def f_X2_spread_38 : Nat → Int32 → (Nat → Int32) → (Nat → Int32) → Option ((Nat → Int32) × (Nat → Int32))
  | 0, _, _, _ => none
  | fu + 1, v1, M_du, M_de => if (8 : Int32) ≤ v1 then (some (M_du, M_de)) else (bnd1 (rd M_de 8 v1) (fun zz_2 => if zz_2 = 0 then (f_X2_spread_89 (f_X2_spread_38 fu) v1 M_du M_de) else (bnd1 (rd M_du 8 v1) (fun zz_5 => bnd1 (wr M_du 8 v1 (zz_5 - (2 : Int32))) (fun dd_7 => bnd1 (f_X2_leftOf v1) (fun rr_9 => bnd1 (rd dd_7 8 rr_9) (fun zz_11 => bnd1 (wr dd_7 8 rr_9 (zz_11 + (1 : Int32))) (fun dd_13 => bnd1 (f_X2_rightOf v1) (fun rr_15 => bnd1 (rd dd_13 8 rr_15) (fun zz_17 => bnd1 (wr dd_13 8 rr_15 (zz_17 + (1 : Int32))) (fun dd_19 => f_X2_spread_89 (f_X2_spread_38 fu) v1 dd_19 M_de)))))))))))
def f_X2_spread_29 (kk2 : Int32 → (Nat → Int32) → (Nat → Int32) → Option ((Nat → Int32) × (Nat → Int32))) (v1 : Int32) (q1 : Int32) (q2 : Int32) (M_du : Nat → Int32) (M_de : Nat → Int32) : Option ((Nat → Int32) × (Nat → Int32)) := bnd1 (wr M_de 8 q1 (q2 &&& 1)) (fun dd_21 => kk2 (v1 + 1) M_du dd_21)
def f_X2_spread_2 : Nat → Int32 → (Nat → Int32) → (Nat → Int32) → Option ((Nat → Int32) × (Nat → Int32))
  | 0, _, _, _ => none
  | fu + 1, v1, M_du, M_de => if (8 : Int32) ≤ v1 then (f_X2_spread_38  130 (0 : Int32) M_du M_de) else (bnd1 (rd M_du 8 v1) (fun zz_24 => if zz_24 < (10 : Int32) then (f_X2_spread_29 (f_X2_spread_2 fu) v1 v1 (0 : Int32) M_du M_de) else (f_X2_spread_29 (f_X2_spread_2 fu) v1 v1 (1 : Int32) M_du M_de)))
def f_X2_spread (M_du : Nat → Int32) (M_de : Nat → Int32) : Option ((Nat → Int32) × (Nat → Int32)) := f_X2_spread_2  130 (0 : Int32) M_du M_de
set_option maxRecDepth 100000 in
set_option maxHeartbeats 4000000 in
theorem k_X2_spread (l : Launch) (G : Gt) (m0 m1 m2 m3 t0 t1 t2 t3 t4 t5 t6 : Nat) (M_gi : Int32) (M_be : Int32) (M_da : Int32) (M_du : Nat → Int32) (M_pl : Nat → Int32) (M_de : Nat → Int32) (T_br : Int32) (T_fa : Int32) (T_fd : Nat → Int32) (T_fp : Nat → Int32) (T_st : Nat → Int32) (T_kd : Nat → Int32) (T_fs : Nat → Int32) (T_fl : Nat → Int32) (o_M_du : Nat → Int32) (o_M_de : Nat → Int32) (h : f_X2_spread M_du M_de = some (o_M_du, o_M_de)) : CT l yX2_spread wsX2_spread 1 20 G [.ref m0] (W_MT G m0 m1 m2 m3 t0 t1 t2 t3 t4 t5 t6 M_gi M_be M_da M_du M_pl M_de T_br T_fa T_fd T_fp T_st T_kd T_fs T_fl) (QV G (W_MT G m0 m1 m2 m3 t0 t1 t2 t3 t4 t5 t6 M_gi M_be M_da o_M_du M_pl o_M_de T_br T_fa T_fd T_fp T_st T_kd T_fs T_fl)) := by
  refine met_of cX2_spread 2 none (by decide) rfl (Nat.le_of_ble_eq_true rfl) ?_
  intro p e s m below meth c A ls hx hb hr hml hts hown hlocks hK hA hD hP hS hl
  replace hown : s.vm.findClass RX2 = some m.cls := hown
  replace hl : lv_has ls 2 [(0, .ref m0)] := hl
  have S0 : CallFix p m c cX2_spread 2 s _ wsX2_spread RX2 := ⟨hx, hb, hml, hown, hts⟩
  have fl18 := hts (.fieldLink RX2 18 "DustVote$Moment" "deep" "[Z") (by decide +kernel)
  have inX2 := show ∀ w ∈ wsX20, w ∈ wsX2_spread from by decide +kernel
  have fl9 := hts (.fieldLink RX2 9 "DustVote$Moment" "dust" "[I") (by decide +kernel)
  have cw_X2_leftOf := show CallB (rmv 1 20) s _ RX2 77 yX2_leftOf cX2_leftOf 1 (some .int) wsX2_leftOf (rmv 0 0) 0 0 1 ∧ (Cond.static yX2_leftOf).before _ s = true from va_cwS 1 hts gX2_spread_X2_leftOf rfl rfl rfl (by decide +kernel) ⟨Nat.le_of_ble_eq_true rfl, Nat.le_of_ble_eq_true rfl⟩
  have cw_X2_rightOf := show CallB (rmv 1 20) s _ RX2 80 yX2_rightOf cX2_rightOf 1 (some .int) wsX2_rightOf (rmv 0 0) 0 0 1 ∧ (Cond.static yX2_rightOf).before _ s = true from va_cwS 1 hts gX2_spread_X2_rightOf rfl rfl rfl (by decide +kernel) ⟨Nat.le_of_ble_eq_true rfl, Nat.le_of_ble_eq_true rfl⟩
  have J_89 : ∀ (kk38 : Int32 → (Nat → Int32) → (Nat → Int32) → Option ((Nat → Int32) × (Nat → Int32))) (hk38 : ∀ (v1 : Int32) (M_du : Nat → Int32) (M_de : Nat → Int32) (H : Heap) (locs : List Loc) (ls : Array Slot), kk38 v1 M_du M_de = some (o_M_du, o_M_de) → va_P G.1 vwCl (W_MT G m0 m1 m2 m3 t0 t1 t2 t3 t4 t5 t6 M_gi M_be M_da M_du M_pl M_de T_br T_fa T_fd T_fp T_st T_kd T_fs T_fl) H → va_S A s.heap H locs → lv_has ls 2 [(0, .ref m0), (1, .int v1)] → W p l e (rmv 1 20) s m (List.toArray [.ref m0]) below meth c H locs 0 0 (MQ below ((QV G (W_MT G m0 m1 m2 m3 t0 t1 t2 t3 t4 t5 t6 M_gi M_be M_da o_M_du M_pl o_M_de T_br T_fa T_fd T_fp T_st T_kd T_fs T_fl)) A) (List.toArray [.ref m0]) s 0 0 A) (F0 m 38 ls [])), ∀ (v1 : Int32) (M_du : Nat → Int32) (M_de : Nat → Int32) (H : Heap) (locs : List Loc) (ls : Array Slot), f_X2_spread_89 kk38 v1 M_du M_de = some (o_M_du, o_M_de) → va_P G.1 vwCl (W_MT G m0 m1 m2 m3 t0 t1 t2 t3 t4 t5 t6 M_gi M_be M_da M_du M_pl M_de T_br T_fa T_fd T_fp T_st T_kd T_fs T_fl) H → va_S A s.heap H locs → lv_has ls 2 [(0, .ref m0), (1, .int v1)] → W p l e (rmv 1 20) s m (List.toArray [.ref m0]) below meth c H locs 0 0 (MQ below ((QV G (W_MT G m0 m1 m2 m3 t0 t1 t2 t3 t4 t5 t6 M_gi M_be M_da o_M_du M_pl o_M_de T_br T_fa T_fd T_fp T_st T_kd T_fs T_fl)) A) (List.toArray [.ref m0]) s 0 0 A) (F0 m 89 ls []) := by
    intro kk38 hk38 v1 M_du M_de H locs ls h hP hS hl
    unfold f_X2_spread_89 at h
    refine lv_iinc (v := (v1 + 1)) (lv' := [(1, .int (v1 + 1)), (0, .ref m0)]) hx hb dX2_spread_89 hl (k := 1) rfl rfl (by decide) rfl (fun ls hl => ?_)
    refine lv_goto (tgt := 38) hx hb dX2_spread_92 (by decide) ?_
    exact hk38 (v1 + 1) M_du M_de _ _ _ h hP hS (lv_sub hl [1, 0] rfl)
  have J_38 : ∀ (fu : Nat), ∀ (v1 : Int32) (M_du : Nat → Int32) (M_de : Nat → Int32) (H : Heap) (locs : List Loc) (ls : Array Slot), f_X2_spread_38 fu v1 M_du M_de = some (o_M_du, o_M_de) → va_P G.1 vwCl (W_MT G m0 m1 m2 m3 t0 t1 t2 t3 t4 t5 t6 M_gi M_be M_da M_du M_pl M_de T_br T_fa T_fd T_fp T_st T_kd T_fs T_fl) H → va_S A s.heap H locs → lv_has ls 2 [(0, .ref m0), (1, .int v1)] → W p l e (rmv 1 20) s m (List.toArray [.ref m0]) below meth c H locs 0 0 (MQ below ((QV G (W_MT G m0 m1 m2 m3 t0 t1 t2 t3 t4 t5 t6 M_gi M_be M_da o_M_du M_pl o_M_de T_br T_fa T_fd T_fp T_st T_kd T_fs T_fl)) A) (List.toArray [.ref m0]) s 0 0 A) (F0 m 38 ls []) := by
    intro  fu
    induction fu with
    | zero =>
      intro v1 M_du M_de H locs ls h
      cases h
    | succ fu ih =>
      intro v1 M_du M_de H locs ls h hP hS hl
      rw [f_X2_spread_38] at h
      refine lv_iload_n hx hb dX2_spread_38 rfl (lv_at hl 1 rfl) ?_
      refine lv_bipush (v := 8) hx hb dX2_spread_39 (by decide) ?_
      refine lv_icmp_ge (tgt := 95) hx hb dX2_spread_41 (by decide) (fun cc_1 => ?_) (fun cc_1 => ?_)
      · replace h := if_t cc_1 h
        cases h
        exact W.vret hx hb hr (fun t ht _ => ⟨⟨(), rfl, trivial, by show va_P G.1 vwCl _ t.heap; rw [ht]; exact hP⟩, hS.F ht⟩) hS.2.2 dX2_spread_95
      · replace h := if_f cc_1 h
        refine lv_aload_n hx hb dX2_spread_44 rfl (lv_at hl 0 rfl) ?_
        refine va_get (ci := 2) (C := RX2) (T := TX2) (N := 7) hx hb hts inX2 hown hK.1 hP 0 rfl rfl 3 (by decide) fl18 (fun _ h9 => h9) rfl dX2_spread_45 ?_
        refine lv_iload_n hx hb dX2_spread_48 rfl (lv_at hl 1 rfl) ?_
        obtain ⟨zz_2, ee_3, h⟩ := bnd1_s h
        refine wZald hx hb hK hP 3 rfl ee_3 dX2_spread_49 ?_
        refine lv_if_eq (tgt := 89) hx hb dX2_spread_50 (by decide) (fun cc_4 => ?_) (fun cc_4 => ?_)
        · replace h := if_t cc_4 h
          exact J_89 (f_X2_spread_38 fu) ih v1 M_du M_de _ _ _ h hP hS (lv_sub hl [0, 1] rfl)
        · replace h := if_f cc_4 h
          refine lv_aload_n hx hb dX2_spread_53 rfl (lv_at hl 0 rfl) ?_
          refine va_get (ci := 2) (C := RX2) (T := TX2) (N := 7) hx hb hts inX2 hown hK.1 hP 0 rfl rfl 1 (by decide) fl9 (fun _ h9 => h9) rfl dX2_spread_54 ?_
          refine lv_iload_n hx hb dX2_spread_57 rfl (lv_at hl 1 rfl) ?_
          refine lv_dup2_11 hx hb dX2_spread_58 rfl rfl ?_
          obtain ⟨zz_5, ee_6, h⟩ := bnd1_s h
          refine wIald hx hb hK hP 1 rfl ee_6 dX2_spread_59 ?_
          refine lv_iconst (v := 2) hx hb dX2_spread_60 (by decide) ?_
          refine lv_isub hx hb dX2_spread_61 ?_
          obtain ⟨dd_7, ee_8, h⟩ := bnd1_s h
          refine wIast hx hb hK hP (va_D_same hD rfl) hS 1 rfl ee_8 dX2_spread_62 (fun H locs hP hS => ?_)
          replace hP : va_P G.1 vwCl (W_MT G m0 m1 m2 m3 t0 t1 t2 t3 t4 t5 t6 M_gi M_be M_da dd_7 M_pl M_de T_br T_fa T_fd T_fp T_st T_kd T_fs T_fl) H := hP
          refine lv_aload_n hx hb dX2_spread_63 rfl (lv_at hl 0 rfl) ?_
          refine va_get (ci := 2) (C := RX2) (T := TX2) (N := 7) hx hb hts inX2 hown hK.1 hP 0 rfl rfl 1 (by decide) fl9 (fun _ h9 => h9) rfl dX2_spread_64 ?_
          refine lv_iload_n hx hb dX2_spread_67 rfl (lv_at hl 1 rfl) ?_
          obtain ⟨rr_9, ee_10, h⟩ := bnd1_s h
          refine cSi (As := [.int v1]) (rest := [.ref m1]) S0 hK hA hP (va_D_same hD rfl) hS [] (k_X2_leftOf l G v1 rr_9 ee_10) cw_X2_leftOf rfl rfl (Nat.le_of_ble_eq_true rfl) rfl hl.1 rfl (Nat.le_of_ble_eq_true rfl) dX2_spread_68 ⟨Nat.zero_le _, Nat.zero_le _⟩ (fun H locs hP hS => ?_)
          replace hP : va_P G.1 vwCl (W_MT G m0 m1 m2 m3 t0 t1 t2 t3 t4 t5 t6 M_gi M_be M_da dd_7 M_pl M_de T_br T_fa T_fd T_fp T_st T_kd T_fs T_fl) H := hP
          refine lv_dup2_11 hx hb dX2_spread_71 rfl rfl ?_
          obtain ⟨zz_11, ee_12, h⟩ := bnd1_s h
          refine wIald hx hb hK hP 1 rfl ee_12 dX2_spread_72 ?_
          refine lv_iconst (v := 1) hx hb dX2_spread_73 (by decide) ?_
          refine lv_iadd hx hb dX2_spread_74 ?_
          obtain ⟨dd_13, ee_14, h⟩ := bnd1_s h
          refine wIast hx hb hK hP (va_D_same hD rfl) hS 1 rfl ee_14 dX2_spread_75 (fun H locs hP hS => ?_)
          replace hP : va_P G.1 vwCl (W_MT G m0 m1 m2 m3 t0 t1 t2 t3 t4 t5 t6 M_gi M_be M_da dd_13 M_pl M_de T_br T_fa T_fd T_fp T_st T_kd T_fs T_fl) H := hP
          refine lv_aload_n hx hb dX2_spread_76 rfl (lv_at hl 0 rfl) ?_
          refine va_get (ci := 2) (C := RX2) (T := TX2) (N := 7) hx hb hts inX2 hown hK.1 hP 0 rfl rfl 1 (by decide) fl9 (fun _ h9 => h9) rfl dX2_spread_77 ?_
          refine lv_iload_n hx hb dX2_spread_80 rfl (lv_at hl 1 rfl) ?_
          obtain ⟨rr_15, ee_16, h⟩ := bnd1_s h
          refine cSi (As := [.int v1]) (rest := [.ref m1]) S0 hK hA hP (va_D_same hD rfl) hS [] (k_X2_rightOf l G v1 rr_15 ee_16) cw_X2_rightOf rfl rfl (Nat.le_of_ble_eq_true rfl) rfl hl.1 rfl (Nat.le_of_ble_eq_true rfl) dX2_spread_81 ⟨Nat.zero_le _, Nat.zero_le _⟩ (fun H locs hP hS => ?_)
          replace hP : va_P G.1 vwCl (W_MT G m0 m1 m2 m3 t0 t1 t2 t3 t4 t5 t6 M_gi M_be M_da dd_13 M_pl M_de T_br T_fa T_fd T_fp T_st T_kd T_fs T_fl) H := hP
          refine lv_dup2_11 hx hb dX2_spread_84 rfl rfl ?_
          obtain ⟨zz_17, ee_18, h⟩ := bnd1_s h
          refine wIald hx hb hK hP 1 rfl ee_18 dX2_spread_85 ?_
          refine lv_iconst (v := 1) hx hb dX2_spread_86 (by decide) ?_
          refine lv_iadd hx hb dX2_spread_87 ?_
          obtain ⟨dd_19, ee_20, h⟩ := bnd1_s h
          refine wIast hx hb hK hP (va_D_same hD rfl) hS 1 rfl ee_20 dX2_spread_88 (fun H locs hP hS => ?_)
          replace hP : va_P G.1 vwCl (W_MT G m0 m1 m2 m3 t0 t1 t2 t3 t4 t5 t6 M_gi M_be M_da dd_19 M_pl M_de T_br T_fa T_fd T_fp T_st T_kd T_fs T_fl) H := hP
          exact J_89 (f_X2_spread_38 fu) ih v1 dd_19 M_de _ _ _ h hP hS (lv_sub hl [0, 1] rfl)
  have J_29 : ∀ (kk2 : Int32 → (Nat → Int32) → (Nat → Int32) → Option ((Nat → Int32) × (Nat → Int32))) (hk2 : ∀ (v1 : Int32) (M_du : Nat → Int32) (M_de : Nat → Int32) (H : Heap) (locs : List Loc) (ls : Array Slot), kk2 v1 M_du M_de = some (o_M_du, o_M_de) → va_P G.1 vwCl (W_MT G m0 m1 m2 m3 t0 t1 t2 t3 t4 t5 t6 M_gi M_be M_da M_du M_pl M_de T_br T_fa T_fd T_fp T_st T_kd T_fs T_fl) H → va_S A s.heap H locs → lv_has ls 2 [(0, .ref m0), (1, .int v1)] → W p l e (rmv 1 20) s m (List.toArray [.ref m0]) below meth c H locs 0 0 (MQ below ((QV G (W_MT G m0 m1 m2 m3 t0 t1 t2 t3 t4 t5 t6 M_gi M_be M_da o_M_du M_pl o_M_de T_br T_fa T_fd T_fp T_st T_kd T_fs T_fl)) A) (List.toArray [.ref m0]) s 0 0 A) (F0 m 2 ls [])), ∀ (v1 : Int32) (q1 : Int32) (q2 : Int32) (M_du : Nat → Int32) (M_de : Nat → Int32) (H : Heap) (locs : List Loc) (ls : Array Slot), f_X2_spread_29 kk2 v1 q1 q2 M_du M_de = some (o_M_du, o_M_de) → va_P G.1 vwCl (W_MT G m0 m1 m2 m3 t0 t1 t2 t3 t4 t5 t6 M_gi M_be M_da M_du M_pl M_de T_br T_fa T_fd T_fp T_st T_kd T_fs T_fl) H → va_S A s.heap H locs → lv_has ls 2 [(0, .ref m0), (1, .int v1)] → W p l e (rmv 1 20) s m (List.toArray [.ref m0]) below meth c H locs 0 0 (MQ below ((QV G (W_MT G m0 m1 m2 m3 t0 t1 t2 t3 t4 t5 t6 M_gi M_be M_da o_M_du M_pl o_M_de T_br T_fa T_fd T_fp T_st T_kd T_fs T_fl)) A) (List.toArray [.ref m0]) s 0 0 A) (F0 m 29 ls [.int q2, .int q1, .ref m3]) := by
    intro kk2 hk2 v1 q1 q2 M_du M_de H locs ls h hP hS hl
    unfold f_X2_spread_29 at h
    obtain ⟨dd_21, ee_22, h⟩ := bnd1_s h
    refine wZast hx hb hK hP (va_D_same hD rfl) hS 3 rfl ee_22 dX2_spread_29 (fun H locs hP hS => ?_)
    replace hP : va_P G.1 vwCl (W_MT G m0 m1 m2 m3 t0 t1 t2 t3 t4 t5 t6 M_gi M_be M_da M_du M_pl dd_21 T_br T_fa T_fd T_fp T_st T_kd T_fs T_fl) H := hP
    refine lv_iinc (v := (v1 + 1)) (lv' := [(1, .int (v1 + 1)), (0, .ref m0)]) hx hb dX2_spread_30 hl (k := 1) rfl rfl (by decide) rfl (fun ls hl => ?_)
    refine lv_goto (tgt := 2) hx hb dX2_spread_33 (by decide) ?_
    exact hk2 (v1 + 1) M_du dd_21 _ _ _ h hP hS (lv_sub hl [1, 0] rfl)
  have J_2 : ∀ (fu : Nat), ∀ (v1 : Int32) (M_du : Nat → Int32) (M_de : Nat → Int32) (H : Heap) (locs : List Loc) (ls : Array Slot), f_X2_spread_2 fu v1 M_du M_de = some (o_M_du, o_M_de) → va_P G.1 vwCl (W_MT G m0 m1 m2 m3 t0 t1 t2 t3 t4 t5 t6 M_gi M_be M_da M_du M_pl M_de T_br T_fa T_fd T_fp T_st T_kd T_fs T_fl) H → va_S A s.heap H locs → lv_has ls 2 [(0, .ref m0), (1, .int v1)] → W p l e (rmv 1 20) s m (List.toArray [.ref m0]) below meth c H locs 0 0 (MQ below ((QV G (W_MT G m0 m1 m2 m3 t0 t1 t2 t3 t4 t5 t6 M_gi M_be M_da o_M_du M_pl o_M_de T_br T_fa T_fd T_fp T_st T_kd T_fs T_fl)) A) (List.toArray [.ref m0]) s 0 0 A) (F0 m 2 ls []) := by
    intro  fu
    induction fu with
    | zero =>
      intro v1 M_du M_de H locs ls h
      cases h
    | succ fu ih =>
      intro v1 M_du M_de H locs ls h hP hS hl
      rw [f_X2_spread_2] at h
      refine lv_iload_n hx hb dX2_spread_2 rfl (lv_at hl 1 rfl) ?_
      refine lv_bipush (v := 8) hx hb dX2_spread_3 (by decide) ?_
      refine lv_icmp_ge (tgt := 36) hx hb dX2_spread_5 (by decide) (fun cc_23 => ?_) (fun cc_23 => ?_)
      · replace h := if_t cc_23 h
        refine lv_iconst (v := 0) hx hb dX2_spread_36 (by decide) ?_
        refine lv_istore_n (lv' := [(1, .int (0 : Int32)), (0, .ref m0)]) hx hb dX2_spread_37 rfl hl (by decide) rfl (fun ls hl => ?_)
        exact J_38  130 (0 : Int32) M_du M_de _ _ _ h hP hS (lv_sub hl [1, 0] rfl)
      · replace h := if_f cc_23 h
        refine lv_aload_n hx hb dX2_spread_8 rfl (lv_at hl 0 rfl) ?_
        refine va_get (ci := 2) (C := RX2) (T := TX2) (N := 7) hx hb hts inX2 hown hK.1 hP 0 rfl rfl 3 (by decide) fl18 (fun _ h9 => h9) rfl dX2_spread_9 ?_
        refine lv_iload_n hx hb dX2_spread_12 rfl (lv_at hl 1 rfl) ?_
        refine lv_aload_n hx hb dX2_spread_13 rfl (lv_at hl 0 rfl) ?_
        refine va_get (ci := 2) (C := RX2) (T := TX2) (N := 7) hx hb hts inX2 hown hK.1 hP 0 rfl rfl 1 (by decide) fl9 (fun _ h9 => h9) rfl dX2_spread_14 ?_
        refine lv_iload_n hx hb dX2_spread_17 rfl (lv_at hl 1 rfl) ?_
        obtain ⟨zz_24, ee_25, h⟩ := bnd1_s h
        refine wIald hx hb hK hP 1 rfl ee_25 dX2_spread_18 ?_
        refine lv_bipush (v := 10) hx hb dX2_spread_19 (by decide) ?_
        refine lv_icmp_lt (tgt := 28) hx hb dX2_spread_21 (by decide) (fun cc_26 => ?_) (fun cc_26 => ?_)
        · replace h := if_t cc_26 h
          refine lv_iconst (v := 0) hx hb dX2_spread_28 (by decide) ?_
          exact J_29 (f_X2_spread_2 fu) ih v1 v1 (0 : Int32) M_du M_de _ _ _ h hP hS (lv_sub hl [0, 1] rfl)
        · replace h := if_f cc_26 h
          refine lv_iconst (v := 1) hx hb dX2_spread_24 (by decide) ?_
          refine lv_goto (tgt := 29) hx hb dX2_spread_25 (by decide) ?_
          exact J_29 (f_X2_spread_2 fu) ih v1 v1 (1 : Int32) M_du M_de _ _ _ h hP hS (lv_sub hl [0, 1] rfl)
  unfold f_X2_spread at h
  refine lv_iconst (v := 0) hx hb dX2_spread_0 (by decide) ?_
  refine lv_istore_n (lv' := [(1, .int (0 : Int32)), (0, .ref m0)]) hx hb dX2_spread_1 rfl hl (by decide) rfl (fun ls hl => ?_)
  exact J_2  130 (0 : Int32) M_du M_de _ _ _ h hP hS (lv_sub hl [1, 0] rfl)
