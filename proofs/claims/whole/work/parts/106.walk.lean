def f_X4_kindOf (T_kd : Nat → Int32) (u1 : Int32) : Option (Int32) := if u1 < 0 then (some (0 : Int32)) else (if (5 : Int32) ≤ u1 then (some (0 : Int32)) else (bnd1 (rd T_kd 5 u1) (fun zz_3 => some zz_3)))
set_option maxRecDepth 100000 in
set_option maxHeartbeats 4000000 in
theorem k_X4_kindOf (l : Launch) (G : Gt) (t0 t1 t2 t3 t4 t5 t6 : Nat) (T_br : Int32) (T_fa : Int32) (T_fd : Nat → Int32) (T_fp : Nat → Int32) (T_st : Nat → Int32) (T_kd : Nat → Int32) (T_fs : Nat → Int32) (T_fl : Nat → Int32) (u1 : Int32) (r_ : Int32) (h : f_X4_kindOf T_kd u1 = some r_) : CT l yX4_kindOf wsX4_kindOf 0 0 G [.ref t0, .int u1] (W_T G t0 t1 t2 t3 t4 t5 t6 T_br T_fa T_fd T_fp T_st T_kd T_fs T_fl) (QI G r_ (W_T G t0 t1 t2 t3 t4 t5 t6 T_br T_fa T_fd T_fp T_st T_kd T_fs T_fl)) := by
  refine met_of cX4_kindOf 2 (some .int) (by decide) rfl (Nat.le_of_ble_eq_true rfl) ?_
  intro p e s m below meth c A ls hx hb hr hml hts hown hlocks hK hA hD hP hS hl
  replace hown : s.vm.findClass RX4 = some m.cls := hown
  replace hl : lv_has ls 2 [(0, .ref t0), (1, .int u1)] := hl
  have S0 : CallFix p m c cX4_kindOf 2 s _ wsX4_kindOf RX4 := ⟨hx, hb, hml, hown, hts⟩
  have fl21 := hts (.fieldLink RX4 21 "DustVote$Told" "kind" "[I") (by decide +kernel)
  have inX4 := show ∀ w ∈ wsX40, w ∈ wsX4_kindOf from by decide +kernel
  unfold f_X4_kindOf at h
  refine lv_iload_n hx hb dX4_kindOf_0 rfl (lv_at hl 1 rfl) ?_
  refine lv_if_lt (tgt := 18) hx hb dX4_kindOf_1 (by decide) (fun cc_1 => ?_) (fun cc_1 => ?_)
  · replace h := if_t cc_1 h
    refine lv_iconst (v := 0) hx hb dX4_kindOf_18 (by decide) ?_
    cases h
    exact W.iret hx hb hr (fun t ht _ => ⟨⟨_, (), rfl, rfl, by show va_P G.1 vwCl _ t.heap; rw [ht]; exact hP⟩, hS.F ht⟩) hS.2.2 dX4_kindOf_19
  · replace h := if_f cc_1 h
    refine lv_iload_n hx hb dX4_kindOf_4 rfl (lv_at hl 1 rfl) ?_
    refine lv_iconst (v := 5) hx hb dX4_kindOf_5 (by decide) ?_
    refine lv_icmp_ge (tgt := 18) hx hb dX4_kindOf_6 (by decide) (fun cc_2 => ?_) (fun cc_2 => ?_)
    · replace h := if_t cc_2 h
      refine lv_iconst (v := 0) hx hb dX4_kindOf_18 (by decide) ?_
      cases h
      exact W.iret hx hb hr (fun t ht _ => ⟨⟨_, (), rfl, rfl, by show va_P G.1 vwCl _ t.heap; rw [ht]; exact hP⟩, hS.F ht⟩) hS.2.2 dX4_kindOf_19
    · replace h := if_f cc_2 h
      refine lv_aload_n hx hb dX4_kindOf_9 rfl (lv_at hl 0 rfl) ?_
      refine va_get (ci := 4) (C := RX4) (T := TX4) (N := 8) hx hb hts inX4 hown hK.1 hP 0 rfl rfl 3 (by decide) fl21 (fun _ h9 => h9) rfl dX4_kindOf_10 ?_
      refine lv_iload_n hx hb dX4_kindOf_13 rfl (lv_at hl 1 rfl) ?_
      obtain ⟨zz_3, ee_4, h⟩ := bnd1_s h
      refine wIald hx hb hK hP 4 rfl ee_4 dX4_kindOf_14 ?_
      refine lv_goto (tgt := 19) hx hb dX4_kindOf_15 (by decide) ?_
      cases h
      exact W.iret hx hb hr (fun t ht _ => ⟨⟨_, (), rfl, rfl, by show va_P G.1 vwCl _ t.heap; rw [ht]; exact hP⟩, hS.F ht⟩) hS.2.2 dX4_kindOf_19
def f_X2_isBent (M_be : Int32) (u1 : Int32) : Option (Int32) := if ((M_be >>> (u1 &&& 31)) &&& (1 : Int32)) = (1 : Int32) then (some (1 : Int32)) else (some (0 : Int32))
set_option maxRecDepth 100000 in
set_option maxHeartbeats 4000000 in
theorem k_X2_isBent (l : Launch) (G : Gt) (m0 m1 m2 m3 t0 t1 t2 t3 t4 t5 t6 : Nat) (M_gi : Int32) (M_be : Int32) (M_da : Int32) (M_du : Nat → Int32) (M_pl : Nat → Int32) (M_de : Nat → Int32) (T_br : Int32) (T_fa : Int32) (T_fd : Nat → Int32) (T_fp : Nat → Int32) (T_st : Nat → Int32) (T_kd : Nat → Int32) (T_fs : Nat → Int32) (T_fl : Nat → Int32) (u1 : Int32) (r_ : Int32) (h : f_X2_isBent M_be u1 = some r_) : CT l yX2_isBent wsX2_isBent 0 0 G [.ref m0, .int u1] (W_MT G m0 m1 m2 m3 t0 t1 t2 t3 t4 t5 t6 M_gi M_be M_da M_du M_pl M_de T_br T_fa T_fd T_fp T_st T_kd T_fs T_fl) (QI G r_ (W_MT G m0 m1 m2 m3 t0 t1 t2 t3 t4 t5 t6 M_gi M_be M_da M_du M_pl M_de T_br T_fa T_fd T_fp T_st T_kd T_fs T_fl)) := by
  refine met_of cX2_isBent 2 (some .boolean) (by decide) rfl (Nat.le_of_ble_eq_true rfl) ?_
  intro p e s m below meth c A ls hx hb hr hml hts hown hlocks hK hA hD hP hS hl
  replace hown : s.vm.findClass RX2 = some m.cls := hown
  replace hl : lv_has ls 2 [(0, .ref m0), (1, .int u1)] := hl
  have S0 : CallFix p m c cX2_isBent 2 s _ wsX2_isBent RX2 := ⟨hx, hb, hml, hown, hts⟩
  have fl26 := hts (.fieldLink RX2 26 "DustVote$Moment" "bent" "I") (by decide +kernel)
  have inX2 := show ∀ w ∈ wsX20, w ∈ wsX2_isBent from by decide +kernel
  unfold f_X2_isBent at h
  refine lv_aload_n hx hb dX2_isBent_0 rfl (lv_at hl 0 rfl) ?_
  refine va_get (ci := 2) (C := RX2) (T := TX2) (N := 7) hx hb hts inX2 hown hK.1 hP 0 rfl rfl 5 (by decide) fl26 (fun _ h9 => h9) rfl dX2_isBent_1 ?_
  refine lv_iload_n hx hb dX2_isBent_4 rfl (lv_at hl 1 rfl) ?_
  refine lv_ishr hx hb dX2_isBent_5 ?_
  refine lv_iconst (v := 1) hx hb dX2_isBent_6 (by decide) ?_
  refine lv_iand hx hb dX2_isBent_7 ?_
  refine lv_iconst (v := 1) hx hb dX2_isBent_8 (by decide) ?_
  refine lv_icmp_ne (tgt := 16) hx hb dX2_isBent_9 (by decide) (fun cc_1 => ?_) (fun cc_1 => ?_)
  · replace h := if_f cc_1 h
    refine lv_iconst (v := 0) hx hb dX2_isBent_16 (by decide) ?_
    cases h
    exact W.zret (ty := .boolean) hx hb hr (by decide) (fun t ht _ => ⟨⟨_, (), rfl, rfl, by show va_P G.1 vwCl _ t.heap; rw [ht]; exact hP⟩, hS.F ht⟩) hS.2.2 dX2_isBent_17
  · replace h := if_t cc_1 h
    refine lv_iconst (v := 1) hx hb dX2_isBent_12 (by decide) ?_
    refine lv_goto (tgt := 17) hx hb dX2_isBent_13 (by decide) ?_
    cases h
    exact W.zret (ty := .boolean) hx hb hr (by decide) (fun t ht _ => ⟨⟨_, (), rfl, rfl, by show va_P G.1 vwCl _ t.heap; rw [ht]; exact hP⟩, hS.F ht⟩) hS.2.2 dX2_isBent_17
def f_X2_worksAs (M_gi : Int32) (M_be : Int32) (T_kd : Nat → Int32) (u1 : Int32) : Option (Int32) := bnd1 (f_X4_kindOf T_kd u1) (fun rr_1 => if rr_1 = (2 : Int32) then (some rr_1) else (if rr_1 = 0 then (some rr_1) else (if M_gi = 0 then (bnd1 (f_X2_isBent M_be u1) (fun rr_6 => if rr_6 = 0 then (if rr_1 = (1 : Int32) then (some (1 : Int32)) else (some (3 : Int32))) else (some (0 : Int32)))) else (some (0 : Int32)))))
set_option maxRecDepth 100000 in
set_option maxHeartbeats 4000000 in
theorem k_X2_worksAs (l : Launch) (G : Gt) (m0 m1 m2 m3 t0 t1 t2 t3 t4 t5 t6 : Nat) (M_gi : Int32) (M_be : Int32) (M_da : Int32) (M_du : Nat → Int32) (M_pl : Nat → Int32) (M_de : Nat → Int32) (T_br : Int32) (T_fa : Int32) (T_fd : Nat → Int32) (T_fp : Nat → Int32) (T_st : Nat → Int32) (T_kd : Nat → Int32) (T_fs : Nat → Int32) (T_fl : Nat → Int32) (u1 : Int32) (r_ : Int32) (h : f_X2_worksAs M_gi M_be T_kd u1 = some r_) : CT l yX2_worksAs wsX2_worksAs 1 21 G [.ref m0, .int u1] (W_MT G m0 m1 m2 m3 t0 t1 t2 t3 t4 t5 t6 M_gi M_be M_da M_du M_pl M_de T_br T_fa T_fd T_fp T_st T_kd T_fs T_fl) (QI G r_ (W_MT G m0 m1 m2 m3 t0 t1 t2 t3 t4 t5 t6 M_gi M_be M_da M_du M_pl M_de T_br T_fa T_fd T_fp T_st T_kd T_fs T_fl)) := by
  refine met_of cX2_worksAs 3 (some .int) (by decide) rfl (Nat.le_of_ble_eq_true rfl) ?_
  intro p e s m below meth c A ls hx hb hr hml hts hown hlocks hK hA hD hP hS hl
  replace hown : s.vm.findClass RX2 = some m.cls := hown
  replace hl : lv_has ls 3 [(0, .ref m0), (1, .int u1)] := hl
  have S0 : CallFix p m c cX2_worksAs 3 s _ wsX2_worksAs RX2 := ⟨hx, hb, hml, hown, hts⟩
  have fl33 := hts (.fieldLink RX2 33 "DustVote$Moment" "told" "LDustVote$Told;") (by decide +kernel)
  have inX2 := show ∀ w ∈ wsX20, w ∈ wsX2_worksAs from by decide +kernel
  have cw_X4_kindOf := show CallW (rmv 1 21) s _ RX2 RX4 71 yX4_kindOf cX4_kindOf 2 (some .int) wsX4_kindOf (rmv 0 0) 0 0 1 from cwV 1 hts gX2_worksAs_X4_kindOf rfl rfl rfl (by decide +kernel) ⟨Nat.le_of_ble_eq_true rfl, Nat.le_of_ble_eq_true rfl⟩
  have fl22 := hts (.fieldLink RX2 22 "DustVote$Moment" "given" "Z") (by decide +kernel)
  have cw_X2_isBent := show CallW (rmv 1 21) s _ RX2 RX2 74 yX2_isBent cX2_isBent 2 (some .boolean) wsX2_isBent (rmv 0 0) 0 0 1 from cwV 1 hts gX2_worksAs_X2_isBent rfl rfl rfl (by decide +kernel) ⟨Nat.le_of_ble_eq_true rfl, Nat.le_of_ble_eq_true rfl⟩
  unfold f_X2_worksAs at h
  refine lv_aload_n hx hb dX2_worksAs_0 rfl (lv_at hl 0 rfl) ?_
  refine va_get (ci := 2) (C := RX2) (T := TX2) (N := 7) hx hb hts inX2 hown hK.1 hP 0 rfl rfl 0 (by decide) fl33 (fun _ h9 => h9) rfl dX2_worksAs_1 ?_
  refine lv_iload_n hx hb dX2_worksAs_4 rfl (lv_at hl 1 rfl) ?_
  obtain ⟨rr_1, ee_2, h⟩ := bnd1_s h
  refine cVi (As := [.int u1]) (rest := []) S0 hK hA hP (va_D_same hD rfl) hS [4, 5, 6, 7, 8, 9, 10] (k_X4_kindOf l G t0 t1 t2 t3 t4 t5 t6 T_br T_fa T_fd T_fp T_st T_kd T_fs T_fl u1 rr_1 ee_2) cw_X4_kindOf rfl rfl (Nat.le_of_ble_eq_true rfl) 4 0 rfl rfl rfl rfl hl.1 rfl (Nat.le_of_ble_eq_true rfl) dX2_worksAs_5 ⟨Nat.zero_le _, Nat.zero_le _⟩ (fun H locs hP hS => ?_)
  replace hP : va_P G.1 vwCl (W_MT G m0 m1 m2 m3 t0 t1 t2 t3 t4 t5 t6 M_gi M_be M_da M_du M_pl M_de T_br T_fa T_fd T_fp T_st T_kd T_fs T_fl) H := hP
  refine lv_istore_n (lv' := [(2, .int rr_1), (0, .ref m0), (1, .int u1)]) hx hb dX2_worksAs_8 rfl hl (by decide) rfl (fun ls hl => ?_)
  refine lv_iload_n hx hb dX2_worksAs_9 rfl (lv_at hl 0 rfl) ?_
  refine lv_iconst (v := 2) hx hb dX2_worksAs_10 (by decide) ?_
  refine lv_icmp_eq (tgt := 18) hx hb dX2_worksAs_11 (by decide) (fun cc_3 => ?_) (fun cc_3 => ?_)
  · replace h := if_t cc_3 h
    refine lv_iload_n hx hb dX2_worksAs_18 rfl (lv_at hl 0 rfl) ?_
    cases h
    exact W.iret hx hb hr (fun t ht _ => ⟨⟨_, (), rfl, rfl, by show va_P G.1 vwCl _ t.heap; rw [ht]; exact hP⟩, hS.F ht⟩) hS.2.2 dX2_worksAs_19
  · replace h := if_f cc_3 h
    refine lv_iload_n hx hb dX2_worksAs_14 rfl (lv_at hl 0 rfl) ?_
    refine lv_if_ne (tgt := 20) hx hb dX2_worksAs_15 (by decide) (fun cc_4 => ?_) (fun cc_4 => ?_)
    · replace h := if_f cc_4 h
      refine lv_aload_n hx hb dX2_worksAs_20 rfl (lv_at hl 1 rfl) ?_
      refine va_get (ci := 2) (C := RX2) (T := TX2) (N := 7) hx hb hts inX2 hown hK.1 hP 0 rfl rfl 4 (by decide) fl22 (fun _ h9 => h9) rfl dX2_worksAs_21 ?_
      refine lv_if_ne (tgt := 35) hx hb dX2_worksAs_24 (by decide) (fun cc_5 => ?_) (fun cc_5 => ?_)
      · replace h := if_f cc_5 h
        refine lv_iconst (v := 0) hx hb dX2_worksAs_35 (by decide) ?_
        cases h
        exact W.iret hx hb hr (fun t ht _ => ⟨⟨_, (), rfl, rfl, by show va_P G.1 vwCl _ t.heap; rw [ht]; exact hP⟩, hS.F ht⟩) hS.2.2 dX2_worksAs_36
      · replace h := if_t cc_5 h
        refine lv_aload_n hx hb dX2_worksAs_27 rfl (lv_at hl 1 rfl) ?_
        refine lv_iload_n hx hb dX2_worksAs_28 rfl (lv_at hl 2 rfl) ?_
        obtain ⟨rr_6, ee_7, h⟩ := bnd1_s h
        refine cFi (As := [.int u1]) (rest := []) S0 hK hA hP (va_D_same hD rfl) hS (k_X2_isBent l G m0 m1 m2 m3 t0 t1 t2 t3 t4 t5 t6 M_gi M_be M_da M_du M_pl M_de T_br T_fa T_fd T_fp T_st T_kd T_fs T_fl u1 rr_6 ee_7) cw_X2_isBent 2 0 rfl rfl rfl rfl hl.1 rfl (Nat.le_of_ble_eq_true rfl) dX2_worksAs_29 ⟨Nat.zero_le _, Nat.zero_le _⟩ (fun H locs hP hS => ?_)
        replace hP : va_P G.1 vwCl (W_MT G m0 m1 m2 m3 t0 t1 t2 t3 t4 t5 t6 M_gi M_be M_da M_du M_pl M_de T_br T_fa T_fd T_fp T_st T_kd T_fs T_fl) H := hP
        refine lv_if_eq (tgt := 37) hx hb dX2_worksAs_32 (by decide) (fun cc_8 => ?_) (fun cc_8 => ?_)
        · replace h := if_t cc_8 h
          refine lv_iload_n hx hb dX2_worksAs_37 rfl (lv_at hl 0 rfl) ?_
          refine lv_iconst (v := 1) hx hb dX2_worksAs_38 (by decide) ?_
          refine lv_icmp_ne (tgt := 46) hx hb dX2_worksAs_39 (by decide) (fun cc_9 => ?_) (fun cc_9 => ?_)
          · replace h := if_f cc_9 h
            refine lv_iconst (v := 3) hx hb dX2_worksAs_46 (by decide) ?_
            cases h
            exact W.iret hx hb hr (fun t ht _ => ⟨⟨_, (), rfl, rfl, by show va_P G.1 vwCl _ t.heap; rw [ht]; exact hP⟩, hS.F ht⟩) hS.2.2 dX2_worksAs_47
          · replace h := if_t cc_9 h
            refine lv_iconst (v := 1) hx hb dX2_worksAs_42 (by decide) ?_
            refine lv_goto (tgt := 47) hx hb dX2_worksAs_43 (by decide) ?_
            cases h
            exact W.iret hx hb hr (fun t ht _ => ⟨⟨_, (), rfl, rfl, by show va_P G.1 vwCl _ t.heap; rw [ht]; exact hP⟩, hS.F ht⟩) hS.2.2 dX2_worksAs_47
        · replace h := if_f cc_8 h
          refine lv_iconst (v := 0) hx hb dX2_worksAs_35 (by decide) ?_
          cases h
          exact W.iret hx hb hr (fun t ht _ => ⟨⟨_, (), rfl, rfl, by show va_P G.1 vwCl _ t.heap; rw [ht]; exact hP⟩, hS.F ht⟩) hS.2.2 dX2_worksAs_36
    · replace h := if_t cc_4 h
      refine lv_iload_n hx hb dX2_worksAs_18 rfl (lv_at hl 0 rfl) ?_
      cases h
      exact W.iret hx hb hr (fun t ht _ => ⟨⟨_, (), rfl, rfl, by show va_P G.1 vwCl _ t.heap; rw [ht]; exact hP⟩, hS.F ht⟩) hS.2.2 dX2_worksAs_19
