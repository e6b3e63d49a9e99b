def f_X5_isStreet (u1 : Int32) : Option (Int32) := if u1 < 0 then (some (0 : Int32)) else (if (8 : Int32) ≤ u1 then (some (0 : Int32)) else (some (1 : Int32)))
set_option maxRecDepth 100000 in
set_option maxHeartbeats 4000000 in
theorem k_X5_isStreet (l : Launch) (G : Gt) (u1 : Int32) (r_ : Int32) (h : f_X5_isStreet u1 = some r_) : CT l yX5_isStreet wsX5_isStreet 0 0 G [.int u1] (W_0 G) (QI G r_ (W_0 G)) := by
  refine met_of cX5_isStreet 1 (some .boolean) (by decide) rfl (Nat.le_of_ble_eq_true rfl) ?_
  intro p e s m below meth c A ls hx hb hr hml hts hown hlocks hK hA hD hP hS hl
  replace hown : s.vm.findClass RX5 = some m.cls := hown
  replace hl : lv_has ls 1 [(0, .int u1)] := hl
  have S0 : CallFix p m c cX5_isStreet 1 s _ wsX5_isStreet RX5 := ⟨hx, hb, hml, hown, hts⟩
  unfold f_X5_isStreet at h
  refine lv_iload_n hx hb dX5_isStreet_0 rfl (lv_at hl 0 rfl) ?_
  refine lv_if_lt (tgt := 14) hx hb dX5_isStreet_1 (by decide) (fun cc_1 => ?_) (fun cc_1 => ?_)
  · replace h := if_t cc_1 h
    refine lv_iconst (v := 0) hx hb dX5_isStreet_14 (by decide) ?_
    cases h
    exact W.zret (ty := .boolean) hx hb hr (by decide) (fun t ht _ => ⟨⟨_, (), rfl, rfl, by show va_P G.1 vwCl _ t.heap; rw [ht]; exact hP⟩, hS.F ht⟩) hS.2.2 dX5_isStreet_15
  · replace h := if_f cc_1 h
    refine lv_iload_n hx hb dX5_isStreet_4 rfl (lv_at hl 0 rfl) ?_
    refine lv_bipush (v := 8) hx hb dX5_isStreet_5 (by decide) ?_
    refine lv_icmp_ge (tgt := 14) hx hb dX5_isStreet_7 (by decide) (fun cc_2 => ?_) (fun cc_2 => ?_)
    · replace h := if_t cc_2 h
      refine lv_iconst (v := 0) hx hb dX5_isStreet_14 (by decide) ?_
      cases h
      exact W.zret (ty := .boolean) hx hb hr (by decide) (fun t ht _ => ⟨⟨_, (), rfl, rfl, by show va_P G.1 vwCl _ t.heap; rw [ht]; exact hP⟩, hS.F ht⟩) hS.2.2 dX5_isStreet_15
    · replace h := if_f cc_2 h
      refine lv_iconst (v := 1) hx hb dX5_isStreet_10 (by decide) ?_
      refine lv_goto (tgt := 15) hx hb dX5_isStreet_11 (by decide) ?_
      cases h
      exact W.zret (ty := .boolean) hx hb hr (by decide) (fun t ht _ => ⟨⟨_, (), rfl, rfl, by show va_P G.1 vwCl _ t.heap; rw [ht]; exact hP⟩, hS.F ht⟩) hS.2.2 dX5_isStreet_15
def f_X3_faultOfBroom (S_len : Int32) (S_let : Nat → Int32) (u1 : Int32) : Option (Int32) := bnd1 (f_X3_figureAt S_len S_let (u1 + (1 : Int32))) (fun rr_1 => bnd1 (f_X5_isStreet rr_1) (fun rr_3 => if rr_3 = 0 then (some (u1 + (1 : Int32))) else (bnd1 (f_X3_figureAt S_len S_let (u1 + (2 : Int32))) (fun rr_6 => bnd1 (f_X5_within rr_6 (1 : Int32) (9 : Int32)) (fun rr_8 => if rr_8 = 0 then (some (u1 + (2 : Int32))) else (bnd1 (f_X3_figureAt S_len S_let (u1 + (3 : Int32))) (fun rr_11 => bnd1 (f_X5_within rr_11 (0 : Int32) (3 : Int32)) (fun rr_13 => if rr_13 = 0 then (some (u1 + (3 : Int32))) else (some ((-9) : Int32))))))))))
set_option maxRecDepth 100000 in
set_option maxHeartbeats 4000000 in
theorem k_X3_faultOfBroom (l : Launch) (G : Gt) (s0 s1 : Nat) (S_len : Int32) (S_let : Nat → Int32) (u1 : Int32) (r_ : Int32) (h : f_X3_faultOfBroom S_len S_let u1 = some r_) : CT l yX3_faultOfBroom wsX3_faultOfBroom 2 42 G [.ref s0, .int u1] (W_S G s0 s1 S_len S_let) (QI G r_ (W_S G s0 s1 S_len S_let)) := by
  refine met_of cX3_faultOfBroom 2 (some .int) (by decide) rfl (Nat.le_of_ble_eq_true rfl) ?_
  intro p e s m below meth c A ls hx hb hr hml hts hown hlocks hK hA hD hP hS hl
  replace hown : s.vm.findClass RX3 = some m.cls := hown
  replace hl : lv_has ls 2 [(0, .ref s0), (1, .int u1)] := hl
  have S0 : CallFix p m c cX3_faultOfBroom 2 s _ wsX3_faultOfBroom RX3 := ⟨hx, hb, hml, hown, hts⟩
  have cw_X3_figureAt := show CallW (rmv 2 42) s _ RX3 RX3 23 yX3_figureAt cX3_figureAt 2 (some .int) wsX3_figureAt (rmv 1 21) 0 0 1 from cwV 1 hts gX3_faultOfBroom_X3_figureAt rfl rfl rfl (by decide +kernel) ⟨Nat.le_of_ble_eq_true rfl, Nat.le_of_ble_eq_true rfl⟩
  have cw_X5_isStreet := show va_CN (rmv 2 42) s _ RX3 40 yX5_isStreet "DustVote" cX5_isStreet 1 (some .boolean) wsX5_isStreet (rmv 0 0) 0 0 1 ∧ (Cond.static yX5_isStreet).before _ s = true ∧ True from ⟨va_cnB 1 hts gX3_faultOfBroom_X5_isStreet_n40 rfl rfl rfl (hK.m (by decide)) (hts (.initialized RX5) (by decide +kernel)) (by decide +kernel) ⟨Nat.le_of_ble_eq_true rfl, Nat.le_of_ble_eq_true rfl⟩, hts (.static yX5_isStreet) (by decide +kernel), trivial⟩
  have cw_X5_within := show va_CN (rmv 2 42) s _ RX3 26 yX5_within "DustVote" cX5_within 3 (some .boolean) wsX5_within (rmv 0 0) 0 0 3 ∧ (Cond.static yX5_within).before _ s = true ∧ True from ⟨va_cnB 3 hts gX3_faultOfBroom_X5_within_n26 rfl rfl rfl (hK.m (by decide)) (hts (.initialized RX5) (by decide +kernel)) (by decide +kernel) ⟨Nat.le_of_ble_eq_true rfl, Nat.le_of_ble_eq_true rfl⟩, hts (.static yX5_within) (by decide +kernel), trivial⟩
  unfold f_X3_faultOfBroom at h
  refine lv_aload_n hx hb dX3_faultOfBroom_0 rfl (lv_at hl 0 rfl) ?_
  refine lv_iload_n hx hb dX3_faultOfBroom_1 rfl (lv_at hl 1 rfl) ?_
  refine lv_iconst (v := 1) hx hb dX3_faultOfBroom_2 (by decide) ?_
  refine lv_iadd hx hb dX3_faultOfBroom_3 ?_
  obtain ⟨rr_1, ee_2, h⟩ := bnd1_s h
  refine cFi (As := [.int (u1 + (1 : Int32))]) (rest := []) S0 hK hA hP (va_D_same hD rfl) hS (k_X3_figureAt l G s0 s1 S_len S_let (u1 + (1 : Int32)) rr_1 ee_2) cw_X3_figureAt 3 0 rfl rfl rfl rfl hl.1 rfl (Nat.le_of_ble_eq_true rfl) dX3_faultOfBroom_4 ⟨Nat.zero_le _, Nat.zero_le _⟩ (fun H locs hP hS => ?_)
  replace hP : va_P G.1 vwCl (W_S G s0 s1 S_len S_let) H := hP
  obtain ⟨rr_3, ee_4, h⟩ := bnd1_s h
  refine cNi (As := [.int rr_1]) (rest := []) S0 hK hA hP (va_D_same hD rfl) hS [] (k_X5_isStreet l G rr_1 rr_3 ee_4) cw_X5_isStreet rfl rfl (Nat.le_of_ble_eq_true rfl) rfl hl.1 rfl (Nat.le_of_ble_eq_true rfl) dX3_faultOfBroom_7 ⟨Nat.zero_le _, Nat.zero_le _⟩ (fun H locs hP hS => ?_)
  replace hP : va_P G.1 vwCl (W_S G s0 s1 S_len S_let) H := hP
  refine lv_if_ne (tgt := 17) hx hb dX3_faultOfBroom_10 (by decide) (fun cc_5 => ?_) (fun cc_5 => ?_)
  · replace h := if_f cc_5 h
    refine lv_aload_n hx hb dX3_faultOfBroom_17 rfl (lv_at hl 0 rfl) ?_
    refine lv_iload_n hx hb dX3_faultOfBroom_18 rfl (lv_at hl 1 rfl) ?_
    refine lv_iconst (v := 2) hx hb dX3_faultOfBroom_19 (by decide) ?_
    refine lv_iadd hx hb dX3_faultOfBroom_20 ?_
    obtain ⟨rr_6, ee_7, h⟩ := bnd1_s h
    refine cFi (As := [.int (u1 + (2 : Int32))]) (rest := []) S0 hK hA hP (va_D_same hD rfl) hS (k_X3_figureAt l G s0 s1 S_len S_let (u1 + (2 : Int32)) rr_6 ee_7) cw_X3_figureAt 3 0 rfl rfl rfl rfl hl.1 rfl (Nat.le_of_ble_eq_true rfl) dX3_faultOfBroom_21 ⟨Nat.zero_le _, Nat.zero_le _⟩ (fun H locs hP hS => ?_)
    replace hP : va_P G.1 vwCl (W_S G s0 s1 S_len S_let) H := hP
    refine lv_iconst (v := 1) hx hb dX3_faultOfBroom_24 (by decide) ?_
    refine lv_bipush (v := 9) hx hb dX3_faultOfBroom_25 (by decide) ?_
    obtain ⟨rr_8, ee_9, h⟩ := bnd1_s h
    refine cNi (As := [.int rr_6, .int (1 : Int32), .int (9 : Int32)]) (rest := []) S0 hK hA hP (va_D_same hD rfl) hS [] (k_X5_within l G rr_6 (1 : Int32) (9 : Int32) rr_8 ee_9) cw_X5_within rfl rfl (Nat.le_of_ble_eq_true rfl) rfl hl.1 rfl (Nat.le_of_ble_eq_true rfl) dX3_faultOfBroom_27 ⟨Nat.zero_le _, Nat.zero_le _⟩ (fun H locs hP hS => ?_)
    replace hP : va_P G.1 vwCl (W_S G s0 s1 S_len S_let) H := hP
    refine lv_if_ne (tgt := 37) hx hb dX3_faultOfBroom_30 (by decide) (fun cc_10 => ?_) (fun cc_10 => ?_)
    · replace h := if_f cc_10 h
      refine lv_aload_n hx hb dX3_faultOfBroom_37 rfl (lv_at hl 0 rfl) ?_
      refine lv_iload_n hx hb dX3_faultOfBroom_38 rfl (lv_at hl 1 rfl) ?_
      refine lv_iconst (v := 3) hx hb dX3_faultOfBroom_39 (by decide) ?_
      refine lv_iadd hx hb dX3_faultOfBroom_40 ?_
      obtain ⟨rr_11, ee_12, h⟩ := bnd1_s h
      refine cFi (As := [.int (u1 + (3 : Int32))]) (rest := []) S0 hK hA hP (va_D_same hD rfl) hS (k_X3_figureAt l G s0 s1 S_len S_let (u1 + (3 : Int32)) rr_11 ee_12) cw_X3_figureAt 3 0 rfl rfl rfl rfl hl.1 rfl (Nat.le_of_ble_eq_true rfl) dX3_faultOfBroom_41 ⟨Nat.zero_le _, Nat.zero_le _⟩ (fun H locs hP hS => ?_)
      replace hP : va_P G.1 vwCl (W_S G s0 s1 S_len S_let) H := hP
      refine lv_iconst (v := 0) hx hb dX3_faultOfBroom_44 (by decide) ?_
      refine lv_iconst (v := 3) hx hb dX3_faultOfBroom_45 (by decide) ?_
      obtain ⟨rr_13, ee_14, h⟩ := bnd1_s h
      refine cNi (As := [.int rr_11, .int (0 : Int32), .int (3 : Int32)]) (rest := []) S0 hK hA hP (va_D_same hD rfl) hS [] (k_X5_within l G rr_11 (0 : Int32) (3 : Int32) rr_13 ee_14) cw_X5_within rfl rfl (Nat.le_of_ble_eq_true rfl) rfl hl.1 rfl (Nat.le_of_ble_eq_true rfl) dX3_faultOfBroom_46 ⟨Nat.zero_le _, Nat.zero_le _⟩ (fun H locs hP hS => ?_)
      replace hP : va_P G.1 vwCl (W_S G s0 s1 S_len S_let) H := hP
      refine lv_if_eq (tgt := 57) hx hb dX3_faultOfBroom_49 (by decide) (fun cc_15 => ?_) (fun cc_15 => ?_)
      · replace h := if_t cc_15 h
        refine lv_iload_n hx hb dX3_faultOfBroom_57 rfl (lv_at hl 1 rfl) ?_
        refine lv_iconst (v := 3) hx hb dX3_faultOfBroom_58 (by decide) ?_
        refine lv_iadd hx hb dX3_faultOfBroom_59 ?_
        cases h
        exact W.iret hx hb hr (fun t ht _ => ⟨⟨_, (), rfl, rfl, by show va_P G.1 vwCl _ t.heap; rw [ht]; exact hP⟩, hS.F ht⟩) hS.2.2 dX3_faultOfBroom_60
      · replace h := if_f cc_15 h
        refine lv_bipush (v := (-9)) hx hb dX3_faultOfBroom_52 (by decide) ?_
        refine lv_goto (tgt := 60) hx hb dX3_faultOfBroom_54 (by decide) ?_
        cases h
        exact W.iret hx hb hr (fun t ht _ => ⟨⟨_, (), rfl, rfl, by show va_P G.1 vwCl _ t.heap; rw [ht]; exact hP⟩, hS.F ht⟩) hS.2.2 dX3_faultOfBroom_60
    · replace h := if_t cc_10 h
      refine lv_iload_n hx hb dX3_faultOfBroom_33 rfl (lv_at hl 1 rfl) ?_
      refine lv_iconst (v := 2) hx hb dX3_faultOfBroom_34 (by decide) ?_
      refine lv_iadd hx hb dX3_faultOfBroom_35 ?_
      cases h
      exact W.iret hx hb hr (fun t ht _ => ⟨⟨_, (), rfl, rfl, by show va_P G.1 vwCl _ t.heap; rw [ht]; exact hP⟩, hS.F ht⟩) hS.2.2 dX3_faultOfBroom_36
  · replace h := if_t cc_5 h
    refine lv_iload_n hx hb dX3_faultOfBroom_13 rfl (lv_at hl 1 rfl) ?_
    refine lv_iconst (v := 1) hx hb dX3_faultOfBroom_14 (by decide) ?_
    refine lv_iadd hx hb dX3_faultOfBroom_15 ?_
    cases h
    exact W.iret hx hb hr (fun t ht _ => ⟨⟨_, (), rfl, rfl, by show va_P G.1 vwCl _ t.heap; rw [ht]; exact hP⟩, hS.F ht⟩) hS.2.2 dX3_faultOfBroom_16
def f_X3_faultOfFall (S_len : Int32) (S_let : Nat → Int32) (u1 : Int32) : Option (Int32) := bnd1 (f_X3_figureAt S_len S_let (u1 + (1 : Int32))) (fun rr_1 => bnd1 (f_X5_isStreet rr_1) (fun rr_3 => if rr_3 = 0 then (some (u1 + (1 : Int32))) else (bnd1 (f_X3_figureAt S_len S_let (u1 + (2 : Int32))) (fun rr_6 => bnd1 (f_X5_within rr_6 (0 : Int32) (9 : Int32)) (fun rr_8 => if rr_8 = 0 then (some (u1 + (2 : Int32))) else (some ((-9) : Int32)))))))
set_option maxRecDepth 100000 in
set_option maxHeartbeats 4000000 in
theorem k_X3_faultOfFall (l : Launch) (G : Gt) (s0 s1 : Nat) (S_len : Int32) (S_let : Nat → Int32) (u1 : Int32) (r_ : Int32) (h : f_X3_faultOfFall S_len S_let u1 = some r_) : CT l yX3_faultOfFall wsX3_faultOfFall 2 42 G [.ref s0, .int u1] (W_S G s0 s1 S_len S_let) (QI G r_ (W_S G s0 s1 S_len S_let)) := by
  refine met_of cX3_faultOfFall 2 (some .int) (by decide) rfl (Nat.le_of_ble_eq_true rfl) ?_
  intro p e s m below meth c A ls hx hb hr hml hts hown hlocks hK hA hD hP hS hl
  replace hown : s.vm.findClass RX3 = some m.cls := hown
  replace hl : lv_has ls 2 [(0, .ref s0), (1, .int u1)] := hl
  have S0 : CallFix p m c cX3_faultOfFall 2 s _ wsX3_faultOfFall RX3 := ⟨hx, hb, hml, hown, hts⟩
  have cw_X3_figureAt := show CallW (rmv 2 42) s _ RX3 RX3 23 yX3_figureAt cX3_figureAt 2 (some .int) wsX3_figureAt (rmv 1 21) 0 0 1 from cwV 1 hts gX3_faultOfFall_X3_figureAt rfl rfl rfl (by decide +kernel) ⟨Nat.le_of_ble_eq_true rfl, Nat.le_of_ble_eq_true rfl⟩
  have cw_X5_isStreet := show va_CN (rmv 2 42) s _ RX3 40 yX5_isStreet "DustVote" cX5_isStreet 1 (some .boolean) wsX5_isStreet (rmv 0 0) 0 0 1 ∧ (Cond.static yX5_isStreet).before _ s = true ∧ True from ⟨va_cnB 1 hts gX3_faultOfFall_X5_isStreet_n40 rfl rfl rfl (hK.m (by decide)) (hts (.initialized RX5) (by decide +kernel)) (by decide +kernel) ⟨Nat.le_of_ble_eq_true rfl, Nat.le_of_ble_eq_true rfl⟩, hts (.static yX5_isStreet) (by decide +kernel), trivial⟩
  have cw_X5_within := show va_CN (rmv 2 42) s _ RX3 26 yX5_within "DustVote" cX5_within 3 (some .boolean) wsX5_within (rmv 0 0) 0 0 3 ∧ (Cond.static yX5_within).before _ s = true ∧ True from ⟨va_cnB 3 hts gX3_faultOfFall_X5_within_n26 rfl rfl rfl (hK.m (by decide)) (hts (.initialized RX5) (by decide +kernel)) (by decide +kernel) ⟨Nat.le_of_ble_eq_true rfl, Nat.le_of_ble_eq_true rfl⟩, hts (.static yX5_within) (by decide +kernel), trivial⟩
  unfold f_X3_faultOfFall at h
  refine lv_aload_n hx hb dX3_faultOfFall_0 rfl (lv_at hl 0 rfl) ?_
  refine lv_iload_n hx hb dX3_faultOfFall_1 rfl (lv_at hl 1 rfl) ?_
  refine lv_iconst (v := 1) hx hb dX3_faultOfFall_2 (by decide) ?_
  refine lv_iadd hx hb dX3_faultOfFall_3 ?_
  obtain ⟨rr_1, ee_2, h⟩ := bnd1_s h
  refine cFi (As := [.int (u1 + (1 : Int32))]) (rest := []) S0 hK hA hP (va_D_same hD rfl) hS (k_X3_figureAt l G s0 s1 S_len S_let (u1 + (1 : Int32)) rr_1 ee_2) cw_X3_figureAt 3 0 rfl rfl rfl rfl hl.1 rfl (Nat.le_of_ble_eq_true rfl) dX3_faultOfFall_4 ⟨Nat.zero_le _, Nat.zero_le _⟩ (fun H locs hP hS => ?_)
  replace hP : va_P G.1 vwCl (W_S G s0 s1 S_len S_let) H := hP
  obtain ⟨rr_3, ee_4, h⟩ := bnd1_s h
  refine cNi (As := [.int rr_1]) (rest := []) S0 hK hA hP (va_D_same hD rfl) hS [] (k_X5_isStreet l G rr_1 rr_3 ee_4) cw_X5_isStreet rfl rfl (Nat.le_of_ble_eq_true rfl) rfl hl.1 rfl (Nat.le_of_ble_eq_true rfl) dX3_faultOfFall_7 ⟨Nat.zero_le _, Nat.zero_le _⟩ (fun H locs hP hS => ?_)
  replace hP : va_P G.1 vwCl (W_S G s0 s1 S_len S_let) H := hP
  refine lv_if_ne (tgt := 17) hx hb dX3_faultOfFall_10 (by decide) (fun cc_5 => ?_) (fun cc_5 => ?_)
  · replace h := if_f cc_5 h
    refine lv_aload_n hx hb dX3_faultOfFall_17 rfl (lv_at hl 0 rfl) ?_
    refine lv_iload_n hx hb dX3_faultOfFall_18 rfl (lv_at hl 1 rfl) ?_
    refine lv_iconst (v := 2) hx hb dX3_faultOfFall_19 (by decide) ?_
    refine lv_iadd hx hb dX3_faultOfFall_20 ?_
    obtain ⟨rr_6, ee_7, h⟩ := bnd1_s h
    refine cFi (As := [.int (u1 + (2 : Int32))]) (rest := []) S0 hK hA hP (va_D_same hD rfl) hS (k_X3_figureAt l G s0 s1 S_len S_let (u1 + (2 : Int32)) rr_6 ee_7) cw_X3_figureAt 3 0 rfl rfl rfl rfl hl.1 rfl (Nat.le_of_ble_eq_true rfl) dX3_faultOfFall_21 ⟨Nat.zero_le _, Nat.zero_le _⟩ (fun H locs hP hS => ?_)
    replace hP : va_P G.1 vwCl (W_S G s0 s1 S_len S_let) H := hP
    refine lv_iconst (v := 0) hx hb dX3_faultOfFall_24 (by decide) ?_
    refine lv_bipush (v := 9) hx hb dX3_faultOfFall_25 (by decide) ?_
    obtain ⟨rr_8, ee_9, h⟩ := bnd1_s h
    refine cNi (As := [.int rr_6, .int (0 : Int32), .int (9 : Int32)]) (rest := []) S0 hK hA hP (va_D_same hD rfl) hS [] (k_X5_within l G rr_6 (0 : Int32) (9 : Int32) rr_8 ee_9) cw_X5_within rfl rfl (Nat.le_of_ble_eq_true rfl) rfl hl.1 rfl (Nat.le_of_ble_eq_true rfl) dX3_faultOfFall_27 ⟨Nat.zero_le _, Nat.zero_le _⟩ (fun H locs hP hS => ?_)
    replace hP : va_P G.1 vwCl (W_S G s0 s1 S_len S_let) H := hP
    refine lv_if_eq (tgt := 38) hx hb dX3_faultOfFall_30 (by decide) (fun cc_10 => ?_) (fun cc_10 => ?_)
    · replace h := if_t cc_10 h
      refine lv_iload_n hx hb dX3_faultOfFall_38 rfl (lv_at hl 1 rfl) ?_
      refine lv_iconst (v := 2) hx hb dX3_faultOfFall_39 (by decide) ?_
      refine lv_iadd hx hb dX3_faultOfFall_40 ?_
      cases h
      exact W.iret hx hb hr (fun t ht _ => ⟨⟨_, (), rfl, rfl, by show va_P G.1 vwCl _ t.heap; rw [ht]; exact hP⟩, hS.F ht⟩) hS.2.2 dX3_faultOfFall_41
    · replace h := if_f cc_10 h
      refine lv_bipush (v := (-9)) hx hb dX3_faultOfFall_33 (by decide) ?_
      refine lv_goto (tgt := 41) hx hb dX3_faultOfFall_35 (by decide) ?_
      cases h
      exact W.iret hx hb hr (fun t ht _ => ⟨⟨_, (), rfl, rfl, by show va_P G.1 vwCl _ t.heap; rw [ht]; exact hP⟩, hS.F ht⟩) hS.2.2 dX3_faultOfFall_41
  · replace h := if_t cc_5 h
    refine lv_iload_n hx hb dX3_faultOfFall_13 rfl (lv_at hl 1 rfl) ?_
    refine lv_iconst (v := 1) hx hb dX3_faultOfFall_14 (by decide) ?_
    refine lv_iadd hx hb dX3_faultOfFall_15 ?_
    cases h
    exact W.iret hx hb hr (fun t ht _ => ⟨⟨_, (), rfl, rfl, by show va_P G.1 vwCl _ t.heap; rw [ht]; exact hP⟩, hS.F ht⟩) hS.2.2 dX3_faultOfFall_16
