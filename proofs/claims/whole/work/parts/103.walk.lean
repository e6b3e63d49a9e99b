def f_X4_addBroom (T_br : Int32) (T_fp : Nat → Int32) (T_st : Nat → Int32) (T_kd : Nat → Int32) (S_len : Int32) (S_let : Nat → Int32) (u2 : Int32) : Option (Int32 × (Nat → Int32) × (Nat → Int32) × (Nat → Int32)) := if (5 : Int32) ≤ T_br then (some (T_br, T_fp, T_st, T_kd)) else (bnd1 (f_X3_figureAt S_len S_let (u2 + (1 : Int32))) (fun rr_2 => bnd1 (wr T_fp 5 T_br rr_2) (fun dd_4 => bnd1 (f_X3_figureAt S_len S_let (u2 + (2 : Int32))) (fun rr_6 => bnd1 (wr T_st 5 T_br rr_6) (fun dd_8 => bnd1 (f_X3_figureAt S_len S_let (u2 + (3 : Int32))) (fun rr_10 => bnd1 (wr T_kd 5 T_br rr_10) (fun dd_12 => some ((T_br + (1 : Int32)), dd_4, dd_8, dd_12))))))))
set_option maxRecDepth 100000 in
set_option maxHeartbeats 4000000 in
theorem k_X4_addBroom (l : Launch) (G : Gt) (t0 t1 t2 t3 t4 t5 t6 s0 s1 : Nat) (T_br : Int32) (T_fa : Int32) (T_fd : Nat → Int32) (T_fp : Nat → Int32) (T_st : Nat → Int32) (T_kd : Nat → Int32) (T_fs : Nat → Int32) (T_fl : Nat → Int32) (S_len : Int32) (S_let : Nat → Int32) (u2 : Int32) (o_T_br : Int32) (o_T_fp : Nat → Int32) (o_T_st : Nat → Int32) (o_T_kd : Nat → Int32) (h : f_X4_addBroom T_br T_fp T_st T_kd S_len S_let u2 = some (o_T_br, o_T_fp, o_T_st, o_T_kd)) : CT l yX4_addBroom wsX4_addBroom 2 42 G [.ref t0, .ref s0, .int u2] (W_TS G t0 t1 t2 t3 t4 t5 t6 s0 s1 T_br T_fa T_fd T_fp T_st T_kd T_fs T_fl S_len S_let) (QV G (W_TS G t0 t1 t2 t3 t4 t5 t6 s0 s1 o_T_br T_fa T_fd o_T_fp o_T_st o_T_kd T_fs T_fl S_len S_let)) := by
  refine met_of cX4_addBroom 3 none (by decide) rfl (Nat.le_of_ble_eq_true rfl) ?_
  intro p e s m below meth c A ls hx hb hr hml hts hown hlocks hK hA hD hP hS hl
  replace hown : s.vm.findClass RX4 = some m.cls := hown
  replace hl : lv_has ls 3 [(0, .ref t0), (1, .ref s0), (2, .int u2)] := hl
  have S0 : CallFix p m c cX4_addBroom 3 s _ wsX4_addBroom RX4 := ⟨hx, hb, hml, hown, hts⟩
  have fl30 := hts (.fieldLink RX4 30 "DustVote$Told" "brooms" "I") (by decide +kernel)
  have inX4 := show ∀ w ∈ wsX40, w ∈ wsX4_addBroom from by decide +kernel
  have fl15 := hts (.fieldLink RX4 15 "DustVote$Told" "firstPlace" "[I") (by decide +kernel)
  have cw_X3_figureAt := show CallW (rmv 2 42) s _ RX4 RX3 37 yX3_figureAt cX3_figureAt 2 (some .int) wsX3_figureAt (rmv 1 21) 0 0 1 from cwV 1 hts gX4_addBroom_X3_figureAt rfl rfl rfl (by decide +kernel) ⟨Nat.le_of_ble_eq_true rfl, Nat.le_of_ble_eq_true rfl⟩
  have fl18 := hts (.fieldLink RX4 18 "DustVote$Told" "strength" "[I") (by decide +kernel)
  have fl21 := hts (.fieldLink RX4 21 "DustVote$Told" "kind" "[I") (by decide +kernel)
  unfold f_X4_addBroom at h
  refine lv_aload_n hx hb dX4_addBroom_0 rfl (lv_at hl 0 rfl) ?_
  refine va_get (ci := 4) (C := RX4) (T := TX4) (N := 8) hx hb hts inX4 hown hK.1 hP 0 rfl rfl 6 (by decide) fl30 (fun _ h9 => h9) rfl dX4_addBroom_1 ?_
  refine lv_iconst (v := 5) hx hb dX4_addBroom_4 (by decide) ?_
  refine lv_icmp_ge (tgt := 66) hx hb dX4_addBroom_5 (by decide) (fun cc_1 => ?_) (fun cc_1 => ?_)
  · replace h := if_t cc_1 h
    cases h
    exact W.vret hx hb hr (fun t ht _ => ⟨⟨(), rfl, trivial, by show va_P G.1 vwCl _ t.heap; rw [ht]; exact hP⟩, hS.F ht⟩) hS.2.2 dX4_addBroom_66
  · replace h := if_f cc_1 h
    refine lv_aload_n hx hb dX4_addBroom_8 rfl (lv_at hl 0 rfl) ?_
    refine va_get (ci := 4) (C := RX4) (T := TX4) (N := 8) hx hb hts inX4 hown hK.1 hP 0 rfl rfl 1 (by decide) fl15 (fun _ h9 => h9) rfl dX4_addBroom_9 ?_
    refine lv_aload_n hx hb dX4_addBroom_12 rfl (lv_at hl 0 rfl) ?_
    refine va_get (ci := 4) (C := RX4) (T := TX4) (N := 8) hx hb hts inX4 hown hK.1 hP 0 rfl rfl 6 (by decide) fl30 (fun _ h9 => h9) rfl dX4_addBroom_13 ?_
    refine lv_aload_n hx hb dX4_addBroom_16 rfl (lv_at hl 1 rfl) ?_
    refine lv_iload_n hx hb dX4_addBroom_17 rfl (lv_at hl 2 rfl) ?_
    refine lv_iconst (v := 1) hx hb dX4_addBroom_18 (by decide) ?_
    refine lv_iadd hx hb dX4_addBroom_19 ?_
    obtain ⟨rr_2, ee_3, h⟩ := bnd1_s h
    refine cVi (As := [.int (u2 + (1 : Int32))]) (rest := [.int T_br, .ref t2]) S0 hK hA hP (va_D_same hD rfl) hS [7, 8] (k_X3_figureAt l G s0 s1 S_len S_let (u2 + (1 : Int32)) rr_2 ee_3) cw_X3_figureAt rfl rfl (Nat.le_of_ble_eq_true rfl) 3 0 rfl rfl rfl rfl hl.1 rfl (Nat.le_of_ble_eq_true rfl) dX4_addBroom_20 ⟨Nat.zero_le _, Nat.zero_le _⟩ (fun H locs hP hS => ?_)
    replace hP : va_P G.1 vwCl (W_TS G t0 t1 t2 t3 t4 t5 t6 s0 s1 T_br T_fa T_fd T_fp T_st T_kd T_fs T_fl S_len S_let) H := hP
    obtain ⟨dd_4, ee_5, h⟩ := bnd1_s h
    refine wIast hx hb hK hP (va_D_same hD rfl) hS 2 rfl ee_5 dX4_addBroom_23 (fun H locs hP hS => ?_)
    replace hP : va_P G.1 vwCl (W_TS G t0 t1 t2 t3 t4 t5 t6 s0 s1 T_br T_fa T_fd dd_4 T_st T_kd T_fs T_fl S_len S_let) H := hP
    refine lv_aload_n hx hb dX4_addBroom_24 rfl (lv_at hl 0 rfl) ?_
    refine va_get (ci := 4) (C := RX4) (T := TX4) (N := 8) hx hb hts inX4 hown hK.1 hP 0 rfl rfl 2 (by decide) fl18 (fun _ h9 => h9) rfl dX4_addBroom_25 ?_
    refine lv_aload_n hx hb dX4_addBroom_28 rfl (lv_at hl 0 rfl) ?_
    refine va_get (ci := 4) (C := RX4) (T := TX4) (N := 8) hx hb hts inX4 hown hK.1 hP 0 rfl rfl 6 (by decide) fl30 (fun _ h9 => h9) rfl dX4_addBroom_29 ?_
    refine lv_aload_n hx hb dX4_addBroom_32 rfl (lv_at hl 1 rfl) ?_
    refine lv_iload_n hx hb dX4_addBroom_33 rfl (lv_at hl 2 rfl) ?_
    refine lv_iconst (v := 2) hx hb dX4_addBroom_34 (by decide) ?_
    refine lv_iadd hx hb dX4_addBroom_35 ?_
    obtain ⟨rr_6, ee_7, h⟩ := bnd1_s h
    refine cVi (As := [.int (u2 + (2 : Int32))]) (rest := [.int T_br, .ref t3]) S0 hK hA hP (va_D_same hD rfl) hS [7, 8] (k_X3_figureAt l G s0 s1 S_len S_let (u2 + (2 : Int32)) rr_6 ee_7) cw_X3_figureAt rfl rfl (Nat.le_of_ble_eq_true rfl) 3 0 rfl rfl rfl rfl hl.1 rfl (Nat.le_of_ble_eq_true rfl) dX4_addBroom_36 ⟨Nat.zero_le _, Nat.zero_le _⟩ (fun H locs hP hS => ?_)
    replace hP : va_P G.1 vwCl (W_TS G t0 t1 t2 t3 t4 t5 t6 s0 s1 T_br T_fa T_fd dd_4 T_st T_kd T_fs T_fl S_len S_let) H := hP
    obtain ⟨dd_8, ee_9, h⟩ := bnd1_s h
    refine wIast hx hb hK hP (va_D_same hD rfl) hS 3 rfl ee_9 dX4_addBroom_39 (fun H locs hP hS => ?_)
    replace hP : va_P G.1 vwCl (W_TS G t0 t1 t2 t3 t4 t5 t6 s0 s1 T_br T_fa T_fd dd_4 dd_8 T_kd T_fs T_fl S_len S_let) H := hP
    refine lv_aload_n hx hb dX4_addBroom_40 rfl (lv_at hl 0 rfl) ?_
    refine va_get (ci := 4) (C := RX4) (T := TX4) (N := 8) hx hb hts inX4 hown hK.1 hP 0 rfl rfl 3 (by decide) fl21 (fun _ h9 => h9) rfl dX4_addBroom_41 ?_
    refine lv_aload_n hx hb dX4_addBroom_44 rfl (lv_at hl 0 rfl) ?_
    refine va_get (ci := 4) (C := RX4) (T := TX4) (N := 8) hx hb hts inX4 hown hK.1 hP 0 rfl rfl 6 (by decide) fl30 (fun _ h9 => h9) rfl dX4_addBroom_45 ?_
    refine lv_aload_n hx hb dX4_addBroom_48 rfl (lv_at hl 1 rfl) ?_
    refine lv_iload_n hx hb dX4_addBroom_49 rfl (lv_at hl 2 rfl) ?_
    refine lv_iconst (v := 3) hx hb dX4_addBroom_50 (by decide) ?_
    refine lv_iadd hx hb dX4_addBroom_51 ?_
    obtain ⟨rr_10, ee_11, h⟩ := bnd1_s h
    refine cVi (As := [.int (u2 + (3 : Int32))]) (rest := [.int T_br, .ref t4]) S0 hK hA hP (va_D_same hD rfl) hS [7, 8] (k_X3_figureAt l G s0 s1 S_len S_let (u2 + (3 : Int32)) rr_10 ee_11) cw_X3_figureAt rfl rfl (Nat.le_of_ble_eq_true rfl) 3 0 rfl rfl rfl rfl hl.1 rfl (Nat.le_of_ble_eq_true rfl) dX4_addBroom_52 ⟨Nat.zero_le _, Nat.zero_le _⟩ (fun H locs hP hS => ?_)
    replace hP : va_P G.1 vwCl (W_TS G t0 t1 t2 t3 t4 t5 t6 s0 s1 T_br T_fa T_fd dd_4 dd_8 T_kd T_fs T_fl S_len S_let) H := hP
    obtain ⟨dd_12, ee_13, h⟩ := bnd1_s h
    refine wIast hx hb hK hP (va_D_same hD rfl) hS 4 rfl ee_13 dX4_addBroom_55 (fun H locs hP hS => ?_)
    replace hP : va_P G.1 vwCl (W_TS G t0 t1 t2 t3 t4 t5 t6 s0 s1 T_br T_fa T_fd dd_4 dd_8 dd_12 T_fs T_fl S_len S_let) H := hP
    refine lv_aload_n hx hb dX4_addBroom_56 rfl (lv_at hl 0 rfl) ?_
    refine lv_dup hx hb dX4_addBroom_57 rfl ?_
    refine va_get (ci := 4) (C := RX4) (T := TX4) (N := 8) hx hb hts inX4 hown hK.1 hP 0 rfl rfl 6 (by decide) fl30 (fun _ h9 => h9) rfl dX4_addBroom_58 ?_
    refine lv_iconst (v := 1) hx hb dX4_addBroom_61 (by decide) ?_
    refine lv_iadd hx hb dX4_addBroom_62 ?_
    refine va_put (ci := 4) (ty := .int) (C := RX4) (T := TX4) (N := 8) hx hb hts inX4 tyX4 tyX4_ok nmX4 hown hK.1 hP (va_D_same hD rfl) hS 0 rfl rfl 6 (by decide) fl30 (fun _ h9 => h9) rfl (by decide +kernel) rfl rfl (Nat.le_of_ble_eq_true rfl) dX4_addBroom_63 (fun H locs hP _ hS => ?_)
    replace hP : va_P G.1 vwCl (W_TS G t0 t1 t2 t3 t4 t5 t6 s0 s1 (T_br + (1 : Int32)) T_fa T_fd dd_4 dd_8 dd_12 T_fs T_fl S_len S_let) H := hP
    cases h
    exact W.vret hx hb hr (fun t ht _ => ⟨⟨(), rfl, trivial, by show va_P G.1 vwCl _ t.heap; rw [ht]; exact hP⟩, hS.F ht⟩) hS.2.2 dX4_addBroom_66
def f_X4_addFall (T_fa : Int32) (T_fs : Nat → Int32) (T_fl : Nat → Int32) (S_len : Int32) (S_let : Nat → Int32) (u2 : Int32) : Option (Int32 × (Nat → Int32) × (Nat → Int32)) := if (5 : Int32) ≤ T_fa then (some (T_fa, T_fs, T_fl)) else (bnd1 (f_X3_figureAt S_len S_let (u2 + (1 : Int32))) (fun rr_2 => bnd1 (wr T_fs 5 T_fa rr_2) (fun dd_4 => bnd1 (f_X3_figureAt S_len S_let (u2 + (2 : Int32))) (fun rr_6 => bnd1 (wr T_fl 5 T_fa rr_6) (fun dd_8 => some ((T_fa + (1 : Int32)), dd_4, dd_8))))))
set_option maxRecDepth 100000 in
set_option maxHeartbeats 4000000 in
theorem k_X4_addFall (l : Launch) (G : Gt) (t0 t1 t2 t3 t4 t5 t6 s0 s1 : Nat) (T_br : Int32) (T_fa : Int32) (T_fd : Nat → Int32) (T_fp : Nat → Int32) (T_st : Nat → Int32) (T_kd : Nat → Int32) (T_fs : Nat → Int32) (T_fl : Nat → Int32) (S_len : Int32) (S_let : Nat → Int32) (u2 : Int32) (o_T_fa : Int32) (o_T_fs : Nat → Int32) (o_T_fl : Nat → Int32) (h : f_X4_addFall T_fa T_fs T_fl S_len S_let u2 = some (o_T_fa, o_T_fs, o_T_fl)) : CT l yX4_addFall wsX4_addFall 2 42 G [.ref t0, .ref s0, .int u2] (W_TS G t0 t1 t2 t3 t4 t5 t6 s0 s1 T_br T_fa T_fd T_fp T_st T_kd T_fs T_fl S_len S_let) (QV G (W_TS G t0 t1 t2 t3 t4 t5 t6 s0 s1 T_br o_T_fa T_fd T_fp T_st T_kd o_T_fs o_T_fl S_len S_let)) := by
  refine met_of cX4_addFall 3 none (by decide) rfl (Nat.le_of_ble_eq_true rfl) ?_
  intro p e s m below meth c A ls hx hb hr hml hts hown hlocks hK hA hD hP hS hl
  replace hown : s.vm.findClass RX4 = some m.cls := hown
  replace hl : lv_has ls 3 [(0, .ref t0), (1, .ref s0), (2, .int u2)] := hl
  have S0 : CallFix p m c cX4_addFall 3 s _ wsX4_addFall RX4 := ⟨hx, hb, hml, hown, hts⟩
  have fl34 := hts (.fieldLink RX4 34 "DustVote$Told" "falls" "I") (by decide +kernel)
  have inX4 := show ∀ w ∈ wsX40, w ∈ wsX4_addFall from by decide +kernel
  have fl24 := hts (.fieldLink RX4 24 "DustVote$Told" "fallStreet" "[I") (by decide +kernel)
  have cw_X3_figureAt := show CallW (rmv 2 42) s _ RX4 RX3 37 yX3_figureAt cX3_figureAt 2 (some .int) wsX3_figureAt (rmv 1 21) 0 0 1 from cwV 1 hts gX4_addFall_X3_figureAt rfl rfl rfl (by decide +kernel) ⟨Nat.le_of_ble_eq_true rfl, Nat.le_of_ble_eq_true rfl⟩
  have fl27 := hts (.fieldLink RX4 27 "DustVote$Told" "fallDust" "[I") (by decide +kernel)
  unfold f_X4_addFall at h
  refine lv_aload_n hx hb dX4_addFall_0 rfl (lv_at hl 0 rfl) ?_
  refine va_get (ci := 4) (C := RX4) (T := TX4) (N := 8) hx hb hts inX4 hown hK.1 hP 0 rfl rfl 7 (by decide) fl34 (fun _ h9 => h9) rfl dX4_addFall_1 ?_
  refine lv_iconst (v := 5) hx hb dX4_addFall_4 (by decide) ?_
  refine lv_icmp_ge (tgt := 50) hx hb dX4_addFall_5 (by decide) (fun cc_1 => ?_) (fun cc_1 => ?_)
  · replace h := if_t cc_1 h
    cases h
    exact W.vret hx hb hr (fun t ht _ => ⟨⟨(), rfl, trivial, by show va_P G.1 vwCl _ t.heap; rw [ht]; exact hP⟩, hS.F ht⟩) hS.2.2 dX4_addFall_50
  · replace h := if_f cc_1 h
    refine lv_aload_n hx hb dX4_addFall_8 rfl (lv_at hl 0 rfl) ?_
    refine va_get (ci := 4) (C := RX4) (T := TX4) (N := 8) hx hb hts inX4 hown hK.1 hP 0 rfl rfl 4 (by decide) fl24 (fun _ h9 => h9) rfl dX4_addFall_9 ?_
    refine lv_aload_n hx hb dX4_addFall_12 rfl (lv_at hl 0 rfl) ?_
    refine va_get (ci := 4) (C := RX4) (T := TX4) (N := 8) hx hb hts inX4 hown hK.1 hP 0 rfl rfl 7 (by decide) fl34 (fun _ h9 => h9) rfl dX4_addFall_13 ?_
    refine lv_aload_n hx hb dX4_addFall_16 rfl (lv_at hl 1 rfl) ?_
    refine lv_iload_n hx hb dX4_addFall_17 rfl (lv_at hl 2 rfl) ?_
    refine lv_iconst (v := 1) hx hb dX4_addFall_18 (by decide) ?_
    refine lv_iadd hx hb dX4_addFall_19 ?_
    obtain ⟨rr_2, ee_3, h⟩ := bnd1_s h
    refine cVi (As := [.int (u2 + (1 : Int32))]) (rest := [.int T_fa, .ref t5]) S0 hK hA hP (va_D_same hD rfl) hS [7, 8] (k_X3_figureAt l G s0 s1 S_len S_let (u2 + (1 : Int32)) rr_2 ee_3) cw_X3_figureAt rfl rfl (Nat.le_of_ble_eq_true rfl) 3 0 rfl rfl rfl rfl hl.1 rfl (Nat.le_of_ble_eq_true rfl) dX4_addFall_20 ⟨Nat.zero_le _, Nat.zero_le _⟩ (fun H locs hP hS => ?_)
    replace hP : va_P G.1 vwCl (W_TS G t0 t1 t2 t3 t4 t5 t6 s0 s1 T_br T_fa T_fd T_fp T_st T_kd T_fs T_fl S_len S_let) H := hP
    obtain ⟨dd_4, ee_5, h⟩ := bnd1_s h
    refine wIast hx hb hK hP (va_D_same hD rfl) hS 5 rfl ee_5 dX4_addFall_23 (fun H locs hP hS => ?_)
    replace hP : va_P G.1 vwCl (W_TS G t0 t1 t2 t3 t4 t5 t6 s0 s1 T_br T_fa T_fd T_fp T_st T_kd dd_4 T_fl S_len S_let) H := hP
    refine lv_aload_n hx hb dX4_addFall_24 rfl (lv_at hl 0 rfl) ?_
    refine va_get (ci := 4) (C := RX4) (T := TX4) (N := 8) hx hb hts inX4 hown hK.1 hP 0 rfl rfl 5 (by decide) fl27 (fun _ h9 => h9) rfl dX4_addFall_25 ?_
    refine lv_aload_n hx hb dX4_addFall_28 rfl (lv_at hl 0 rfl) ?_
    refine va_get (ci := 4) (C := RX4) (T := TX4) (N := 8) hx hb hts inX4 hown hK.1 hP 0 rfl rfl 7 (by decide) fl34 (fun _ h9 => h9) rfl dX4_addFall_29 ?_
    refine lv_aload_n hx hb dX4_addFall_32 rfl (lv_at hl 1 rfl) ?_
    refine lv_iload_n hx hb dX4_addFall_33 rfl (lv_at hl 2 rfl) ?_
    refine lv_iconst (v := 2) hx hb dX4_addFall_34 (by decide) ?_
    refine lv_iadd hx hb dX4_addFall_35 ?_
    obtain ⟨rr_6, ee_7, h⟩ := bnd1_s h
    refine cVi (As := [.int (u2 + (2 : Int32))]) (rest := [.int T_fa, .ref t6]) S0 hK hA hP (va_D_same hD rfl) hS [7, 8] (k_X3_figureAt l G s0 s1 S_len S_let (u2 + (2 : Int32)) rr_6 ee_7) cw_X3_figureAt rfl rfl (Nat.le_of_ble_eq_true rfl) 3 0 rfl rfl rfl rfl hl.1 rfl (Nat.le_of_ble_eq_true rfl) dX4_addFall_36 ⟨Nat.zero_le _, Nat.zero_le _⟩ (fun H locs hP hS => ?_)
    replace hP : va_P G.1 vwCl (W_TS G t0 t1 t2 t3 t4 t5 t6 s0 s1 T_br T_fa T_fd T_fp T_st T_kd dd_4 T_fl S_len S_let) H := hP
    obtain ⟨dd_8, ee_9, h⟩ := bnd1_s h
    refine wIast hx hb hK hP (va_D_same hD rfl) hS 6 rfl ee_9 dX4_addFall_39 (fun H locs hP hS => ?_)
    replace hP : va_P G.1 vwCl (W_TS G t0 t1 t2 t3 t4 t5 t6 s0 s1 T_br T_fa T_fd T_fp T_st T_kd dd_4 dd_8 S_len S_let) H := hP
    refine lv_aload_n hx hb dX4_addFall_40 rfl (lv_at hl 0 rfl) ?_
    refine lv_dup hx hb dX4_addFall_41 rfl ?_
    refine va_get (ci := 4) (C := RX4) (T := TX4) (N := 8) hx hb hts inX4 hown hK.1 hP 0 rfl rfl 7 (by decide) fl34 (fun _ h9 => h9) rfl dX4_addFall_42 ?_
    refine lv_iconst (v := 1) hx hb dX4_addFall_45 (by decide) ?_
    refine lv_iadd hx hb dX4_addFall_46 ?_
    refine va_put (ci := 4) (ty := .int) (C := RX4) (T := TX4) (N := 8) hx hb hts inX4 tyX4 tyX4_ok nmX4 hown hK.1 hP (va_D_same hD rfl) hS 0 rfl rfl 7 (by decide) fl34 (fun _ h9 => h9) rfl (by decide +kernel) rfl rfl (Nat.le_of_ble_eq_true rfl) dX4_addFall_47 (fun H locs hP _ hS => ?_)
    replace hP : va_P G.1 vwCl (W_TS G t0 t1 t2 t3 t4 t5 t6 s0 s1 T_br (T_fa + (1 : Int32)) T_fd T_fp T_st T_kd dd_4 dd_8 S_len S_let) H := hP
    cases h
    exact W.vret hx hb hr (fun t ht _ => ⟨⟨(), rfl, trivial, by show va_P G.1 vwCl _ t.heap; rw [ht]; exact hP⟩, hS.F ht⟩) hS.2.2 dX4_addFall_50
def f_X4_read_40 (S_len : Int32) (S_let : Nat → Int32) : Nat → Int32 → Int32 → Int32 → (Nat → Int32) → (Nat → Int32) → (Nat → Int32) → (Nat → Int32) → (Nat → Int32) → (Nat → Int32) → Option (Int32 × Int32 × (Nat → Int32) × (Nat → Int32) × (Nat → Int32) × (Nat → Int32) × (Nat → Int32) × (Nat → Int32))
  | 0, _, _, _, _, _, _, _, _, _ => none
  | fu + 1, v2, T_br, T_fa, T_fd, T_fp, T_st, T_kd, T_fs, T_fl => if S_len ≤ v2 then (some (T_br, T_fa, T_fd, T_fp, T_st, T_kd, T_fs, T_fl)) else (bnd1 (f_X3_letterAt S_len S_let v2) (fun rr_2 => if rr_2 = (78 : Int32) then (bnd4 (f_X4_addBroom T_br T_fp T_st T_kd S_len S_let v2) (fun dd_9 dd_10 dd_11 dd_12 => f_X4_read_40 S_len S_let fu (v2 + 4) dd_9 T_fa T_fd dd_10 dd_11 dd_12 T_fs T_fl)) else (bnd3 (f_X4_addFall T_fa T_fs T_fl S_len S_let v2) (fun dd_5 dd_6 dd_7 => f_X4_read_40 S_len S_let fu (v2 + 3) T_br dd_5 T_fd T_fp T_st T_kd dd_6 dd_7))))
def f_X4_read_2 (S_len : Int32) (S_let : Nat → Int32) : Nat → Int32 → Int32 → Int32 → (Nat → Int32) → (Nat → Int32) → (Nat → Int32) → (Nat → Int32) → (Nat → Int32) → (Nat → Int32) → Option (Int32 × Int32 × (Nat → Int32) × (Nat → Int32) × (Nat → Int32) × (Nat → Int32) × (Nat → Int32) × (Nat → Int32))
  | 0, _, _, _, _, _, _, _, _, _ => none
  | fu + 1, v2, T_br, T_fa, T_fd, T_fp, T_st, T_kd, T_fs, T_fl => if (8 : Int32) ≤ v2 then (f_X4_read_40 S_len S_let  130 (9 : Int32) (0 : Int32) (0 : Int32) T_fd T_fp T_st T_kd T_fs T_fl) else (bnd1 (f_X3_figureAt S_len S_let ((1 : Int32) + v2)) (fun rr_15 => bnd1 (wr T_fd 8 v2 rr_15) (fun dd_17 => f_X4_read_2 S_len S_let fu (v2 + 1) T_br T_fa dd_17 T_fp T_st T_kd T_fs T_fl)))
def f_X4_read (T_br : Int32) (T_fa : Int32) (T_fd : Nat → Int32) (T_fp : Nat → Int32) (T_st : Nat → Int32) (T_kd : Nat → Int32) (T_fs : Nat → Int32) (T_fl : Nat → Int32) (S_len : Int32) (S_let : Nat → Int32) : Option (Int32 × Int32 × (Nat → Int32) × (Nat → Int32) × (Nat → Int32) × (Nat → Int32) × (Nat → Int32) × (Nat → Int32)) := f_X4_read_2 S_len S_let  130 (0 : Int32) T_br T_fa T_fd T_fp T_st T_kd T_fs T_fl
set_option maxRecDepth 100000 in
set_option maxHeartbeats 4000000 in
theorem k_X4_read (l : Launch) (G : Gt) (t0 t1 t2 t3 t4 t5 t6 s0 s1 : Nat) (T_br : Int32) (T_fa : Int32) (T_fd : Nat → Int32) (T_fp : Nat → Int32) (T_st : Nat → Int32) (T_kd : Nat → Int32) (T_fs : Nat → Int32) (T_fl : Nat → Int32) (S_len : Int32) (S_let : Nat → Int32) (o_T_br : Int32) (o_T_fa : Int32) (o_T_fd : Nat → Int32) (o_T_fp : Nat → Int32) (o_T_st : Nat → Int32) (o_T_kd : Nat → Int32) (o_T_fs : Nat → Int32) (o_T_fl : Nat → Int32) (h : f_X4_read T_br T_fa T_fd T_fp T_st T_kd T_fs T_fl S_len S_let = some (o_T_br, o_T_fa, o_T_fd, o_T_fp, o_T_st, o_T_kd, o_T_fs, o_T_fl)) : CT l yX4_read wsX4_read 3 64 G [.ref t0, .ref s0] (W_TS G t0 t1 t2 t3 t4 t5 t6 s0 s1 T_br T_fa T_fd T_fp T_st T_kd T_fs T_fl S_len S_let) (QV G (W_TS G t0 t1 t2 t3 t4 t5 t6 s0 s1 o_T_br o_T_fa o_T_fd o_T_fp o_T_st o_T_kd o_T_fs o_T_fl S_len S_let)) := by
  refine met_of cX4_read 3 none (by decide) rfl (Nat.le_of_ble_eq_true rfl) ?_
  intro p e s m below meth c A ls hx hb hr hml hts hown hlocks hK hA hD hP hS hl
  replace hown : s.vm.findClass RX4 = some m.cls := hown
  replace hl : lv_has ls 3 [(0, .ref t0), (1, .ref s0)] := hl
  have S0 : CallFix p m c cX4_read 3 s _ wsX4_read RX4 := ⟨hx, hb, hml, hown, hts⟩
  have fl43 := hK.f (args := List.toArray [.ref t0, .ref s0]) (show ("DustVote$Told", 43, "DustVote$Script", "length", "I", "DustVote") ∈ nestF by decide)
  have inX3 := show ∀ w ∈ wsX30, w ∈ wsX4_read from by decide +kernel
  have cw_X3_letterAt := show CallW (rmv 3 64) s _ RX4 RX3 46 yX3_letterAt cX3_letterAt 2 (some .int) wsX3_letterAt (rmv 0 0) 0 0 1 from cwV 1 hts gX4_read_X3_letterAt rfl rfl rfl (by decide +kernel) ⟨Nat.le_of_ble_eq_true rfl, Nat.le_of_ble_eq_true rfl⟩
  have cw_X4_addFall := show CallW (rmv 3 64) s _ RX4 RX4 53 yX4_addFall cX4_addFall 3 none wsX4_addFall (rmv 2 42) 0 0 2 from cwV 2 hts gX4_read_X4_addFall rfl rfl rfl (by decide +kernel) ⟨Nat.le_of_ble_eq_true rfl, Nat.le_of_ble_eq_true rfl⟩
  have cw_X4_addBroom := show CallW (rmv 3 64) s _ RX4 RX4 49 yX4_addBroom cX4_addBroom 3 none wsX4_addBroom (rmv 2 42) 0 0 2 from cwV 2 hts gX4_read_X4_addBroom rfl rfl rfl (by decide +kernel) ⟨Nat.le_of_ble_eq_true rfl, Nat.le_of_ble_eq_true rfl⟩
  have fl30 := hts (.fieldLink RX4 30 "DustVote$Told" "brooms" "I") (by decide +kernel)
  have inX4 := show ∀ w ∈ wsX40, w ∈ wsX4_read from by decide +kernel
  have fl34 := hts (.fieldLink RX4 34 "DustVote$Told" "falls" "I") (by decide +kernel)
  have fl9 := hts (.fieldLink RX4 9 "DustVote$Told" "firstDust" "[I") (by decide +kernel)
  have cw_X3_figureAt := show CallW (rmv 3 64) s _ RX4 RX3 37 yX3_figureAt cX3_figureAt 2 (some .int) wsX3_figureAt (rmv 1 21) 0 0 1 from cwV 1 hts gX4_read_X3_figureAt rfl rfl rfl (by decide +kernel) ⟨Nat.le_of_ble_eq_true rfl, Nat.le_of_ble_eq_true rfl⟩
  have J_40 : ∀ (fu : Nat), ∀ (v2 : Int32) (T_br : Int32) (T_fa : Int32) (T_fd : Nat → Int32) (T_fp : Nat → Int32) (T_st : Nat → Int32) (T_kd : Nat → Int32) (T_fs : Nat → Int32) (T_fl : Nat → Int32) (H : Heap) (locs : List Loc) (ls : Array Slot), f_X4_read_40 S_len S_let fu v2 T_br T_fa T_fd T_fp T_st T_kd T_fs T_fl = some (o_T_br, o_T_fa, o_T_fd, o_T_fp, o_T_st, o_T_kd, o_T_fs, o_T_fl) → va_P G.1 vwCl (W_TS G t0 t1 t2 t3 t4 t5 t6 s0 s1 T_br T_fa T_fd T_fp T_st T_kd T_fs T_fl S_len S_let) H → va_S A s.heap H locs → lv_has ls 3 [(0, .ref t0), (1, .ref s0), (2, .int v2)] → W p l e (rmv 3 64) s m (List.toArray [.ref t0, .ref s0]) below meth c H locs 0 0 (MQ below ((QV G (W_TS G t0 t1 t2 t3 t4 t5 t6 s0 s1 o_T_br o_T_fa o_T_fd o_T_fp o_T_st o_T_kd o_T_fs o_T_fl S_len S_let)) A) (List.toArray [.ref t0, .ref s0]) s 0 0 A) (F0 m 40 ls []) := by
    intro  fu
    induction fu with
    | zero =>
      intro v2 T_br T_fa T_fd T_fp T_st T_kd T_fs T_fl H locs ls h
      cases h
    | succ fu ih =>
      intro v2 T_br T_fa T_fd T_fp T_st T_kd T_fs T_fl H locs ls h hP hS hl
      rw [f_X4_read_40] at h
      refine lv_iload_n hx hb dX4_read_40 rfl (lv_at hl 2 rfl) ?_
      refine lv_aload_n hx hb dX4_read_41 rfl (lv_at hl 1 rfl) ?_
      refine va_getN (ci := 3) (C := RX3) (T := TX3) (N := 2) hx hb hts inX3 hown hK.1 hP 7 rfl rfl 1 (by decide) fl43 (fun _ h9 => h9) rfl dX4_read_42 ?_
      refine lv_icmp_ge (tgt := 82) hx hb dX4_read_45 (by decide) (fun cc_1 => ?_) (fun cc_1 => ?_)
      · replace h := if_t cc_1 h
        cases h
        exact W.vret hx hb hr (fun t ht _ => ⟨⟨(), rfl, trivial, by show va_P G.1 vwCl _ t.heap; rw [ht]; exact hP⟩, hS.F ht⟩) hS.2.2 dX4_read_82
      · replace h := if_f cc_1 h
        refine lv_aload_n hx hb dX4_read_48 rfl (lv_at hl 1 rfl) ?_
        refine lv_iload_n hx hb dX4_read_49 rfl (lv_at hl 2 rfl) ?_
        obtain ⟨rr_2, ee_3, h⟩ := bnd1_s h
        refine cVi (As := [.int v2]) (rest := []) S0 hK hA hP (va_D_same hD rfl) hS [7, 8] (k_X3_letterAt l G s0 s1 S_len S_let v2 rr_2 ee_3) cw_X3_letterAt rfl rfl (Nat.le_of_ble_eq_true rfl) 3 0 rfl rfl rfl rfl hl.1 rfl (Nat.le_of_ble_eq_true rfl) dX4_read_50 ⟨Nat.zero_le _, Nat.zero_le _⟩ (fun H locs hP hS => ?_)
        replace hP : va_P G.1 vwCl (W_TS G t0 t1 t2 t3 t4 t5 t6 s0 s1 T_br T_fa T_fd T_fp T_st T_kd T_fs T_fl S_len S_let) H := hP
        refine lv_bipush (v := 78) hx hb dX4_read_53 (by decide) ?_
        refine lv_icmp_ne (tgt := 70) hx hb dX4_read_55 (by decide) (fun cc_4 => ?_) (fun cc_4 => ?_)
        · replace h := if_f cc_4 h
          refine lv_aload_n hx hb dX4_read_70 rfl (lv_at hl 0 rfl) ?_
          refine lv_aload_n hx hb dX4_read_71 rfl (lv_at hl 1 rfl) ?_
          refine lv_iload_n hx hb dX4_read_72 rfl (lv_at hl 2 rfl) ?_
          obtain ⟨dd_5, dd_6, dd_7, ee_8, h⟩ := bnd3_s h
          refine cFv (As := [.ref s0, .int v2]) (rest := []) S0 hK hA hP (va_D_same hD rfl) hS (k_X4_addFall l G t0 t1 t2 t3 t4 t5 t6 s0 s1 T_br T_fa T_fd T_fp T_st T_kd T_fs T_fl S_len S_let v2 dd_5 dd_6 dd_7 ee_8) cw_X4_addFall 4 0 rfl rfl rfl rfl hl.1 rfl (Nat.le_of_ble_eq_true rfl) dX4_read_73 ⟨Nat.zero_le _, Nat.zero_le _⟩ (fun H locs hP hS => ?_)
          replace hP : va_P G.1 vwCl (W_TS G t0 t1 t2 t3 t4 t5 t6 s0 s1 T_br dd_5 T_fd T_fp T_st T_kd dd_6 dd_7 S_len S_let) H := hP
          refine lv_iinc (v := (v2 + 3)) (lv' := [(2, .int (v2 + 3)), (0, .ref t0), (1, .ref s0)]) hx hb dX4_read_76 hl (k := 2) rfl rfl (by decide) rfl (fun ls hl => ?_)
          refine lv_goto (tgt := 40) hx hb dX4_read_79 (by decide) ?_
          exact ih (v2 + 3) T_br dd_5 T_fd T_fp T_st T_kd dd_6 dd_7 _ _ _ h hP hS (lv_sub hl [1, 2, 0] rfl)
        · replace h := if_t cc_4 h
          refine lv_aload_n hx hb dX4_read_58 rfl (lv_at hl 0 rfl) ?_
          refine lv_aload_n hx hb dX4_read_59 rfl (lv_at hl 1 rfl) ?_
          refine lv_iload_n hx hb dX4_read_60 rfl (lv_at hl 2 rfl) ?_
          obtain ⟨dd_9, dd_10, dd_11, dd_12, ee_13, h⟩ := bnd4_s h
          refine cFv (As := [.ref s0, .int v2]) (rest := []) S0 hK hA hP (va_D_same hD rfl) hS (k_X4_addBroom l G t0 t1 t2 t3 t4 t5 t6 s0 s1 T_br T_fa T_fd T_fp T_st T_kd T_fs T_fl S_len S_let v2 dd_9 dd_10 dd_11 dd_12 ee_13) cw_X4_addBroom 4 0 rfl rfl rfl rfl hl.1 rfl (Nat.le_of_ble_eq_true rfl) dX4_read_61 ⟨Nat.zero_le _, Nat.zero_le _⟩ (fun H locs hP hS => ?_)
          replace hP : va_P G.1 vwCl (W_TS G t0 t1 t2 t3 t4 t5 t6 s0 s1 dd_9 T_fa T_fd dd_10 dd_11 dd_12 T_fs T_fl S_len S_let) H := hP
          refine lv_iinc (v := (v2 + 4)) (lv' := [(2, .int (v2 + 4)), (0, .ref t0), (1, .ref s0)]) hx hb dX4_read_64 hl (k := 2) rfl rfl (by decide) rfl (fun ls hl => ?_)
          refine lv_goto (tgt := 40) hx hb dX4_read_67 (by decide) ?_
          exact ih (v2 + 4) dd_9 T_fa T_fd dd_10 dd_11 dd_12 T_fs T_fl _ _ _ h hP hS (lv_sub hl [1, 2, 0] rfl)
  have J_2 : ∀ (fu : Nat), ∀ (v2 : Int32) (T_br : Int32) (T_fa : Int32) (T_fd : Nat → Int32) (T_fp : Nat → Int32) (T_st : Nat → Int32) (T_kd : Nat → Int32) (T_fs : Nat → Int32) (T_fl : Nat → Int32) (H : Heap) (locs : List Loc) (ls : Array Slot), f_X4_read_2 S_len S_let fu v2 T_br T_fa T_fd T_fp T_st T_kd T_fs T_fl = some (o_T_br, o_T_fa, o_T_fd, o_T_fp, o_T_st, o_T_kd, o_T_fs, o_T_fl) → va_P G.1 vwCl (W_TS G t0 t1 t2 t3 t4 t5 t6 s0 s1 T_br T_fa T_fd T_fp T_st T_kd T_fs T_fl S_len S_let) H → va_S A s.heap H locs → lv_has ls 3 [(0, .ref t0), (1, .ref s0), (2, .int v2)] → W p l e (rmv 3 64) s m (List.toArray [.ref t0, .ref s0]) below meth c H locs 0 0 (MQ below ((QV G (W_TS G t0 t1 t2 t3 t4 t5 t6 s0 s1 o_T_br o_T_fa o_T_fd o_T_fp o_T_st o_T_kd o_T_fs o_T_fl S_len S_let)) A) (List.toArray [.ref t0, .ref s0]) s 0 0 A) (F0 m 2 ls []) := by
    intro  fu
    induction fu with
    | zero =>
      intro v2 T_br T_fa T_fd T_fp T_st T_kd T_fs T_fl H locs ls h
      cases h
    | succ fu ih =>
      intro v2 T_br T_fa T_fd T_fp T_st T_kd T_fs T_fl H locs ls h hP hS hl
      rw [f_X4_read_2] at h
      refine lv_iload_n hx hb dX4_read_2 rfl (lv_at hl 2 rfl) ?_
      refine lv_bipush (v := 8) hx hb dX4_read_3 (by decide) ?_
      refine lv_icmp_ge (tgt := 27) hx hb dX4_read_5 (by decide) (fun cc_14 => ?_) (fun cc_14 => ?_)
      · replace h := if_t cc_14 h
        refine lv_aload_n hx hb dX4_read_27 rfl (lv_at hl 0 rfl) ?_
        refine lv_iconst (v := 0) hx hb dX4_read_28 (by decide) ?_
        refine va_put (ci := 4) (ty := .int) (C := RX4) (T := TX4) (N := 8) hx hb hts inX4 tyX4 tyX4_ok nmX4 hown hK.1 hP (va_D_same hD rfl) hS 0 rfl rfl 6 (by decide) fl30 (fun _ h9 => h9) rfl (by decide +kernel) rfl rfl (Nat.le_of_ble_eq_true rfl) dX4_read_29 (fun H locs hP _ hS => ?_)
        replace hP : va_P G.1 vwCl (W_TS G t0 t1 t2 t3 t4 t5 t6 s0 s1 (0 : Int32) T_fa T_fd T_fp T_st T_kd T_fs T_fl S_len S_let) H := hP
        refine lv_aload_n hx hb dX4_read_32 rfl (lv_at hl 0 rfl) ?_
        refine lv_iconst (v := 0) hx hb dX4_read_33 (by decide) ?_
        refine va_put (ci := 4) (ty := .int) (C := RX4) (T := TX4) (N := 8) hx hb hts inX4 tyX4 tyX4_ok nmX4 hown hK.1 hP (va_D_same hD rfl) hS 0 rfl rfl 7 (by decide) fl34 (fun _ h9 => h9) rfl (by decide +kernel) rfl rfl (Nat.le_of_ble_eq_true rfl) dX4_read_34 (fun H locs hP _ hS => ?_)
        replace hP : va_P G.1 vwCl (W_TS G t0 t1 t2 t3 t4 t5 t6 s0 s1 (0 : Int32) (0 : Int32) T_fd T_fp T_st T_kd T_fs T_fl S_len S_let) H := hP
        refine lv_bipush (v := 9) hx hb dX4_read_37 (by decide) ?_
        refine lv_istore_n (lv' := [(2, .int (9 : Int32)), (0, .ref t0), (1, .ref s0)]) hx hb dX4_read_39 rfl hl (by decide) rfl (fun ls hl => ?_)
        exact J_40  130 (9 : Int32) (0 : Int32) (0 : Int32) T_fd T_fp T_st T_kd T_fs T_fl _ _ _ h hP hS (lv_sub hl [1, 2, 0] rfl)
      · replace h := if_f cc_14 h
        refine lv_aload_n hx hb dX4_read_8 rfl (lv_at hl 0 rfl) ?_
        refine va_get (ci := 4) (C := RX4) (T := TX4) (N := 8) hx hb hts inX4 hown hK.1 hP 0 rfl rfl 0 (by decide) fl9 (fun _ h9 => h9) rfl dX4_read_9 ?_
        refine lv_iload_n hx hb dX4_read_12 rfl (lv_at hl 2 rfl) ?_
        refine lv_aload_n hx hb dX4_read_13 rfl (lv_at hl 1 rfl) ?_
        refine lv_iconst (v := 1) hx hb dX4_read_14 (by decide) ?_
        refine lv_iload_n hx hb dX4_read_15 rfl (lv_at hl 2 rfl) ?_
        refine lv_iadd hx hb dX4_read_16 ?_
        obtain ⟨rr_15, ee_16, h⟩ := bnd1_s h
        refine cVi (As := [.int ((1 : Int32) + v2)]) (rest := [.int v2, .ref t1]) S0 hK hA hP (va_D_same hD rfl) hS [7, 8] (k_X3_figureAt l G s0 s1 S_len S_let ((1 : Int32) + v2) rr_15 ee_16) cw_X3_figureAt rfl rfl (Nat.le_of_ble_eq_true rfl) 3 0 rfl rfl rfl rfl hl.1 rfl (Nat.le_of_ble_eq_true rfl) dX4_read_17 ⟨Nat.zero_le _, Nat.zero_le _⟩ (fun H locs hP hS => ?_)
        replace hP : va_P G.1 vwCl (W_TS G t0 t1 t2 t3 t4 t5 t6 s0 s1 T_br T_fa T_fd T_fp T_st T_kd T_fs T_fl S_len S_let) H := hP
        obtain ⟨dd_17, ee_18, h⟩ := bnd1_s h
        refine wIast hx hb hK hP (va_D_same hD rfl) hS 1 rfl ee_18 dX4_read_20 (fun H locs hP hS => ?_)
        replace hP : va_P G.1 vwCl (W_TS G t0 t1 t2 t3 t4 t5 t6 s0 s1 T_br T_fa dd_17 T_fp T_st T_kd T_fs T_fl S_len S_let) H := hP
        refine lv_iinc (v := (v2 + 1)) (lv' := [(2, .int (v2 + 1)), (0, .ref t0), (1, .ref s0)]) hx hb dX4_read_21 hl (k := 2) rfl rfl (by decide) rfl (fun ls hl => ?_)
        refine lv_goto (tgt := 2) hx hb dX4_read_24 (by decide) ?_
        exact ih (v2 + 1) T_br T_fa dd_17 T_fp T_st T_kd T_fs T_fl _ _ _ h hP hS (lv_sub hl [1, 2, 0] rfl)
  unfold f_X4_read at h
  refine lv_iconst (v := 0) hx hb dX4_read_0 (by decide) ?_
  refine lv_istore_n (lv' := [(2, .int (0 : Int32)), (0, .ref t0), (1, .ref s0)]) hx hb dX4_read_1 rfl hl (by decide) rfl (fun ls hl => ?_)
  exact J_2  130 (0 : Int32) T_br T_fa T_fd T_fp T_st T_kd T_fs T_fl _ _ _ h hP hS (lv_sub hl [1, 2, 0] rfl)
def f_X2_begin (M_gi : Int32) (M_be : Int32) (M_da : Int32) (M_du : Nat → Int32) (M_pl : Nat → Int32) (T_fd : Nat → Int32) (T_fp : Nat → Int32) : Option (Int32 × Int32 × Int32 × (Nat → Int32) × (Nat → Int32)) := bnd1 (cp T_fd 8 (0 : Int32) M_du 8 (0 : Int32) (8 : Int32)) (fun dd_1 => bnd1 (cp T_fp 5 (0 : Int32) M_pl 5 (0 : Int32) (5 : Int32)) (fun dd_3 => some ((0 : Int32), (0 : Int32), (0 : Int32), dd_1, dd_3)))
set_option maxRecDepth 100000 in
set_option maxHeartbeats 4000000 in
theorem k_X2_begin (l : Launch) (G : Gt) (m0 m1 m2 m3 t0 t1 t2 t3 t4 t5 t6 : Nat) (M_gi : Int32) (M_be : Int32) (M_da : Int32) (M_du : Nat → Int32) (M_pl : Nat → Int32) (M_de : Nat → Int32) (T_br : Int32) (T_fa : Int32) (T_fd : Nat → Int32) (T_fp : Nat → Int32) (T_st : Nat → Int32) (T_kd : Nat → Int32) (T_fs : Nat → Int32) (T_fl : Nat → Int32) (o_M_gi : Int32) (o_M_be : Int32) (o_M_da : Int32) (o_M_du : Nat → Int32) (o_M_pl : Nat → Int32) (h : f_X2_begin M_gi M_be M_da M_du M_pl T_fd T_fp = some (o_M_gi, o_M_be, o_M_da, o_M_du, o_M_pl)) : CT l yX2_begin wsX2_begin 1 18 G [.ref m0] (W_MT G m0 m1 m2 m3 t0 t1 t2 t3 t4 t5 t6 M_gi M_be M_da M_du M_pl M_de T_br T_fa T_fd T_fp T_st T_kd T_fs T_fl) (QV G (W_MT G m0 m1 m2 m3 t0 t1 t2 t3 t4 t5 t6 o_M_gi o_M_be o_M_da o_M_du o_M_pl M_de T_br T_fa T_fd T_fp T_st T_kd T_fs T_fl)) := by
  refine met_of cX2_begin 1 none (by decide) rfl (Nat.le_of_ble_eq_true rfl) ?_
  intro p e s m below meth c A ls hx hb hr hml hts hown hlocks hK hA hD hP hS hl
  replace hown : s.vm.findClass RX2 = some m.cls := hown
  replace hl : lv_has ls 1 [(0, .ref m0)] := hl
  have S0 : CallFix p m c cX2_begin 1 s _ wsX2_begin RX2 := ⟨hx, hb, hml, hown, hts⟩
  have fl33 := hts (.fieldLink RX2 33 "DustVote$Moment" "told" "LDustVote$Told;") (by decide +kernel)
  have inX2 := show ∀ w ∈ wsX20, w ∈ wsX2_begin from by decide +kernel
  have fl37 := hK.f (args := List.toArray [.ref m0]) (show ("DustVote$Moment", 37, "DustVote$Told", "firstDust", "[I", "DustVote") ∈ nestF by decide)
  have inX4 := show ∀ w ∈ wsX40, w ∈ wsX2_begin from by decide +kernel
  have fl9 := hts (.fieldLink RX2 9 "DustVote$Moment" "dust" "[I") (by decide +kernel)
  have sy1 := hts (.methodLink RX2 42 arraycopyName) (by decide +kernel)
  have sy2 := hts (.native arraycopyName) (by decide +kernel)
  have sy3 := hts (.static arraycopyName) (by decide +kernel)
  have sy4 := hts (.initialized "java/lang/System") (by decide +kernel)
  have fl48 := hK.f (args := List.toArray [.ref m0]) (show ("DustVote$Moment", 48, "DustVote$Told", "firstPlace", "[I", "DustVote") ∈ nestF by decide)
  have fl15 := hts (.fieldLink RX2 15 "DustVote$Moment" "place" "[I") (by decide +kernel)
  have fl22 := hts (.fieldLink RX2 22 "DustVote$Moment" "given" "Z") (by decide +kernel)
  have fl26 := hts (.fieldLink RX2 26 "DustVote$Moment" "bent" "I") (by decide +kernel)
  have fl30 := hts (.fieldLink RX2 30 "DustVote$Moment" "dawns" "I") (by decide +kernel)
  unfold f_X2_begin at h
  refine lv_aload_n hx hb dX2_begin_0 rfl (lv_at hl 0 rfl) ?_
  refine va_get (ci := 2) (C := RX2) (T := TX2) (N := 7) hx hb hts inX2 hown hK.1 hP 0 rfl rfl 0 (by decide) fl33 (fun _ h9 => h9) rfl dX2_begin_1 ?_
  refine va_getN (ci := 4) (C := RX4) (T := TX4) (N := 8) hx hb hts inX4 hown hK.1 hP 4 rfl rfl 0 (by decide) fl37 (fun _ h9 => h9) rfl dX2_begin_4 ?_
  refine lv_iconst (v := 0) hx hb dX2_begin_7 (by decide) ?_
  refine lv_aload_n hx hb dX2_begin_8 rfl (lv_at hl 0 rfl) ?_
  refine va_get (ci := 2) (C := RX2) (T := TX2) (N := 7) hx hb hts inX2 hown hK.1 hP 0 rfl rfl 1 (by decide) fl9 (fun _ h9 => h9) rfl dX2_begin_9 ?_
  refine lv_iconst (v := 0) hx hb dX2_begin_12 (by decide) ?_
  refine lv_bipush (v := 8) hx hb dX2_begin_13 (by decide) ?_
  obtain ⟨dd_1, ee_2, h⟩ := bnd1_s h
  refine wCopy hx hb (hml.trans hl.1.symm) hown sy1 sy2 sy3 sy4 hK hP (va_D_same hD rfl) hS 5 1 rfl rfl ee_2 (Nat.le_of_ble_eq_true rfl) (Nat.le_of_ble_eq_true rfl) dX2_begin_15 (fun H locs hP hS => ?_)
  replace hP : va_P G.1 vwCl (W_MT G m0 m1 m2 m3 t0 t1 t2 t3 t4 t5 t6 M_gi M_be M_da dd_1 M_pl M_de T_br T_fa T_fd T_fp T_st T_kd T_fs T_fl) H := hP
  refine lv_aload_n hx hb dX2_begin_18 rfl (lv_at hl 0 rfl) ?_
  refine va_get (ci := 2) (C := RX2) (T := TX2) (N := 7) hx hb hts inX2 hown hK.1 hP 0 rfl rfl 0 (by decide) fl33 (fun _ h9 => h9) rfl dX2_begin_19 ?_
  refine va_getN (ci := 4) (C := RX4) (T := TX4) (N := 8) hx hb hts inX4 hown hK.1 hP 4 rfl rfl 1 (by decide) fl48 (fun _ h9 => h9) rfl dX2_begin_22 ?_
  refine lv_iconst (v := 0) hx hb dX2_begin_25 (by decide) ?_
  refine lv_aload_n hx hb dX2_begin_26 rfl (lv_at hl 0 rfl) ?_
  refine va_get (ci := 2) (C := RX2) (T := TX2) (N := 7) hx hb hts inX2 hown hK.1 hP 0 rfl rfl 2 (by decide) fl15 (fun _ h9 => h9) rfl dX2_begin_27 ?_
  refine lv_iconst (v := 0) hx hb dX2_begin_30 (by decide) ?_
  refine lv_iconst (v := 5) hx hb dX2_begin_31 (by decide) ?_
  obtain ⟨dd_3, ee_4, h⟩ := bnd1_s h
  refine wCopy hx hb (hml.trans hl.1.symm) hown sy1 sy2 sy3 sy4 hK hP (va_D_same hD rfl) hS 6 2 rfl rfl ee_4 (Nat.le_of_ble_eq_true rfl) (Nat.le_of_ble_eq_true rfl) dX2_begin_32 (fun H locs hP hS => ?_)
  replace hP : va_P G.1 vwCl (W_MT G m0 m1 m2 m3 t0 t1 t2 t3 t4 t5 t6 M_gi M_be M_da dd_1 dd_3 M_de T_br T_fa T_fd T_fp T_st T_kd T_fs T_fl) H := hP
  refine lv_aload_n hx hb dX2_begin_35 rfl (lv_at hl 0 rfl) ?_
  refine lv_iconst (v := 0) hx hb dX2_begin_36 (by decide) ?_
  refine va_put (ci := 2) (ty := .boolean) (C := RX2) (T := TX2) (N := 7) hx hb hts inX2 tyX2 tyX2_ok nmX2 hown hK.1 hP (va_D_same hD rfl) hS 0 rfl rfl 4 (by decide) fl22 (fun _ h9 => h9) rfl (by decide +kernel) (by decide) (by decide) (Nat.le_of_ble_eq_true rfl) dX2_begin_37 (fun H locs hP _ hS => ?_)
  replace hP : va_P G.1 vwCl (W_MT G m0 m1 m2 m3 t0 t1 t2 t3 t4 t5 t6 (0 : Int32) M_be M_da dd_1 dd_3 M_de T_br T_fa T_fd T_fp T_st T_kd T_fs T_fl) H := hP
  refine lv_aload_n hx hb dX2_begin_40 rfl (lv_at hl 0 rfl) ?_
  refine lv_iconst (v := 0) hx hb dX2_begin_41 (by decide) ?_
  refine va_put (ci := 2) (ty := .int) (C := RX2) (T := TX2) (N := 7) hx hb hts inX2 tyX2 tyX2_ok nmX2 hown hK.1 hP (va_D_same hD rfl) hS 0 rfl rfl 5 (by decide) fl26 (fun _ h9 => h9) rfl (by decide +kernel) rfl rfl (Nat.le_of_ble_eq_true rfl) dX2_begin_42 (fun H locs hP _ hS => ?_)
  replace hP : va_P G.1 vwCl (W_MT G m0 m1 m2 m3 t0 t1 t2 t3 t4 t5 t6 (0 : Int32) (0 : Int32) M_da dd_1 dd_3 M_de T_br T_fa T_fd T_fp T_st T_kd T_fs T_fl) H := hP
  refine lv_aload_n hx hb dX2_begin_45 rfl (lv_at hl 0 rfl) ?_
  refine lv_iconst (v := 0) hx hb dX2_begin_46 (by decide) ?_
  refine va_put (ci := 2) (ty := .int) (C := RX2) (T := TX2) (N := 7) hx hb hts inX2 tyX2 tyX2_ok nmX2 hown hK.1 hP (va_D_same hD rfl) hS 0 rfl rfl 6 (by decide) fl30 (fun _ h9 => h9) rfl (by decide +kernel) rfl rfl (Nat.le_of_ble_eq_true rfl) dX2_begin_47 (fun H locs hP _ hS => ?_)
  replace hP : va_P G.1 vwCl (W_MT G m0 m1 m2 m3 t0 t1 t2 t3 t4 t5 t6 (0 : Int32) (0 : Int32) (0 : Int32) dd_1 dd_3 M_de T_br T_fa T_fd T_fp T_st T_kd T_fs T_fl) H := hP
  cases h
  exact W.vret hx hb hr (fun t ht _ => ⟨⟨(), rfl, trivial, by show va_P G.1 vwCl _ t.heap; rw [ht]; exact hP⟩, hS.F ht⟩) hS.2.2 dX2_begin_50
