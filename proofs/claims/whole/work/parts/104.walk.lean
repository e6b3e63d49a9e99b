def f_X2_begin (M_gi : Int32) (M_be : Int32) (M_da : Int32) (M_du : Nat → Int32) (M_pl : Nat → Int32) (T_fd : Nat → Int32) (T_fp : Nat → Int32) : Option (Int32 × Int32 × Int32 × (Nat → Int32) × (Nat → Int32)) := bnd1 (cp T_fd 8 (0 : Int32) M_du 8 (0 : Int32) (8 : Int32)) (fun dd_1 => bnd1 (cp T_fp 5 (0 : Int32) M_pl 5 (0 : Int32) (5 : Int32)) (fun dd_3 => some ((0 : Int32), (0 : Int32), (0 : Int32), dd_1, dd_3)))
set_option maxRecDepth 100000 in
set_option maxHeartbeats 4000000 in
theorem k_X2_begin (l : Launch) (G : Gt) (m0 m1 m2 m3 t0 t1 t2 t3 t4 t5 t6 : Nat) (M_gi : Int32) (M_be : Int32) (M_da : Int32) (M_du : Nat → Int32) (M_pl : Nat → Int32) (M_de : Nat → Int32) (T_br : Int32) (T_fa : Int32) (T_fd : Nat → Int32) (T_fp : Nat → Int32) (T_st : Nat → Int32) (T_kd : Nat → Int32) (T_fs : Nat → Int32) (T_fl : Nat → Int32) (o_M_gi : Int32) (o_M_be : Int32) (o_M_da : Int32) (o_M_du : Nat → Int32) (o_M_pl : Nat → Int32) (h : f_X2_begin M_gi M_be M_da M_du M_pl T_fd T_fp = some (o_M_gi, o_M_be, o_M_da, o_M_du, o_M_pl)) : CT l yX2_begin wsX2_begin 1 18 G [.ref m0] (W_MT G m0 m1 m2 m3 t0 t1 t2 t3 t4 t5 t6 M_gi M_be M_da M_du M_pl M_de T_br T_fa T_fd T_fp T_st T_kd T_fs T_fl) (QV G (W_MT G m0 m1 m2 m3 t0 t1 t2 t3 t4 t5 t6 o_M_gi o_M_be o_M_da o_M_du o_M_pl M_de T_br T_fa T_fd T_fp T_st T_kd T_fs T_fl)) := by
  refine met_of cX2_begin 1 none (by decide) rfl (Nat.le_of_ble_eq_true rfl) ?_
  intro p e s m below meth c A ls hx hb hr hml hts hown hlocks hK hA hD hP hS hl
  replace hown : s.vm.findClass RX2 = some m.cls := hown
  replace hl : lv_has ls 1 [(0, .ref m0)] := hl
  have S0 : CallFix p m c cX2_begin 1 s _ wsX2_begin RX2 := ⟨hx, hb, hml, hown, hts⟩
  have fl33 := hts (.fieldLink RX2 33 "DustVote$Moment" "told" "LDustVote$Told;") (by decide +kernel)
  have inX2 := show ∀ w ∈ wsX20, w ∈ wsX2_begin from by decide +kernel
  have fl37 := hK.f (args := List.toArray [.ref m0]) (show ("DustVote$Moment", 37, "DustVote$Told", "firstDust", "[I", "DustVote") ∈ nestF by decide)
  have inX4 := show ∀ w ∈ wsX40, w ∈ wsX2_begin from by decide +kernel
  have fl9 := hts (.fieldLink RX2 9 "DustVote$Moment" "dust" "[I") (by decide +kernel)
  have sy1 := hts (.methodLink RX2 42 arraycopyName) (by decide +kernel)
  have sy2 := hts (.native arraycopyName) (by decide +kernel)
  have sy3 := hts (.static arraycopyName) (by decide +kernel)
  have sy4 := hts (.initialized "java/lang/System") (by decide +kernel)
  have fl48 := hK.f (args := List.toArray [.ref m0]) (show ("DustVote$Moment", 48, "DustVote$Told", "firstPlace", "[I", "DustVote") ∈ nestF by decide)
  have fl15 := hts (.fieldLink RX2 15 "DustVote$Moment" "place" "[I") (by decide +kernel)
  have fl22 := hts (.fieldLink RX2 22 "DustVote$Moment" "given" "Z") (by decide +kernel)
  have fl26 := hts (.fieldLink RX2 26 "DustVote$Moment" "bent" "I") (by decide +kernel)
  have fl30 := hts (.fieldLink RX2 30 "DustVote$Moment" "dawns" "I") (by decide +kernel)
  unfold f_X2_begin at h
  refine lv_aload_n hx hb dX2_begin_0 rfl (lv_at hl 0 rfl) ?_
  refine va_get (ci := 2) (C := RX2) (T := TX2) (N := 7) hx hb hts inX2 hown hK.1 hP 0 rfl rfl 0 (by decide) fl33 (fun _ h9 => h9) rfl dX2_begin_1 ?_
  refine va_getN (ci := 4) (C := RX4) (T := TX4) (N := 8) hx hb hts inX4 hown hK.1 hP 4 rfl rfl 0 (by decide) fl37 (fun _ h9 => h9) rfl dX2_begin_4 ?_
  refine lv_iconst (v := 0) hx hb dX2_begin_7 (by decide) ?_
  refine lv_aload_n hx hb dX2_begin_8 rfl (lv_at hl 0 rfl) ?_
  refine va_get (ci := 2) (C := RX2) (T := TX2) (N := 7) hx hb hts inX2 hown hK.1 hP 0 rfl rfl 1 (by decide) fl9 (fun _ h9 => h9) rfl dX2_begin_9 ?_
  refine lv_iconst (v := 0) hx hb dX2_begin_12 (by decide) ?_
  refine lv_bipush (v := 8) hx hb dX2_begin_13 (by decide) ?_
  obtain ⟨dd_1, ee_2, h⟩ := bnd1_s h
  refine wCopy hx hb (hml.trans hl.1.symm) hown sy1 sy2 sy3 sy4 hK hP (va_D_same hD rfl) hS 5 1 rfl rfl ee_2 (Nat.le_of_ble_eq_true rfl) (Nat.le_of_ble_eq_true rfl) dX2_begin_15 (fun H locs hP hS => ?_)
  replace hP : va_P G.1 vwCl (W_MT G m0 m1 m2 m3 t0 t1 t2 t3 t4 t5 t6 M_gi M_be M_da dd_1 M_pl M_de T_br T_fa T_fd T_fp T_st T_kd T_fs T_fl) H := hP
  refine lv_aload_n hx hb dX2_begin_18 rfl (lv_at hl 0 rfl) ?_
  refine va_get (ci := 2) (C := RX2) (T := TX2) (N := 7) hx hb hts inX2 hown hK.1 hP 0 rfl rfl 0 (by decide) fl33 (fun _ h9 => h9) rfl dX2_begin_19 ?_
  refine va_getN (ci := 4) (C := RX4) (T := TX4) (N := 8) hx hb hts inX4 hown hK.1 hP 4 rfl rfl 1 (by decide) fl48 (fun _ h9 => h9) rfl dX2_begin_22 ?_
  refine lv_iconst (v := 0) hx hb dX2_begin_25 (by decide) ?_
  refine lv_aload_n hx hb dX2_begin_26 rfl (lv_at hl 0 rfl) ?_
  refine va_get (ci := 2) (C := RX2) (T := TX2) (N := 7) hx hb hts inX2 hown hK.1 hP 0 rfl rfl 2 (by decide) fl15 (fun _ h9 => h9) rfl dX2_begin_27 ?_
  refine lv_iconst (v := 0) hx hb dX2_begin_30 (by decide) ?_
  refine lv_iconst (v := 5) hx hb dX2_begin_31 (by decide) ?_
  obtain ⟨dd_3, ee_4, h⟩ := bnd1_s h
  refine wCopy hx hb (hml.trans hl.1.symm) hown sy1 sy2 sy3 sy4 hK hP (va_D_same hD rfl) hS 6 2 rfl rfl ee_4 (Nat.le_of_ble_eq_true rfl) (Nat.le_of_ble_eq_true rfl) dX2_begin_32 (fun H locs hP hS => ?_)
  replace hP : va_P G.1 vwCl (W_MT G m0 m1 m2 m3 t0 t1 t2 t3 t4 t5 t6 M_gi M_be M_da dd_1 dd_3 M_de T_br T_fa T_fd T_fp T_st T_kd T_fs T_fl) H := hP
  refine lv_aload_n hx hb dX2_begin_35 rfl (lv_at hl 0 rfl) ?_
  refine lv_iconst (v := 0) hx hb dX2_begin_36 (by decide) ?_
  refine va_put (ci := 2) (ty := .boolean) (C := RX2) (T := TX2) (N := 7) hx hb hts inX2 tyX2 tyX2_ok nmX2 hown hK.1 hP (va_D_same hD rfl) hS 0 rfl rfl 4 (by decide) fl22 (fun _ h9 => h9) rfl (by decide +kernel) (by decide) (by decide) (Nat.le_of_ble_eq_true rfl) dX2_begin_37 (fun H locs hP _ hS => ?_)
  replace hP : va_P G.1 vwCl (W_MT G m0 m1 m2 m3 t0 t1 t2 t3 t4 t5 t6 (0 : Int32) M_be M_da dd_1 dd_3 M_de T_br T_fa T_fd T_fp T_st T_kd T_fs T_fl) H := hP
  refine lv_aload_n hx hb dX2_begin_40 rfl (lv_at hl 0 rfl) ?_
  refine lv_iconst (v := 0) hx hb dX2_begin_41 (by decide) ?_
  refine va_put (ci := 2) (ty := .int) (C := RX2) (T := TX2) (N := 7) hx hb hts inX2 tyX2 tyX2_ok nmX2 hown hK.1 hP (va_D_same hD rfl) hS 0 rfl rfl 5 (by decide) fl26 (fun _ h9 => h9) rfl (by decide +kernel) rfl rfl (Nat.le_of_ble_eq_true rfl) dX2_begin_42 (fun H locs hP _ hS => ?_)
  replace hP : va_P G.1 vwCl (W_MT G m0 m1 m2 m3 t0 t1 t2 t3 t4 t5 t6 (0 : Int32) (0 : Int32) M_da dd_1 dd_3 M_de T_br T_fa T_fd T_fp T_st T_kd T_fs T_fl) H := hP
  refine lv_aload_n hx hb dX2_begin_45 rfl (lv_at hl 0 rfl) ?_
  refine lv_iconst (v := 0) hx hb dX2_begin_46 (by decide) ?_
  refine va_put (ci := 2) (ty := .int) (C := RX2) (T := TX2) (N := 7) hx hb hts inX2 tyX2 tyX2_ok nmX2 hown hK.1 hP (va_D_same hD rfl) hS 0 rfl rfl 6 (by decide) fl30 (fun _ h9 => h9) rfl (by decide +kernel) rfl rfl (Nat.le_of_ble_eq_true rfl) dX2_begin_47 (fun H locs hP _ hS => ?_)
  replace hP : va_P G.1 vwCl (W_MT G m0 m1 m2 m3 t0 t1 t2 t3 t4 t5 t6 (0 : Int32) (0 : Int32) (0 : Int32) dd_1 dd_3 M_de T_br T_fa T_fd T_fp T_st T_kd T_fs T_fl) H := hP
  cases h
  exact W.vret hx hb hr (fun t ht _ => ⟨⟨(), rfl, trivial, by show va_P G.1 vwCl _ t.heap; rw [ht]; exact hP⟩, hS.F ht⟩) hS.2.2 dX2_begin_50
def f_X0_clear (A_fi : Int32) (A_si : Int32) : Option (Int32 × Int32) := some ((0 : Int32), (0 : Int32))
set_option maxRecDepth 100000 in
set_option maxHeartbeats 4000000 in
theorem k_X0_clear (l : Launch) (G : Gt) (a0 a1 : Nat) (A_fi : Int32) (A_si : Int32) (A_ce : Nat → Int32) (o_A_fi : Int32) (o_A_si : Int32) (h : f_X0_clear A_fi A_si = some (o_A_fi, o_A_si)) : CT l yX0_clear wsX0_clear 0 0 G [.ref a0] (W_A G a0 a1 A_fi A_si A_ce) (QV G (W_A G a0 a1 o_A_fi o_A_si A_ce)) := by
  refine met_of cX0_clear 1 none (by decide) rfl (Nat.le_of_ble_eq_true rfl) ?_
  intro p e s m below meth c A ls hx hb hr hml hts hown hlocks hK hA hD hP hS hl
  replace hown : s.vm.findClass RX0 = some m.cls := hown
  replace hl : lv_has ls 1 [(0, .ref a0)] := hl
  have S0 : CallFix p m c cX0_clear 1 s _ wsX0_clear RX0 := ⟨hx, hb, hml, hown, hts⟩
  have fl15 := hts (.fieldLink RX0 15 "DustVote$ActRow" "first" "I") (by decide +kernel)
  have inX0 := show ∀ w ∈ wsX00, w ∈ wsX0_clear from by decide +kernel
  have fl19 := hts (.fieldLink RX0 19 "DustVote$ActRow" "size" "I") (by decide +kernel)
  unfold f_X0_clear at h
  refine lv_aload_n hx hb dX0_clear_0 rfl (lv_at hl 0 rfl) ?_
  refine lv_iconst (v := 0) hx hb dX0_clear_1 (by decide) ?_
  refine va_put (ci := 0) (ty := .int) (C := RX0) (T := TX0) (N := 3) hx hb hts inX0 tyX0 tyX0_ok nmX0 hown hK.1 hP (va_D_same hD rfl) hS 0 rfl rfl 1 (by decide) fl15 (fun _ h9 => h9) rfl (by decide +kernel) rfl rfl (Nat.le_of_ble_eq_true rfl) dX0_clear_2 (fun H locs hP _ hS => ?_)
  replace hP : va_P G.1 vwCl (W_A G a0 a1 (0 : Int32) A_si A_ce) H := hP
  refine lv_aload_n hx hb dX0_clear_5 rfl (lv_at hl 0 rfl) ?_
  refine lv_iconst (v := 0) hx hb dX0_clear_6 (by decide) ?_
  refine va_put (ci := 0) (ty := .int) (C := RX0) (T := TX0) (N := 3) hx hb hts inX0 tyX0 tyX0_ok nmX0 hown hK.1 hP (va_D_same hD rfl) hS 0 rfl rfl 2 (by decide) fl19 (fun _ h9 => h9) rfl (by decide +kernel) rfl rfl (Nat.le_of_ble_eq_true rfl) dX0_clear_7 (fun H locs hP _ hS => ?_)
  replace hP : va_P G.1 vwCl (W_A G a0 a1 (0 : Int32) (0 : Int32) A_ce) H := hP
  cases h
  exact W.vret hx hb hr (fun t ht _ => ⟨⟨(), rfl, trivial, by show va_P G.1 vwCl _ t.heap; rw [ht]; exact hP⟩, hS.F ht⟩) hS.2.2 dX0_clear_10
