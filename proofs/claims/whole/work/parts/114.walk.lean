def f_X0_pop (A_fi : Int32) (A_si : Int32) (A_ce : Nat → Int32) (M_gi : Int32) (M_be : Int32) (M_da : Int32) (M_du : Nat → Int32) (M_pl : Nat → Int32) : Option (Int32 × Int32 × Int32 × Int32 × (Nat → Int32) × (Nat → Int32)) := if A_si ≤ 0 then (some (A_si, M_gi, M_be, M_da, M_du, M_pl)) else (bnd1 (f_X0_spotOf (A_fi + (A_si - (1 : Int32)))) (fun rr_2 => bnd5 (f_X2_load 224 M_gi M_be M_da M_du M_pl A_ce rr_2) (fun dd_4 dd_5 dd_6 dd_7 dd_8 => some ((A_si - (1 : Int32)), dd_4, dd_5, dd_6, dd_7, dd_8))))
set_option maxRecDepth 100000 in
set_option maxHeartbeats 4000000 in
theorem k_X0_pop (l : Launch) (G : Gt) (a0 a1 m0 m1 m2 m3 t0 : Nat) (A_fi : Int32) (A_si : Int32) (A_ce : Nat → Int32) (M_gi : Int32) (M_be : Int32) (M_da : Int32) (M_du : Nat → Int32) (M_pl : Nat → Int32) (M_de : Nat → Int32) (o_A_si : Int32) (o_M_gi : Int32) (o_M_be : Int32) (o_M_da : Int32) (o_M_du : Nat → Int32) (o_M_pl : Nat → Int32) (h : f_X0_pop A_fi A_si A_ce M_gi M_be M_da M_du M_pl = some (o_A_si, o_M_gi, o_M_be, o_M_da, o_M_du, o_M_pl)) : CT l yX0_pop wsX0_pop 2 41 G [.ref a0, .ref m0] (W_AM G a0 a1 m0 m1 m2 m3 t0 A_fi A_si A_ce M_gi M_be M_da M_du M_pl M_de) (QV G (W_AM G a0 a1 m0 m1 m2 m3 t0 A_fi o_A_si A_ce o_M_gi o_M_be o_M_da o_M_du o_M_pl M_de)) := by
  refine met_of cX0_pop 2 none (by decide) rfl (Nat.le_of_ble_eq_true rfl) ?_
  intro p e s m below meth c A ls hx hb hr hml hts hown hlocks hK hA hD hP hS hl
  replace hown : s.vm.findClass RX0 = some m.cls := hown
  replace hl : lv_has ls 2 [(0, .ref a0), (1, .ref m0)] := hl
  have S0 : CallFix p m c cX0_pop 2 s _ wsX0_pop RX0 := ⟨hx, hb, hml, hown, hts⟩
  have fl19 := hts (.fieldLink RX0 19 "DustVote$ActRow" "size" "I") (by decide +kernel)
  have inX0 := show ∀ w ∈ wsX00, w ∈ wsX0_pop from by decide +kernel
  have fl9 := hts (.fieldLink RX0 9 "DustVote$ActRow" "cells" "[I") (by decide +kernel)
  have fl15 := hts (.fieldLink RX0 15 "DustVote$ActRow" "first" "I") (by decide +kernel)
  have cw_X0_spotOf := show CallB (rmv 2 41) s _ RX0 22 yX0_spotOf cX0_spotOf 1 (some .int) wsX0_spotOf (rmv 0 0) 0 0 1 ∧ (Cond.static yX0_spotOf).before _ s = true from va_cwS 1 hts gX0_pop_X0_spotOf rfl rfl rfl (by decide +kernel) ⟨Nat.le_of_ble_eq_true rfl, Nat.le_of_ble_eq_true rfl⟩
  have cw_X2_load := show CallW (rmv 2 41) s _ RX0 RX2 32 yX2_load cX2_load 4 none wsX2_load (rmv 1 18) 0 0 2 from cwV 2 hts gX0_pop_X2_load rfl rfl rfl (by decide +kernel) ⟨Nat.le_of_ble_eq_true rfl, Nat.le_of_ble_eq_true rfl⟩
  unfold f_X0_pop at h
  refine lv_aload_n hx hb dX0_pop_0 rfl (lv_at hl 0 rfl) ?_
  refine va_get (ci := 0) (C := RX0) (T := TX0) (N := 3) hx hb hts inX0 hown hK.1 hP 0 rfl rfl 2 (by decide) fl19 (fun _ h9 => h9) rfl dX0_pop_1 ?_
  refine lv_if_le (tgt := 37) hx hb dX0_pop_4 (by decide) (fun cc_1 => ?_) (fun cc_1 => ?_)
  · replace h := if_t cc_1 h
    cases h
    exact W.vret hx hb hr (fun t ht _ => ⟨⟨(), rfl, trivial, by show va_P G.1 vwCl _ t.heap; rw [ht]; exact hP⟩, hS.F ht⟩) hS.2.2 dX0_pop_37
  · replace h := if_f cc_1 h
    refine lv_aload_n hx hb dX0_pop_7 rfl (lv_at hl 0 rfl) ?_
    refine lv_dup hx hb dX0_pop_8 rfl ?_
    refine va_get (ci := 0) (C := RX0) (T := TX0) (N := 3) hx hb hts inX0 hown hK.1 hP 0 rfl rfl 2 (by decide) fl19 (fun _ h9 => h9) rfl dX0_pop_9 ?_
    refine lv_iconst (v := 1) hx hb dX0_pop_12 (by decide) ?_
    refine lv_isub hx hb dX0_pop_13 ?_
    refine va_put (ci := 0) (ty := .int) (C := RX0) (T := TX0) (N := 3) hx hb hts inX0 tyX0 tyX0_ok nmX0 hown hK.1 hP (va_D_same hD rfl) hS 0 rfl rfl 2 (by decide) fl19 (fun _ h9 => h9) rfl (by decide +kernel) rfl rfl (Nat.le_of_ble_eq_true rfl) dX0_pop_14 (fun H locs hP _ hS => ?_)
    replace hP : va_P G.1 vwCl (W_AM G a0 a1 m0 m1 m2 m3 t0 A_fi (A_si - (1 : Int32)) A_ce M_gi M_be M_da M_du M_pl M_de) H := hP
    refine lv_aload_n hx hb dX0_pop_17 rfl (lv_at hl 1 rfl) ?_
    refine lv_aload_n hx hb dX0_pop_18 rfl (lv_at hl 0 rfl) ?_
    refine va_get (ci := 0) (C := RX0) (T := TX0) (N := 3) hx hb hts inX0 hown hK.1 hP 0 rfl rfl 0 (by decide) fl9 (fun _ h9 => h9) rfl dX0_pop_19 ?_
    refine lv_aload_n hx hb dX0_pop_22 rfl (lv_at hl 0 rfl) ?_
    refine va_get (ci := 0) (C := RX0) (T := TX0) (N := 3) hx hb hts inX0 hown hK.1 hP 0 rfl rfl 1 (by decide) fl15 (fun _ h9 => h9) rfl dX0_pop_23 ?_
    refine lv_aload_n hx hb dX0_pop_26 rfl (lv_at hl 0 rfl) ?_
    refine va_get (ci := 0) (C := RX0) (T := TX0) (N := 3) hx hb hts inX0 hown hK.1 hP 0 rfl rfl 2 (by decide) fl19 (fun _ h9 => h9) rfl dX0_pop_27 ?_
    refine lv_iadd hx hb dX0_pop_30 ?_
    obtain ⟨rr_2, ee_3, h⟩ := bnd1_s h
    refine cSi (As := [.int (A_fi + (A_si - (1 : Int32)))]) (rest := [.ref a1, .ref m0]) S0 hK hA hP (va_D_same hD rfl) hS [] (k_X0_spotOf l G (A_fi + (A_si - (1 : Int32))) rr_2 ee_3) cw_X0_spotOf rfl rfl (Nat.le_of_ble_eq_true rfl) rfl hl.1 rfl (Nat.le_of_ble_eq_true rfl) dX0_pop_31 ⟨Nat.zero_le _, Nat.zero_le _⟩ (fun H locs hP hS => ?_)
    replace hP : va_P G.1 vwCl (W_AM G a0 a1 m0 m1 m2 m3 t0 A_fi (A_si - (1 : Int32)) A_ce M_gi M_be M_da M_du M_pl M_de) H := hP
    obtain ⟨dd_4, dd_5, dd_6, dd_7, dd_8, ee_9, h⟩ := bnd5_s h
    refine cVv (As := [.ref a1, .int rr_2]) (rest := []) S0 hK hA hP (va_D_same hD rfl) hS [2, 3, 4, 5, 1] (k_X2_load l G m0 m1 m2 m3 a1 t0 224 M_gi M_be M_da M_du M_pl M_de A_ce rr_2 dd_4 dd_5 dd_6 dd_7 dd_8 ee_9) cw_X2_load rfl rfl (Nat.le_of_ble_eq_true rfl) 2 0 rfl rfl rfl rfl hl.1 rfl (Nat.le_of_ble_eq_true rfl) dX0_pop_34 ⟨Nat.zero_le _, Nat.zero_le _⟩ (fun H locs hP hS => ?_)
    replace hP : va_P G.1 vwCl (W_AM G a0 a1 m0 m1 m2 m3 t0 A_fi (A_si - (1 : Int32)) A_ce dd_4 dd_5 dd_6 dd_7 dd_8 M_de) H := hP
    cases h
    exact W.vret hx hb hr (fun t ht _ => ⟨⟨(), rfl, trivial, by show va_P G.1 vwCl _ t.heap; rw [ht]; exact hP⟩, hS.F ht⟩) hS.2.2 dX0_pop_37
def f_X5_undo (N_gi : Int32) (N_be : Int32) (N_da : Int32) (N_du : Nat → Int32) (N_pl : Nat → Int32) (A_fi : Int32) (A_si : Int32) (A_ce : Nat → Int32) : Option (Int32 × Int32 × Int32 × Int32 × (Nat → Int32) × (Nat → Int32) × Int32) := if A_si = 0 then (some (((-3) : Int32), N_gi, N_be, N_da, N_du, N_pl, A_si)) else (bnd6 (f_X0_pop A_fi A_si A_ce N_gi N_be N_da N_du N_pl) (fun dd_2 dd_3 dd_4 dd_5 dd_6 dd_7 => some (dd_2, dd_3, dd_4, dd_5, dd_6, dd_7, dd_2)))
set_option maxRecDepth 100000 in
set_option maxHeartbeats 4000000 in
theorem k_X5_undo (l : Launch) (G : Gt) (x0 s0 s1 t0 t1 t2 t3 t4 t5 t6 n0 n1 n2 n3 r0 r1 r2 r3 a0 a1 p0 p1 p2 p3 k0 j0 : Nat) (X_ch : Int64) (S_len : Int32) (S_let : Nat → Int32) (T_br : Int32) (T_fa : Int32) (T_fd : Nat → Int32) (T_fp : Nat → Int32) (T_st : Nat → Int32) (T_kd : Nat → Int32) (T_fs : Nat → Int32) (T_fl : Nat → Int32) (N_gi : Int32) (N_be : Int32) (N_da : Int32) (N_du : Nat → Int32) (N_pl : Nat → Int32) (N_de : Nat → Int32) (R_gi : Int32) (R_be : Int32) (R_da : Int32) (R_du : Nat → Int32) (R_pl : Nat → Int32) (R_de : Nat → Int32) (A_fi : Int32) (A_si : Int32) (A_ce : Nat → Int32) (P_si : Int32) (P_be : Nat → Int32) (P_le : Nat → Int32) (P_go : Nat → Int32) (K_sl : Nat → Int32) (J_fi : Nat → Int32) (r_ : Int32) (o_N_gi : Int32) (o_N_be : Int32) (o_N_da : Int32) (o_N_du : Nat → Int32) (o_N_pl : Nat → Int32) (o_A_si : Int32) (h : f_X5_undo N_gi N_be N_da N_du N_pl A_fi A_si A_ce = some (r_, o_N_gi, o_N_be, o_N_da, o_N_du, o_N_pl, o_A_si)) : CT l yX5_undo wsX5_undo 3 62 G [.ref x0] (W_F G x0 s0 s1 t0 t1 t2 t3 t4 t5 t6 n0 n1 n2 n3 r0 r1 r2 r3 a0 a1 p0 p1 p2 p3 k0 j0 X_ch S_len S_let T_br T_fa T_fd T_fp T_st T_kd T_fs T_fl N_gi N_be N_da N_du N_pl N_de R_gi R_be R_da R_du R_pl R_de A_fi A_si A_ce P_si P_be P_le P_go K_sl J_fi) (QI G r_ (W_F G x0 s0 s1 t0 t1 t2 t3 t4 t5 t6 n0 n1 n2 n3 r0 r1 r2 r3 a0 a1 p0 p1 p2 p3 k0 j0 X_ch S_len S_let T_br T_fa T_fd T_fp T_st T_kd T_fs T_fl o_N_gi o_N_be o_N_da o_N_du o_N_pl N_de R_gi R_be R_da R_du R_pl R_de A_fi o_A_si A_ce P_si P_be P_le P_go K_sl J_fi)) := by
  refine met_of cX5_undo 1 (some .int) (by decide) rfl (Nat.le_of_ble_eq_true rfl) ?_
  intro p e s m below meth c A ls hx hb hr hml hts hown hlocks hK hA hD hP hS hl
  replace hown : s.vm.findClass RX5 = some m.cls := hown
  replace hl : lv_has ls 1 [(0, .ref x0)] := hl
  have S0 : CallFix p m c cX5_undo 1 s _ wsX5_undo RX5 := ⟨hx, hb, hml, hown, hts⟩
  have fl38 := hts (.fieldLink RX5 38 "DustVote" "acts" "LDustVote$ActRow;") (by decide +kernel)
  have inX5 := show ∀ w ∈ wsX50, w ∈ wsX5_undo from by decide +kernel
  have fl160 := hK.f (args := List.toArray [.ref x0]) (show ("DustVote", 160, "DustVote$ActRow", "size", "I", "DustVote") ∈ nestF by decide)
  have inX0 := show ∀ w ∈ wsX00, w ∈ wsX5_undo from by decide +kernel
  have fl28 := hts (.fieldLink RX5 28 "DustVote" "now" "LDustVote$Moment;") (by decide +kernel)
  have cw_X0_pop := show CallW (rmv 3 62) s _ RX5 RX0 163 yX0_pop cX0_pop 2 none wsX0_pop (rmv 2 41) 0 0 1 from cwV 1 hts gX5_undo_X0_pop rfl rfl rfl (by decide +kernel) ⟨Nat.le_of_ble_eq_true rfl, Nat.le_of_ble_eq_true rfl⟩
  unfold f_X5_undo at h
  refine lv_aload_n hx hb dX5_undo_0 rfl (lv_at hl 0 rfl) ?_
  refine va_get (ci := 5) (C := RX5) (T := TX5) (N := 9) hx hb hts inX5 hown hK.1 hP 0 rfl rfl 4 (by decide) fl38 (fun _ h9 => h9) rfl dX5_undo_1 ?_
  refine va_getN (ci := 0) (C := RX0) (T := TX0) (N := 3) hx hb hts inX0 hown hK.1 hP 18 rfl rfl 2 (by decide) fl160 (fun _ h9 => h9) rfl dX5_undo_4 ?_
  refine lv_if_ne (tgt := 13) hx hb dX5_undo_7 (by decide) (fun cc_1 => ?_) (fun cc_1 => ?_)
  · replace h := if_f cc_1 h
    refine lv_aload_n hx hb dX5_undo_13 rfl (lv_at hl 0 rfl) ?_
    refine va_get (ci := 5) (C := RX5) (T := TX5) (N := 9) hx hb hts inX5 hown hK.1 hP 0 rfl rfl 4 (by decide) fl38 (fun _ h9 => h9) rfl dX5_undo_14 ?_
    refine lv_aload_n hx hb dX5_undo_17 rfl (lv_at hl 0 rfl) ?_
    refine va_get (ci := 5) (C := RX5) (T := TX5) (N := 9) hx hb hts inX5 hown hK.1 hP 0 rfl rfl 2 (by decide) fl28 (fun _ h9 => h9) rfl dX5_undo_18 ?_
    obtain ⟨dd_2, dd_3, dd_4, dd_5, dd_6, dd_7, ee_8, h⟩ := bnd6_s h
    refine cVv (As := [.ref n0]) (rest := []) S0 hK hA hP (va_D_same hD rfl) hS [18, 19, 10, 11, 12, 13] (k_X0_pop l G a0 a1 n0 n1 n2 n3 t0 A_fi A_si A_ce N_gi N_be N_da N_du N_pl N_de dd_2 dd_3 dd_4 dd_5 dd_6 dd_7 ee_8) cw_X0_pop rfl rfl (Nat.le_of_ble_eq_true rfl) 0 0 rfl rfl rfl rfl hl.1 rfl (Nat.le_of_ble_eq_true rfl) dX5_undo_21 ⟨Nat.zero_le _, Nat.zero_le _⟩ (fun H locs hP hS => ?_)
    replace hP : va_P G.1 vwCl (W_F G x0 s0 s1 t0 t1 t2 t3 t4 t5 t6 n0 n1 n2 n3 r0 r1 r2 r3 a0 a1 p0 p1 p2 p3 k0 j0 X_ch S_len S_let T_br T_fa T_fd T_fp T_st T_kd T_fs T_fl dd_3 dd_4 dd_5 dd_6 dd_7 N_de R_gi R_be R_da R_du R_pl R_de A_fi dd_2 A_ce P_si P_be P_le P_go K_sl J_fi) H := hP
    refine lv_aload_n hx hb dX5_undo_24 rfl (lv_at hl 0 rfl) ?_
    refine va_get (ci := 5) (C := RX5) (T := TX5) (N := 9) hx hb hts inX5 hown hK.1 hP 0 rfl rfl 4 (by decide) fl38 (fun _ h9 => h9) rfl dX5_undo_25 ?_
    refine va_getN (ci := 0) (C := RX0) (T := TX0) (N := 3) hx hb hts inX0 hown hK.1 hP 18 rfl rfl 2 (by decide) fl160 (fun _ h9 => h9) rfl dX5_undo_28 ?_
    cases h
    exact W.iret hx hb hr (fun t ht _ => ⟨⟨_, (), rfl, rfl, by show va_P G.1 vwCl _ t.heap; rw [ht]; exact hP⟩, hS.F ht⟩) hS.2.2 dX5_undo_31
  · replace h := if_t cc_1 h
    refine lv_bipush (v := (-3)) hx hb dX5_undo_10 (by decide) ?_
    cases h
    exact W.iret hx hb hr (fun t ht _ => ⟨⟨_, (), rfl, rfl, by show va_P G.1 vwCl _ t.heap; rw [ht]; exact hP⟩, hS.F ht⟩) hS.2.2 dX5_undo_12
def f_X2_copy (M_gi : Int32) (M_be : Int32) (M_da : Int32) (M_du : Nat → Int32) (M_pl : Nat → Int32) (O_gi : Int32) (O_be : Int32) (O_da : Int32) (O_du : Nat → Int32) (O_pl : Nat → Int32) : Option (Int32 × Int32 × Int32 × (Nat → Int32) × (Nat → Int32)) := bnd1 (cp O_du 8 (0 : Int32) M_du 8 (0 : Int32) (8 : Int32)) (fun dd_1 => bnd1 (cp O_pl 5 (0 : Int32) M_pl 5 (0 : Int32) (5 : Int32)) (fun dd_3 => bnd1 (zr O_gi) (fun zz_5 => some (O_gi, O_be, O_da, dd_1, dd_3))))
set_option maxRecDepth 100000 in
set_option maxHeartbeats 4000000 in
theorem k_X2_copy (l : Launch) (G : Gt) (m0 m1 m2 m3 o0 o1 o2 o3 t0 : Nat) (M_gi : Int32) (M_be : Int32) (M_da : Int32) (M_du : Nat → Int32) (M_pl : Nat → Int32) (M_de : Nat → Int32) (O_gi : Int32) (O_be : Int32) (O_da : Int32) (O_du : Nat → Int32) (O_pl : Nat → Int32) (O_de : Nat → Int32) (o_M_gi : Int32) (o_M_be : Int32) (o_M_da : Int32) (o_M_du : Nat → Int32) (o_M_pl : Nat → Int32) (h : f_X2_copy M_gi M_be M_da M_du M_pl O_gi O_be O_da O_du O_pl = some (o_M_gi, o_M_be, o_M_da, o_M_du, o_M_pl)) : CT l yX2_copy wsX2_copy 1 18 G [.ref m0, .ref o0] (W_MO G m0 m1 m2 m3 o0 o1 o2 o3 t0 M_gi M_be M_da M_du M_pl M_de O_gi O_be O_da O_du O_pl O_de) (QV G (W_MO G m0 m1 m2 m3 o0 o1 o2 o3 t0 o_M_gi o_M_be o_M_da o_M_du o_M_pl M_de O_gi O_be O_da O_du O_pl O_de)) := by
  refine met_of cX2_copy 2 none (by decide) rfl (Nat.le_of_ble_eq_true rfl) ?_
  intro p e s m below meth c A ls hx hb hr hml hts hown hlocks hK hA hD hP hS hl
  replace hown : s.vm.findClass RX2 = some m.cls := hown
  replace hl : lv_has ls 2 [(0, .ref m0), (1, .ref o0)] := hl
  have S0 : CallFix p m c cX2_copy 2 s _ wsX2_copy RX2 := ⟨hx, hb, hml, hown, hts⟩
  have fl9 := hts (.fieldLink RX2 9 "DustVote$Moment" "dust" "[I") (by decide +kernel)
  have inX2 := show ∀ w ∈ wsX20, w ∈ wsX2_copy from by decide +kernel
  have sy1 := hts (.methodLink RX2 42 arraycopyName) (by decide +kernel)
  have sy2 := hts (.native arraycopyName) (by decide +kernel)
  have sy3 := hts (.static arraycopyName) (by decide +kernel)
  have sy4 := hts (.initialized "java/lang/System") (by decide +kernel)
  have fl15 := hts (.fieldLink RX2 15 "DustVote$Moment" "place" "[I") (by decide +kernel)
  have fl22 := hts (.fieldLink RX2 22 "DustVote$Moment" "given" "Z") (by decide +kernel)
  have fl26 := hts (.fieldLink RX2 26 "DustVote$Moment" "bent" "I") (by decide +kernel)
  have fl30 := hts (.fieldLink RX2 30 "DustVote$Moment" "dawns" "I") (by decide +kernel)
  unfold f_X2_copy at h
  refine lv_aload_n hx hb dX2_copy_0 rfl (lv_at hl 1 rfl) ?_
  refine va_get (ci := 2) (C := RX2) (T := TX2) (N := 7) hx hb hts inX2 hown hK.1 hP 4 rfl rfl 1 (by decide) fl9 (fun _ h9 => h9) rfl dX2_copy_1 ?_
  refine lv_iconst (v := 0) hx hb dX2_copy_4 (by decide) ?_
  refine lv_aload_n hx hb dX2_copy_5 rfl (lv_at hl 0 rfl) ?_
  refine va_get (ci := 2) (C := RX2) (T := TX2) (N := 7) hx hb hts inX2 hown hK.1 hP 0 rfl rfl 1 (by decide) fl9 (fun _ h9 => h9) rfl dX2_copy_6 ?_
  refine lv_iconst (v := 0) hx hb dX2_copy_9 (by decide) ?_
  refine lv_bipush (v := 8) hx hb dX2_copy_10 (by decide) ?_
  obtain ⟨dd_1, ee_2, h⟩ := bnd1_s h
  refine wCopy hx hb (hml.trans hl.1.symm) hown sy1 sy2 sy3 sy4 hK hP (va_D_same hD rfl) hS 5 1 rfl rfl ee_2 (Nat.le_of_ble_eq_true rfl) (Nat.le_of_ble_eq_true rfl) dX2_copy_12 (fun H locs hP hS => ?_)
  replace hP : va_P G.1 vwCl (W_MO G m0 m1 m2 m3 o0 o1 o2 o3 t0 M_gi M_be M_da dd_1 M_pl M_de O_gi O_be O_da O_du O_pl O_de) H := hP
  refine lv_aload_n hx hb dX2_copy_15 rfl (lv_at hl 1 rfl) ?_
  refine va_get (ci := 2) (C := RX2) (T := TX2) (N := 7) hx hb hts inX2 hown hK.1 hP 4 rfl rfl 2 (by decide) fl15 (fun _ h9 => h9) rfl dX2_copy_16 ?_
  refine lv_iconst (v := 0) hx hb dX2_copy_19 (by decide) ?_
  refine lv_aload_n hx hb dX2_copy_20 rfl (lv_at hl 0 rfl) ?_
  refine va_get (ci := 2) (C := RX2) (T := TX2) (N := 7) hx hb hts inX2 hown hK.1 hP 0 rfl rfl 2 (by decide) fl15 (fun _ h9 => h9) rfl dX2_copy_21 ?_
  refine lv_iconst (v := 0) hx hb dX2_copy_24 (by decide) ?_
  refine lv_iconst (v := 5) hx hb dX2_copy_25 (by decide) ?_
  obtain ⟨dd_3, ee_4, h⟩ := bnd1_s h
  refine wCopy hx hb (hml.trans hl.1.symm) hown sy1 sy2 sy3 sy4 hK hP (va_D_same hD rfl) hS 6 2 rfl rfl ee_4 (Nat.le_of_ble_eq_true rfl) (Nat.le_of_ble_eq_true rfl) dX2_copy_26 (fun H locs hP hS => ?_)
  replace hP : va_P G.1 vwCl (W_MO G m0 m1 m2 m3 o0 o1 o2 o3 t0 M_gi M_be M_da dd_1 dd_3 M_de O_gi O_be O_da O_du O_pl O_de) H := hP
  refine lv_aload_n hx hb dX2_copy_29 rfl (lv_at hl 0 rfl) ?_
  refine lv_aload_n hx hb dX2_copy_30 rfl (lv_at hl 1 rfl) ?_
  refine va_get (ci := 2) (C := RX2) (T := TX2) (N := 7) hx hb hts inX2 hown hK.1 hP 4 rfl rfl 4 (by decide) fl22 (fun _ h9 => h9) rfl dX2_copy_31 ?_
  obtain ⟨zz_5, ee_6, h⟩ := bnd1_s h
  obtain ⟨rfl, gee_6, kee_6⟩ := zr_s ee_6
  refine va_put (ci := 2) (ty := .boolean) (C := RX2) (T := TX2) (N := 7) hx hb hts inX2 tyX2 tyX2_ok nmX2 hown hK.1 hP (va_D_same hD rfl) hS 0 rfl rfl 4 (by decide) fl22 (fun _ h9 => h9) rfl (by decide +kernel) gee_6 kee_6 (Nat.le_of_ble_eq_true rfl) dX2_copy_34 (fun H locs hP _ hS => ?_)
  replace hP : va_P G.1 vwCl (W_MO G m0 m1 m2 m3 o0 o1 o2 o3 t0 O_gi M_be M_da dd_1 dd_3 M_de O_gi O_be O_da O_du O_pl O_de) H := hP
  refine lv_aload_n hx hb dX2_copy_37 rfl (lv_at hl 0 rfl) ?_
  refine lv_aload_n hx hb dX2_copy_38 rfl (lv_at hl 1 rfl) ?_
  refine va_get (ci := 2) (C := RX2) (T := TX2) (N := 7) hx hb hts inX2 hown hK.1 hP 4 rfl rfl 5 (by decide) fl26 (fun _ h9 => h9) rfl dX2_copy_39 ?_
  refine va_put (ci := 2) (ty := .int) (C := RX2) (T := TX2) (N := 7) hx hb hts inX2 tyX2 tyX2_ok nmX2 hown hK.1 hP (va_D_same hD rfl) hS 0 rfl rfl 5 (by decide) fl26 (fun _ h9 => h9) rfl (by decide +kernel) rfl rfl (Nat.le_of_ble_eq_true rfl) dX2_copy_42 (fun H locs hP _ hS => ?_)
  replace hP : va_P G.1 vwCl (W_MO G m0 m1 m2 m3 o0 o1 o2 o3 t0 O_gi O_be M_da dd_1 dd_3 M_de O_gi O_be O_da O_du O_pl O_de) H := hP
  refine lv_aload_n hx hb dX2_copy_45 rfl (lv_at hl 0 rfl) ?_
  refine lv_aload_n hx hb dX2_copy_46 rfl (lv_at hl 1 rfl) ?_
  refine va_get (ci := 2) (C := RX2) (T := TX2) (N := 7) hx hb hts inX2 hown hK.1 hP 4 rfl rfl 6 (by decide) fl30 (fun _ h9 => h9) rfl dX2_copy_47 ?_
  refine va_put (ci := 2) (ty := .int) (C := RX2) (T := TX2) (N := 7) hx hb hts inX2 tyX2 tyX2_ok nmX2 hown hK.1 hP (va_D_same hD rfl) hS 0 rfl rfl 6 (by decide) fl30 (fun _ h9 => h9) rfl (by decide +kernel) rfl rfl (Nat.le_of_ble_eq_true rfl) dX2_copy_50 (fun H locs hP _ hS => ?_)
  replace hP : va_P G.1 vwCl (W_MO G m0 m1 m2 m3 o0 o1 o2 o3 t0 O_gi O_be O_da dd_1 dd_3 M_de O_gi O_be O_da O_du O_pl O_de) H := hP
  cases h
  exact W.vret hx hb hr (fun t ht _ => ⟨⟨(), rfl, trivial, by show va_P G.1 vwCl _ t.heap; rw [ht]; exact hP⟩, hS.F ht⟩) hS.2.2 dX2_copy_53
def f_X5_fromNow (N_gi : Int32) (N_be : Int32) (N_da : Int32) (N_du : Nat → Int32) (N_pl : Nat → Int32) (R_gi : Int32) (R_be : Int32) (R_da : Int32) (R_du : Nat → Int32) (R_pl : Nat → Int32) : Option (Int32 × Int32 × Int32 × (Nat → Int32) × (Nat → Int32)) := bnd5 (f_X2_copy R_gi R_be R_da R_du R_pl N_gi N_be N_da N_du N_pl) (fun dd_1 dd_2 dd_3 dd_4 dd_5 => some (dd_1, dd_2, dd_3, dd_4, dd_5))
set_option maxRecDepth 100000 in
set_option maxHeartbeats 4000000 in
theorem k_X5_fromNow (l : Launch) (G : Gt) (x0 s0 s1 t0 t1 t2 t3 t4 t5 t6 n0 n1 n2 n3 r0 r1 r2 r3 a0 a1 p0 p1 p2 p3 k0 j0 : Nat) (X_ch : Int64) (S_len : Int32) (S_let : Nat → Int32) (T_br : Int32) (T_fa : Int32) (T_fd : Nat → Int32) (T_fp : Nat → Int32) (T_st : Nat → Int32) (T_kd : Nat → Int32) (T_fs : Nat → Int32) (T_fl : Nat → Int32) (N_gi : Int32) (N_be : Int32) (N_da : Int32) (N_du : Nat → Int32) (N_pl : Nat → Int32) (N_de : Nat → Int32) (R_gi : Int32) (R_be : Int32) (R_da : Int32) (R_du : Nat → Int32) (R_pl : Nat → Int32) (R_de : Nat → Int32) (A_fi : Int32) (A_si : Int32) (A_ce : Nat → Int32) (P_si : Int32) (P_be : Nat → Int32) (P_le : Nat → Int32) (P_go : Nat → Int32) (K_sl : Nat → Int32) (J_fi : Nat → Int32) (o_R_gi : Int32) (o_R_be : Int32) (o_R_da : Int32) (o_R_du : Nat → Int32) (o_R_pl : Nat → Int32) (h : f_X5_fromNow N_gi N_be N_da N_du N_pl R_gi R_be R_da R_du R_pl = some (o_R_gi, o_R_be, o_R_da, o_R_du, o_R_pl)) : CT l yX5_fromNow wsX5_fromNow 2 39 G [.ref x0] (W_F G x0 s0 s1 t0 t1 t2 t3 t4 t5 t6 n0 n1 n2 n3 r0 r1 r2 r3 a0 a1 p0 p1 p2 p3 k0 j0 X_ch S_len S_let T_br T_fa T_fd T_fp T_st T_kd T_fs T_fl N_gi N_be N_da N_du N_pl N_de R_gi R_be R_da R_du R_pl R_de A_fi A_si A_ce P_si P_be P_le P_go K_sl J_fi) (QR G r0 (W_F G x0 s0 s1 t0 t1 t2 t3 t4 t5 t6 n0 n1 n2 n3 r0 r1 r2 r3 a0 a1 p0 p1 p2 p3 k0 j0 X_ch S_len S_let T_br T_fa T_fd T_fp T_st T_kd T_fs T_fl N_gi N_be N_da N_du N_pl N_de o_R_gi o_R_be o_R_da o_R_du o_R_pl R_de A_fi A_si A_ce P_si P_be P_le P_go K_sl J_fi)) := by
  refine met_of cX5_fromNow 1 (some (.object "DustVote$Moment")) (by decide) rfl (Nat.le_of_ble_eq_true rfl) ?_
  intro p e s m below meth c A ls hx hb hr hml hts hown hlocks hK hA hD hP hS hl
  replace hown : s.vm.findClass RX5 = some m.cls := hown
  replace hl : lv_has ls 1 [(0, .ref x0)] := hl
  have S0 : CallFix p m c cX5_fromNow 1 s _ wsX5_fromNow RX5 := ⟨hx, hb, hml, hown, hts⟩
  have fl32 := hts (.fieldLink RX5 32 "DustVote" "trial" "LDustVote$Moment;") (by decide +kernel)
  have inX5 := show ∀ w ∈ wsX50, w ∈ wsX5_fromNow from by decide +kernel
  have fl28 := hts (.fieldLink RX5 28 "DustVote" "now" "LDustVote$Moment;") (by decide +kernel)
  have cw_X2_copy := show CallW (rmv 2 39) s _ RX5 RX2 247 yX2_copy cX2_copy 2 none wsX2_copy (rmv 1 18) 0 0 1 from cwV 1 hts gX5_fromNow_X2_copy rfl rfl rfl (by decide +kernel) ⟨Nat.le_of_ble_eq_true rfl, Nat.le_of_ble_eq_true rfl⟩
  unfold f_X5_fromNow at h
  refine lv_aload_n hx hb dX5_fromNow_0 rfl (lv_at hl 0 rfl) ?_
  refine va_get (ci := 5) (C := RX5) (T := TX5) (N := 9) hx hb hts inX5 hown hK.1 hP 0 rfl rfl 3 (by decide) fl32 (fun _ h9 => h9) rfl dX5_fromNow_1 ?_
  refine lv_aload_n hx hb dX5_fromNow_4 rfl (lv_at hl 0 rfl) ?_
  refine va_get (ci := 5) (C := RX5) (T := TX5) (N := 9) hx hb hts inX5 hown hK.1 hP 0 rfl rfl 2 (by decide) fl28 (fun _ h9 => h9) rfl dX5_fromNow_5 ?_
  obtain ⟨dd_1, dd_2, dd_3, dd_4, dd_5, ee_6, h⟩ := bnd5_s h
  refine cVv (As := [.ref n0]) (rest := []) S0 hK hA hP (va_D_same hD rfl) hS [14, 15, 16, 17, 10, 11, 12, 13] (k_X2_copy l G r0 r1 r2 r3 n0 n1 n2 n3 t0 R_gi R_be R_da R_du R_pl R_de N_gi N_be N_da N_du N_pl N_de dd_1 dd_2 dd_3 dd_4 dd_5 ee_6) cw_X2_copy rfl rfl (Nat.le_of_ble_eq_true rfl) 2 0 rfl rfl rfl rfl hl.1 rfl (Nat.le_of_ble_eq_true rfl) dX5_fromNow_8 ⟨Nat.zero_le _, Nat.zero_le _⟩ (fun H locs hP hS => ?_)
  replace hP : va_P G.1 vwCl (W_F G x0 s0 s1 t0 t1 t2 t3 t4 t5 t6 n0 n1 n2 n3 r0 r1 r2 r3 a0 a1 p0 p1 p2 p3 k0 j0 X_ch S_len S_let T_br T_fa T_fd T_fp T_st T_kd T_fs T_fl N_gi N_be N_da N_du N_pl N_de dd_1 dd_2 dd_3 dd_4 dd_5 R_de A_fi A_si A_ce P_si P_be P_le P_go K_sl J_fi) H := hP
  refine lv_aload_n hx hb dX5_fromNow_11 rfl (lv_at hl 0 rfl) ?_
  refine va_get (ci := 5) (C := RX5) (T := TX5) (N := 9) hx hb hts inX5 hown hK.1 hP 0 rfl rfl 3 (by decide) fl32 (fun _ h9 => h9) rfl dX5_fromNow_12 ?_
  cases h
  exact W.aret hx hb hr (Or.inl ⟨_, rfl⟩) (Or.inr ⟨_, rfl⟩) (fun t ht _ => ⟨⟨(), _, rfl, trivial, rfl, by show va_P G.1 vwCl _ t.heap; rw [ht]; exact hP⟩, hS.F ht⟩) hS.2.2 dX5_fromNow_15
