def f_X5_hand (N_gi : Int32) (N_be : Int32) (N_da : Int32) (N_du : Nat → Int32) (N_pl : Nat → Int32) (A_fi : Int32) (A_si : Int32) (A_ce : Nat → Int32) (u1 : Int32) : Option (Int32 × (Nat → Int32) × Int32 × Int32 × (Nat → Int32)) := bnd1 (f_X5_isStreet u1) (fun rr_1 => if rr_1 = 0 then (some (((-1) : Int32), N_du, A_fi, A_si, A_ce)) else (bnd1 (f_X2_dustIn N_du u1) (fun rr_4 => if rr_4 = 0 then (some (((-3) : Int32), N_du, A_fi, A_si, A_ce)) else (bnd3 (f_X0_push A_fi A_si A_ce N_gi N_be N_da N_du N_pl) (fun dd_7 dd_8 dd_9 => bnd1 (f_X2_empty N_du u1) (fun dd_11 => some (rr_4, dd_11, dd_7, dd_8, dd_9)))))))
set_option maxRecDepth 100000 in
set_option maxHeartbeats 4000000 in
theorem k_X5_hand (l : Launch) (G : Gt) (x0 s0 s1 t0 t1 t2 t3 t4 t5 t6 n0 n1 n2 n3 r0 r1 r2 r3 a0 a1 p0 p1 p2 p3 k0 j0 : Nat) (X_ch : Int64) (S_len : Int32) (S_let : Nat → Int32) (T_br : Int32) (T_fa : Int32) (T_fd : Nat → Int32) (T_fp : Nat → Int32) (T_st : Nat → Int32) (T_kd : Nat → Int32) (T_fs : Nat → Int32) (T_fl : Nat → Int32) (N_gi : Int32) (N_be : Int32) (N_da : Int32) (N_du : Nat → Int32) (N_pl : Nat → Int32) (N_de : Nat → Int32) (R_gi : Int32) (R_be : Int32) (R_da : Int32) (R_du : Nat → Int32) (R_pl : Nat → Int32) (R_de : Nat → Int32) (A_fi : Int32) (A_si : Int32) (A_ce : Nat → Int32) (P_si : Int32) (P_be : Nat → Int32) (P_le : Nat → Int32) (P_go : Nat → Int32) (K_sl : Nat → Int32) (J_fi : Nat → Int32) (u1 : Int32) (r_ : Int32) (o_N_du : Nat → Int32) (o_A_fi : Int32) (o_A_si : Int32) (o_A_ce : Nat → Int32) (h : f_X5_hand N_gi N_be N_da N_du N_pl A_fi A_si A_ce u1 = some (r_, o_N_du, o_A_fi, o_A_si, o_A_ce)) : CT l yX5_hand wsX5_hand 3 62 G [.ref x0, .int u1] (W_F G x0 s0 s1 t0 t1 t2 t3 t4 t5 t6 n0 n1 n2 n3 r0 r1 r2 r3 a0 a1 p0 p1 p2 p3 k0 j0 X_ch S_len S_let T_br T_fa T_fd T_fp T_st T_kd T_fs T_fl N_gi N_be N_da N_du N_pl N_de R_gi R_be R_da R_du R_pl R_de A_fi A_si A_ce P_si P_be P_le P_go K_sl J_fi) (QI G r_ (W_F G x0 s0 s1 t0 t1 t2 t3 t4 t5 t6 n0 n1 n2 n3 r0 r1 r2 r3 a0 a1 p0 p1 p2 p3 k0 j0 X_ch S_len S_let T_br T_fa T_fd T_fp T_st T_kd T_fs T_fl N_gi N_be N_da o_N_du N_pl N_de R_gi R_be R_da R_du R_pl R_de o_A_fi o_A_si o_A_ce P_si P_be P_le P_go K_sl J_fi)) := by
  refine met_of cX5_hand 3 (some .int) (by decide) rfl (Nat.le_of_ble_eq_true rfl) ?_
  intro p e s m below meth c A ls hx hb hr hml hts hown hlocks hK hA hD hP hS hl
  replace hown : s.vm.findClass RX5 = some m.cls := hown
  replace hl : lv_has ls 3 [(0, .ref x0), (1, .int u1)] := hl
  have S0 : CallFix p m c cX5_hand 3 s _ wsX5_hand RX5 := ⟨hx, hb, hml, hown, hts⟩
  have cw_X5_isStreet := show CallB (rmv 3 62) s _ RX5 93 yX5_isStreet cX5_isStreet 1 (some .boolean) wsX5_isStreet (rmv 0 0) 0 0 1 ∧ (Cond.static yX5_isStreet).before _ s = true from va_cwS 1 hts gX5_hand_X5_isStreet rfl rfl rfl (by decide +kernel) ⟨Nat.le_of_ble_eq_true rfl, Nat.le_of_ble_eq_true rfl⟩
  have fl28 := hts (.fieldLink RX5 28 "DustVote" "now" "LDustVote$Moment;") (by decide +kernel)
  have inX5 := show ∀ w ∈ wsX50, w ∈ wsX5_hand from by decide +kernel
  have cw_X2_dustIn := show CallW (rmv 3 62) s _ RX5 RX2 97 yX2_dustIn cX2_dustIn 2 (some .int) wsX2_dustIn (rmv 1 20) 0 0 1 from cwV 1 hts gX5_hand_X2_dustIn rfl rfl rfl (by decide +kernel) ⟨Nat.le_of_ble_eq_true rfl, Nat.le_of_ble_eq_true rfl⟩
  have fl38 := hts (.fieldLink RX5 38 "DustVote" "acts" "LDustVote$ActRow;") (by decide +kernel)
  have cw_X0_push := show CallW (rmv 3 62) s _ RX5 RX0 125 yX0_push cX0_push 2 none wsX0_push (rmv 2 41) 0 0 1 from cwV 1 hts gX5_hand_X0_push rfl rfl rfl (by decide +kernel) ⟨Nat.le_of_ble_eq_true rfl, Nat.le_of_ble_eq_true rfl⟩
  have cw_X2_empty := show CallW (rmv 3 62) s _ RX5 RX2 157 yX2_empty cX2_empty 2 none wsX2_empty (rmv 1 20) 0 0 1 from cwV 1 hts gX5_hand_X2_empty rfl rfl rfl (by decide +kernel) ⟨Nat.le_of_ble_eq_true rfl, Nat.le_of_ble_eq_true rfl⟩
  unfold f_X5_hand at h
  refine lv_iload_n hx hb dX5_hand_0 rfl (lv_at hl 1 rfl) ?_
  obtain ⟨rr_1, ee_2, h⟩ := bnd1_s h
  refine cSi (As := [.int u1]) (rest := []) S0 hK hA hP (va_D_same hD rfl) hS [] (k_X5_isStreet l G u1 rr_1 ee_2) cw_X5_isStreet rfl rfl (Nat.le_of_ble_eq_true rfl) rfl hl.1 rfl (Nat.le_of_ble_eq_true rfl) dX5_hand_1 ⟨Nat.zero_le _, Nat.zero_le _⟩ (fun H locs hP hS => ?_)
  replace hP : va_P G.1 vwCl (W_F G x0 s0 s1 t0 t1 t2 t3 t4 t5 t6 n0 n1 n2 n3 r0 r1 r2 r3 a0 a1 p0 p1 p2 p3 k0 j0 X_ch S_len S_let T_br T_fa T_fd T_fp T_st T_kd T_fs T_fl N_gi N_be N_da N_du N_pl N_de R_gi R_be R_da R_du R_pl R_de A_fi A_si A_ce P_si P_be P_le P_go K_sl J_fi) H := hP
  refine lv_if_ne (tgt := 9) hx hb dX5_hand_4 (by decide) (fun cc_3 => ?_) (fun cc_3 => ?_)
  · replace h := if_f cc_3 h
    refine lv_aload_n hx hb dX5_hand_9 rfl (lv_at hl 0 rfl) ?_
    refine va_get (ci := 5) (C := RX5) (T := TX5) (N := 9) hx hb hts inX5 hown hK.1 hP 0 rfl rfl 2 (by decide) fl28 (fun _ h9 => h9) rfl dX5_hand_10 ?_
    refine lv_iload_n hx hb dX5_hand_13 rfl (lv_at hl 1 rfl) ?_
    obtain ⟨rr_4, ee_5, h⟩ := bnd1_s h
    refine cVi (As := [.int u1]) (rest := []) S0 hK hA hP (va_D_same hD rfl) hS [10, 11, 12, 13, 3, 4, 5, 6, 7, 8, 9] (k_X2_dustIn l G n0 n1 n2 n3 t0 t1 t2 t3 t4 t5 t6 N_gi N_be N_da N_du N_pl N_de T_br T_fa T_fd T_fp T_st T_kd T_fs T_fl u1 rr_4 ee_5) cw_X2_dustIn rfl rfl (Nat.le_of_ble_eq_true rfl) 2 0 rfl rfl rfl rfl hl.1 rfl (Nat.le_of_ble_eq_true rfl) dX5_hand_14 ⟨Nat.zero_le _, Nat.zero_le _⟩ (fun H locs hP hS => ?_)
    replace hP : va_P G.1 vwCl (W_F G x0 s0 s1 t0 t1 t2 t3 t4 t5 t6 n0 n1 n2 n3 r0 r1 r2 r3 a0 a1 p0 p1 p2 p3 k0 j0 X_ch S_len S_let T_br T_fa T_fd T_fp T_st T_kd T_fs T_fl N_gi N_be N_da N_du N_pl N_de R_gi R_be R_da R_du R_pl R_de A_fi A_si A_ce P_si P_be P_le P_go K_sl J_fi) H := hP
    refine lv_istore_n (lv' := [(2, .int rr_4), (0, .ref x0), (1, .int u1)]) hx hb dX5_hand_17 rfl hl (by decide) rfl (fun ls hl => ?_)
    refine lv_iload_n hx hb dX5_hand_18 rfl (lv_at hl 0 rfl) ?_
    refine lv_if_ne (tgt := 25) hx hb dX5_hand_19 (by decide) (fun cc_6 => ?_) (fun cc_6 => ?_)
    · replace h := if_f cc_6 h
      refine lv_aload_n hx hb dX5_hand_25 rfl (lv_at hl 1 rfl) ?_
      refine va_get (ci := 5) (C := RX5) (T := TX5) (N := 9) hx hb hts inX5 hown hK.1 hP 0 rfl rfl 4 (by decide) fl38 (fun _ h9 => h9) rfl dX5_hand_26 ?_
      refine lv_aload_n hx hb dX5_hand_29 rfl (lv_at hl 1 rfl) ?_
      refine va_get (ci := 5) (C := RX5) (T := TX5) (N := 9) hx hb hts inX5 hown hK.1 hP 0 rfl rfl 2 (by decide) fl28 (fun _ h9 => h9) rfl dX5_hand_30 ?_
      obtain ⟨dd_7, dd_8, dd_9, ee_10, h⟩ := bnd3_s h
      refine cVv (As := [.ref n0]) (rest := []) S0 hK hA hP (va_D_same hD rfl) hS [18, 19, 10, 11, 12, 13] (k_X0_push l G a0 a1 n0 n1 n2 n3 t0 A_fi A_si A_ce N_gi N_be N_da N_du N_pl N_de dd_7 dd_8 dd_9 ee_10) cw_X0_push rfl rfl (Nat.le_of_ble_eq_true rfl) 0 0 rfl rfl rfl rfl hl.1 rfl (Nat.le_of_ble_eq_true rfl) dX5_hand_33 ⟨Nat.zero_le _, Nat.zero_le _⟩ (fun H locs hP hS => ?_)
      replace hP : va_P G.1 vwCl (W_F G x0 s0 s1 t0 t1 t2 t3 t4 t5 t6 n0 n1 n2 n3 r0 r1 r2 r3 a0 a1 p0 p1 p2 p3 k0 j0 X_ch S_len S_let T_br T_fa T_fd T_fp T_st T_kd T_fs T_fl N_gi N_be N_da N_du N_pl N_de R_gi R_be R_da R_du R_pl R_de dd_7 dd_8 dd_9 P_si P_be P_le P_go K_sl J_fi) H := hP
      refine lv_aload_n hx hb dX5_hand_36 rfl (lv_at hl 1 rfl) ?_
      refine va_get (ci := 5) (C := RX5) (T := TX5) (N := 9) hx hb hts inX5 hown hK.1 hP 0 rfl rfl 2 (by decide) fl28 (fun _ h9 => h9) rfl dX5_hand_37 ?_
      refine lv_iload_n hx hb dX5_hand_40 rfl (lv_at hl 2 rfl) ?_
      obtain ⟨dd_11, ee_12, h⟩ := bnd1_s h
      refine cVv (As := [.int u1]) (rest := []) S0 hK hA hP (va_D_same hD rfl) hS [10, 11, 12, 13, 3, 4, 5, 6, 7, 8, 9] (k_X2_empty l G n0 n1 n2 n3 t0 t1 t2 t3 t4 t5 t6 N_gi N_be N_da N_du N_pl N_de T_br T_fa T_fd T_fp T_st T_kd T_fs T_fl u1 dd_11 ee_12) cw_X2_empty rfl rfl (Nat.le_of_ble_eq_true rfl) 2 0 rfl rfl rfl rfl hl.1 rfl (Nat.le_of_ble_eq_true rfl) dX5_hand_41 ⟨Nat.zero_le _, Nat.zero_le _⟩ (fun H locs hP hS => ?_)
      replace hP : va_P G.1 vwCl (W_F G x0 s0 s1 t0 t1 t2 t3 t4 t5 t6 n0 n1 n2 n3 r0 r1 r2 r3 a0 a1 p0 p1 p2 p3 k0 j0 X_ch S_len S_let T_br T_fa T_fd T_fp T_st T_kd T_fs T_fl N_gi N_be N_da dd_11 N_pl N_de R_gi R_be R_da R_du R_pl R_de dd_7 dd_8 dd_9 P_si P_be P_le P_go K_sl J_fi) H := hP
      refine lv_iload_n hx hb dX5_hand_44 rfl (lv_at hl 0 rfl) ?_
      cases h
      exact W.iret hx hb hr (fun t ht _ => ⟨⟨_, (), rfl, rfl, by show va_P G.1 vwCl _ t.heap; rw [ht]; exact hP⟩, hS.F ht⟩) hS.2.2 dX5_hand_45
    · replace h := if_t cc_6 h
      refine lv_bipush (v := (-3)) hx hb dX5_hand_22 (by decide) ?_
      cases h
      exact W.iret hx hb hr (fun t ht _ => ⟨⟨_, (), rfl, rfl, by show va_P G.1 vwCl _ t.heap; rw [ht]; exact hP⟩, hS.F ht⟩) hS.2.2 dX5_hand_24
  · replace h := if_t cc_3 h
    refine lv_iconst (v := (-1)) hx hb dX5_hand_7 (by decide) ?_
    cases h
    exact W.iret hx hb hr (fun t ht _ => ⟨⟨_, (), rfl, rfl, by show va_P G.1 vwCl _ t.heap; rw [ht]; exact hP⟩, hS.F ht⟩) hS.2.2 dX5_hand_8
def f_X2_load_60 (cn : Nat) (C_ce : Nat → Int32) (v3 : Int32) (q1 : Int32) (M_gi : Int32) (M_be : Int32) (M_da : Int32) (M_du : Nat → Int32) (M_pl : Nat → Int32) : Option (Int32 × Int32 × Int32 × (Nat → Int32) × (Nat → Int32)) := bnd1 (zr q1) (fun zz_1 => bnd1 (rd C_ce cn (v3 + (1 : Int32))) (fun zz_3 => bnd1 (rd C_ce cn (v3 + (2 : Int32))) (fun zz_5 => some (q1, zz_3, zz_5, M_du, M_pl))))
def f_X2_load (cn : Nat) (M_gi : Int32) (M_be : Int32) (M_da : Int32) (M_du : Nat → Int32) (M_pl : Nat → Int32) (C_ce : Nat → Int32) (u2 : Int32) : Option (Int32 × Int32 × Int32 × (Nat → Int32) × (Nat → Int32)) := if u2 < 0 then (some (M_gi, M_be, M_da, M_du, M_pl)) else (if u2 ≤ ((Int32.ofNat cn) - (16 : Int32)) then (bnd1 (cp C_ce cn u2 M_du 8 (0 : Int32) (8 : Int32)) (fun dd_9 => bnd1 (cp C_ce cn (u2 + (8 : Int32)) M_pl 5 (0 : Int32) (5 : Int32)) (fun dd_11 => bnd1 (rd C_ce cn ((u2 + (8 : Int32)) + (5 : Int32))) (fun zz_13 => if zz_13 = (1 : Int32) then (f_X2_load_60 cn C_ce  ((u2 + (8 : Int32)) + (5 : Int32)) (1 : Int32) M_gi M_be M_da dd_9 dd_11) else (f_X2_load_60 cn C_ce  ((u2 + (8 : Int32)) + (5 : Int32)) (0 : Int32) M_gi M_be M_da dd_9 dd_11))))) else (some (M_gi, M_be, M_da, M_du, M_pl)))
set_option maxRecDepth 100000 in
set_option maxHeartbeats 4000000 in
theorem k_X2_load (l : Launch) (G : Gt) (m0 m1 m2 m3 c0 t0 : Nat) (cn : Nat) (M_gi : Int32) (M_be : Int32) (M_da : Int32) (M_du : Nat → Int32) (M_pl : Nat → Int32) (M_de : Nat → Int32) (C_ce : Nat → Int32) (u2 : Int32) (o_M_gi : Int32) (o_M_be : Int32) (o_M_da : Int32) (o_M_du : Nat → Int32) (o_M_pl : Nat → Int32) (h : f_X2_load cn M_gi M_be M_da M_du M_pl C_ce u2 = some (o_M_gi, o_M_be, o_M_da, o_M_du, o_M_pl)) : CT l yX2_load wsX2_load 1 18 G [.ref m0, .ref c0, .int u2] (W_MC G m0 m1 m2 m3 c0 t0 cn M_gi M_be M_da M_du M_pl M_de C_ce) (QV G (W_MC G m0 m1 m2 m3 c0 t0 cn o_M_gi o_M_be o_M_da o_M_du o_M_pl M_de C_ce)) := by
  refine met_of cX2_load 4 none (by decide) rfl (Nat.le_of_ble_eq_true rfl) ?_
  intro p e s m below meth c A ls hx hb hr hml hts hown hlocks hK hA hD hP hS hl
  replace hown : s.vm.findClass RX2 = some m.cls := hown
  replace hl : lv_has ls 4 [(0, .ref m0), (1, .ref c0), (2, .int u2)] := hl
  have S0 : CallFix p m c cX2_load 4 s _ wsX2_load RX2 := ⟨hx, hb, hml, hown, hts⟩
  have fl22 := hts (.fieldLink RX2 22 "DustVote$Moment" "given" "Z") (by decide +kernel)
  have inX2 := show ∀ w ∈ wsX20, w ∈ wsX2_load from by decide +kernel
  have fl26 := hts (.fieldLink RX2 26 "DustVote$Moment" "bent" "I") (by decide +kernel)
  have fl30 := hts (.fieldLink RX2 30 "DustVote$Moment" "dawns" "I") (by decide +kernel)
  have fl9 := hts (.fieldLink RX2 9 "DustVote$Moment" "dust" "[I") (by decide +kernel)
  have sy1 := hts (.methodLink RX2 42 arraycopyName) (by decide +kernel)
  have sy2 := hts (.native arraycopyName) (by decide +kernel)
  have sy3 := hts (.static arraycopyName) (by decide +kernel)
  have sy4 := hts (.initialized "java/lang/System") (by decide +kernel)
  have fl15 := hts (.fieldLink RX2 15 "DustVote$Moment" "place" "[I") (by decide +kernel)
  have J_60 : ∀ (v3 : Int32) (q1 : Int32) (M_gi : Int32) (M_be : Int32) (M_da : Int32) (M_du : Nat → Int32) (M_pl : Nat → Int32) (H : Heap) (locs : List Loc) (ls : Array Slot), f_X2_load_60 cn C_ce v3 q1 M_gi M_be M_da M_du M_pl = some (o_M_gi, o_M_be, o_M_da, o_M_du, o_M_pl) → va_P G.1 vwCl (W_MC G m0 m1 m2 m3 c0 t0 cn M_gi M_be M_da M_du M_pl M_de C_ce) H → va_S A s.heap H locs → lv_has ls 4 [(0, .ref m0), (1, .ref c0), (3, .int v3)] → W p l e (rmv 1 18) s m (List.toArray [.ref m0, .ref c0, .int u2]) below meth c H locs 0 0 (MQ below ((QV G (W_MC G m0 m1 m2 m3 c0 t0 cn o_M_gi o_M_be o_M_da o_M_du o_M_pl M_de C_ce)) A) (List.toArray [.ref m0, .ref c0, .int u2]) s 0 0 A) (F0 m 60 ls [.int q1, .ref m0]) := by
    intro v3 q1 M_gi M_be M_da M_du M_pl H locs ls h hP hS hl
    unfold f_X2_load_60 at h
    obtain ⟨zz_1, ee_2, h⟩ := bnd1_s h
    obtain ⟨rfl, gee_2, kee_2⟩ := zr_s ee_2
    refine va_put (ci := 2) (ty := .boolean) (C := RX2) (T := TX2) (N := 7) hx hb hts inX2 tyX2 tyX2_ok nmX2 hown hK.1 hP (va_D_same hD rfl) hS 0 rfl rfl 4 (by decide) fl22 (fun _ h9 => h9) rfl (by decide +kernel) gee_2 kee_2 (Nat.le_of_ble_eq_true rfl) dX2_load_60 (fun H locs hP _ hS => ?_)
    replace hP : va_P G.1 vwCl (W_MC G m0 m1 m2 m3 c0 t0 cn q1 M_be M_da M_du M_pl M_de C_ce) H := hP
    refine lv_aload_n hx hb dX2_load_63 rfl (lv_at hl 0 rfl) ?_
    refine lv_aload_n hx hb dX2_load_64 rfl (lv_at hl 1 rfl) ?_
    refine lv_iload_n hx hb dX2_load_65 rfl (lv_at hl 2 rfl) ?_
    refine lv_iconst (v := 1) hx hb dX2_load_66 (by decide) ?_
    refine lv_iadd hx hb dX2_load_67 ?_
    obtain ⟨zz_3, ee_4, h⟩ := bnd1_s h
    refine wIald hx hb hK hP 4 rfl ee_4 dX2_load_68 ?_
    refine va_put (ci := 2) (ty := .int) (C := RX2) (T := TX2) (N := 7) hx hb hts inX2 tyX2 tyX2_ok nmX2 hown hK.1 hP (va_D_same hD rfl) hS 0 rfl rfl 5 (by decide) fl26 (fun _ h9 => h9) rfl (by decide +kernel) rfl rfl (Nat.le_of_ble_eq_true rfl) dX2_load_69 (fun H locs hP _ hS => ?_)
    replace hP : va_P G.1 vwCl (W_MC G m0 m1 m2 m3 c0 t0 cn q1 zz_3 M_da M_du M_pl M_de C_ce) H := hP
    refine lv_aload_n hx hb dX2_load_72 rfl (lv_at hl 0 rfl) ?_
    refine lv_aload_n hx hb dX2_load_73 rfl (lv_at hl 1 rfl) ?_
    refine lv_iload_n hx hb dX2_load_74 rfl (lv_at hl 2 rfl) ?_
    refine lv_iconst (v := 2) hx hb dX2_load_75 (by decide) ?_
    refine lv_iadd hx hb dX2_load_76 ?_
    obtain ⟨zz_5, ee_6, h⟩ := bnd1_s h
    refine wIald hx hb hK hP 4 rfl ee_6 dX2_load_77 ?_
    refine va_put (ci := 2) (ty := .int) (C := RX2) (T := TX2) (N := 7) hx hb hts inX2 tyX2 tyX2_ok nmX2 hown hK.1 hP (va_D_same hD rfl) hS 0 rfl rfl 6 (by decide) fl30 (fun _ h9 => h9) rfl (by decide +kernel) rfl rfl (Nat.le_of_ble_eq_true rfl) dX2_load_78 (fun H locs hP _ hS => ?_)
    replace hP : va_P G.1 vwCl (W_MC G m0 m1 m2 m3 c0 t0 cn q1 zz_3 zz_5 M_du M_pl M_de C_ce) H := hP
    cases h
    exact W.vret hx hb hr (fun t ht _ => ⟨⟨(), rfl, trivial, by show va_P G.1 vwCl _ t.heap; rw [ht]; exact hP⟩, hS.F ht⟩) hS.2.2 dX2_load_81
  unfold f_X2_load at h
  refine lv_iload_n hx hb dX2_load_0 rfl (lv_at hl 2 rfl) ?_
  refine lv_if_lt (tgt := 13) hx hb dX2_load_1 (by decide) (fun cc_7 => ?_) (fun cc_7 => ?_)
  · replace h := if_t cc_7 h
    cases h
    exact W.vret hx hb hr (fun t ht _ => ⟨⟨(), rfl, trivial, by show va_P G.1 vwCl _ t.heap; rw [ht]; exact hP⟩, hS.F ht⟩) hS.2.2 dX2_load_13
  · replace h := if_f cc_7 h
    refine lv_iload_n hx hb dX2_load_4 rfl (lv_at hl 2 rfl) ?_
    refine lv_aload_n hx hb dX2_load_5 rfl (lv_at hl 1 rfl) ?_
    refine va_alen (v := (Int32.ofNat cn)) hx hb hK.1 hP 4 0 rfl rfl rfl dX2_load_6 ?_
    refine lv_bipush (v := 16) hx hb dX2_load_7 (by decide) ?_
    refine lv_isub hx hb dX2_load_9 ?_
    refine lv_icmp_le (tgt := 14) hx hb dX2_load_10 (by decide) (fun cc_8 => ?_) (fun cc_8 => ?_)
    · replace h := if_t cc_8 h
      refine lv_aload_n hx hb dX2_load_14 rfl (lv_at hl 1 rfl) ?_
      refine lv_iload_n hx hb dX2_load_15 rfl (lv_at hl 2 rfl) ?_
      refine lv_aload_n hx hb dX2_load_16 rfl (lv_at hl 0 rfl) ?_
      refine va_get (ci := 2) (C := RX2) (T := TX2) (N := 7) hx hb hts inX2 hown hK.1 hP 0 rfl rfl 1 (by decide) fl9 (fun _ h9 => h9) rfl dX2_load_17 ?_
      refine lv_iconst (v := 0) hx hb dX2_load_20 (by decide) ?_
      refine lv_bipush (v := 8) hx hb dX2_load_21 (by decide) ?_
      obtain ⟨dd_9, ee_10, h⟩ := bnd1_s h
      refine wCopy hx hb (hml.trans hl.1.symm) hown sy1 sy2 sy3 sy4 hK hP (va_D_same hD rfl) hS 4 1 rfl rfl ee_10 (Nat.le_of_ble_eq_true rfl) (Nat.le_of_ble_eq_true rfl) dX2_load_23 (fun H locs hP hS => ?_)
      replace hP : va_P G.1 vwCl (W_MC G m0 m1 m2 m3 c0 t0 cn M_gi M_be M_da dd_9 M_pl M_de C_ce) H := hP
      refine lv_aload_n hx hb dX2_load_26 rfl (lv_at hl 1 rfl) ?_
      refine lv_iload_n hx hb dX2_load_27 rfl (lv_at hl 2 rfl) ?_
      refine lv_bipush (v := 8) hx hb dX2_load_28 (by decide) ?_
      refine lv_iadd hx hb dX2_load_30 ?_
      refine lv_aload_n hx hb dX2_load_31 rfl (lv_at hl 0 rfl) ?_
      refine va_get (ci := 2) (C := RX2) (T := TX2) (N := 7) hx hb hts inX2 hown hK.1 hP 0 rfl rfl 2 (by decide) fl15 (fun _ h9 => h9) rfl dX2_load_32 ?_
      refine lv_iconst (v := 0) hx hb dX2_load_35 (by decide) ?_
      refine lv_iconst (v := 5) hx hb dX2_load_36 (by decide) ?_
      obtain ⟨dd_11, ee_12, h⟩ := bnd1_s h
      refine wCopy hx hb (hml.trans hl.1.symm) hown sy1 sy2 sy3 sy4 hK hP (va_D_same hD rfl) hS 4 2 rfl rfl ee_12 (Nat.le_of_ble_eq_true rfl) (Nat.le_of_ble_eq_true rfl) dX2_load_37 (fun H locs hP hS => ?_)
      replace hP : va_P G.1 vwCl (W_MC G m0 m1 m2 m3 c0 t0 cn M_gi M_be M_da dd_9 dd_11 M_de C_ce) H := hP
      refine lv_iload_n hx hb dX2_load_40 rfl (lv_at hl 2 rfl) ?_
      refine lv_bipush (v := 8) hx hb dX2_load_41 (by decide) ?_
      refine lv_iadd hx hb dX2_load_43 ?_
      refine lv_iconst (v := 5) hx hb dX2_load_44 (by decide) ?_
      refine lv_iadd hx hb dX2_load_45 ?_
      refine lv_istore_n (lv' := [(3, .int ((u2 + (8 : Int32)) + (5 : Int32))), (0, .ref m0), (1, .ref c0), (2, .int u2)]) hx hb dX2_load_46 rfl hl (by decide) rfl (fun ls hl => ?_)
      refine lv_aload_n hx hb dX2_load_47 rfl (lv_at hl 1 rfl) ?_
      refine lv_aload_n hx hb dX2_load_48 rfl (lv_at hl 2 rfl) ?_
      refine lv_iload_n hx hb dX2_load_49 rfl (lv_at hl 0 rfl) ?_
      obtain ⟨zz_13, ee_14, h⟩ := bnd1_s h
      refine wIald hx hb hK hP 4 rfl ee_14 dX2_load_50 ?_
      refine lv_iconst (v := 1) hx hb dX2_load_51 (by decide) ?_
      refine lv_icmp_ne (tgt := 59) hx hb dX2_load_52 (by decide) (fun cc_15 => ?_) (fun cc_15 => ?_)
      · replace h := if_f cc_15 h
        refine lv_iconst (v := 0) hx hb dX2_load_59 (by decide) ?_
        exact J_60  ((u2 + (8 : Int32)) + (5 : Int32)) (0 : Int32) M_gi M_be M_da dd_9 dd_11 _ _ _ h hP hS (lv_sub hl [1, 2, 0] rfl)
      · replace h := if_t cc_15 h
        refine lv_iconst (v := 1) hx hb dX2_load_55 (by decide) ?_
        refine lv_goto (tgt := 60) hx hb dX2_load_56 (by decide) ?_
        exact J_60  ((u2 + (8 : Int32)) + (5 : Int32)) (1 : Int32) M_gi M_be M_da dd_9 dd_11 _ _ _ h hP hS (lv_sub hl [1, 2, 0] rfl)
    · replace h := if_f cc_8 h
      cases h
      exact W.vret hx hb hr (fun t ht _ => ⟨⟨(), rfl, trivial, by show va_P G.1 vwCl _ t.heap; rw [ht]; exact hP⟩, hS.F ht⟩) hS.2.2 dX2_load_13
