def f_X0_clear (A_fi : Int32) (A_si : Int32) : Option (Int32 × Int32) := some ((0 : Int32), (0 : Int32))
set_option maxRecDepth 100000 in
set_option maxHeartbeats 4000000 in
theorem k_X0_clear (l : Launch) (G : Gt) (a0 a1 : Nat) (A_fi : Int32) (A_si : Int32) (A_ce : Nat → Int32) (o_A_fi : Int32) (o_A_si : Int32) (h : f_X0_clear A_fi A_si = some (o_A_fi, o_A_si)) : CT l yX0_clear wsX0_clear 0 0 G [.ref a0] (W_A G a0 a1 A_fi A_si A_ce) (QV G (W_A G a0 a1 o_A_fi o_A_si A_ce)) := by
  refine met_of cX0_clear 1 none (by decide) rfl (Nat.le_of_ble_eq_true rfl) ?_
  intro p e s m below meth c A ls hx hb hr hml hts hown hlocks hK hA hD hP hS hl
  replace hown : s.vm.findClass RX0 = some m.cls := hown
  replace hl : lv_has ls 1 [(0, .ref a0)] := hl
  have S0 : CallFix p m c cX0_clear 1 s _ wsX0_clear RX0 := ⟨hx, hb, hml, hown, hts⟩
  have fl15 := hts (.fieldLink RX0 15 "DustVote$ActRow" "first" "I") (by decide +kernel)
  have inX0 := show ∀ w ∈ wsX00, w ∈ wsX0_clear from by decide +kernel
  have fl19 := hts (.fieldLink RX0 19 "DustVote$ActRow" "size" "I") (by decide +kernel)
  unfold f_X0_clear at h
  refine lv_aload_n hx hb dX0_clear_0 rfl (lv_at hl 0 rfl) ?_
  refine lv_iconst (v := 0) hx hb dX0_clear_1 (by decide) ?_
  refine va_put (ci := 0) (ty := .int) (C := RX0) (T := TX0) (N := 3) hx hb hts inX0 tyX0 tyX0_ok nmX0 hown hK.1 hP (va_D_same hD rfl) hS 0 rfl rfl 1 (by decide) fl15 (fun _ h9 => h9) rfl (by decide +kernel) rfl rfl (Nat.le_of_ble_eq_true rfl) dX0_clear_2 (fun H locs hP _ hS => ?_)
  replace hP : va_P G.1 vwCl (W_A G a0 a1 (0 : Int32) A_si A_ce) H := hP
  refine lv_aload_n hx hb dX0_clear_5 rfl (lv_at hl 0 rfl) ?_
  refine lv_iconst (v := 0) hx hb dX0_clear_6 (by decide) ?_
  refine va_put (ci := 0) (ty := .int) (C := RX0) (T := TX0) (N := 3) hx hb hts inX0 tyX0 tyX0_ok nmX0 hown hK.1 hP (va_D_same hD rfl) hS 0 rfl rfl 2 (by decide) fl19 (fun _ h9 => h9) rfl (by decide +kernel) rfl rfl (Nat.le_of_ble_eq_true rfl) dX0_clear_7 (fun H locs hP _ hS => ?_)
  replace hP : va_P G.1 vwCl (W_A G a0 a1 (0 : Int32) (0 : Int32) A_ce) H := hP
  cases h
  exact W.vret hx hb hr (fun t ht _ => ⟨⟨(), rfl, trivial, by show va_P G.1 vwCl _ t.heap; rw [ht]; exact hP⟩, hS.F ht⟩) hS.2.2 dX0_clear_10
def f_X5_city_42 (S_len : Int32) (S_let : Nat → Int32) : Nat → Int32 → Int32 → Int32 → (Nat → Int32) → (Nat → Int32) → (Nat → Int32) → (Nat → Int32) → (Nat → Int32) → (Nat → Int32) → Int32 → Int32 → Int32 → (Nat → Int32) → (Nat → Int32) → Int32 → Int32 → (Nat → Int32) → Option (Int32 × Int32 × Int32 × (Nat → Int32) × (Nat → Int32) × (Nat → Int32) × (Nat → Int32) × (Nat → Int32) × (Nat → Int32) × Int32 × Int32 × Int32 × (Nat → Int32) × (Nat → Int32) × Int32 × Int32 × (Nat → Int32))
  | 0, _, _, _, _, _, _, _, _, _, _, _, _, _, _, _, _, _ => none
  | fu + 1, v1, T_br, T_fa, T_fd, T_fp, T_st, T_kd, T_fs, T_fl, N_gi, N_be, N_da, N_du, N_pl, A_fi, A_si, J_fi => if (2 : Int32) ≤ v1 then (some ((((10 : Int32) * T_br) + T_fa), T_br, T_fa, T_fd, T_fp, T_st, T_kd, T_fs, T_fl, N_gi, N_be, N_da, N_du, N_pl, A_fi, A_si, J_fi)) else (bnd1 (wr J_fi 2 v1 ((0 : Int32) &&& 1)) (fun dd_2 => f_X5_city_42 S_len S_let fu (v1 + 1) T_br T_fa T_fd T_fp T_st T_kd T_fs T_fl N_gi N_be N_da N_du N_pl A_fi A_si dd_2))
def f_X5_city (S_len : Int32) (S_let : Nat → Int32) (T_br : Int32) (T_fa : Int32) (T_fd : Nat → Int32) (T_fp : Nat → Int32) (T_st : Nat → Int32) (T_kd : Nat → Int32) (T_fs : Nat → Int32) (T_fl : Nat → Int32) (N_gi : Int32) (N_be : Int32) (N_da : Int32) (N_du : Nat → Int32) (N_pl : Nat → Int32) (A_fi : Int32) (A_si : Int32) (J_fi : Nat → Int32) : Option (Int32 × Int32 × Int32 × (Nat → Int32) × (Nat → Int32) × (Nat → Int32) × (Nat → Int32) × (Nat → Int32) × (Nat → Int32) × Int32 × Int32 × Int32 × (Nat → Int32) × (Nat → Int32) × Int32 × Int32 × (Nat → Int32)) := bnd1 (f_X3_firstFault S_len S_let) (fun rr_4 => if rr_4 = ((-9) : Int32) then (bnd8 (f_X4_read T_br T_fa T_fd T_fp T_st T_kd T_fs T_fl S_len S_let) (fun dd_7 dd_8 dd_9 dd_10 dd_11 dd_12 dd_13 dd_14 => bnd5 (f_X2_begin N_gi N_be N_da N_du N_pl dd_9 dd_10) (fun dd_16 dd_17 dd_18 dd_19 dd_20 => bnd2 (f_X0_clear A_fi A_si) (fun dd_22 dd_23 => f_X5_city_42 S_len S_let  130 (0 : Int32) dd_7 dd_8 dd_9 dd_10 dd_11 dd_12 dd_13 dd_14 dd_16 dd_17 dd_18 dd_19 dd_20 dd_22 dd_23 J_fi)))) else (some (((-3) : Int32), T_br, T_fa, T_fd, T_fp, T_st, T_kd, T_fs, T_fl, N_gi, N_be, N_da, N_du, N_pl, A_fi, A_si, J_fi)))
set_option maxRecDepth 100000 in
set_option maxHeartbeats 4000000 in
theorem k_X5_city (l : Launch) (G : Gt) (x0 s0 s1 t0 t1 t2 t3 t4 t5 t6 n0 n1 n2 n3 r0 r1 r2 r3 a0 a1 p0 p1 p2 p3 k0 j0 : Nat) (X_ch : Int64) (S_len : Int32) (S_let : Nat → Int32) (T_br : Int32) (T_fa : Int32) (T_fd : Nat → Int32) (T_fp : Nat → Int32) (T_st : Nat → Int32) (T_kd : Nat → Int32) (T_fs : Nat → Int32) (T_fl : Nat → Int32) (N_gi : Int32) (N_be : Int32) (N_da : Int32) (N_du : Nat → Int32) (N_pl : Nat → Int32) (N_de : Nat → Int32) (R_gi : Int32) (R_be : Int32) (R_da : Int32) (R_du : Nat → Int32) (R_pl : Nat → Int32) (R_de : Nat → Int32) (A_fi : Int32) (A_si : Int32) (A_ce : Nat → Int32) (P_si : Int32) (P_be : Nat → Int32) (P_le : Nat → Int32) (P_go : Nat → Int32) (K_sl : Nat → Int32) (J_fi : Nat → Int32) (r_ : Int32) (o_T_br : Int32) (o_T_fa : Int32) (o_T_fd : Nat → Int32) (o_T_fp : Nat → Int32) (o_T_st : Nat → Int32) (o_T_kd : Nat → Int32) (o_T_fs : Nat → Int32) (o_T_fl : Nat → Int32) (o_N_gi : Int32) (o_N_be : Int32) (o_N_da : Int32) (o_N_du : Nat → Int32) (o_N_pl : Nat → Int32) (o_A_fi : Int32) (o_A_si : Int32) (o_J_fi : Nat → Int32) (h : f_X5_city S_len S_let T_br T_fa T_fd T_fp T_st T_kd T_fs T_fl N_gi N_be N_da N_du N_pl A_fi A_si J_fi = some (r_, o_T_br, o_T_fa, o_T_fd, o_T_fp, o_T_st, o_T_kd, o_T_fs, o_T_fl, o_N_gi, o_N_be, o_N_da, o_N_du, o_N_pl, o_A_fi, o_A_si, o_J_fi)) : CT l yX5_city wsX5_city 5 110 G [.ref x0] (W_F G x0 s0 s1 t0 t1 t2 t3 t4 t5 t6 n0 n1 n2 n3 r0 r1 r2 r3 a0 a1 p0 p1 p2 p3 k0 j0 X_ch S_len S_let T_br T_fa T_fd T_fp T_st T_kd T_fs T_fl N_gi N_be N_da N_du N_pl N_de R_gi R_be R_da R_du R_pl R_de A_fi A_si A_ce P_si P_be P_le P_go K_sl J_fi) (QI G r_ (W_F G x0 s0 s1 t0 t1 t2 t3 t4 t5 t6 n0 n1 n2 n3 r0 r1 r2 r3 a0 a1 p0 p1 p2 p3 k0 j0 X_ch S_len S_let o_T_br o_T_fa o_T_fd o_T_fp o_T_st o_T_kd o_T_fs o_T_fl o_N_gi o_N_be o_N_da o_N_du o_N_pl N_de R_gi R_be R_da R_du R_pl R_de o_A_fi o_A_si A_ce P_si P_be P_le P_go K_sl o_J_fi)) := by
  refine met_of cX5_city 2 (some .int) (by decide) rfl (Nat.le_of_ble_eq_true rfl) ?_
  intro p e s m below meth c A ls hx hb hr hml hts hown hlocks hK hA hD hP hS hl
  replace hown : s.vm.findClass RX5 = some m.cls := hown
  replace hl : lv_has ls 2 [(0, .ref x0)] := hl
  have S0 : CallFix p m c cX5_city 2 s _ wsX5_city RX5 := ⟨hx, hb, hml, hown, hts⟩
  have fl19 := hts (.fieldLink RX5 19 "DustVote" "told" "LDustVote$Told;") (by decide +kernel)
  have inX5 := show ∀ w ∈ wsX50, w ∈ wsX5_city from by decide +kernel
  have fl87 := hK.f (args := List.toArray [.ref x0]) (show ("DustVote", 87, "DustVote$Told", "brooms", "I", "DustVote") ∈ nestF by decide)
  have inX4 := show ∀ w ∈ wsX40, w ∈ wsX5_city from by decide +kernel
  have fl90 := hK.f (args := List.toArray [.ref x0]) (show ("DustVote", 90, "DustVote$Told", "falls", "I", "DustVote") ∈ nestF by decide)
  have fl53 := hts (.fieldLink RX5 53 "DustVote" "filled" "[Z") (by decide +kernel)
  have fl12 := hts (.fieldLink RX5 12 "DustVote" "script" "LDustVote$Script;") (by decide +kernel)
  have cw_X3_firstFault := show CallW (rmv 5 110) s _ RX5 RX3 73 yX3_firstFault cX3_firstFault 2 (some .int) wsX3_firstFault (rmv 4 89) 0 0 0 from cwV 0 hts gX5_city_X3_firstFault rfl rfl rfl (by decide +kernel) ⟨Nat.le_of_ble_eq_true rfl, Nat.le_of_ble_eq_true rfl⟩
  have cw_X4_read := show CallW (rmv 5 110) s _ RX5 RX4 77 yX4_read cX4_read 3 none wsX4_read (rmv 3 64) 0 0 1 from cwV 1 hts gX5_city_X4_read rfl rfl rfl (by decide +kernel) ⟨Nat.le_of_ble_eq_true rfl, Nat.le_of_ble_eq_true rfl⟩
  have fl28 := hts (.fieldLink RX5 28 "DustVote" "now" "LDustVote$Moment;") (by decide +kernel)
  have cw_X2_begin := show CallW (rmv 5 110) s _ RX5 RX2 81 yX2_begin cX2_begin 1 none wsX2_begin (rmv 1 18) 0 0 0 from cwV 0 hts gX5_city_X2_begin rfl rfl rfl (by decide +kernel) ⟨Nat.le_of_ble_eq_true rfl, Nat.le_of_ble_eq_true rfl⟩
  have fl38 := hts (.fieldLink RX5 38 "DustVote" "acts" "LDustVote$ActRow;") (by decide +kernel)
  have cw_X0_clear := show CallW (rmv 5 110) s _ RX5 RX0 84 yX0_clear cX0_clear 1 none wsX0_clear (rmv 0 0) 0 0 0 from cwV 0 hts gX5_city_X0_clear rfl rfl rfl (by decide +kernel) ⟨Nat.le_of_ble_eq_true rfl, Nat.le_of_ble_eq_true rfl⟩
  have J_42 : ∀ (fu : Nat), ∀ (v1 : Int32) (T_br : Int32) (T_fa : Int32) (T_fd : Nat → Int32) (T_fp : Nat → Int32) (T_st : Nat → Int32) (T_kd : Nat → Int32) (T_fs : Nat → Int32) (T_fl : Nat → Int32) (N_gi : Int32) (N_be : Int32) (N_da : Int32) (N_du : Nat → Int32) (N_pl : Nat → Int32) (A_fi : Int32) (A_si : Int32) (J_fi : Nat → Int32) (H : Heap) (locs : List Loc) (ls : Array Slot), f_X5_city_42 S_len S_let fu v1 T_br T_fa T_fd T_fp T_st T_kd T_fs T_fl N_gi N_be N_da N_du N_pl A_fi A_si J_fi = some (r_, o_T_br, o_T_fa, o_T_fd, o_T_fp, o_T_st, o_T_kd, o_T_fs, o_T_fl, o_N_gi, o_N_be, o_N_da, o_N_du, o_N_pl, o_A_fi, o_A_si, o_J_fi) → va_P G.1 vwCl (W_F G x0 s0 s1 t0 t1 t2 t3 t4 t5 t6 n0 n1 n2 n3 r0 r1 r2 r3 a0 a1 p0 p1 p2 p3 k0 j0 X_ch S_len S_let T_br T_fa T_fd T_fp T_st T_kd T_fs T_fl N_gi N_be N_da N_du N_pl N_de R_gi R_be R_da R_du R_pl R_de A_fi A_si A_ce P_si P_be P_le P_go K_sl J_fi) H → va_S A s.heap H locs → lv_has ls 2 [(0, .ref x0), (1, .int v1)] → W p l e (rmv 5 110) s m (List.toArray [.ref x0]) below meth c H locs 0 0 (MQ below ((QI G r_ (W_F G x0 s0 s1 t0 t1 t2 t3 t4 t5 t6 n0 n1 n2 n3 r0 r1 r2 r3 a0 a1 p0 p1 p2 p3 k0 j0 X_ch S_len S_let o_T_br o_T_fa o_T_fd o_T_fp o_T_st o_T_kd o_T_fs o_T_fl o_N_gi o_N_be o_N_da o_N_du o_N_pl N_de R_gi R_be R_da R_du R_pl R_de o_A_fi o_A_si A_ce P_si P_be P_le P_go K_sl o_J_fi)) A) (List.toArray [.ref x0]) s 0 0 A) (F0 m 42 ls []) := by
    intro  fu
    induction fu with
    | zero =>
      intro v1 T_br T_fa T_fd T_fp T_st T_kd T_fs T_fl N_gi N_be N_da N_du N_pl A_fi A_si J_fi H locs ls h
      cases h
    | succ fu ih =>
      intro v1 T_br T_fa T_fd T_fp T_st T_kd T_fs T_fl N_gi N_be N_da N_du N_pl A_fi A_si J_fi H locs ls h hP hS hl
      rw [f_X5_city_42] at h
      refine lv_iload_n hx hb dX5_city_42 rfl (lv_at hl 1 rfl) ?_
      refine lv_iconst (v := 2) hx hb dX5_city_43 (by decide) ?_
      refine lv_icmp_ge (tgt := 60) hx hb dX5_city_44 (by decide) (fun cc_1 => ?_) (fun cc_1 => ?_)
      · replace h := if_t cc_1 h
        refine lv_bipush (v := 10) hx hb dX5_city_60 (by decide) ?_
        refine lv_aload_n hx hb dX5_city_62 rfl (lv_at hl 0 rfl) ?_
        refine va_get (ci := 5) (C := RX5) (T := TX5) (N := 9) hx hb hts inX5 hown hK.1 hP 0 rfl rfl 1 (by decide) fl19 (fun _ h9 => h9) rfl dX5_city_63 ?_
        refine va_getN (ci := 4) (C := RX4) (T := TX4) (N := 8) hx hb hts inX4 hown hK.1 hP 3 rfl rfl 6 (by decide) fl87 (fun _ h9 => h9) rfl dX5_city_66 ?_
        refine lv_imul hx hb dX5_city_69 ?_
        refine lv_aload_n hx hb dX5_city_70 rfl (lv_at hl 0 rfl) ?_
        refine va_get (ci := 5) (C := RX5) (T := TX5) (N := 9) hx hb hts inX5 hown hK.1 hP 0 rfl rfl 1 (by decide) fl19 (fun _ h9 => h9) rfl dX5_city_71 ?_
        refine va_getN (ci := 4) (C := RX4) (T := TX4) (N := 8) hx hb hts inX4 hown hK.1 hP 3 rfl rfl 7 (by decide) fl90 (fun _ h9 => h9) rfl dX5_city_74 ?_
        refine lv_iadd hx hb dX5_city_77 ?_
        cases h
        exact W.iret hx hb hr (fun t ht _ => ⟨⟨_, (), rfl, rfl, by show va_P G.1 vwCl _ t.heap; rw [ht]; exact hP⟩, hS.F ht⟩) hS.2.2 dX5_city_78
      · replace h := if_f cc_1 h
        refine lv_aload_n hx hb dX5_city_47 rfl (lv_at hl 0 rfl) ?_
        refine va_get (ci := 5) (C := RX5) (T := TX5) (N := 9) hx hb hts inX5 hown hK.1 hP 0 rfl rfl 7 (by decide) fl53 (fun _ h9 => h9) rfl dX5_city_48 ?_
        refine lv_iload_n hx hb dX5_city_51 rfl (lv_at hl 1 rfl) ?_
        refine lv_iconst (v := 0) hx hb dX5_city_52 (by decide) ?_
        obtain ⟨dd_2, ee_3, h⟩ := bnd1_s h
        refine wZast hx hb hK hP (va_D_same hD rfl) hS 25 rfl ee_3 dX5_city_53 (fun H locs hP hS => ?_)
        replace hP : va_P G.1 vwCl (W_F G x0 s0 s1 t0 t1 t2 t3 t4 t5 t6 n0 n1 n2 n3 r0 r1 r2 r3 a0 a1 p0 p1 p2 p3 k0 j0 X_ch S_len S_let T_br T_fa T_fd T_fp T_st T_kd T_fs T_fl N_gi N_be N_da N_du N_pl N_de R_gi R_be R_da R_du R_pl R_de A_fi A_si A_ce P_si P_be P_le P_go K_sl dd_2) H := hP
        refine lv_iinc (v := (v1 + 1)) (lv' := [(1, .int (v1 + 1)), (0, .ref x0)]) hx hb dX5_city_54 hl (k := 1) rfl rfl (by decide) rfl (fun ls hl => ?_)
        refine lv_goto (tgt := 42) hx hb dX5_city_57 (by decide) ?_
        exact ih (v1 + 1) T_br T_fa T_fd T_fp T_st T_kd T_fs T_fl N_gi N_be N_da N_du N_pl A_fi A_si dd_2 _ _ _ h hP hS (lv_sub hl [1, 0] rfl)
  unfold f_X5_city at h
  refine lv_aload_n hx hb dX5_city_0 rfl (lv_at hl 0 rfl) ?_
  refine va_get (ci := 5) (C := RX5) (T := TX5) (N := 9) hx hb hts inX5 hown hK.1 hP 0 rfl rfl 0 (by decide) fl12 (fun _ h9 => h9) rfl dX5_city_1 ?_
  obtain ⟨rr_4, ee_5, h⟩ := bnd1_s h
  refine cVi (As := []) (rest := []) S0 hK hA hP (va_D_same hD rfl) hS [1, 2] (k_X3_firstFault l G s0 s1 S_len S_let rr_4 ee_5) cw_X3_firstFault rfl rfl (Nat.le_of_ble_eq_true rfl) 3 0 rfl rfl rfl rfl hl.1 rfl (Nat.le_of_ble_eq_true rfl) dX5_city_4 ⟨Nat.zero_le _, Nat.zero_le _⟩ (fun H locs hP hS => ?_)
  replace hP : va_P G.1 vwCl (W_F G x0 s0 s1 t0 t1 t2 t3 t4 t5 t6 n0 n1 n2 n3 r0 r1 r2 r3 a0 a1 p0 p1 p2 p3 k0 j0 X_ch S_len S_let T_br T_fa T_fd T_fp T_st T_kd T_fs T_fl N_gi N_be N_da N_du N_pl N_de R_gi R_be R_da R_du R_pl R_de A_fi A_si A_ce P_si P_be P_le P_go K_sl J_fi) H := hP
  refine lv_bipush (v := (-9)) hx hb dX5_city_7 (by decide) ?_
  refine lv_icmp_eq (tgt := 15) hx hb dX5_city_9 (by decide) (fun cc_6 => ?_) (fun cc_6 => ?_)
  · replace h := if_t cc_6 h
    refine lv_aload_n hx hb dX5_city_15 rfl (lv_at hl 0 rfl) ?_
    refine va_get (ci := 5) (C := RX5) (T := TX5) (N := 9) hx hb hts inX5 hown hK.1 hP 0 rfl rfl 1 (by decide) fl19 (fun _ h9 => h9) rfl dX5_city_16 ?_
    refine lv_aload_n hx hb dX5_city_19 rfl (lv_at hl 0 rfl) ?_
    refine va_get (ci := 5) (C := RX5) (T := TX5) (N := 9) hx hb hts inX5 hown hK.1 hP 0 rfl rfl 0 (by decide) fl12 (fun _ h9 => h9) rfl dX5_city_20 ?_
    obtain ⟨dd_7, dd_8, dd_9, dd_10, dd_11, dd_12, dd_13, dd_14, ee_15, h⟩ := bnd8_s h
    refine cVv (As := [.ref s0]) (rest := []) S0 hK hA hP (va_D_same hD rfl) hS [3, 4, 5, 6, 7, 8, 9, 1, 2] (k_X4_read l G t0 t1 t2 t3 t4 t5 t6 s0 s1 T_br T_fa T_fd T_fp T_st T_kd T_fs T_fl S_len S_let dd_7 dd_8 dd_9 dd_10 dd_11 dd_12 dd_13 dd_14 ee_15) cw_X4_read rfl rfl (Nat.le_of_ble_eq_true rfl) 4 0 rfl rfl rfl rfl hl.1 rfl (Nat.le_of_ble_eq_true rfl) dX5_city_23 ⟨Nat.zero_le _, Nat.zero_le _⟩ (fun H locs hP hS => ?_)
    replace hP : va_P G.1 vwCl (W_F G x0 s0 s1 t0 t1 t2 t3 t4 t5 t6 n0 n1 n2 n3 r0 r1 r2 r3 a0 a1 p0 p1 p2 p3 k0 j0 X_ch S_len S_let dd_7 dd_8 dd_9 dd_10 dd_11 dd_12 dd_13 dd_14 N_gi N_be N_da N_du N_pl N_de R_gi R_be R_da R_du R_pl R_de A_fi A_si A_ce P_si P_be P_le P_go K_sl J_fi) H := hP
    refine lv_aload_n hx hb dX5_city_26 rfl (lv_at hl 0 rfl) ?_
    refine va_get (ci := 5) (C := RX5) (T := TX5) (N := 9) hx hb hts inX5 hown hK.1 hP 0 rfl rfl 2 (by decide) fl28 (fun _ h9 => h9) rfl dX5_city_27 ?_
    obtain ⟨dd_16, dd_17, dd_18, dd_19, dd_20, ee_21, h⟩ := bnd5_s h
    refine cVv (As := []) (rest := []) S0 hK hA hP (va_D_same hD rfl) hS [10, 11, 12, 13, 3, 4, 5, 6, 7, 8, 9] (k_X2_begin l G n0 n1 n2 n3 t0 t1 t2 t3 t4 t5 t6 N_gi N_be N_da N_du N_pl N_de dd_7 dd_8 dd_9 dd_10 dd_11 dd_12 dd_13 dd_14 dd_16 dd_17 dd_18 dd_19 dd_20 ee_21) cw_X2_begin rfl rfl (Nat.le_of_ble_eq_true rfl) 2 0 rfl rfl rfl rfl hl.1 rfl (Nat.le_of_ble_eq_true rfl) dX5_city_30 ⟨Nat.zero_le _, Nat.zero_le _⟩ (fun H locs hP hS => ?_)
    replace hP : va_P G.1 vwCl (W_F G x0 s0 s1 t0 t1 t2 t3 t4 t5 t6 n0 n1 n2 n3 r0 r1 r2 r3 a0 a1 p0 p1 p2 p3 k0 j0 X_ch S_len S_let dd_7 dd_8 dd_9 dd_10 dd_11 dd_12 dd_13 dd_14 dd_16 dd_17 dd_18 dd_19 dd_20 N_de R_gi R_be R_da R_du R_pl R_de A_fi A_si A_ce P_si P_be P_le P_go K_sl J_fi) H := hP
    refine lv_aload_n hx hb dX5_city_33 rfl (lv_at hl 0 rfl) ?_
    refine va_get (ci := 5) (C := RX5) (T := TX5) (N := 9) hx hb hts inX5 hown hK.1 hP 0 rfl rfl 4 (by decide) fl38 (fun _ h9 => h9) rfl dX5_city_34 ?_
    obtain ⟨dd_22, dd_23, ee_24, h⟩ := bnd2_s h
    refine cVv (As := []) (rest := []) S0 hK hA hP (va_D_same hD rfl) hS [18, 19] (k_X0_clear l G a0 a1 A_fi A_si A_ce dd_22 dd_23 ee_24) cw_X0_clear rfl rfl (Nat.le_of_ble_eq_true rfl) 0 0 rfl rfl rfl rfl hl.1 rfl (Nat.le_of_ble_eq_true rfl) dX5_city_37 ⟨Nat.zero_le _, Nat.zero_le _⟩ (fun H locs hP hS => ?_)
    replace hP : va_P G.1 vwCl (W_F G x0 s0 s1 t0 t1 t2 t3 t4 t5 t6 n0 n1 n2 n3 r0 r1 r2 r3 a0 a1 p0 p1 p2 p3 k0 j0 X_ch S_len S_let dd_7 dd_8 dd_9 dd_10 dd_11 dd_12 dd_13 dd_14 dd_16 dd_17 dd_18 dd_19 dd_20 N_de R_gi R_be R_da R_du R_pl R_de dd_22 dd_23 A_ce P_si P_be P_le P_go K_sl J_fi) H := hP
    refine lv_iconst (v := 0) hx hb dX5_city_40 (by decide) ?_
    refine lv_istore_n (lv' := [(1, .int (0 : Int32)), (0, .ref x0)]) hx hb dX5_city_41 rfl hl (by decide) rfl (fun ls hl => ?_)
    exact J_42  130 (0 : Int32) dd_7 dd_8 dd_9 dd_10 dd_11 dd_12 dd_13 dd_14 dd_16 dd_17 dd_18 dd_19 dd_20 dd_22 dd_23 J_fi _ _ _ h hP hS (lv_sub hl [1, 0] rfl)
  · replace h := if_f cc_6 h
    refine lv_bipush (v := (-3)) hx hb dX5_city_12 (by decide) ?_
    cases h
    exact W.iret hx hb hr (fun t ht _ => ⟨⟨_, (), rfl, rfl, by show va_P G.1 vwCl _ t.heap; rw [ht]; exact hP⟩, hS.F ht⟩) hS.2.2 dX5_city_14
def f_X2_dustIn (M_du : Nat → Int32) (u1 : Int32) : Option (Int32) := bnd1 (f_X5_isStreet u1) (fun rr_1 => if rr_1 = 0 then (some (0 : Int32)) else (bnd1 (rd M_du 8 u1) (fun zz_4 => some zz_4)))
set_option maxRecDepth 100000 in
set_option maxHeartbeats 4000000 in
theorem k_X2_dustIn (l : Launch) (G : Gt) (m0 m1 m2 m3 t0 t1 t2 t3 t4 t5 t6 : Nat) (M_gi : Int32) (M_be : Int32) (M_da : Int32) (M_du : Nat → Int32) (M_pl : Nat → Int32) (M_de : Nat → Int32) (T_br : Int32) (T_fa : Int32) (T_fd : Nat → Int32) (T_fp : Nat → Int32) (T_st : Nat → Int32) (T_kd : Nat → Int32) (T_fs : Nat → Int32) (T_fl : Nat → Int32) (u1 : Int32) (r_ : Int32) (h : f_X2_dustIn M_du u1 = some r_) : CT l yX2_dustIn wsX2_dustIn 1 20 G [.ref m0, .int u1] (W_MT G m0 m1 m2 m3 t0 t1 t2 t3 t4 t5 t6 M_gi M_be M_da M_du M_pl M_de T_br T_fa T_fd T_fp T_st T_kd T_fs T_fl) (QI G r_ (W_MT G m0 m1 m2 m3 t0 t1 t2 t3 t4 t5 t6 M_gi M_be M_da M_du M_pl M_de T_br T_fa T_fd T_fp T_st T_kd T_fs T_fl)) := by
  refine met_of cX2_dustIn 2 (some .int) (by decide) rfl (Nat.le_of_ble_eq_true rfl) ?_
  intro p e s m below meth c A ls hx hb hr hml hts hown hlocks hK hA hD hP hS hl
  replace hown : s.vm.findClass RX2 = some m.cls := hown
  replace hl : lv_has ls 2 [(0, .ref m0), (1, .int u1)] := hl
  have S0 : CallFix p m c cX2_dustIn 2 s _ wsX2_dustIn RX2 := ⟨hx, hb, hml, hown, hts⟩
  have cw_X5_isStreet := show va_CN (rmv 1 20) s _ RX2 51 yX5_isStreet "DustVote" cX5_isStreet 1 (some .boolean) wsX5_isStreet (rmv 0 0) 0 0 1 ∧ (Cond.static yX5_isStreet).before _ s = true ∧ True from ⟨va_cnB 1 hts gX2_dustIn_X5_isStreet_n51 rfl rfl rfl (hK.m (by decide)) (hts (.initialized RX5) (by decide +kernel)) (by decide +kernel) ⟨Nat.le_of_ble_eq_true rfl, Nat.le_of_ble_eq_true rfl⟩, hts (.static yX5_isStreet) (by decide +kernel), trivial⟩
  have fl9 := hts (.fieldLink RX2 9 "DustVote$Moment" "dust" "[I") (by decide +kernel)
  have inX2 := show ∀ w ∈ wsX20, w ∈ wsX2_dustIn from by decide +kernel
  unfold f_X2_dustIn at h
  refine lv_iload_n hx hb dX2_dustIn_0 rfl (lv_at hl 1 rfl) ?_
  obtain ⟨rr_1, ee_2, h⟩ := bnd1_s h
  refine cNi (As := [.int u1]) (rest := []) S0 hK hA hP (va_D_same hD rfl) hS [] (k_X5_isStreet l G u1 rr_1 ee_2) cw_X5_isStreet rfl rfl (Nat.le_of_ble_eq_true rfl) rfl hl.1 rfl (Nat.le_of_ble_eq_true rfl) dX2_dustIn_1 ⟨Nat.zero_le _, Nat.zero_le _⟩ (fun H locs hP hS => ?_)
  replace hP : va_P G.1 vwCl (W_MT G m0 m1 m2 m3 t0 t1 t2 t3 t4 t5 t6 M_gi M_be M_da M_du M_pl M_de T_br T_fa T_fd T_fp T_st T_kd T_fs T_fl) H := hP
  refine lv_if_eq (tgt := 16) hx hb dX2_dustIn_4 (by decide) (fun cc_3 => ?_) (fun cc_3 => ?_)
  · replace h := if_t cc_3 h
    refine lv_iconst (v := 0) hx hb dX2_dustIn_16 (by decide) ?_
    cases h
    exact W.iret hx hb hr (fun t ht _ => ⟨⟨_, (), rfl, rfl, by show va_P G.1 vwCl _ t.heap; rw [ht]; exact hP⟩, hS.F ht⟩) hS.2.2 dX2_dustIn_17
  · replace h := if_f cc_3 h
    refine lv_aload_n hx hb dX2_dustIn_7 rfl (lv_at hl 0 rfl) ?_
    refine va_get (ci := 2) (C := RX2) (T := TX2) (N := 7) hx hb hts inX2 hown hK.1 hP 0 rfl rfl 1 (by decide) fl9 (fun _ h9 => h9) rfl dX2_dustIn_8 ?_
    refine lv_iload_n hx hb dX2_dustIn_11 rfl (lv_at hl 1 rfl) ?_
    obtain ⟨zz_4, ee_5, h⟩ := bnd1_s h
    refine wIald hx hb hK hP 1 rfl ee_5 dX2_dustIn_12 ?_
    refine lv_goto (tgt := 17) hx hb dX2_dustIn_13 (by decide) ?_
    cases h
    exact W.iret hx hb hr (fun t ht _ => ⟨⟨_, (), rfl, rfl, by show va_P G.1 vwCl _ t.heap; rw [ht]; exact hP⟩, hS.F ht⟩) hS.2.2 dX2_dustIn_17
def f_X2_isDeep (M_du : Nat → Int32) (u1 : Int32) : Option (Int32) := bnd1 (f_X2_dustIn M_du u1) (fun rr_1 => if rr_1 < (10 : Int32) then (some (0 : Int32)) else (some (1 : Int32)))
set_option maxRecDepth 100000 in
set_option maxHeartbeats 4000000 in
theorem k_X2_isDeep (l : Launch) (G : Gt) (m0 m1 m2 m3 t0 t1 t2 t3 t4 t5 t6 : Nat) (M_gi : Int32) (M_be : Int32) (M_da : Int32) (M_du : Nat → Int32) (M_pl : Nat → Int32) (M_de : Nat → Int32) (T_br : Int32) (T_fa : Int32) (T_fd : Nat → Int32) (T_fp : Nat → Int32) (T_st : Nat → Int32) (T_kd : Nat → Int32) (T_fs : Nat → Int32) (T_fl : Nat → Int32) (u1 : Int32) (r_ : Int32) (h : f_X2_isDeep M_du u1 = some r_) : CT l yX2_isDeep wsX2_isDeep 2 41 G [.ref m0, .int u1] (W_MT G m0 m1 m2 m3 t0 t1 t2 t3 t4 t5 t6 M_gi M_be M_da M_du M_pl M_de T_br T_fa T_fd T_fp T_st T_kd T_fs T_fl) (QI G r_ (W_MT G m0 m1 m2 m3 t0 t1 t2 t3 t4 t5 t6 M_gi M_be M_da M_du M_pl M_de T_br T_fa T_fd T_fp T_st T_kd T_fs T_fl)) := by
  refine met_of cX2_isDeep 2 (some .boolean) (by decide) rfl (Nat.le_of_ble_eq_true rfl) ?_
  intro p e s m below meth c A ls hx hb hr hml hts hown hlocks hK hA hD hP hS hl
  replace hown : s.vm.findClass RX2 = some m.cls := hown
  replace hl : lv_has ls 2 [(0, .ref m0), (1, .int u1)] := hl
  have S0 : CallFix p m c cX2_isDeep 2 s _ wsX2_isDeep RX2 := ⟨hx, hb, hml, hown, hts⟩
  have cw_X2_dustIn := show CallW (rmv 2 41) s _ RX2 RX2 58 yX2_dustIn cX2_dustIn 2 (some .int) wsX2_dustIn (rmv 1 20) 0 0 1 from cwV 1 hts gX2_isDeep_X2_dustIn rfl rfl rfl (by decide +kernel) ⟨Nat.le_of_ble_eq_true rfl, Nat.le_of_ble_eq_true rfl⟩
  unfold f_X2_isDeep at h
  refine lv_aload_n hx hb dX2_isDeep_0 rfl (lv_at hl 0 rfl) ?_
  refine lv_iload_n hx hb dX2_isDeep_1 rfl (lv_at hl 1 rfl) ?_
  obtain ⟨rr_1, ee_2, h⟩ := bnd1_s h
  refine cFi (As := [.int u1]) (rest := []) S0 hK hA hP (va_D_same hD rfl) hS (k_X2_dustIn l G m0 m1 m2 m3 t0 t1 t2 t3 t4 t5 t6 M_gi M_be M_da M_du M_pl M_de T_br T_fa T_fd T_fp T_st T_kd T_fs T_fl u1 rr_1 ee_2) cw_X2_dustIn 2 0 rfl rfl rfl rfl hl.1 rfl (Nat.le_of_ble_eq_true rfl) dX2_isDeep_2 ⟨Nat.zero_le _, Nat.zero_le _⟩ (fun H locs hP hS => ?_)
  replace hP : va_P G.1 vwCl (W_MT G m0 m1 m2 m3 t0 t1 t2 t3 t4 t5 t6 M_gi M_be M_da M_du M_pl M_de T_br T_fa T_fd T_fp T_st T_kd T_fs T_fl) H := hP
  refine lv_bipush (v := 10) hx hb dX2_isDeep_5 (by decide) ?_
  refine lv_icmp_lt (tgt := 14) hx hb dX2_isDeep_7 (by decide) (fun cc_3 => ?_) (fun cc_3 => ?_)
  · replace h := if_t cc_3 h
    refine lv_iconst (v := 0) hx hb dX2_isDeep_14 (by decide) ?_
    cases h
    exact W.zret (ty := .boolean) hx hb hr (by decide) (fun t ht _ => ⟨⟨_, (), rfl, rfl, by show va_P G.1 vwCl _ t.heap; rw [ht]; exact hP⟩, hS.F ht⟩) hS.2.2 dX2_isDeep_15
  · replace h := if_f cc_3 h
    refine lv_iconst (v := 1) hx hb dX2_isDeep_10 (by decide) ?_
    refine lv_goto (tgt := 15) hx hb dX2_isDeep_11 (by decide) ?_
    cases h
    exact W.zret (ty := .boolean) hx hb hr (by decide) (fun t ht _ => ⟨⟨_, (), rfl, rfl, by show va_P G.1 vwCl _ t.heap; rw [ht]; exact hP⟩, hS.F ht⟩) hS.2.2 dX2_isDeep_15
