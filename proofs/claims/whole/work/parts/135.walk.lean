def f_X5_seed (X_ch : Int64) (u1 : Int64) : Option (Int64 × Int64) := some (X_ch, u1)
set_option maxRecDepth 100000 in
set_option maxHeartbeats 4000000 in
theorem k_X5_seed (l : Launch) (G : Gt) (x0 s0 s1 t0 t1 t2 t3 t4 t5 t6 n0 n1 n2 n3 r0 r1 r2 r3 a0 a1 p0 p1 p2 p3 k0 j0 : Nat) (X_ch : Int64) (S_len : Int32) (S_let : Nat → Int32) (T_br : Int32) (T_fa : Int32) (T_fd : Nat → Int32) (T_fp : Nat → Int32) (T_st : Nat → Int32) (T_kd : Nat → Int32) (T_fs : Nat → Int32) (T_fl : Nat → Int32) (N_gi : Int32) (N_be : Int32) (N_da : Int32) (N_du : Nat → Int32) (N_pl : Nat → Int32) (N_de : Nat → Int32) (R_gi : Int32) (R_be : Int32) (R_da : Int32) (R_du : Nat → Int32) (R_pl : Nat → Int32) (R_de : Nat → Int32) (A_fi : Int32) (A_si : Int32) (A_ce : Nat → Int32) (P_si : Int32) (P_be : Nat → Int32) (P_le : Nat → Int32) (P_go : Nat → Int32) (K_sl : Nat → Int32) (J_fi : Nat → Int32) (u1 : Int64) (r_ : Int64) (o_X_ch : Int64) (h : f_X5_seed X_ch u1 = some (r_, o_X_ch)) : CT l yX5_seed wsX5_seed 0 0 G [.ref x0, .long u1] (W_F G x0 s0 s1 t0 t1 t2 t3 t4 t5 t6 n0 n1 n2 n3 r0 r1 r2 r3 a0 a1 p0 p1 p2 p3 k0 j0 X_ch S_len S_let T_br T_fa T_fd T_fp T_st T_kd T_fs T_fl N_gi N_be N_da N_du N_pl N_de R_gi R_be R_da R_du R_pl R_de A_fi A_si A_ce P_si P_be P_le P_go K_sl J_fi) (QL G r_ (W_F G x0 s0 s1 t0 t1 t2 t3 t4 t5 t6 n0 n1 n2 n3 r0 r1 r2 r3 a0 a1 p0 p1 p2 p3 k0 j0 o_X_ch S_len S_let T_br T_fa T_fd T_fp T_st T_kd T_fs T_fl N_gi N_be N_da N_du N_pl N_de R_gi R_be R_da R_du R_pl R_de A_fi A_si A_ce P_si P_be P_le P_go K_sl J_fi)) := by
  refine met_of cX5_seed 5 (some .long) (by decide) rfl (Nat.le_of_ble_eq_true rfl) ?_
  intro p e s m below meth c A ls hx hb hr hml hts hown hlocks hK hA hD hP hS hl
  replace hown : s.vm.findClass RX5 = some m.cls := hown
  replace hl : lv_has ls 5 [(0, .ref x0), (1, .long u1)] := hl
  have S0 : CallFix p m c cX5_seed 5 s _ wsX5_seed RX5 := ⟨hx, hb, hml, hown, hts⟩
  have fl57 := hts (.fieldLink RX5 57 "DustVote" "chance" "J") (by decide +kernel)
  have inX5 := show ∀ w ∈ wsX50, w ∈ wsX5_seed from by decide +kernel
  unfold f_X5_seed at h
  refine lv_aload_n hx hb dX5_seed_0 rfl (lv_at hl 0 rfl) ?_
  refine va_get (ci := 5) (C := RX5) (T := TX5) (N := 9) hx hb hts inX5 hown hK.1 hP 0 rfl rfl 8 (by decide) fl57 (fun _ h9 => h9) rfl dX5_seed_1 ?_
  refine lv_lstore_n (lv' := [(3, .long X_ch), (0, .ref x0), (1, .long u1)]) hx hb dX5_seed_4 rfl hl (by decide) rfl (fun ls hl => ?_)
  refine lv_aload_n hx hb dX5_seed_5 rfl (lv_at hl 1 rfl) ?_
  refine lv_lload_n hx hb dX5_seed_6 rfl (lv_at hl 2 rfl) ?_
  refine va_put (ci := 5) (ty := .long) (C := RX5) (T := TX5) (N := 9) hx hb hts inX5 tyX5 tyX5_ok nmX5 hown hK.1 hP (va_D_same hD rfl) hS 0 rfl rfl 8 (by decide) fl57 (fun _ h9 => h9) rfl (by decide +kernel) rfl rfl (Nat.le_of_ble_eq_true rfl) dX5_seed_7 (fun H locs hP _ hS => ?_)
  replace hP : va_P G.1 vwCl (W_F G x0 s0 s1 t0 t1 t2 t3 t4 t5 t6 n0 n1 n2 n3 r0 r1 r2 r3 a0 a1 p0 p1 p2 p3 k0 j0 u1 S_len S_let T_br T_fa T_fd T_fp T_st T_kd T_fs T_fl N_gi N_be N_da N_du N_pl N_de R_gi R_be R_da R_du R_pl R_de A_fi A_si A_ce P_si P_be P_le P_go K_sl J_fi) H := hP
  refine lv_lload_n hx hb dX5_seed_10 rfl (lv_at hl 0 rfl) ?_
  cases h
  exact W.lret hx hb hr (fun t ht _ => ⟨⟨_, (), rfl, rfl, by show va_P G.1 vwCl _ t.heap; rw [ht]; exact hP⟩, hS.F ht⟩) hS.2.2 dX5_seed_11
def f_X5_happen (T_br : Int32) (T_fa : Int32) (T_st : Nat → Int32) (T_kd : Nat → Int32) (T_fs : Nat → Int32) (T_fl : Nat → Int32) (R_gi : Int32) (R_be : Int32) (R_da : Int32) (R_du : Nat → Int32) (R_pl : Nat → Int32) (R_de : Nat → Int32) (u2 : Int32) : Option (Int32 × Int32 × (Nat → Int32) × (Nat → Int32) × (Nat → Int32)) := if (9 : Int32) < u2 then (if u2 = (10 : Int32) then (bnd2 (f_X5_tryVote R_gi) (fun rr_12 dd_13 => some (dd_13, R_da, R_du, R_pl, R_de))) else (if (18 : Int32) < u2 then (bnd4 (f_X5_tryDawn T_br T_fa T_st T_kd T_fs T_fl R_gi R_be R_da R_du R_pl R_de) (fun rr_4 dd_5 dd_6 dd_7 => some (R_gi, dd_5, dd_6, R_pl, dd_7))) else (bnd2 (f_X5_tryEmpty R_du (u2 - (11 : Int32))) (fun rr_9 dd_10 => some (R_gi, R_da, dd_10, R_pl, R_de))))) else (bnd2 (f_X5_tryStep T_br R_pl (u2 / (2 : Int32)) (u2 - u2 / (2 : Int32) * (2 : Int32))) (fun rr_15 dd_16 => some (R_gi, R_da, R_du, dd_16, R_de)))
set_option maxRecDepth 100000 in
set_option maxHeartbeats 4000000 in
theorem k_X5_happen (l : Launch) (G : Gt) (x0 s0 s1 t0 t1 t2 t3 t4 t5 t6 n0 n1 n2 n3 r0 r1 r2 r3 a0 a1 p0 p1 p2 p3 k0 j0 : Nat) (X_ch : Int64) (S_len : Int32) (S_let : Nat → Int32) (T_br : Int32) (T_fa : Int32) (T_fd : Nat → Int32) (T_fp : Nat → Int32) (T_st : Nat → Int32) (T_kd : Nat → Int32) (T_fs : Nat → Int32) (T_fl : Nat → Int32) (N_gi : Int32) (N_be : Int32) (N_da : Int32) (N_du : Nat → Int32) (N_pl : Nat → Int32) (N_de : Nat → Int32) (R_gi : Int32) (R_be : Int32) (R_da : Int32) (R_du : Nat → Int32) (R_pl : Nat → Int32) (R_de : Nat → Int32) (A_fi : Int32) (A_si : Int32) (A_ce : Nat → Int32) (P_si : Int32) (P_be : Nat → Int32) (P_le : Nat → Int32) (P_go : Nat → Int32) (K_sl : Nat → Int32) (J_fi : Nat → Int32) (u2 : Int32) (o_R_gi : Int32) (o_R_da : Int32) (o_R_du : Nat → Int32) (o_R_pl : Nat → Int32) (o_R_de : Nat → Int32) (h : f_X5_happen T_br T_fa T_st T_kd T_fs T_fl R_gi R_be R_da R_du R_pl R_de u2 = some (o_R_gi, o_R_da, o_R_du, o_R_pl, o_R_de)) : CT l yX5_happen wsX5_happen 5 111 G [.ref x0, .ref r0, .int u2] (W_F G x0 s0 s1 t0 t1 t2 t3 t4 t5 t6 n0 n1 n2 n3 r0 r1 r2 r3 a0 a1 p0 p1 p2 p3 k0 j0 X_ch S_len S_let T_br T_fa T_fd T_fp T_st T_kd T_fs T_fl N_gi N_be N_da N_du N_pl N_de R_gi R_be R_da R_du R_pl R_de A_fi A_si A_ce P_si P_be P_le P_go K_sl J_fi) (QV G (W_F G x0 s0 s1 t0 t1 t2 t3 t4 t5 t6 n0 n1 n2 n3 r0 r1 r2 r3 a0 a1 p0 p1 p2 p3 k0 j0 X_ch S_len S_let T_br T_fa T_fd T_fp T_st T_kd T_fs T_fl N_gi N_be N_da N_du N_pl N_de o_R_gi R_be o_R_da o_R_du o_R_pl o_R_de A_fi A_si A_ce P_si P_be P_le P_go K_sl J_fi)) := by
  refine met_of cX5_happen 3 none (by decide) rfl (Nat.le_of_ble_eq_true rfl) ?_
  intro p e s m below meth c A ls hx hb hr hml hts hown hlocks hK hA hD hP hS hl
  replace hown : s.vm.findClass RX5 = some m.cls := hown
  replace hl : lv_has ls 3 [(0, .ref x0), (1, .ref r0), (2, .int u2)] := hl
  have S0 : CallFix p m c cX5_happen 3 s _ wsX5_happen RX5 := ⟨hx, hb, hml, hown, hts⟩
  have cw_X5_tryDawn := show CallW (rmv 5 111) s _ RX5 RX5 254 yX5_tryDawn cX5_tryDawn 2 (some .boolean) wsX5_tryDawn (rmv 4 90) 0 0 1 from cwV 1 hts gX5_happen_X5_tryDawn rfl rfl rfl (by decide +kernel) ⟨Nat.le_of_ble_eq_true rfl, Nat.le_of_ble_eq_true rfl⟩
  have cw_X5_tryEmpty := show CallW (rmv 5 111) s _ RX5 RX5 265 yX5_tryEmpty cX5_tryEmpty 3 (some .boolean) wsX5_tryEmpty (rmv 2 41) 0 0 2 from cwV 2 hts gX5_happen_X5_tryEmpty rfl rfl rfl (by decide +kernel) ⟨Nat.le_of_ble_eq_true rfl, Nat.le_of_ble_eq_true rfl⟩
  have cw_X5_tryVote := show CallW (rmv 5 111) s _ RX5 RX5 258 yX5_tryVote cX5_tryVote 2 (some .boolean) wsX5_tryVote (rmv 1 20) 0 0 1 from cwV 1 hts gX5_happen_X5_tryVote rfl rfl rfl (by decide +kernel) ⟨Nat.le_of_ble_eq_true rfl, Nat.le_of_ble_eq_true rfl⟩
  have cw_X5_tryStep := show CallW (rmv 5 111) s _ RX5 RX5 250 yX5_tryStep cX5_tryStep 4 (some .boolean) wsX5_tryStep (rmv 3 66) 0 0 3 from cwV 3 hts gX5_happen_X5_tryStep rfl rfl rfl (by decide +kernel) ⟨Nat.le_of_ble_eq_true rfl, Nat.le_of_ble_eq_true rfl⟩
  unfold f_X5_happen at h
  refine lv_iload_n hx hb dX5_happen_0 rfl (lv_at hl 2 rfl) ?_
  refine lv_bipush (v := 9) hx hb dX5_happen_1 (by decide) ?_
  refine lv_icmp_gt (tgt := 21) hx hb dX5_happen_3 (by decide) (fun cc_1 => ?_) (fun cc_1 => ?_)
  · replace h := if_t cc_1 h
    refine lv_iload_n hx hb dX5_happen_21 rfl (lv_at hl 2 rfl) ?_
    refine lv_bipush (v := 10) hx hb dX5_happen_22 (by decide) ?_
    refine lv_icmp_ne (tgt := 36) hx hb dX5_happen_24 (by decide) (fun cc_2 => ?_) (fun cc_2 => ?_)
    · replace h := if_f cc_2 h
      refine lv_iload_n hx hb dX5_happen_36 rfl (lv_at hl 2 rfl) ?_
      refine lv_bipush (v := 18) hx hb dX5_happen_37 (by decide) ?_
      refine lv_icmp_gt (tgt := 55) hx hb dX5_happen_39 (by decide) (fun cc_3 => ?_) (fun cc_3 => ?_)
      · replace h := if_t cc_3 h
        refine lv_aload_n hx hb dX5_happen_55 rfl (lv_at hl 0 rfl) ?_
        refine lv_aload_n hx hb dX5_happen_56 rfl (lv_at hl 1 rfl) ?_
        obtain ⟨rr_4, dd_5, dd_6, dd_7, ee_8, h⟩ := bnd4_s h
        refine cFi (As := [.ref r0]) (rest := []) S0 hK hA hP (va_D_same hD rfl) hS (k_X5_tryDawn l G x0 s0 s1 t0 t1 t2 t3 t4 t5 t6 n0 n1 n2 n3 r0 r1 r2 r3 a0 a1 p0 p1 p2 p3 k0 j0 X_ch S_len S_let T_br T_fa T_fd T_fp T_st T_kd T_fs T_fl N_gi N_be N_da N_du N_pl N_de R_gi R_be R_da R_du R_pl R_de A_fi A_si A_ce P_si P_be P_le P_go K_sl J_fi rr_4 dd_5 dd_6 dd_7 ee_8) cw_X5_tryDawn 5 0 rfl rfl rfl rfl hl.1 rfl (Nat.le_of_ble_eq_true rfl) dX5_happen_57 ⟨Nat.zero_le _, Nat.zero_le _⟩ (fun H locs hP hS => ?_)
        replace hP : va_P G.1 vwCl (W_F G x0 s0 s1 t0 t1 t2 t3 t4 t5 t6 n0 n1 n2 n3 r0 r1 r2 r3 a0 a1 p0 p1 p2 p3 k0 j0 X_ch S_len S_let T_br T_fa T_fd T_fp T_st T_kd T_fs T_fl N_gi N_be N_da N_du N_pl N_de R_gi R_be dd_5 dd_6 R_pl dd_7 A_fi A_si A_ce P_si P_be P_le P_go K_sl J_fi) H := hP
        refine lv_pop hx hb dX5_happen_60 rfl ?_
        cases h
        exact W.vret hx hb hr (fun t ht _ => ⟨⟨(), rfl, trivial, by show va_P G.1 vwCl _ t.heap; rw [ht]; exact hP⟩, hS.F ht⟩) hS.2.2 dX5_happen_61
      · replace h := if_f cc_3 h
        refine lv_aload_n hx hb dX5_happen_42 rfl (lv_at hl 0 rfl) ?_
        refine lv_aload_n hx hb dX5_happen_43 rfl (lv_at hl 1 rfl) ?_
        refine lv_iload_n hx hb dX5_happen_44 rfl (lv_at hl 2 rfl) ?_
        refine lv_bipush (v := 11) hx hb dX5_happen_45 (by decide) ?_
        refine lv_isub hx hb dX5_happen_47 ?_
        obtain ⟨rr_9, dd_10, ee_11, h⟩ := bnd2_s h
        refine cFi (As := [.ref r0, .int (u2 - (11 : Int32))]) (rest := []) S0 hK hA hP (va_D_same hD rfl) hS (k_X5_tryEmpty l G x0 s0 s1 t0 t1 t2 t3 t4 t5 t6 n0 n1 n2 n3 r0 r1 r2 r3 a0 a1 p0 p1 p2 p3 k0 j0 X_ch S_len S_let T_br T_fa T_fd T_fp T_st T_kd T_fs T_fl N_gi N_be N_da N_du N_pl N_de R_gi R_be R_da R_du R_pl R_de A_fi A_si A_ce P_si P_be P_le P_go K_sl J_fi (u2 - (11 : Int32)) rr_9 dd_10 ee_11) cw_X5_tryEmpty 5 0 rfl rfl rfl rfl hl.1 rfl (Nat.le_of_ble_eq_true rfl) dX5_happen_48 ⟨Nat.zero_le _, Nat.zero_le _⟩ (fun H locs hP hS => ?_)
        replace hP : va_P G.1 vwCl (W_F G x0 s0 s1 t0 t1 t2 t3 t4 t5 t6 n0 n1 n2 n3 r0 r1 r2 r3 a0 a1 p0 p1 p2 p3 k0 j0 X_ch S_len S_let T_br T_fa T_fd T_fp T_st T_kd T_fs T_fl N_gi N_be N_da N_du N_pl N_de R_gi R_be R_da dd_10 R_pl R_de A_fi A_si A_ce P_si P_be P_le P_go K_sl J_fi) H := hP
        refine lv_pop hx hb dX5_happen_51 rfl ?_
        refine lv_goto (tgt := 61) hx hb dX5_happen_52 (by decide) ?_
        cases h
        exact W.vret hx hb hr (fun t ht _ => ⟨⟨(), rfl, trivial, by show va_P G.1 vwCl _ t.heap; rw [ht]; exact hP⟩, hS.F ht⟩) hS.2.2 dX5_happen_61
    · replace h := if_t cc_2 h
      refine lv_aload_n hx hb dX5_happen_27 rfl (lv_at hl 0 rfl) ?_
      refine lv_aload_n hx hb dX5_happen_28 rfl (lv_at hl 1 rfl) ?_
      obtain ⟨rr_12, dd_13, ee_14, h⟩ := bnd2_s h
      refine cFi (As := [.ref r0]) (rest := []) S0 hK hA hP (va_D_same hD rfl) hS (k_X5_tryVote l G x0 s0 s1 t0 t1 t2 t3 t4 t5 t6 n0 n1 n2 n3 r0 r1 r2 r3 a0 a1 p0 p1 p2 p3 k0 j0 X_ch S_len S_let T_br T_fa T_fd T_fp T_st T_kd T_fs T_fl N_gi N_be N_da N_du N_pl N_de R_gi R_be R_da R_du R_pl R_de A_fi A_si A_ce P_si P_be P_le P_go K_sl J_fi rr_12 dd_13 ee_14) cw_X5_tryVote 5 0 rfl rfl rfl rfl hl.1 rfl (Nat.le_of_ble_eq_true rfl) dX5_happen_29 ⟨Nat.zero_le _, Nat.zero_le _⟩ (fun H locs hP hS => ?_)
      replace hP : va_P G.1 vwCl (W_F G x0 s0 s1 t0 t1 t2 t3 t4 t5 t6 n0 n1 n2 n3 r0 r1 r2 r3 a0 a1 p0 p1 p2 p3 k0 j0 X_ch S_len S_let T_br T_fa T_fd T_fp T_st T_kd T_fs T_fl N_gi N_be N_da N_du N_pl N_de dd_13 R_be R_da R_du R_pl R_de A_fi A_si A_ce P_si P_be P_le P_go K_sl J_fi) H := hP
      refine lv_pop hx hb dX5_happen_32 rfl ?_
      refine lv_goto (tgt := 61) hx hb dX5_happen_33 (by decide) ?_
      cases h
      exact W.vret hx hb hr (fun t ht _ => ⟨⟨(), rfl, trivial, by show va_P G.1 vwCl _ t.heap; rw [ht]; exact hP⟩, hS.F ht⟩) hS.2.2 dX5_happen_61
  · replace h := if_f cc_1 h
    refine lv_aload_n hx hb dX5_happen_6 rfl (lv_at hl 0 rfl) ?_
    refine lv_aload_n hx hb dX5_happen_7 rfl (lv_at hl 1 rfl) ?_
    refine lv_iload_n hx hb dX5_happen_8 rfl (lv_at hl 2 rfl) ?_
    refine lv_iconst (v := 2) hx hb dX5_happen_9 (by decide) ?_
    refine lv_idiv hx hb dX5_happen_10 (by decide) ?_
    refine lv_iload_n hx hb dX5_happen_11 rfl (lv_at hl 2 rfl) ?_
    refine lv_iconst (v := 2) hx hb dX5_happen_12 (by decide) ?_
    refine lv_irem hx hb dX5_happen_13 (by decide) ?_
    obtain ⟨rr_15, dd_16, ee_17, h⟩ := bnd2_s h
    refine cFi (As := [.ref r0, .int (u2 / (2 : Int32)), .int (u2 - u2 / (2 : Int32) * (2 : Int32))]) (rest := []) S0 hK hA hP (va_D_same hD rfl) hS (k_X5_tryStep l G x0 s0 s1 t0 t1 t2 t3 t4 t5 t6 n0 n1 n2 n3 r0 r1 r2 r3 a0 a1 p0 p1 p2 p3 k0 j0 X_ch S_len S_let T_br T_fa T_fd T_fp T_st T_kd T_fs T_fl N_gi N_be N_da N_du N_pl N_de R_gi R_be R_da R_du R_pl R_de A_fi A_si A_ce P_si P_be P_le P_go K_sl J_fi (u2 / (2 : Int32)) (u2 - u2 / (2 : Int32) * (2 : Int32)) rr_15 dd_16 ee_17) cw_X5_tryStep 5 0 rfl rfl rfl rfl hl.1 rfl (Nat.le_of_ble_eq_true rfl) dX5_happen_14 ⟨Nat.zero_le _, Nat.zero_le _⟩ (fun H locs hP hS => ?_)
    replace hP : va_P G.1 vwCl (W_F G x0 s0 s1 t0 t1 t2 t3 t4 t5 t6 n0 n1 n2 n3 r0 r1 r2 r3 a0 a1 p0 p1 p2 p3 k0 j0 X_ch S_len S_let T_br T_fa T_fd T_fp T_st T_kd T_fs T_fl N_gi N_be N_da N_du N_pl N_de R_gi R_be R_da R_du dd_16 R_de A_fi A_si A_ce P_si P_be P_le P_go K_sl J_fi) H := hP
    refine lv_pop hx hb dX5_happen_17 rfl ?_
    refine lv_goto (tgt := 61) hx hb dX5_happen_18 (by decide) ?_
    cases h
    exact W.vret hx hb hr (fun t ht _ => ⟨⟨(), rfl, trivial, by show va_P G.1 vwCl _ t.heap; rw [ht]; exact hP⟩, hS.F ht⟩) hS.2.2 dX5_happen_61
