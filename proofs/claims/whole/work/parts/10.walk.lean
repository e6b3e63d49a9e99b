def f_X5_within (u1 : Int32) (u2 : Int32) (u3 : Int32) : Option (Int32) := if u1 < u2 then (some (0 : Int32)) else (if u3 < u1 then (some (0 : Int32)) else (some (1 : Int32)))
set_option maxRecDepth 100000 in
set_option maxHeartbeats 4000000 in
theorem k_X5_within (l : Launch) (G : Gt) (u1 : Int32) (u2 : Int32) (u3 : Int32) (r_ : Int32) (h : f_X5_within u1 u2 u3 = some r_) : CT l yX5_within wsX5_within 0 0 G [.int u1, .int u2, .int u3] (W_0 G) (QI G r_ (W_0 G)) := by
  refine met_of cX5_within 3 (some .boolean) (by decide) rfl (Nat.le_of_ble_eq_true rfl) ?_
  intro p e s m below meth c A ls hx hb hr hml hts hown hlocks hK hA hD hP hS hl
  replace hown : s.vm.findClass RX5 = some m.cls := hown
  replace hl : lv_has ls 3 [(0, .int u1), (1, .int u2), (2, .int u3)] := hl
  have S0 : CallFix p m c cX5_within 3 s _ wsX5_within RX5 := ⟨hx, hb, hml, hown, hts⟩
  unfold f_X5_within at h
  refine lv_iload_n hx hb dX5_within_0 rfl (lv_at hl 0 rfl) ?_
  refine lv_iload_n hx hb dX5_within_1 rfl (lv_at hl 1 rfl) ?_
  refine lv_icmp_lt (tgt := 14) hx hb dX5_within_2 (by decide) (fun cc_1 => ?_) (fun cc_1 => ?_)
  · replace h := if_t cc_1 h
    refine lv_iconst (v := 0) hx hb dX5_within_14 (by decide) ?_
    cases h
    exact W.zret (ty := .boolean) hx hb hr (by decide) (fun t ht _ => ⟨⟨_, (), rfl, rfl, by rw [ht]; exact hP⟩, hS.F ht⟩) hS.2.2 dX5_within_15
  · replace h := if_f cc_1 h
    refine lv_iload_n hx hb dX5_within_5 rfl (lv_at hl 0 rfl) ?_
    refine lv_iload_n hx hb dX5_within_6 rfl (lv_at hl 2 rfl) ?_
    refine lv_icmp_gt (tgt := 14) hx hb dX5_within_7 (by decide) (fun cc_2 => ?_) (fun cc_2 => ?_)
    · replace h := if_t cc_2 h
      refine lv_iconst (v := 0) hx hb dX5_within_14 (by decide) ?_
      cases h
      exact W.zret (ty := .boolean) hx hb hr (by decide) (fun t ht _ => ⟨⟨_, (), rfl, rfl, by rw [ht]; exact hP⟩, hS.F ht⟩) hS.2.2 dX5_within_15
    · replace h := if_f cc_2 h
      refine lv_iconst (v := 1) hx hb dX5_within_10 (by decide) ?_
      refine lv_goto (tgt := 15) hx hb dX5_within_11 (by decide) ?_
      cases h
      exact W.zret (ty := .boolean) hx hb hr (by decide) (fun t ht _ => ⟨⟨_, (), rfl, rfl, by rw [ht]; exact hP⟩, hS.F ht⟩) hS.2.2 dX5_within_15
def f_X3_add (S_len : Int32) (S_let : Nat → Int32) (u1 : Int32) : Option (Int32 × (Nat → Int32)) := if (48 : Int32) ≤ S_len then (some (S_len, S_let)) else (bnd1 (wr S_let 48 S_len u1) (fun dd_2 => some ((S_len + (1 : Int32)), dd_2)))
set_option maxRecDepth 100000 in
set_option maxHeartbeats 4000000 in
theorem k_X3_add (l : Launch) (G : Gt) (s0 s1 : Nat) (S_len : Int32) (S_let : Nat → Int32) (u1 : Int32) (o_S_len : Int32) (o_S_let : Nat → Int32) (h : f_X3_add S_len S_let u1 = some (o_S_len, o_S_let)) : CT l yX3_add wsX3_add 0 0 G [.ref s0, .int u1] (W_S G s0 s1 S_len S_let) (QV G (W_S G s0 s1 o_S_len o_S_let)) := by
  refine met_of cX3_add 2 none (by decide) rfl (Nat.le_of_ble_eq_true rfl) ?_
  intro p e s m below meth c A ls hx hb hr hml hts hown hlocks hK hA hD hP hS hl
  replace hown : s.vm.findClass RX3 = some m.cls := hown
  replace hl : lv_has ls 2 [(0, .ref s0), (1, .int u1)] := hl
  have S0 : CallFix p m c cX3_add 2 s _ wsX3_add RX3 := ⟨hx, hb, hml, hown, hts⟩
  have fl15 := hts (.fieldLink RX3 15 "DustVote$Script" "length" "I") (by decide +kernel)
  have inX3 := show ∀ w ∈ wsX30, w ∈ wsX3_add from by decide +kernel
  have fl9 := hts (.fieldLink RX3 9 "DustVote$Script" "letters" "[I") (by decide +kernel)
  unfold f_X3_add at h
  refine lv_aload_n hx hb dX3_add_0 rfl (lv_at hl 0 rfl) ?_
  refine va_get (ci := 3) (C := RX3) (T := TX3) (N := 2) hx hb hts inX3 hown hK.1 hP 0 rfl rfl 1 (by decide) fl15 (fun _ h9 => h9) rfl dX3_add_1 ?_
  refine lv_bipush (v := 48) hx hb dX3_add_4 (by decide) ?_
  refine lv_icmp_ge (tgt := 29) hx hb dX3_add_6 (by decide) (fun cc_1 => ?_) (fun cc_1 => ?_)
  · replace h := if_t cc_1 h
    cases h
    exact W.vret hx hb hr (fun t ht _ => ⟨⟨(), rfl, trivial, by rw [ht]; exact hP⟩, hS.F ht⟩) hS.2.2 dX3_add_29
  · replace h := if_f cc_1 h
    refine lv_aload_n hx hb dX3_add_9 rfl (lv_at hl 0 rfl) ?_
    refine va_get (ci := 3) (C := RX3) (T := TX3) (N := 2) hx hb hts inX3 hown hK.1 hP 0 rfl rfl 0 (by decide) fl9 (fun _ h9 => h9) rfl dX3_add_10 ?_
    refine lv_aload_n hx hb dX3_add_13 rfl (lv_at hl 0 rfl) ?_
    refine va_get (ci := 3) (C := RX3) (T := TX3) (N := 2) hx hb hts inX3 hown hK.1 hP 0 rfl rfl 1 (by decide) fl15 (fun _ h9 => h9) rfl dX3_add_14 ?_
    refine lv_iload_n hx hb dX3_add_17 rfl (lv_at hl 1 rfl) ?_
    obtain ⟨dd_2, ee_3, h⟩ := bnd1_s h
    refine wIast hx hb hK hP (va_D_same hD rfl) hS 1 rfl ee_3 dX3_add_18 (fun H locs hP hS => ?_)
    replace hP : va_P G.1 vwCl (W_S G s0 s1 S_len dd_2) H := hP
    refine lv_aload_n hx hb dX3_add_19 rfl (lv_at hl 0 rfl) ?_
    refine lv_dup hx hb dX3_add_20 rfl ?_
    refine va_get (ci := 3) (C := RX3) (T := TX3) (N := 2) hx hb hts inX3 hown hK.1 hP 0 rfl rfl 1 (by decide) fl15 (fun _ h9 => h9) rfl dX3_add_21 ?_
    refine lv_iconst (v := 1) hx hb dX3_add_24 (by decide) ?_
    refine lv_iadd hx hb dX3_add_25 ?_
    refine va_put (ci := 3) (ty := .int) (C := RX3) (T := TX3) (N := 2) hx hb hts inX3 tyX3 tyX3_ok nmX3 hown hK.1 hP (va_D_same hD rfl) hS 0 rfl rfl 1 (by decide) fl15 (fun _ h9 => h9) rfl (by decide +kernel) rfl rfl (Nat.le_of_ble_eq_true rfl) dX3_add_26 (fun H locs hP _ hS => ?_)
    replace hP : va_P G.1 vwCl (W_S G s0 s1 (S_len + (1 : Int32)) dd_2) H := hP
    cases h
    exact W.vret hx hb hr (fun t ht _ => ⟨⟨(), rfl, trivial, by rw [ht]; exact hP⟩, hS.F ht⟩) hS.2.2 dX3_add_29
def f_X5_write (S_len : Int32) (S_let : Nat → Int32) (u1 : Int32) : Option (Int32 × Int32 × (Nat → Int32)) := bnd1 (f_X5_within u1 (0 : Int32) (255 : Int32)) (fun rr_1 => if rr_1 = 0 then (some (((-2) : Int32), S_len, S_let)) else (if S_len < (48 : Int32) then (bnd2 (f_X3_add S_len S_let u1) (fun dd_5 dd_6 => some (dd_5, dd_5, dd_6))) else (some (((-4) : Int32), S_len, S_let))))
set_option maxRecDepth 100000 in
set_option maxHeartbeats 4000000 in
theorem k_X5_write (l : Launch) (G : Gt) (x0 s0 s1 t0 t1 t2 t3 t4 t5 t6 n0 n1 n2 n3 r0 r1 r2 r3 a0 a1 p0 p1 p2 p3 k0 j0 : Nat) (X_ch : Int64) (S_len : Int32) (S_let : Nat → Int32) (T_br : Int32) (T_fa : Int32) (T_fd : Nat → Int32) (T_fp : Nat → Int32) (T_st : Nat → Int32) (T_kd : Nat → Int32) (T_fs : Nat → Int32) (T_fl : Nat → Int32) (N_gi : Int32) (N_be : Int32) (N_da : Int32) (N_du : Nat → Int32) (N_pl : Nat → Int32) (N_de : Nat → Int32) (R_gi : Int32) (R_be : Int32) (R_da : Int32) (R_du : Nat → Int32) (R_pl : Nat → Int32) (R_de : Nat → Int32) (A_fi : Int32) (A_si : Int32) (A_ce : Nat → Int32) (P_si : Int32) (P_be : Nat → Int32) (P_le : Nat → Int32) (P_go : Nat → Int32) (K_sl : Nat → Int32) (J_fi : Nat → Int32) (u1 : Int32) (r_ : Int32) (o_S_len : Int32) (o_S_let : Nat → Int32) (h : f_X5_write S_len S_let u1 = some (r_, o_S_len, o_S_let)) : CT l yX5_write wsX5_write 1 22 G [.ref x0, .int u1] (W_F G x0 s0 s1 t0 t1 t2 t3 t4 t5 t6 n0 n1 n2 n3 r0 r1 r2 r3 a0 a1 p0 p1 p2 p3 k0 j0 X_ch S_len S_let T_br T_fa T_fd T_fp T_st T_kd T_fs T_fl N_gi N_be N_da N_du N_pl N_de R_gi R_be R_da R_du R_pl R_de A_fi A_si A_ce P_si P_be P_le P_go K_sl J_fi) (QI G r_ (W_F G x0 s0 s1 t0 t1 t2 t3 t4 t5 t6 n0 n1 n2 n3 r0 r1 r2 r3 a0 a1 p0 p1 p2 p3 k0 j0 X_ch o_S_len o_S_let T_br T_fa T_fd T_fp T_st T_kd T_fs T_fl N_gi N_be N_da N_du N_pl N_de R_gi R_be R_da R_du R_pl R_de A_fi A_si A_ce P_si P_be P_le P_go K_sl J_fi)) := by
  refine met_of cX5_write 2 (some .int) (by decide) rfl (Nat.le_of_ble_eq_true rfl) ?_
  intro p e s m below meth c A ls hx hb hr hml hts hown hlocks hK hA hD hP hS hl
  replace hown : s.vm.findClass RX5 = some m.cls := hown
  replace hl : lv_has ls 2 [(0, .ref x0), (1, .int u1)] := hl
  have S0 : CallFix p m c cX5_write 2 s _ wsX5_write RX5 := ⟨hx, hb, hml, hown, hts⟩
  have cw_X5_within := show CallB (rmv 1 22) s _ RX5 61 yX5_within cX5_within 3 (some .boolean) wsX5_within (rmv 0 0) 0 0 3 ∧ (Cond.static yX5_within).before _ s = true from va_cwS 3 hts gX5_write_X5_within rfl rfl rfl (by decide +kernel) ⟨Nat.le_of_ble_eq_true rfl, Nat.le_of_ble_eq_true rfl⟩
  have fl12 := hts (.fieldLink RX5 12 "DustVote" "script" "LDustVote$Script;") (by decide +kernel)
  have inX5 := show ∀ w ∈ wsX50, w ∈ wsX5_write from by decide +kernel
  have fl65 := hK.f (args := _) (show ("DustVote", 65, "DustVote$Script", "length", "I", "DustVote") ∈ nestF by decide)
  have inX3 := show ∀ w ∈ wsX30, w ∈ wsX5_write from by decide +kernel
  have cw_X3_add := show CallW (rmv 1 22) s _ RX5 RX3 69 yX3_add cX3_add 2 none wsX3_add (rmv 0 0) 0 0 1 from cwV 1 hts gX5_write_X3_add rfl rfl rfl (by decide +kernel) ⟨Nat.le_of_ble_eq_true rfl, Nat.le_of_ble_eq_true rfl⟩
  unfold f_X5_write at h
  refine lv_iload_n hx hb dX5_write_0 rfl (lv_at hl 1 rfl) ?_
  refine lv_iconst (v := 0) hx hb dX5_write_1 (by decide) ?_
  refine lv_sipush (v := 255) hx hb dX5_write_2 (by decide) ?_
  obtain ⟨rr_1, ee_2, h⟩ := bnd1_s h
  refine cSi (As := [.int u1, .int (0 : Int32), .int (255 : Int32)]) (rest := []) S0 hK hA (va_D_same hD rfl) hP hS [] (k_X5_within l G u1 (0 : Int32) (255 : Int32) rr_1 ee_2) cw_X5_within rfl rfl (Nat.le_of_ble_eq_true rfl) rfl hl.1 rfl (Nat.le_of_ble_eq_true rfl) dX5_write_5 ⟨Nat.zero_le _, Nat.zero_le _⟩ (fun H locs hP hS => ?_)
  replace hP : va_P G.1 vwCl (W_F G x0 s0 s1 t0 t1 t2 t3 t4 t5 t6 n0 n1 n2 n3 r0 r1 r2 r3 a0 a1 p0 p1 p2 p3 k0 j0 X_ch S_len S_let T_br T_fa T_fd T_fp T_st T_kd T_fs T_fl N_gi N_be N_da N_du N_pl N_de R_gi R_be R_da R_du R_pl R_de A_fi A_si A_ce P_si P_be P_le P_go K_sl J_fi) H := hP
  refine lv_if_ne (tgt := 14) hx hb dX5_write_8 (by decide) (fun cc_3 => ?_) (fun cc_3 => ?_)
  · replace h := if_f cc_3 h
    refine lv_aload_n hx hb dX5_write_14 rfl (lv_at hl 0 rfl) ?_
    refine va_get (ci := 5) (C := RX5) (T := TX5) (N := 9) hx hb hts inX5 hown hK.1 hP 0 rfl rfl 0 (by decide) fl12 (fun _ h9 => h9) rfl dX5_write_15 ?_
    refine va_getN (ci := 3) (C := RX3) (T := TX3) (N := 2) hx hb hts inX3 hown hK.1 hP 1 rfl rfl 1 (by decide) fl65 (fun _ h9 => h9) rfl dX5_write_18 ?_
    refine lv_bipush (v := 48) hx hb dX5_write_21 (by decide) ?_
    refine lv_icmp_lt (tgt := 29) hx hb dX5_write_23 (by decide) (fun cc_4 => ?_) (fun cc_4 => ?_)
    · replace h := if_t cc_4 h
      refine lv_aload_n hx hb dX5_write_29 rfl (lv_at hl 0 rfl) ?_
      refine va_get (ci := 5) (C := RX5) (T := TX5) (N := 9) hx hb hts inX5 hown hK.1 hP 0 rfl rfl 0 (by decide) fl12 (fun _ h9 => h9) rfl dX5_write_30 ?_
      refine lv_iload_n hx hb dX5_write_33 rfl (lv_at hl 1 rfl) ?_
      obtain ⟨dd_5, dd_6, ee_7, h⟩ := bnd2_s h
      refine cVv (As := [.int u1]) (rest := []) S0 hK hA (va_D_same hD rfl) hP hS [1, 2] (k_X3_add l G s0 s1 S_len S_let u1 dd_5 dd_6 ee_7) cw_X3_add rfl rfl (Nat.le_of_ble_eq_true rfl) 3 0 rfl rfl rfl rfl hl.1 rfl (Nat.le_of_ble_eq_true rfl) dX5_write_34 ⟨Nat.zero_le _, Nat.zero_le _⟩ (fun H locs hP hS => ?_)
      replace hP : va_P G.1 vwCl (W_F G x0 s0 s1 t0 t1 t2 t3 t4 t5 t6 n0 n1 n2 n3 r0 r1 r2 r3 a0 a1 p0 p1 p2 p3 k0 j0 X_ch dd_5 dd_6 T_br T_fa T_fd T_fp T_st T_kd T_fs T_fl N_gi N_be N_da N_du N_pl N_de R_gi R_be R_da R_du R_pl R_de A_fi A_si A_ce P_si P_be P_le P_go K_sl J_fi) H := hP
      refine lv_aload_n hx hb dX5_write_37 rfl (lv_at hl 0 rfl) ?_
      refine va_get (ci := 5) (C := RX5) (T := TX5) (N := 9) hx hb hts inX5 hown hK.1 hP 0 rfl rfl 0 (by decide) fl12 (fun _ h9 => h9) rfl dX5_write_38 ?_
      refine va_getN (ci := 3) (C := RX3) (T := TX3) (N := 2) hx hb hts inX3 hown hK.1 hP 1 rfl rfl 1 (by decide) fl65 (fun _ h9 => h9) rfl dX5_write_41 ?_
      cases h
      exact W.iret hx hb hr (fun t ht _ => ⟨⟨_, (), rfl, rfl, by rw [ht]; exact hP⟩, hS.F ht⟩) hS.2.2 dX5_write_44
    · replace h := if_f cc_4 h
      refine lv_bipush (v := (-4)) hx hb dX5_write_26 (by decide) ?_
      cases h
      exact W.iret hx hb hr (fun t ht _ => ⟨⟨_, (), rfl, rfl, by rw [ht]; exact hP⟩, hS.F ht⟩) hS.2.2 dX5_write_28
  · replace h := if_t cc_3 h
    refine lv_bipush (v := (-2)) hx hb dX5_write_11 (by decide) ?_
    cases h
    exact W.iret hx hb hr (fun t ht _ => ⟨⟨_, (), rfl, rfl, by rw [ht]; exact hP⟩, hS.F ht⟩) hS.2.2 dX5_write_13
def f_X5_wipe (S_len : Int32) : Option (Int32 × Int32) := some (S_len, (0 : Int32))
set_option maxRecDepth 100000 in
set_option maxHeartbeats 4000000 in
theorem k_X5_wipe (l : Launch) (G : Gt) (x0 s0 s1 t0 t1 t2 t3 t4 t5 t6 n0 n1 n2 n3 r0 r1 r2 r3 a0 a1 p0 p1 p2 p3 k0 j0 : Nat) (X_ch : Int64) (S_len : Int32) (S_let : Nat → Int32) (T_br : Int32) (T_fa : Int32) (T_fd : Nat → Int32) (T_fp : Nat → Int32) (T_st : Nat → Int32) (T_kd : Nat → Int32) (T_fs : Nat → Int32) (T_fl : Nat → Int32) (N_gi : Int32) (N_be : Int32) (N_da : Int32) (N_du : Nat → Int32) (N_pl : Nat → Int32) (N_de : Nat → Int32) (R_gi : Int32) (R_be : Int32) (R_da : Int32) (R_du : Nat → Int32) (R_pl : Nat → Int32) (R_de : Nat → Int32) (A_fi : Int32) (A_si : Int32) (A_ce : Nat → Int32) (P_si : Int32) (P_be : Nat → Int32) (P_le : Nat → Int32) (P_go : Nat → Int32) (K_sl : Nat → Int32) (J_fi : Nat → Int32) (r_ : Int32) (o_S_len : Int32) (h : f_X5_wipe S_len = some (r_, o_S_len)) : CT l yX5_wipe wsX5_wipe 0 0 G [.ref x0] (W_F G x0 s0 s1 t0 t1 t2 t3 t4 t5 t6 n0 n1 n2 n3 r0 r1 r2 r3 a0 a1 p0 p1 p2 p3 k0 j0 X_ch S_len S_let T_br T_fa T_fd T_fp T_st T_kd T_fs T_fl N_gi N_be N_da N_du N_pl N_de R_gi R_be R_da R_du R_pl R_de A_fi A_si A_ce P_si P_be P_le P_go K_sl J_fi) (QI G r_ (W_F G x0 s0 s1 t0 t1 t2 t3 t4 t5 t6 n0 n1 n2 n3 r0 r1 r2 r3 a0 a1 p0 p1 p2 p3 k0 j0 X_ch o_S_len S_let T_br T_fa T_fd T_fp T_st T_kd T_fs T_fl N_gi N_be N_da N_du N_pl N_de R_gi R_be R_da R_du R_pl R_de A_fi A_si A_ce P_si P_be P_le P_go K_sl J_fi)) := by
  refine met_of cX5_wipe 2 (some .int) (by decide) rfl (Nat.le_of_ble_eq_true rfl) ?_
  intro p e s m below meth c A ls hx hb hr hml hts hown hlocks hK hA hD hP hS hl
  replace hown : s.vm.findClass RX5 = some m.cls := hown
  replace hl : lv_has ls 2 [(0, .ref x0)] := hl
  have S0 : CallFix p m c cX5_wipe 2 s _ wsX5_wipe RX5 := ⟨hx, hb, hml, hown, hts⟩
  have fl12 := hts (.fieldLink RX5 12 "DustVote" "script" "LDustVote$Script;") (by decide +kernel)
  have inX5 := show ∀ w ∈ wsX50, w ∈ wsX5_wipe from by decide +kernel
  have fl65 := hK.f (args := _) (show ("DustVote", 65, "DustVote$Script", "length", "I", "DustVote") ∈ nestF by decide)
  have inX3 := show ∀ w ∈ wsX30, w ∈ wsX5_wipe from by decide +kernel
  unfold f_X5_wipe at h
  refine lv_aload_n hx hb dX5_wipe_0 rfl (lv_at hl 0 rfl) ?_
  refine va_get (ci := 5) (C := RX5) (T := TX5) (N := 9) hx hb hts inX5 hown hK.1 hP 0 rfl rfl 0 (by decide) fl12 (fun _ h9 => h9) rfl dX5_wipe_1 ?_
  refine va_getN (ci := 3) (C := RX3) (T := TX3) (N := 2) hx hb hts inX3 hown hK.1 hP 1 rfl rfl 1 (by decide) fl65 (fun _ h9 => h9) rfl dX5_wipe_4 ?_
  refine lv_istore_n (lv' := [(1, .int S_len), (0, .ref x0)]) hx hb dX5_wipe_7 rfl hl (by decide) rfl (fun ls hl => ?_)
  refine lv_aload_n hx hb dX5_wipe_8 rfl (lv_at hl 1 rfl) ?_
  refine va_get (ci := 5) (C := RX5) (T := TX5) (N := 9) hx hb hts inX5 hown hK.1 hP 0 rfl rfl 0 (by decide) fl12 (fun _ h9 => h9) rfl dX5_wipe_9 ?_
  refine lv_iconst (v := 0) hx hb dX5_wipe_12 (by decide) ?_
  refine va_putN (ci := 3) (ty := .int) (C := RX3) (T := TX3) (N := 2) hx hb hts inX3 tyX3 tyX3_ok nmX3 hown hK.1 hP (va_D_same hD rfl) hS 1 rfl rfl 1 (by decide) fl65 (fun _ h9 => h9) rfl (by decide +kernel) rfl rfl (Nat.le_of_ble_eq_true rfl) dX5_wipe_13 (fun H locs hP _ hS => ?_)
  replace hP : va_P G.1 vwCl (W_F G x0 s0 s1 t0 t1 t2 t3 t4 t5 t6 n0 n1 n2 n3 r0 r1 r2 r3 a0 a1 p0 p1 p2 p3 k0 j0 X_ch (0 : Int32) S_let T_br T_fa T_fd T_fp T_st T_kd T_fs T_fl N_gi N_be N_da N_du N_pl N_de R_gi R_be R_da R_du R_pl R_de A_fi A_si A_ce P_si P_be P_le P_go K_sl J_fi) H := hP
  refine lv_iload_n hx hb dX5_wipe_16 rfl (lv_at hl 0 rfl) ?_
  cases h
  exact W.iret hx hb hr (fun t ht _ => ⟨⟨_, (), rfl, rfl, by rw [ht]; exact hP⟩, hS.F ht⟩) hS.2.2 dX5_wipe_17
def f_X3_letterAt (S_len : Int32) (S_let : Nat → Int32) (u1 : Int32) : Option (Int32) := if u1 < 0 then (some ((-9) : Int32)) else (if S_len ≤ u1 then (some ((-9) : Int32)) else (if (48 : Int32) ≤ u1 then (some ((-9) : Int32)) else (bnd1 (rd S_let 48 u1) (fun zz_4 => some zz_4))))
set_option maxRecDepth 100000 in
set_option maxHeartbeats 4000000 in
theorem k_X3_letterAt (l : Launch) (G : Gt) (s0 s1 : Nat) (S_len : Int32) (S_let : Nat → Int32) (u1 : Int32) (r_ : Int32) (h : f_X3_letterAt S_len S_let u1 = some r_) : CT l yX3_letterAt wsX3_letterAt 0 0 G [.ref s0, .int u1] (W_S G s0 s1 S_len S_let) (QI G r_ (W_S G s0 s1 S_len S_let)) := by
  refine met_of cX3_letterAt 2 (some .int) (by decide) rfl (Nat.le_of_ble_eq_true rfl) ?_
  intro p e s m below meth c A ls hx hb hr hml hts hown hlocks hK hA hD hP hS hl
  replace hown : s.vm.findClass RX3 = some m.cls := hown
  replace hl : lv_has ls 2 [(0, .ref s0), (1, .int u1)] := hl
  have S0 : CallFix p m c cX3_letterAt 2 s _ wsX3_letterAt RX3 := ⟨hx, hb, hml, hown, hts⟩
  have fl15 := hts (.fieldLink RX3 15 "DustVote$Script" "length" "I") (by decide +kernel)
  have inX3 := show ∀ w ∈ wsX30, w ∈ wsX3_letterAt from by decide +kernel
  have fl9 := hts (.fieldLink RX3 9 "DustVote$Script" "letters" "[I") (by decide +kernel)
  unfold f_X3_letterAt at h
  refine lv_iload_n hx hb dX3_letterAt_0 rfl (lv_at hl 1 rfl) ?_
  refine lv_if_lt (tgt := 27) hx hb dX3_letterAt_1 (by decide) (fun cc_1 => ?_) (fun cc_1 => ?_)
  · replace h := if_t cc_1 h
    refine lv_bipush (v := (-9)) hx hb dX3_letterAt_27 (by decide) ?_
    cases h
    exact W.iret hx hb hr (fun t ht _ => ⟨⟨_, (), rfl, rfl, by rw [ht]; exact hP⟩, hS.F ht⟩) hS.2.2 dX3_letterAt_29
  · replace h := if_f cc_1 h
    refine lv_iload_n hx hb dX3_letterAt_4 rfl (lv_at hl 1 rfl) ?_
    refine lv_aload_n hx hb dX3_letterAt_5 rfl (lv_at hl 0 rfl) ?_
    refine va_get (ci := 3) (C := RX3) (T := TX3) (N := 2) hx hb hts inX3 hown hK.1 hP 0 rfl rfl 1 (by decide) fl15 (fun _ h9 => h9) rfl dX3_letterAt_6 ?_
    refine lv_icmp_ge (tgt := 27) hx hb dX3_letterAt_9 (by decide) (fun cc_2 => ?_) (fun cc_2 => ?_)
    · replace h := if_t cc_2 h
      refine lv_bipush (v := (-9)) hx hb dX3_letterAt_27 (by decide) ?_
      cases h
      exact W.iret hx hb hr (fun t ht _ => ⟨⟨_, (), rfl, rfl, by rw [ht]; exact hP⟩, hS.F ht⟩) hS.2.2 dX3_letterAt_29
    · replace h := if_f cc_2 h
      refine lv_iload_n hx hb dX3_letterAt_12 rfl (lv_at hl 1 rfl) ?_
      refine lv_bipush (v := 48) hx hb dX3_letterAt_13 (by decide) ?_
      refine lv_icmp_ge (tgt := 27) hx hb dX3_letterAt_15 (by decide) (fun cc_3 => ?_) (fun cc_3 => ?_)
      · replace h := if_t cc_3 h
        refine lv_bipush (v := (-9)) hx hb dX3_letterAt_27 (by decide) ?_
        cases h
        exact W.iret hx hb hr (fun t ht _ => ⟨⟨_, (), rfl, rfl, by rw [ht]; exact hP⟩, hS.F ht⟩) hS.2.2 dX3_letterAt_29
      · replace h := if_f cc_3 h
        refine lv_aload_n hx hb dX3_letterAt_18 rfl (lv_at hl 0 rfl) ?_
        refine va_get (ci := 3) (C := RX3) (T := TX3) (N := 2) hx hb hts inX3 hown hK.1 hP 0 rfl rfl 0 (by decide) fl9 (fun _ h9 => h9) rfl dX3_letterAt_19 ?_
        refine lv_iload_n hx hb dX3_letterAt_22 rfl (lv_at hl 1 rfl) ?_
        obtain ⟨zz_4, ee_5, h⟩ := bnd1_s h
        refine wIald hx hb hK hP 1 rfl ee_5 dX3_letterAt_23 ?_
        refine lv_goto (tgt := 29) hx hb dX3_letterAt_24 (by decide) ?_
        cases h
        exact W.iret hx hb hr (fun t ht _ => ⟨⟨_, (), rfl, rfl, by rw [ht]; exact hP⟩, hS.F ht⟩) hS.2.2 dX3_letterAt_29
def f_X3_figureAt (S_len : Int32) (S_let : Nat → Int32) (u1 : Int32) : Option (Int32) := bnd1 (f_X3_letterAt S_len S_let u1) (fun rr_1 => some (rr_1 - (48 : Int32)))
set_option maxRecDepth 100000 in
set_option maxHeartbeats 4000000 in
theorem k_X3_figureAt (l : Launch) (G : Gt) (s0 s1 : Nat) (S_len : Int32) (S_let : Nat → Int32) (u1 : Int32) (r_ : Int32) (h : f_X3_figureAt S_len S_let u1 = some r_) : CT l yX3_figureAt wsX3_figureAt 1 21 G [.ref s0, .int u1] (W_S G s0 s1 S_len S_let) (QI G r_ (W_S G s0 s1 S_len S_let)) := by
  refine met_of cX3_figureAt 2 (some .int) (by decide) rfl (Nat.le_of_ble_eq_true rfl) ?_
  intro p e s m below meth c A ls hx hb hr hml hts hown hlocks hK hA hD hP hS hl
  replace hown : s.vm.findClass RX3 = some m.cls := hown
  replace hl : lv_has ls 2 [(0, .ref s0), (1, .int u1)] := hl
  have S0 : CallFix p m c cX3_figureAt 2 s _ wsX3_figureAt RX3 := ⟨hx, hb, hml, hown, hts⟩
  have cw_X3_letterAt := show CallW (rmv 1 21) s _ RX3 RX3 19 yX3_letterAt cX3_letterAt 2 (some .int) wsX3_letterAt (rmv 0 0) 0 0 1 from cwV 1 hts gX3_figureAt_X3_letterAt rfl rfl rfl (by decide +kernel) ⟨Nat.le_of_ble_eq_true rfl, Nat.le_of_ble_eq_true rfl⟩
  unfold f_X3_figureAt at h
  refine lv_aload_n hx hb dX3_figureAt_0 rfl (lv_at hl 0 rfl) ?_
  refine lv_iload_n hx hb dX3_figureAt_1 rfl (lv_at hl 1 rfl) ?_
  obtain ⟨rr_1, ee_2, h⟩ := bnd1_s h
  refine cVi (As := [.int u1]) (rest := []) S0 hK hA (va_D_same hD rfl) hP hS [0, 1] (k_X3_letterAt l G s0 s1 S_len S_let u1 rr_1 ee_2) cw_X3_letterAt rfl rfl (Nat.le_of_ble_eq_true rfl) 3 0 rfl rfl rfl rfl hl.1 rfl (Nat.le_of_ble_eq_true rfl) dX3_figureAt_2 ⟨Nat.zero_le _, Nat.zero_le _⟩ (fun H locs hP hS => ?_)
  replace hP : va_P G.1 vwCl (W_S G s0 s1 S_len S_let) H := hP
  refine lv_bipush (v := 48) hx hb dX3_figureAt_5 (by decide) ?_
  refine lv_isub hx hb dX3_figureAt_7 ?_
  cases h
  exact W.iret hx hb hr (fun t ht _ => ⟨⟨_, (), rfl, rfl, by rw [ht]; exact hP⟩, hS.F ht⟩) hS.2.2 dX3_figureAt_8
def f_X5_isStreet (u1 : Int32) : Option (Int32) := if u1 < 0 then (some (0 : Int32)) else (if (8 : Int32) ≤ u1 then (some (0 : Int32)) else (some (1 : Int32)))
set_option maxRecDepth 100000 in
set_option maxHeartbeats 4000000 in
theorem k_X5_isStreet (l : Launch) (G : Gt) (u1 : Int32) (r_ : Int32) (h : f_X5_isStreet u1 = some r_) : CT l yX5_isStreet wsX5_isStreet 0 0 G [.int u1] (W_0 G) (QI G r_ (W_0 G)) := by
  refine met_of cX5_isStreet 1 (some .boolean) (by decide) rfl (Nat.le_of_ble_eq_true rfl) ?_
  intro p e s m below meth c A ls hx hb hr hml hts hown hlocks hK hA hD hP hS hl
  replace hown : s.vm.findClass RX5 = some m.cls := hown
  replace hl : lv_has ls 1 [(0, .int u1)] := hl
  have S0 : CallFix p m c cX5_isStreet 1 s _ wsX5_isStreet RX5 := ⟨hx, hb, hml, hown, hts⟩
  unfold f_X5_isStreet at h
  refine lv_iload_n hx hb dX5_isStreet_0 rfl (lv_at hl 0 rfl) ?_
  refine lv_if_lt (tgt := 14) hx hb dX5_isStreet_1 (by decide) (fun cc_1 => ?_) (fun cc_1 => ?_)
  · replace h := if_t cc_1 h
    refine lv_iconst (v := 0) hx hb dX5_isStreet_14 (by decide) ?_
    cases h
    exact W.zret (ty := .boolean) hx hb hr (by decide) (fun t ht _ => ⟨⟨_, (), rfl, rfl, by rw [ht]; exact hP⟩, hS.F ht⟩) hS.2.2 dX5_isStreet_15
  · replace h := if_f cc_1 h
    refine lv_iload_n hx hb dX5_isStreet_4 rfl (lv_at hl 0 rfl) ?_
    refine lv_bipush (v := 8) hx hb dX5_isStreet_5 (by decide) ?_
    refine lv_icmp_ge (tgt := 14) hx hb dX5_isStreet_7 (by decide) (fun cc_2 => ?_) (fun cc_2 => ?_)
    · replace h := if_t cc_2 h
      refine lv_iconst (v := 0) hx hb dX5_isStreet_14 (by decide) ?_
      cases h
      exact W.zret (ty := .boolean) hx hb hr (by decide) (fun t ht _ => ⟨⟨_, (), rfl, rfl, by rw [ht]; exact hP⟩, hS.F ht⟩) hS.2.2 dX5_isStreet_15
    · replace h := if_f cc_2 h
      refine lv_iconst (v := 1) hx hb dX5_isStreet_10 (by decide) ?_
      refine lv_goto (tgt := 15) hx hb dX5_isStreet_11 (by decide) ?_
      cases h
      exact W.zret (ty := .boolean) hx hb hr (by decide) (fun t ht _ => ⟨⟨_, (), rfl, rfl, by rw [ht]; exact hP⟩, hS.F ht⟩) hS.2.2 dX5_isStreet_15
def f_X3_faultOfBroom (S_len : Int32) (S_let : Nat → Int32) (u1 : Int32) : Option (Int32) := bnd1 (f_X3_figureAt S_len S_let (u1 + (1 : Int32))) (fun rr_1 => bnd1 (f_X5_isStreet rr_1) (fun rr_3 => if rr_3 = 0 then (some (u1 + (1 : Int32))) else (bnd1 (f_X3_figureAt S_len S_let (u1 + (2 : Int32))) (fun rr_6 => bnd1 (f_X5_within rr_6 (1 : Int32) (9 : Int32)) (fun rr_8 => if rr_8 = 0 then (some (u1 + (2 : Int32))) else (bnd1 (f_X3_figureAt S_len S_let (u1 + (3 : Int32))) (fun rr_11 => bnd1 (f_X5_within rr_11 (0 : Int32) (3 : Int32)) (fun rr_13 => if rr_13 = 0 then (some (u1 + (3 : Int32))) else (some ((-9) : Int32))))))))))
set_option maxRecDepth 100000 in
set_option maxHeartbeats 4000000 in
theorem k_X3_faultOfBroom (l : Launch) (G : Gt) (s0 s1 : Nat) (S_len : Int32) (S_let : Nat → Int32) (u1 : Int32) (r_ : Int32) (h : f_X3_faultOfBroom S_len S_let u1 = some r_) : CT l yX3_faultOfBroom wsX3_faultOfBroom 2 42 G [.ref s0, .int u1] (W_S G s0 s1 S_len S_let) (QI G r_ (W_S G s0 s1 S_len S_let)) := by
  refine met_of cX3_faultOfBroom 2 (some .int) (by decide) rfl (Nat.le_of_ble_eq_true rfl) ?_
  intro p e s m below meth c A ls hx hb hr hml hts hown hlocks hK hA hD hP hS hl
  replace hown : s.vm.findClass RX3 = some m.cls := hown
  replace hl : lv_has ls 2 [(0, .ref s0), (1, .int u1)] := hl
  have S0 : CallFix p m c cX3_faultOfBroom 2 s _ wsX3_faultOfBroom RX3 := ⟨hx, hb, hml, hown, hts⟩
  have cw_X3_figureAt := show CallW (rmv 2 42) s _ RX3 RX3 23 yX3_figureAt cX3_figureAt 2 (some .int) wsX3_figureAt (rmv 1 21) 0 0 1 from cwV 1 hts gX3_faultOfBroom_X3_figureAt rfl rfl rfl (by decide +kernel) ⟨Nat.le_of_ble_eq_true rfl, Nat.le_of_ble_eq_true rfl⟩
  have cw_X5_isStreet := show va_CN (rmv 2 42) s _ RX3 40 yX5_isStreet "DustVote" cX5_isStreet 1 (some .boolean) wsX5_isStreet (rmv 0 0) 0 0 1 ∧ (Cond.static yX5_isStreet).before _ s = true ∧ True from ⟨va_cnB 1 hts gX3_faultOfBroom_X5_isStreet_n40 rfl rfl rfl (hK.m (by decide)) (hts (.initialized RX5) (by decide +kernel)) (by decide +kernel) ⟨Nat.le_of_ble_eq_true rfl, Nat.le_of_ble_eq_true rfl⟩, hts (.static yX5_isStreet) (by decide +kernel), trivial⟩
  have cw_X5_within := show va_CN (rmv 2 42) s _ RX3 26 yX5_within "DustVote" cX5_within 3 (some .boolean) wsX5_within (rmv 0 0) 0 0 3 ∧ (Cond.static yX5_within).before _ s = true ∧ True from ⟨va_cnB 3 hts gX3_faultOfBroom_X5_within_n26 rfl rfl rfl (hK.m (by decide)) (hts (.initialized RX5) (by decide +kernel)) (by decide +kernel) ⟨Nat.le_of_ble_eq_true rfl, Nat.le_of_ble_eq_true rfl⟩, hts (.static yX5_within) (by decide +kernel), trivial⟩
  unfold f_X3_faultOfBroom at h
  refine lv_aload_n hx hb dX3_faultOfBroom_0 rfl (lv_at hl 0 rfl) ?_
  refine lv_iload_n hx hb dX3_faultOfBroom_1 rfl (lv_at hl 1 rfl) ?_
  refine lv_iconst (v := 1) hx hb dX3_faultOfBroom_2 (by decide) ?_
  refine lv_iadd hx hb dX3_faultOfBroom_3 ?_
  obtain ⟨rr_1, ee_2, h⟩ := bnd1_s h
  refine cVi (As := [.int (u1 + (1 : Int32))]) (rest := []) S0 hK hA (va_D_same hD rfl) hP hS [0, 1] (k_X3_figureAt l G s0 s1 S_len S_let (u1 + (1 : Int32)) rr_1 ee_2) cw_X3_figureAt rfl rfl (Nat.le_of_ble_eq_true rfl) 3 0 rfl rfl rfl rfl hl.1 rfl (Nat.le_of_ble_eq_true rfl) dX3_faultOfBroom_4 ⟨Nat.zero_le _, Nat.zero_le _⟩ (fun H locs hP hS => ?_)
  replace hP : va_P G.1 vwCl (W_S G s0 s1 S_len S_let) H := hP
  obtain ⟨rr_3, ee_4, h⟩ := bnd1_s h
  refine cNi (As := [.int rr_1]) (rest := []) S0 hK hA (va_D_same hD rfl) hP hS [] (k_X5_isStreet l G rr_1 rr_3 ee_4) cw_X5_isStreet rfl rfl (Nat.le_of_ble_eq_true rfl) rfl hl.1 rfl (Nat.le_of_ble_eq_true rfl) dX3_faultOfBroom_7 ⟨Nat.zero_le _, Nat.zero_le _⟩ (fun H locs hP hS => ?_)
  replace hP : va_P G.1 vwCl (W_S G s0 s1 S_len S_let) H := hP
  refine lv_if_ne (tgt := 17) hx hb dX3_faultOfBroom_10 (by decide) (fun cc_5 => ?_) (fun cc_5 => ?_)
  · replace h := if_f cc_5 h
    refine lv_aload_n hx hb dX3_faultOfBroom_17 rfl (lv_at hl 0 rfl) ?_
    refine lv_iload_n hx hb dX3_faultOfBroom_18 rfl (lv_at hl 1 rfl) ?_
    refine lv_iconst (v := 2) hx hb dX3_faultOfBroom_19 (by decide) ?_
    refine lv_iadd hx hb dX3_faultOfBroom_20 ?_
    obtain ⟨rr_6, ee_7, h⟩ := bnd1_s h
    refine cVi (As := [.int (u1 + (2 : Int32))]) (rest := []) S0 hK hA (va_D_same hD rfl) hP hS [0, 1] (k_X3_figureAt l G s0 s1 S_len S_let (u1 + (2 : Int32)) rr_6 ee_7) cw_X3_figureAt rfl rfl (Nat.le_of_ble_eq_true rfl) 3 0 rfl rfl rfl rfl hl.1 rfl (Nat.le_of_ble_eq_true rfl) dX3_faultOfBroom_21 ⟨Nat.zero_le _, Nat.zero_le _⟩ (fun H locs hP hS => ?_)
    replace hP : va_P G.1 vwCl (W_S G s0 s1 S_len S_let) H := hP
    refine lv_iconst (v := 1) hx hb dX3_faultOfBroom_24 (by decide) ?_
    refine lv_bipush (v := 9) hx hb dX3_faultOfBroom_25 (by decide) ?_
    obtain ⟨rr_8, ee_9, h⟩ := bnd1_s h
    refine cNi (As := [.int rr_6, .int (1 : Int32), .int (9 : Int32)]) (rest := []) S0 hK hA (va_D_same hD rfl) hP hS [] (k_X5_within l G rr_6 (1 : Int32) (9 : Int32) rr_8 ee_9) cw_X5_within rfl rfl (Nat.le_of_ble_eq_true rfl) rfl hl.1 rfl (Nat.le_of_ble_eq_true rfl) dX3_faultOfBroom_27 ⟨Nat.zero_le _, Nat.zero_le _⟩ (fun H locs hP hS => ?_)
    replace hP : va_P G.1 vwCl (W_S G s0 s1 S_len S_let) H := hP
    refine lv_if_ne (tgt := 37) hx hb dX3_faultOfBroom_30 (by decide) (fun cc_10 => ?_) (fun cc_10 => ?_)
    · replace h := if_f cc_10 h
      refine lv_aload_n hx hb dX3_faultOfBroom_37 rfl (lv_at hl 0 rfl) ?_
      refine lv_iload_n hx hb dX3_faultOfBroom_38 rfl (lv_at hl 1 rfl) ?_
      refine lv_iconst (v := 3) hx hb dX3_faultOfBroom_39 (by decide) ?_
      refine lv_iadd hx hb dX3_faultOfBroom_40 ?_
      obtain ⟨rr_11, ee_12, h⟩ := bnd1_s h
      refine cVi (As := [.int (u1 + (3 : Int32))]) (rest := []) S0 hK hA (va_D_same hD rfl) hP hS [0, 1] (k_X3_figureAt l G s0 s1 S_len S_let (u1 + (3 : Int32)) rr_11 ee_12) cw_X3_figureAt rfl rfl (Nat.le_of_ble_eq_true rfl) 3 0 rfl rfl rfl rfl hl.1 rfl (Nat.le_of_ble_eq_true rfl) dX3_faultOfBroom_41 ⟨Nat.zero_le _, Nat.zero_le _⟩ (fun H locs hP hS => ?_)
      replace hP : va_P G.1 vwCl (W_S G s0 s1 S_len S_let) H := hP
      refine lv_iconst (v := 0) hx hb dX3_faultOfBroom_44 (by decide) ?_
      refine lv_iconst (v := 3) hx hb dX3_faultOfBroom_45 (by decide) ?_
      obtain ⟨rr_13, ee_14, h⟩ := bnd1_s h
      refine cNi (As := [.int rr_11, .int (0 : Int32), .int (3 : Int32)]) (rest := []) S0 hK hA (va_D_same hD rfl) hP hS [] (k_X5_within l G rr_11 (0 : Int32) (3 : Int32) rr_13 ee_14) cw_X5_within rfl rfl (Nat.le_of_ble_eq_true rfl) rfl hl.1 rfl (Nat.le_of_ble_eq_true rfl) dX3_faultOfBroom_46 ⟨Nat.zero_le _, Nat.zero_le _⟩ (fun H locs hP hS => ?_)
      replace hP : va_P G.1 vwCl (W_S G s0 s1 S_len S_let) H := hP
      refine lv_if_eq (tgt := 57) hx hb dX3_faultOfBroom_49 (by decide) (fun cc_15 => ?_) (fun cc_15 => ?_)
      · replace h := if_t cc_15 h
        refine lv_iload_n hx hb dX3_faultOfBroom_57 rfl (lv_at hl 1 rfl) ?_
        refine lv_iconst (v := 3) hx hb dX3_faultOfBroom_58 (by decide) ?_
        refine lv_iadd hx hb dX3_faultOfBroom_59 ?_
        cases h
        exact W.iret hx hb hr (fun t ht _ => ⟨⟨_, (), rfl, rfl, by rw [ht]; exact hP⟩, hS.F ht⟩) hS.2.2 dX3_faultOfBroom_60
      · replace h := if_f cc_15 h
        refine lv_bipush (v := (-9)) hx hb dX3_faultOfBroom_52 (by decide) ?_
        refine lv_goto (tgt := 60) hx hb dX3_faultOfBroom_54 (by decide) ?_
        cases h
        exact W.iret hx hb hr (fun t ht _ => ⟨⟨_, (), rfl, rfl, by rw [ht]; exact hP⟩, hS.F ht⟩) hS.2.2 dX3_faultOfBroom_60
    · replace h := if_t cc_10 h
      refine lv_iload_n hx hb dX3_faultOfBroom_33 rfl (lv_at hl 1 rfl) ?_
      refine lv_iconst (v := 2) hx hb dX3_faultOfBroom_34 (by decide) ?_
      refine lv_iadd hx hb dX3_faultOfBroom_35 ?_
      cases h
      exact W.iret hx hb hr (fun t ht _ => ⟨⟨_, (), rfl, rfl, by rw [ht]; exact hP⟩, hS.F ht⟩) hS.2.2 dX3_faultOfBroom_36
  · replace h := if_t cc_5 h
    refine lv_iload_n hx hb dX3_faultOfBroom_13 rfl (lv_at hl 1 rfl) ?_
    refine lv_iconst (v := 1) hx hb dX3_faultOfBroom_14 (by decide) ?_
    refine lv_iadd hx hb dX3_faultOfBroom_15 ?_
    cases h
    exact W.iret hx hb hr (fun t ht _ => ⟨⟨_, (), rfl, rfl, by rw [ht]; exact hP⟩, hS.F ht⟩) hS.2.2 dX3_faultOfBroom_16
def f_X3_faultOfFall (S_len : Int32) (S_let : Nat → Int32) (u1 : Int32) : Option (Int32) := bnd1 (f_X3_figureAt S_len S_let (u1 + (1 : Int32))) (fun rr_1 => bnd1 (f_X5_isStreet rr_1) (fun rr_3 => if rr_3 = 0 then (some (u1 + (1 : Int32))) else (bnd1 (f_X3_figureAt S_len S_let (u1 + (2 : Int32))) (fun rr_6 => bnd1 (f_X5_within rr_6 (0 : Int32) (9 : Int32)) (fun rr_8 => if rr_8 = 0 then (some (u1 + (2 : Int32))) else (some ((-9) : Int32)))))))
set_option maxRecDepth 100000 in
set_option maxHeartbeats 4000000 in
theorem k_X3_faultOfFall (l : Launch) (G : Gt) (s0 s1 : Nat) (S_len : Int32) (S_let : Nat → Int32) (u1 : Int32) (r_ : Int32) (h : f_X3_faultOfFall S_len S_let u1 = some r_) : CT l yX3_faultOfFall wsX3_faultOfFall 2 42 G [.ref s0, .int u1] (W_S G s0 s1 S_len S_let) (QI G r_ (W_S G s0 s1 S_len S_let)) := by
  refine met_of cX3_faultOfFall 2 (some .int) (by decide) rfl (Nat.le_of_ble_eq_true rfl) ?_
  intro p e s m below meth c A ls hx hb hr hml hts hown hlocks hK hA hD hP hS hl
  replace hown : s.vm.findClass RX3 = some m.cls := hown
  replace hl : lv_has ls 2 [(0, .ref s0), (1, .int u1)] := hl
  have S0 : CallFix p m c cX3_faultOfFall 2 s _ wsX3_faultOfFall RX3 := ⟨hx, hb, hml, hown, hts⟩
  have cw_X3_figureAt := show CallW (rmv 2 42) s _ RX3 RX3 23 yX3_figureAt cX3_figureAt 2 (some .int) wsX3_figureAt (rmv 1 21) 0 0 1 from cwV 1 hts gX3_faultOfFall_X3_figureAt rfl rfl rfl (by decide +kernel) ⟨Nat.le_of_ble_eq_true rfl, Nat.le_of_ble_eq_true rfl⟩
  have cw_X5_isStreet := show va_CN (rmv 2 42) s _ RX3 40 yX5_isStreet "DustVote" cX5_isStreet 1 (some .boolean) wsX5_isStreet (rmv 0 0) 0 0 1 ∧ (Cond.static yX5_isStreet).before _ s = true ∧ True from ⟨va_cnB 1 hts gX3_faultOfFall_X5_isStreet_n40 rfl rfl rfl (hK.m (by decide)) (hts (.initialized RX5) (by decide +kernel)) (by decide +kernel) ⟨Nat.le_of_ble_eq_true rfl, Nat.le_of_ble_eq_true rfl⟩, hts (.static yX5_isStreet) (by decide +kernel), trivial⟩
  have cw_X5_within := show va_CN (rmv 2 42) s _ RX3 26 yX5_within "DustVote" cX5_within 3 (some .boolean) wsX5_within (rmv 0 0) 0 0 3 ∧ (Cond.static yX5_within).before _ s = true ∧ True from ⟨va_cnB 3 hts gX3_faultOfFall_X5_within_n26 rfl rfl rfl (hK.m (by decide)) (hts (.initialized RX5) (by decide +kernel)) (by decide +kernel) ⟨Nat.le_of_ble_eq_true rfl, Nat.le_of_ble_eq_true rfl⟩, hts (.static yX5_within) (by decide +kernel), trivial⟩
  unfold f_X3_faultOfFall at h
  refine lv_aload_n hx hb dX3_faultOfFall_0 rfl (lv_at hl 0 rfl) ?_
  refine lv_iload_n hx hb dX3_faultOfFall_1 rfl (lv_at hl 1 rfl) ?_
  refine lv_iconst (v := 1) hx hb dX3_faultOfFall_2 (by decide) ?_
  refine lv_iadd hx hb dX3_faultOfFall_3 ?_
  obtain ⟨rr_1, ee_2, h⟩ := bnd1_s h
  refine cVi (As := [.int (u1 + (1 : Int32))]) (rest := []) S0 hK hA (va_D_same hD rfl) hP hS [0, 1] (k_X3_figureAt l G s0 s1 S_len S_let (u1 + (1 : Int32)) rr_1 ee_2) cw_X3_figureAt rfl rfl (Nat.le_of_ble_eq_true rfl) 3 0 rfl rfl rfl rfl hl.1 rfl (Nat.le_of_ble_eq_true rfl) dX3_faultOfFall_4 ⟨Nat.zero_le _, Nat.zero_le _⟩ (fun H locs hP hS => ?_)
  replace hP : va_P G.1 vwCl (W_S G s0 s1 S_len S_let) H := hP
  obtain ⟨rr_3, ee_4, h⟩ := bnd1_s h
  refine cNi (As := [.int rr_1]) (rest := []) S0 hK hA (va_D_same hD rfl) hP hS [] (k_X5_isStreet l G rr_1 rr_3 ee_4) cw_X5_isStreet rfl rfl (Nat.le_of_ble_eq_true rfl) rfl hl.1 rfl (Nat.le_of_ble_eq_true rfl) dX3_faultOfFall_7 ⟨Nat.zero_le _, Nat.zero_le _⟩ (fun H locs hP hS => ?_)
  replace hP : va_P G.1 vwCl (W_S G s0 s1 S_len S_let) H := hP
  refine lv_if_ne (tgt := 17) hx hb dX3_faultOfFall_10 (by decide) (fun cc_5 => ?_) (fun cc_5 => ?_)
  · replace h := if_f cc_5 h
    refine lv_aload_n hx hb dX3_faultOfFall_17 rfl (lv_at hl 0 rfl) ?_
    refine lv_iload_n hx hb dX3_faultOfFall_18 rfl (lv_at hl 1 rfl) ?_
    refine lv_iconst (v := 2) hx hb dX3_faultOfFall_19 (by decide) ?_
    refine lv_iadd hx hb dX3_faultOfFall_20 ?_
    obtain ⟨rr_6, ee_7, h⟩ := bnd1_s h
    refine cVi (As := [.int (u1 + (2 : Int32))]) (rest := []) S0 hK hA (va_D_same hD rfl) hP hS [0, 1] (k_X3_figureAt l G s0 s1 S_len S_let (u1 + (2 : Int32)) rr_6 ee_7) cw_X3_figureAt rfl rfl (Nat.le_of_ble_eq_true rfl) 3 0 rfl rfl rfl rfl hl.1 rfl (Nat.le_of_ble_eq_true rfl) dX3_faultOfFall_21 ⟨Nat.zero_le _, Nat.zero_le _⟩ (fun H locs hP hS => ?_)
    replace hP : va_P G.1 vwCl (W_S G s0 s1 S_len S_let) H := hP
    refine lv_iconst (v := 0) hx hb dX3_faultOfFall_24 (by decide) ?_
    refine lv_bipush (v := 9) hx hb dX3_faultOfFall_25 (by decide) ?_
    obtain ⟨rr_8, ee_9, h⟩ := bnd1_s h
    refine cNi (As := [.int rr_6, .int (0 : Int32), .int (9 : Int32)]) (rest := []) S0 hK hA (va_D_same hD rfl) hP hS [] (k_X5_within l G rr_6 (0 : Int32) (9 : Int32) rr_8 ee_9) cw_X5_within rfl rfl (Nat.le_of_ble_eq_true rfl) rfl hl.1 rfl (Nat.le_of_ble_eq_true rfl) dX3_faultOfFall_27 ⟨Nat.zero_le _, Nat.zero_le _⟩ (fun H locs hP hS => ?_)
    replace hP : va_P G.1 vwCl (W_S G s0 s1 S_len S_let) H := hP
    refine lv_if_eq (tgt := 38) hx hb dX3_faultOfFall_30 (by decide) (fun cc_10 => ?_) (fun cc_10 => ?_)
    · replace h := if_t cc_10 h
      refine lv_iload_n hx hb dX3_faultOfFall_38 rfl (lv_at hl 1 rfl) ?_
      refine lv_iconst (v := 2) hx hb dX3_faultOfFall_39 (by decide) ?_
      refine lv_iadd hx hb dX3_faultOfFall_40 ?_
      cases h
      exact W.iret hx hb hr (fun t ht _ => ⟨⟨_, (), rfl, rfl, by rw [ht]; exact hP⟩, hS.F ht⟩) hS.2.2 dX3_faultOfFall_41
    · replace h := if_f cc_10 h
      refine lv_bipush (v := (-9)) hx hb dX3_faultOfFall_33 (by decide) ?_
      refine lv_goto (tgt := 41) hx hb dX3_faultOfFall_35 (by decide) ?_
      cases h
      exact W.iret hx hb hr (fun t ht _ => ⟨⟨_, (), rfl, rfl, by rw [ht]; exact hP⟩, hS.F ht⟩) hS.2.2 dX3_faultOfFall_41
  · replace h := if_t cc_5 h
    refine lv_iload_n hx hb dX3_faultOfFall_13 rfl (lv_at hl 1 rfl) ?_
    refine lv_iconst (v := 1) hx hb dX3_faultOfFall_14 (by decide) ?_
    refine lv_iadd hx hb dX3_faultOfFall_15 ?_
    cases h
    exact W.iret hx hb hr (fun t ht _ => ⟨⟨_, (), rfl, rfl, by rw [ht]; exact hP⟩, hS.F ht⟩) hS.2.2 dX3_faultOfFall_16
def f_X3_firstFaultOfParts_146 (S_len : Int32) (S_let : Nat → Int32) (kk10 : Int32 → Int32 → Int32 → Option (Int32)) (v1 : Int32) (v2 : Int32) (v4 : Int32) (q0 : Int32) : Option (Int32) := kk10 v1 v2 (v4 + q0)
def f_X3_firstFaultOfParts_134 (S_len : Int32) (S_let : Nat → Int32) (kk10 : Int32 → Int32 → Int32 → Option (Int32)) (v1 : Int32) (v4 : Int32) (v5 : Int32) (q0 : Int32) (q1 : Int32) : Option (Int32) := if v5 = 0 then (f_X3_firstFaultOfParts_146 S_len S_let kk10 v1 (q0 + q1) v4 (3 : Int32)) else (f_X3_firstFaultOfParts_146 S_len S_let kk10 v1 (q0 + q1) v4 (4 : Int32))
def f_X3_firstFaultOfParts_121 (S_len : Int32) (S_let : Nat → Int32) (kk10 : Int32 → Int32 → Int32 → Option (Int32)) (v2 : Int32) (v4 : Int32) (v5 : Int32) (v6 : Int32) (q0 : Int32) (q1 : Int32) : Option (Int32) := if v6 = 0 then (f_X3_firstFaultOfParts_134 S_len S_let kk10 (q0 + q1) v4 v5 v2 (0 : Int32)) else (f_X3_firstFaultOfParts_134 S_len S_let kk10 (q0 + q1) v4 v5 v2 (1 : Int32))
def f_X3_firstFaultOfParts_98 (S_len : Int32) (S_let : Nat → Int32) (kk10 : Int32 → Int32 → Int32 → Option (Int32)) (v1 : Int32) (v2 : Int32) (v4 : Int32) (v5 : Int32) (v6 : Int32) (q0 : Int32) : Option (Int32) := if q0 = ((-9) : Int32) then (if v5 = 0 then (f_X3_firstFaultOfParts_121 S_len S_let kk10 v2 v4 v5 v6 v1 (0 : Int32)) else (f_X3_firstFaultOfParts_121 S_len S_let kk10 v2 v4 v5 v6 v1 (1 : Int32))) else (some q0)
def f_X3_firstFaultOfParts_78 (S_len : Int32) (S_let : Nat → Int32) (kk10 : Int32 → Int32 → Int32 → Option (Int32)) (v1 : Int32) (v2 : Int32) (v4 : Int32) (v5 : Int32) (v6 : Int32) : Option (Int32) := if v5 = 0 then (bnd1 (f_X3_faultOfFall S_len S_let v4) (fun rr_6 => f_X3_firstFaultOfParts_98 S_len S_let kk10 v1 v2 v4 v5 v6 rr_6)) else (bnd1 (f_X3_faultOfBroom S_len S_let v4) (fun rr_8 => f_X3_firstFaultOfParts_98 S_len S_let kk10 v1 v2 v4 v5 v6 rr_8))
def f_X3_firstFaultOfParts_63 (S_len : Int32) (S_let : Nat → Int32) (kk10 : Int32 → Int32 → Int32 → Option (Int32)) (v1 : Int32) (v2 : Int32) (v4 : Int32) (v5 : Int32) (q0 : Int32) : Option (Int32) := if v5 = 0 then (if q0 = 0 then (some v4) else (f_X3_firstFaultOfParts_78 S_len S_let kk10 v1 v2 v4 v5 q0)) else (f_X3_firstFaultOfParts_78 S_len S_let kk10 v1 v2 v4 v5 q0)
def f_X3_firstFaultOfParts_62 (S_len : Int32) (S_let : Nat → Int32) (kk10 : Int32 → Int32 → Int32 → Option (Int32)) (v1 : Int32) (v2 : Int32) (v4 : Int32) (v5 : Int32) : Option (Int32) := f_X3_firstFaultOfParts_63 S_len S_let kk10 v1 v2 v4 v5 (0 : Int32)
def f_X3_firstFaultOfParts_40 (S_len : Int32) (S_let : Nat → Int32) (kk10 : Int32 → Int32 → Int32 → Option (Int32)) (v1 : Int32) (v2 : Int32) (v4 : Int32) (q0 : Int32) : Option (Int32) := bnd1 (f_X3_letterAt S_len S_let v4) (fun rr_12 => if rr_12 = (70 : Int32) then (if (5 : Int32) ≤ v2 then (f_X3_firstFaultOfParts_62 S_len S_let kk10 v1 v2 v4 q0) else (f_X3_firstFaultOfParts_63 S_len S_let kk10 v1 v2 v4 q0 (1 : Int32))) else (f_X3_firstFaultOfParts_62 S_len S_let kk10 v1 v2 v4 q0))
def f_X3_firstFaultOfParts_39 (S_len : Int32) (S_let : Nat → Int32) (kk10 : Int32 → Int32 → Int32 → Option (Int32)) (v1 : Int32) (v2 : Int32) (v4 : Int32) : Option (Int32) := f_X3_firstFaultOfParts_40 S_len S_let kk10 v1 v2 v4 (0 : Int32)
def f_X3_firstFaultOfParts_10 (S_len : Int32) (S_let : Nat → Int32) : Nat → Int32 → Int32 → Int32 → Option (Int32)
  | 0, _, _, _ => none
  | fu + 1, v1, v2, v4 => if S_len ≤ v4 then (some ((-9) : Int32)) else (bnd1 (f_X3_letterAt S_len S_let v4) (fun rr_17 => if rr_17 = (78 : Int32) then (if (5 : Int32) ≤ v1 then (f_X3_firstFaultOfParts_39 S_len S_let (f_X3_firstFaultOfParts_10 S_len S_let fu) v1 v2 v4) else (f_X3_firstFaultOfParts_40 S_len S_let (f_X3_firstFaultOfParts_10 S_len S_let fu) v1 v2 v4 (1 : Int32))) else (f_X3_firstFaultOfParts_39 S_len S_let (f_X3_firstFaultOfParts_10 S_len S_let fu) v1 v2 v4)))
def f_X3_firstFaultOfParts (S_len : Int32) (S_let : Nat → Int32) : Option (Int32) := f_X3_firstFaultOfParts_10 S_len S_let  130 (0 : Int32) (0 : Int32) (9 : Int32)
set_option maxRecDepth 100000 in
set_option maxHeartbeats 4000000 in
theorem k_X3_firstFaultOfParts (l : Launch) (G : Gt) (s0 s1 : Nat) (S_len : Int32) (S_let : Nat → Int32) (r_ : Int32) (h : f_X3_firstFaultOfParts S_len S_let = some r_) : CT l yX3_firstFaultOfParts wsX3_firstFaultOfParts 3 63 G [.ref s0] (W_S G s0 s1 S_len S_let) (QI G r_ (W_S G s0 s1 S_len S_let)) := by
  refine met_of cX3_firstFaultOfParts 8 (some .int) (by decide) rfl (Nat.le_of_ble_eq_true rfl) ?_
  intro p e s m below meth c A ls hx hb hr hml hts hown hlocks hK hA hD hP hS hl
  replace hown : s.vm.findClass RX3 = some m.cls := hown
  replace hl : lv_has ls 8 [(0, .ref s0)] := hl
  have S0 : CallFix p m c cX3_firstFaultOfParts 8 s _ wsX3_firstFaultOfParts RX3 := ⟨hx, hb, hml, hown, hts⟩
  have cw_X3_faultOfFall := show CallW (rmv 3 63) s _ RX3 RX3 37 yX3_faultOfFall cX3_faultOfFall 2 (some .int) wsX3_faultOfFall (rmv 2 42) 0 0 1 from cwV 1 hts gX3_firstFaultOfParts_X3_faultOfFall rfl rfl rfl (by decide +kernel) ⟨Nat.le_of_ble_eq_true rfl, Nat.le_of_ble_eq_true rfl⟩
  have cw_X3_faultOfBroom := show CallW (rmv 3 63) s _ RX3 RX3 34 yX3_faultOfBroom cX3_faultOfBroom 2 (some .int) wsX3_faultOfBroom (rmv 2 42) 0 0 1 from cwV 1 hts gX3_firstFaultOfParts_X3_faultOfBroom rfl rfl rfl (by decide +kernel) ⟨Nat.le_of_ble_eq_true rfl, Nat.le_of_ble_eq_true rfl⟩
  have cw_X3_letterAt := show CallW (rmv 3 63) s _ RX3 RX3 19 yX3_letterAt cX3_letterAt 2 (some .int) wsX3_letterAt (rmv 0 0) 0 0 1 from cwV 1 hts gX3_firstFaultOfParts_X3_letterAt rfl rfl rfl (by decide +kernel) ⟨Nat.le_of_ble_eq_true rfl, Nat.le_of_ble_eq_true rfl⟩
  have fl15 := hts (.fieldLink RX3 15 "DustVote$Script" "length" "I") (by decide +kernel)
  have inX3 := show ∀ w ∈ wsX30, w ∈ wsX3_firstFaultOfParts from by decide +kernel
  have J_146 : ∀ (kk10 : Int32 → Int32 → Int32 → Option (Int32)) (hk10 : ∀ (v1 : Int32) (v2 : Int32) (v4 : Int32) (H : Heap) (locs : List Loc) (ls : Array Slot), kk10 v1 v2 v4 = some r_ → va_P G.1 vwCl (W_S G s0 s1 S_len S_let) H → va_S A s.heap H locs → lv_has ls 8 [(0, .ref s0), (1, .int v1), (2, .int v2), (4, .int v4)] → W p l e (rmv 3 63) s m (List.toArray [.ref s0]) below meth c H locs 0 0 (MQ below ((QI G r_ (W_S G s0 s1 S_len S_let)) A) (List.toArray [.ref s0]) s 0 0 A) (F0 m 10 ls [])), ∀ (v1 : Int32) (v2 : Int32) (v4 : Int32) (q0 : Int32) (H : Heap) (locs : List Loc) (ls : Array Slot), f_X3_firstFaultOfParts_146 S_len S_let kk10 v1 v2 v4 q0 = some r_ → va_P G.1 vwCl (W_S G s0 s1 S_len S_let) H → va_S A s.heap H locs → lv_has ls 8 [(0, .ref s0), (1, .int v1), (2, .int v2), (4, .int v4)] → W p l e (rmv 3 63) s m (List.toArray [.ref s0]) below meth c H locs 0 0 (MQ below ((QI G r_ (W_S G s0 s1 S_len S_let)) A) (List.toArray [.ref s0]) s 0 0 A) (F0 m 146 ls [.int q0]) := by
    intro kk10 hk10 v1 v2 v4 q0 H locs ls h hP hS hl
    unfold f_X3_firstFaultOfParts_146 at h
    refine lv_istore_n (lv' := [(3, .int q0), (0, .ref s0), (1, .int v1), (2, .int v2), (4, .int v4)]) hx hb dX3_firstFaultOfParts_146 rfl hl (by decide) rfl (fun ls hl => ?_)
    refine lv_iload hx hb dX3_firstFaultOfParts_147 (lv_at hl 4 rfl) ?_
    refine lv_iload_n hx hb dX3_firstFaultOfParts_149 rfl (lv_at hl 0 rfl) ?_
    refine lv_iadd hx hb dX3_firstFaultOfParts_150 ?_
    refine lv_istore (lv' := [(4, .int (v4 + q0)), (3, .int q0), (0, .ref s0), (1, .int v1), (2, .int v2)]) hx hb dX3_firstFaultOfParts_151 hl (by decide) rfl (fun ls hl => ?_)
    refine lv_goto (tgt := 10) hx hb dX3_firstFaultOfParts_153 (by decide) ?_
    exact hk10 v1 v2 (v4 + q0) _ _ _ h hP hS (lv_sub hl [2, 3, 4, 0] rfl)
  have J_134 : ∀ (kk10 : Int32 → Int32 → Int32 → Option (Int32)) (hk10 : ∀ (v1 : Int32) (v2 : Int32) (v4 : Int32) (H : Heap) (locs : List Loc) (ls : Array Slot), kk10 v1 v2 v4 = some r_ → va_P G.1 vwCl (W_S G s0 s1 S_len S_let) H → va_S A s.heap H locs → lv_has ls 8 [(0, .ref s0), (1, .int v1), (2, .int v2), (4, .int v4)] → W p l e (rmv 3 63) s m (List.toArray [.ref s0]) below meth c H locs 0 0 (MQ below ((QI G r_ (W_S G s0 s1 S_len S_let)) A) (List.toArray [.ref s0]) s 0 0 A) (F0 m 10 ls [])), ∀ (v1 : Int32) (v4 : Int32) (v5 : Int32) (q0 : Int32) (q1 : Int32) (H : Heap) (locs : List Loc) (ls : Array Slot), f_X3_firstFaultOfParts_134 S_len S_let kk10 v1 v4 v5 q0 q1 = some r_ → va_P G.1 vwCl (W_S G s0 s1 S_len S_let) H → va_S A s.heap H locs → lv_has ls 8 [(0, .ref s0), (1, .int v1), (4, .int v4), (5, .int v5)] → W p l e (rmv 3 63) s m (List.toArray [.ref s0]) below meth c H locs 0 0 (MQ below ((QI G r_ (W_S G s0 s1 S_len S_let)) A) (List.toArray [.ref s0]) s 0 0 A) (F0 m 134 ls [.int q1, .int q0]) := by
    intro kk10 hk10 v1 v4 v5 q0 q1 H locs ls h hP hS hl
    unfold f_X3_firstFaultOfParts_134 at h
    refine lv_iadd hx hb dX3_firstFaultOfParts_134 ?_
    refine lv_istore_n (lv' := [(2, .int (q0 + q1)), (0, .ref s0), (1, .int v1), (4, .int v4), (5, .int v5)]) hx hb dX3_firstFaultOfParts_135 rfl hl (by decide) rfl (fun ls hl => ?_)
    refine lv_iload hx hb dX3_firstFaultOfParts_136 (lv_at hl 4 rfl) ?_
    refine lv_if_eq (tgt := 145) hx hb dX3_firstFaultOfParts_138 (by decide) (fun cc_1 => ?_) (fun cc_1 => ?_)
    · replace h := if_t cc_1 h
      refine lv_iconst (v := 3) hx hb dX3_firstFaultOfParts_145 (by decide) ?_
      exact J_146 kk10 hk10 v1 (q0 + q1) v4 (3 : Int32) _ _ _ h hP hS (lv_sub hl [1, 2, 0, 3] rfl)
    · replace h := if_f cc_1 h
      refine lv_iconst (v := 4) hx hb dX3_firstFaultOfParts_141 (by decide) ?_
      refine lv_goto (tgt := 146) hx hb dX3_firstFaultOfParts_142 (by decide) ?_
      exact J_146 kk10 hk10 v1 (q0 + q1) v4 (4 : Int32) _ _ _ h hP hS (lv_sub hl [1, 2, 0, 3] rfl)
  have J_121 : ∀ (kk10 : Int32 → Int32 → Int32 → Option (Int32)) (hk10 : ∀ (v1 : Int32) (v2 : Int32) (v4 : Int32) (H : Heap) (locs : List Loc) (ls : Array Slot), kk10 v1 v2 v4 = some r_ → va_P G.1 vwCl (W_S G s0 s1 S_len S_let) H → va_S A s.heap H locs → lv_has ls 8 [(0, .ref s0), (1, .int v1), (2, .int v2), (4, .int v4)] → W p l e (rmv 3 63) s m (List.toArray [.ref s0]) below meth c H locs 0 0 (MQ below ((QI G r_ (W_S G s0 s1 S_len S_let)) A) (List.toArray [.ref s0]) s 0 0 A) (F0 m 10 ls [])), ∀ (v2 : Int32) (v4 : Int32) (v5 : Int32) (v6 : Int32) (q0 : Int32) (q1 : Int32) (H : Heap) (locs : List Loc) (ls : Array Slot), f_X3_firstFaultOfParts_121 S_len S_let kk10 v2 v4 v5 v6 q0 q1 = some r_ → va_P G.1 vwCl (W_S G s0 s1 S_len S_let) H → va_S A s.heap H locs → lv_has ls 8 [(0, .ref s0), (2, .int v2), (4, .int v4), (5, .int v5), (6, .int v6)] → W p l e (rmv 3 63) s m (List.toArray [.ref s0]) below meth c H locs 0 0 (MQ below ((QI G r_ (W_S G s0 s1 S_len S_let)) A) (List.toArray [.ref s0]) s 0 0 A) (F0 m 121 ls [.int q1, .int q0]) := by
    intro kk10 hk10 v2 v4 v5 v6 q0 q1 H locs ls h hP hS hl
    unfold f_X3_firstFaultOfParts_121 at h
    refine lv_iadd hx hb dX3_firstFaultOfParts_121 ?_
    refine lv_istore_n (lv' := [(1, .int (q0 + q1)), (0, .ref s0), (2, .int v2), (4, .int v4), (5, .int v5), (6, .int v6)]) hx hb dX3_firstFaultOfParts_122 rfl hl (by decide) rfl (fun ls hl => ?_)
    refine lv_iload_n hx hb dX3_firstFaultOfParts_123 rfl (lv_at hl 2 rfl) ?_
    refine lv_iload hx hb dX3_firstFaultOfParts_124 (lv_at hl 5 rfl) ?_
    refine lv_if_eq (tgt := 133) hx hb dX3_firstFaultOfParts_126 (by decide) (fun cc_2 => ?_) (fun cc_2 => ?_)
    · replace h := if_t cc_2 h
      refine lv_iconst (v := 0) hx hb dX3_firstFaultOfParts_133 (by decide) ?_
      exact J_134 kk10 hk10 (q0 + q1) v4 v5 v2 (0 : Int32) _ _ _ h hP hS (lv_sub hl [1, 0, 3, 4] rfl)
    · replace h := if_f cc_2 h
      refine lv_iconst (v := 1) hx hb dX3_firstFaultOfParts_129 (by decide) ?_
      refine lv_goto (tgt := 134) hx hb dX3_firstFaultOfParts_130 (by decide) ?_
      exact J_134 kk10 hk10 (q0 + q1) v4 v5 v2 (1 : Int32) _ _ _ h hP hS (lv_sub hl [1, 0, 3, 4] rfl)
  have J_98 : ∀ (kk10 : Int32 → Int32 → Int32 → Option (Int32)) (hk10 : ∀ (v1 : Int32) (v2 : Int32) (v4 : Int32) (H : Heap) (locs : List Loc) (ls : Array Slot), kk10 v1 v2 v4 = some r_ → va_P G.1 vwCl (W_S G s0 s1 S_len S_let) H → va_S A s.heap H locs → lv_has ls 8 [(0, .ref s0), (1, .int v1), (2, .int v2), (4, .int v4)] → W p l e (rmv 3 63) s m (List.toArray [.ref s0]) below meth c H locs 0 0 (MQ below ((QI G r_ (W_S G s0 s1 S_len S_let)) A) (List.toArray [.ref s0]) s 0 0 A) (F0 m 10 ls [])), ∀ (v1 : Int32) (v2 : Int32) (v4 : Int32) (v5 : Int32) (v6 : Int32) (q0 : Int32) (H : Heap) (locs : List Loc) (ls : Array Slot), f_X3_firstFaultOfParts_98 S_len S_let kk10 v1 v2 v4 v5 v6 q0 = some r_ → va_P G.1 vwCl (W_S G s0 s1 S_len S_let) H → va_S A s.heap H locs → lv_has ls 8 [(0, .ref s0), (1, .int v1), (2, .int v2), (4, .int v4), (5, .int v5), (6, .int v6)] → W p l e (rmv 3 63) s m (List.toArray [.ref s0]) below meth c H locs 0 0 (MQ below ((QI G r_ (W_S G s0 s1 S_len S_let)) A) (List.toArray [.ref s0]) s 0 0 A) (F0 m 98 ls [.int q0]) := by
    intro kk10 hk10 v1 v2 v4 v5 v6 q0 H locs ls h hP hS hl
    unfold f_X3_firstFaultOfParts_98 at h
    refine lv_istore (lv' := [(7, .int q0), (0, .ref s0), (1, .int v1), (2, .int v2), (4, .int v4), (5, .int v5), (6, .int v6)]) hx hb dX3_firstFaultOfParts_98 hl (by decide) rfl (fun ls hl => ?_)
    refine lv_iload hx hb dX3_firstFaultOfParts_100 (lv_at hl 0 rfl) ?_
    refine lv_bipush (v := (-9)) hx hb dX3_firstFaultOfParts_102 (by decide) ?_
    refine lv_icmp_eq (tgt := 110) hx hb dX3_firstFaultOfParts_104 (by decide) (fun cc_3 => ?_) (fun cc_3 => ?_)
    · replace h := if_t cc_3 h
      refine lv_iload_n hx hb dX3_firstFaultOfParts_110 rfl (lv_at hl 2 rfl) ?_
      refine lv_iload hx hb dX3_firstFaultOfParts_111 (lv_at hl 5 rfl) ?_
      refine lv_if_eq (tgt := 120) hx hb dX3_firstFaultOfParts_113 (by decide) (fun cc_4 => ?_) (fun cc_4 => ?_)
      · replace h := if_t cc_4 h
        refine lv_iconst (v := 0) hx hb dX3_firstFaultOfParts_120 (by decide) ?_
        exact J_121 kk10 hk10 v2 v4 v5 v6 v1 (0 : Int32) _ _ _ h hP hS (lv_sub hl [1, 3, 4, 5, 6] rfl)
      · replace h := if_f cc_4 h
        refine lv_iconst (v := 1) hx hb dX3_firstFaultOfParts_116 (by decide) ?_
        refine lv_goto (tgt := 121) hx hb dX3_firstFaultOfParts_117 (by decide) ?_
        exact J_121 kk10 hk10 v2 v4 v5 v6 v1 (1 : Int32) _ _ _ h hP hS (lv_sub hl [1, 3, 4, 5, 6] rfl)
    · replace h := if_f cc_3 h
      refine lv_iload hx hb dX3_firstFaultOfParts_107 (lv_at hl 0 rfl) ?_
      cases h
      exact W.iret hx hb hr (fun t ht _ => ⟨⟨_, (), rfl, rfl, by rw [ht]; exact hP⟩, hS.F ht⟩) hS.2.2 dX3_firstFaultOfParts_109
  have J_78 : ∀ (kk10 : Int32 → Int32 → Int32 → Option (Int32)) (hk10 : ∀ (v1 : Int32) (v2 : Int32) (v4 : Int32) (H : Heap) (locs : List Loc) (ls : Array Slot), kk10 v1 v2 v4 = some r_ → va_P G.1 vwCl (W_S G s0 s1 S_len S_let) H → va_S A s.heap H locs → lv_has ls 8 [(0, .ref s0), (1, .int v1), (2, .int v2), (4, .int v4)] → W p l e (rmv 3 63) s m (List.toArray [.ref s0]) below meth c H locs 0 0 (MQ below ((QI G r_ (W_S G s0 s1 S_len S_let)) A) (List.toArray [.ref s0]) s 0 0 A) (F0 m 10 ls [])), ∀ (v1 : Int32) (v2 : Int32) (v4 : Int32) (v5 : Int32) (v6 : Int32) (H : Heap) (locs : List Loc) (ls : Array Slot), f_X3_firstFaultOfParts_78 S_len S_let kk10 v1 v2 v4 v5 v6 = some r_ → va_P G.1 vwCl (W_S G s0 s1 S_len S_let) H → va_S A s.heap H locs → lv_has ls 8 [(0, .ref s0), (1, .int v1), (2, .int v2), (4, .int v4), (5, .int v5), (6, .int v6)] → W p l e (rmv 3 63) s m (List.toArray [.ref s0]) below meth c H locs 0 0 (MQ below ((QI G r_ (W_S G s0 s1 S_len S_let)) A) (List.toArray [.ref s0]) s 0 0 A) (F0 m 78 ls []) := by
    intro kk10 hk10 v1 v2 v4 v5 v6 H locs ls h hP hS hl
    unfold f_X3_firstFaultOfParts_78 at h
    refine lv_iload hx hb dX3_firstFaultOfParts_78 (lv_at hl 4 rfl) ?_
    refine lv_if_eq (tgt := 92) hx hb dX3_firstFaultOfParts_80 (by decide) (fun cc_5 => ?_) (fun cc_5 => ?_)
    · replace h := if_t cc_5 h
      refine lv_aload_n hx hb dX3_firstFaultOfParts_92 rfl (lv_at hl 0 rfl) ?_
      refine lv_iload hx hb dX3_firstFaultOfParts_93 (lv_at hl 3 rfl) ?_
      obtain ⟨rr_6, ee_7, h⟩ := bnd1_s h
      refine cVi (As := [.int v4]) (rest := []) S0 hK hA (va_D_same hD rfl) hP hS [0, 1] (k_X3_faultOfFall l G s0 s1 S_len S_let v4 rr_6 ee_7) cw_X3_faultOfFall rfl rfl (Nat.le_of_ble_eq_true rfl) 3 0 rfl rfl rfl rfl hl.1 rfl (Nat.le_of_ble_eq_true rfl) dX3_firstFaultOfParts_95 ⟨Nat.zero_le _, Nat.zero_le _⟩ (fun H locs hP hS => ?_)
      replace hP : va_P G.1 vwCl (W_S G s0 s1 S_len S_let) H := hP
      exact J_98 kk10 hk10 v1 v2 v4 v5 v6 rr_6 _ _ _ h hP hS (lv_sub hl [0, 1, 2, 3, 4, 5] rfl)
    · replace h := if_f cc_5 h
      refine lv_aload_n hx hb dX3_firstFaultOfParts_83 rfl (lv_at hl 0 rfl) ?_
      refine lv_iload hx hb dX3_firstFaultOfParts_84 (lv_at hl 3 rfl) ?_
      obtain ⟨rr_8, ee_9, h⟩ := bnd1_s h
      refine cVi (As := [.int v4]) (rest := []) S0 hK hA (va_D_same hD rfl) hP hS [0, 1] (k_X3_faultOfBroom l G s0 s1 S_len S_let v4 rr_8 ee_9) cw_X3_faultOfBroom rfl rfl (Nat.le_of_ble_eq_true rfl) 3 0 rfl rfl rfl rfl hl.1 rfl (Nat.le_of_ble_eq_true rfl) dX3_firstFaultOfParts_86 ⟨Nat.zero_le _, Nat.zero_le _⟩ (fun H locs hP hS => ?_)
      replace hP : va_P G.1 vwCl (W_S G s0 s1 S_len S_let) H := hP
      refine lv_goto (tgt := 98) hx hb dX3_firstFaultOfParts_89 (by decide) ?_
      exact J_98 kk10 hk10 v1 v2 v4 v5 v6 rr_8 _ _ _ h hP hS (lv_sub hl [0, 1, 2, 3, 4, 5] rfl)
  have J_63 : ∀ (kk10 : Int32 → Int32 → Int32 → Option (Int32)) (hk10 : ∀ (v1 : Int32) (v2 : Int32) (v4 : Int32) (H : Heap) (locs : List Loc) (ls : Array Slot), kk10 v1 v2 v4 = some r_ → va_P G.1 vwCl (W_S G s0 s1 S_len S_let) H → va_S A s.heap H locs → lv_has ls 8 [(0, .ref s0), (1, .int v1), (2, .int v2), (4, .int v4)] → W p l e (rmv 3 63) s m (List.toArray [.ref s0]) below meth c H locs 0 0 (MQ below ((QI G r_ (W_S G s0 s1 S_len S_let)) A) (List.toArray [.ref s0]) s 0 0 A) (F0 m 10 ls [])), ∀ (v1 : Int32) (v2 : Int32) (v4 : Int32) (v5 : Int32) (q0 : Int32) (H : Heap) (locs : List Loc) (ls : Array Slot), f_X3_firstFaultOfParts_63 S_len S_let kk10 v1 v2 v4 v5 q0 = some r_ → va_P G.1 vwCl (W_S G s0 s1 S_len S_let) H → va_S A s.heap H locs → lv_has ls 8 [(0, .ref s0), (1, .int v1), (2, .int v2), (4, .int v4), (5, .int v5)] → W p l e (rmv 3 63) s m (List.toArray [.ref s0]) below meth c H locs 0 0 (MQ below ((QI G r_ (W_S G s0 s1 S_len S_let)) A) (List.toArray [.ref s0]) s 0 0 A) (F0 m 63 ls [.int q0]) := by
    intro kk10 hk10 v1 v2 v4 v5 q0 H locs ls h hP hS hl
    unfold f_X3_firstFaultOfParts_63 at h
    refine lv_istore (lv' := [(6, .int q0), (0, .ref s0), (1, .int v1), (2, .int v2), (4, .int v4), (5, .int v5)]) hx hb dX3_firstFaultOfParts_63 hl (by decide) rfl (fun ls hl => ?_)
    refine lv_iload hx hb dX3_firstFaultOfParts_65 (lv_at hl 5 rfl) ?_
    refine lv_if_ne (tgt := 78) hx hb dX3_firstFaultOfParts_67 (by decide) (fun cc_10 => ?_) (fun cc_10 => ?_)
    · replace h := if_f cc_10 h
      exact J_78 kk10 hk10 v1 v2 v4 v5 q0 _ _ _ h hP hS (lv_sub hl [1, 2, 3, 4, 5, 0] rfl)
    · replace h := if_t cc_10 h
      refine lv_iload hx hb dX3_firstFaultOfParts_70 (lv_at hl 0 rfl) ?_
      refine lv_if_ne (tgt := 78) hx hb dX3_firstFaultOfParts_72 (by decide) (fun cc_11 => ?_) (fun cc_11 => ?_)
      · replace h := if_f cc_11 h
        exact J_78 kk10 hk10 v1 v2 v4 v5 q0 _ _ _ h hP hS (lv_sub hl [1, 2, 3, 4, 5, 0] rfl)
      · replace h := if_t cc_11 h
        refine lv_iload hx hb dX3_firstFaultOfParts_75 (lv_at hl 4 rfl) ?_
        cases h
        exact W.iret hx hb hr (fun t ht _ => ⟨⟨_, (), rfl, rfl, by rw [ht]; exact hP⟩, hS.F ht⟩) hS.2.2 dX3_firstFaultOfParts_77
  have J_62 : ∀ (kk10 : Int32 → Int32 → Int32 → Option (Int32)) (hk10 : ∀ (v1 : Int32) (v2 : Int32) (v4 : Int32) (H : Heap) (locs : List Loc) (ls : Array Slot), kk10 v1 v2 v4 = some r_ → va_P G.1 vwCl (W_S G s0 s1 S_len S_let) H → va_S A s.heap H locs → lv_has ls 8 [(0, .ref s0), (1, .int v1), (2, .int v2), (4, .int v4)] → W p l e (rmv 3 63) s m (List.toArray [.ref s0]) below meth c H locs 0 0 (MQ below ((QI G r_ (W_S G s0 s1 S_len S_let)) A) (List.toArray [.ref s0]) s 0 0 A) (F0 m 10 ls [])), ∀ (v1 : Int32) (v2 : Int32) (v4 : Int32) (v5 : Int32) (H : Heap) (locs : List Loc) (ls : Array Slot), f_X3_firstFaultOfParts_62 S_len S_let kk10 v1 v2 v4 v5 = some r_ → va_P G.1 vwCl (W_S G s0 s1 S_len S_let) H → va_S A s.heap H locs → lv_has ls 8 [(0, .ref s0), (1, .int v1), (2, .int v2), (4, .int v4), (5, .int v5)] → W p l e (rmv 3 63) s m (List.toArray [.ref s0]) below meth c H locs 0 0 (MQ below ((QI G r_ (W_S G s0 s1 S_len S_let)) A) (List.toArray [.ref s0]) s 0 0 A) (F0 m 62 ls []) := by
    intro kk10 hk10 v1 v2 v4 v5 H locs ls h hP hS hl
    unfold f_X3_firstFaultOfParts_62 at h
    refine lv_iconst (v := 0) hx hb dX3_firstFaultOfParts_62 (by decide) ?_
    exact J_63 kk10 hk10 v1 v2 v4 v5 (0 : Int32) _ _ _ h hP hS (lv_sub hl [0, 1, 2, 3, 4] rfl)
  have J_40 : ∀ (kk10 : Int32 → Int32 → Int32 → Option (Int32)) (hk10 : ∀ (v1 : Int32) (v2 : Int32) (v4 : Int32) (H : Heap) (locs : List Loc) (ls : Array Slot), kk10 v1 v2 v4 = some r_ → va_P G.1 vwCl (W_S G s0 s1 S_len S_let) H → va_S A s.heap H locs → lv_has ls 8 [(0, .ref s0), (1, .int v1), (2, .int v2), (4, .int v4)] → W p l e (rmv 3 63) s m (List.toArray [.ref s0]) below meth c H locs 0 0 (MQ below ((QI G r_ (W_S G s0 s1 S_len S_let)) A) (List.toArray [.ref s0]) s 0 0 A) (F0 m 10 ls [])), ∀ (v1 : Int32) (v2 : Int32) (v4 : Int32) (q0 : Int32) (H : Heap) (locs : List Loc) (ls : Array Slot), f_X3_firstFaultOfParts_40 S_len S_let kk10 v1 v2 v4 q0 = some r_ → va_P G.1 vwCl (W_S G s0 s1 S_len S_let) H → va_S A s.heap H locs → lv_has ls 8 [(0, .ref s0), (1, .int v1), (2, .int v2), (4, .int v4)] → W p l e (rmv 3 63) s m (List.toArray [.ref s0]) below meth c H locs 0 0 (MQ below ((QI G r_ (W_S G s0 s1 S_len S_let)) A) (List.toArray [.ref s0]) s 0 0 A) (F0 m 40 ls [.int q0]) := by
    intro kk10 hk10 v1 v2 v4 q0 H locs ls h hP hS hl
    unfold f_X3_firstFaultOfParts_40 at h
    refine lv_istore (lv' := [(5, .int q0), (0, .ref s0), (1, .int v1), (2, .int v2), (4, .int v4)]) hx hb dX3_firstFaultOfParts_40 hl (by decide) rfl (fun ls hl => ?_)
    refine lv_aload_n hx hb dX3_firstFaultOfParts_42 rfl (lv_at hl 1 rfl) ?_
    refine lv_iload hx hb dX3_firstFaultOfParts_43 (lv_at hl 4 rfl) ?_
    obtain ⟨rr_12, ee_13, h⟩ := bnd1_s h
    refine cVi (As := [.int v4]) (rest := []) S0 hK hA (va_D_same hD rfl) hP hS [0, 1] (k_X3_letterAt l G s0 s1 S_len S_let v4 rr_12 ee_13) cw_X3_letterAt rfl rfl (Nat.le_of_ble_eq_true rfl) 3 0 rfl rfl rfl rfl hl.1 rfl (Nat.le_of_ble_eq_true rfl) dX3_firstFaultOfParts_45 ⟨Nat.zero_le _, Nat.zero_le _⟩ (fun H locs hP hS => ?_)
    replace hP : va_P G.1 vwCl (W_S G s0 s1 S_len S_let) H := hP
    refine lv_bipush (v := 70) hx hb dX3_firstFaultOfParts_48 (by decide) ?_
    refine lv_icmp_ne (tgt := 62) hx hb dX3_firstFaultOfParts_50 (by decide) (fun cc_14 => ?_) (fun cc_14 => ?_)
    · replace h := if_f cc_14 h
      exact J_62 kk10 hk10 v1 v2 v4 q0 _ _ _ h hP hS (lv_sub hl [1, 2, 3, 4, 0] rfl)
    · replace h := if_t cc_14 h
      refine lv_iload_n hx hb dX3_firstFaultOfParts_53 rfl (lv_at hl 3 rfl) ?_
      refine lv_iconst (v := 5) hx hb dX3_firstFaultOfParts_54 (by decide) ?_
      refine lv_icmp_ge (tgt := 62) hx hb dX3_firstFaultOfParts_55 (by decide) (fun cc_15 => ?_) (fun cc_15 => ?_)
      · replace h := if_t cc_15 h
        exact J_62 kk10 hk10 v1 v2 v4 q0 _ _ _ h hP hS (lv_sub hl [1, 2, 3, 4, 0] rfl)
      · replace h := if_f cc_15 h
        refine lv_iconst (v := 1) hx hb dX3_firstFaultOfParts_58 (by decide) ?_
        refine lv_goto (tgt := 63) hx hb dX3_firstFaultOfParts_59 (by decide) ?_
        exact J_63 kk10 hk10 v1 v2 v4 q0 (1 : Int32) _ _ _ h hP hS (lv_sub hl [1, 2, 3, 4, 0] rfl)
  have J_39 : ∀ (kk10 : Int32 → Int32 → Int32 → Option (Int32)) (hk10 : ∀ (v1 : Int32) (v2 : Int32) (v4 : Int32) (H : Heap) (locs : List Loc) (ls : Array Slot), kk10 v1 v2 v4 = some r_ → va_P G.1 vwCl (W_S G s0 s1 S_len S_let) H → va_S A s.heap H locs → lv_has ls 8 [(0, .ref s0), (1, .int v1), (2, .int v2), (4, .int v4)] → W p l e (rmv 3 63) s m (List.toArray [.ref s0]) below meth c H locs 0 0 (MQ below ((QI G r_ (W_S G s0 s1 S_len S_let)) A) (List.toArray [.ref s0]) s 0 0 A) (F0 m 10 ls [])), ∀ (v1 : Int32) (v2 : Int32) (v4 : Int32) (H : Heap) (locs : List Loc) (ls : Array Slot), f_X3_firstFaultOfParts_39 S_len S_let kk10 v1 v2 v4 = some r_ → va_P G.1 vwCl (W_S G s0 s1 S_len S_let) H → va_S A s.heap H locs → lv_has ls 8 [(0, .ref s0), (1, .int v1), (2, .int v2), (4, .int v4)] → W p l e (rmv 3 63) s m (List.toArray [.ref s0]) below meth c H locs 0 0 (MQ below ((QI G r_ (W_S G s0 s1 S_len S_let)) A) (List.toArray [.ref s0]) s 0 0 A) (F0 m 39 ls []) := by
    intro kk10 hk10 v1 v2 v4 H locs ls h hP hS hl
    unfold f_X3_firstFaultOfParts_39 at h
    refine lv_iconst (v := 0) hx hb dX3_firstFaultOfParts_39 (by decide) ?_
    exact J_40 kk10 hk10 v1 v2 v4 (0 : Int32) _ _ _ h hP hS (lv_sub hl [0, 1, 2, 3] rfl)
  have J_10 : ∀ (fu : Nat), ∀ (v1 : Int32) (v2 : Int32) (v4 : Int32) (H : Heap) (locs : List Loc) (ls : Array Slot), f_X3_firstFaultOfParts_10 S_len S_let fu v1 v2 v4 = some r_ → va_P G.1 vwCl (W_S G s0 s1 S_len S_let) H → va_S A s.heap H locs → lv_has ls 8 [(0, .ref s0), (1, .int v1), (2, .int v2), (4, .int v4)] → W p l e (rmv 3 63) s m (List.toArray [.ref s0]) below meth c H locs 0 0 (MQ below ((QI G r_ (W_S G s0 s1 S_len S_let)) A) (List.toArray [.ref s0]) s 0 0 A) (F0 m 10 ls []) := by
    intro  fu
    induction fu with
    | zero =>
      intro v1 v2 v4 H locs ls h
      cases h
    | succ fu ih =>
      intro v1 v2 v4 H locs ls h hP hS hl
      rw [f_X3_firstFaultOfParts_10] at h
      refine lv_iload hx hb dX3_firstFaultOfParts_10 (lv_at hl 3 rfl) ?_
      refine lv_aload_n hx hb dX3_firstFaultOfParts_12 rfl (lv_at hl 0 rfl) ?_
      refine va_get (ci := 3) (C := RX3) (T := TX3) (N := 2) hx hb hts inX3 hown hK.1 hP 0 rfl rfl 1 (by decide) fl15 (fun _ h9 => h9) rfl dX3_firstFaultOfParts_13 ?_
      refine lv_icmp_ge (tgt := 156) hx hb dX3_firstFaultOfParts_16 (by decide) (fun cc_16 => ?_) (fun cc_16 => ?_)
      · replace h := if_t cc_16 h
        refine lv_bipush (v := (-9)) hx hb dX3_firstFaultOfParts_156 (by decide) ?_
        cases h
        exact W.iret hx hb hr (fun t ht _ => ⟨⟨_, (), rfl, rfl, by rw [ht]; exact hP⟩, hS.F ht⟩) hS.2.2 dX3_firstFaultOfParts_158
      · replace h := if_f cc_16 h
        refine lv_aload_n hx hb dX3_firstFaultOfParts_19 rfl (lv_at hl 0 rfl) ?_
        refine lv_iload hx hb dX3_firstFaultOfParts_20 (lv_at hl 3 rfl) ?_
        obtain ⟨rr_17, ee_18, h⟩ := bnd1_s h
        refine cVi (As := [.int v4]) (rest := []) S0 hK hA (va_D_same hD rfl) hP hS [0, 1] (k_X3_letterAt l G s0 s1 S_len S_let v4 rr_17 ee_18) cw_X3_letterAt rfl rfl (Nat.le_of_ble_eq_true rfl) 3 0 rfl rfl rfl rfl hl.1 rfl (Nat.le_of_ble_eq_true rfl) dX3_firstFaultOfParts_22 ⟨Nat.zero_le _, Nat.zero_le _⟩ (fun H locs hP hS => ?_)
        replace hP : va_P G.1 vwCl (W_S G s0 s1 S_len S_let) H := hP
        refine lv_bipush (v := 78) hx hb dX3_firstFaultOfParts_25 (by decide) ?_
        refine lv_icmp_ne (tgt := 39) hx hb dX3_firstFaultOfParts_27 (by decide) (fun cc_19 => ?_) (fun cc_19 => ?_)
        · replace h := if_f cc_19 h
          exact J_39 (f_X3_firstFaultOfParts_10 S_len S_let fu) ih v1 v2 v4 _ _ _ h hP hS (lv_sub hl [0, 1, 2, 3] rfl)
        · replace h := if_t cc_19 h
          refine lv_iload_n hx hb dX3_firstFaultOfParts_30 rfl (lv_at hl 1 rfl) ?_
          refine lv_iconst (v := 5) hx hb dX3_firstFaultOfParts_31 (by decide) ?_
          refine lv_icmp_ge (tgt := 39) hx hb dX3_firstFaultOfParts_32 (by decide) (fun cc_20 => ?_) (fun cc_20 => ?_)
          · replace h := if_t cc_20 h
            exact J_39 (f_X3_firstFaultOfParts_10 S_len S_let fu) ih v1 v2 v4 _ _ _ h hP hS (lv_sub hl [0, 1, 2, 3] rfl)
          · replace h := if_f cc_20 h
            refine lv_iconst (v := 1) hx hb dX3_firstFaultOfParts_35 (by decide) ?_
            refine lv_goto (tgt := 40) hx hb dX3_firstFaultOfParts_36 (by decide) ?_
            exact J_40 (f_X3_firstFaultOfParts_10 S_len S_let fu) ih v1 v2 v4 (1 : Int32) _ _ _ h hP hS (lv_sub hl [0, 1, 2, 3] rfl)
  unfold f_X3_firstFaultOfParts at h
  refine lv_iconst (v := 0) hx hb dX3_firstFaultOfParts_0 (by decide) ?_
  refine lv_istore_n (lv' := [(1, .int (0 : Int32)), (0, .ref s0)]) hx hb dX3_firstFaultOfParts_1 rfl hl (by decide) rfl (fun ls hl => ?_)
  refine lv_iconst (v := 0) hx hb dX3_firstFaultOfParts_2 (by decide) ?_
  refine lv_istore_n (lv' := [(2, .int (0 : Int32)), (1, .int (0 : Int32)), (0, .ref s0)]) hx hb dX3_firstFaultOfParts_3 rfl hl (by decide) rfl (fun ls hl => ?_)
  refine lv_iconst (v := 0) hx hb dX3_firstFaultOfParts_4 (by decide) ?_
  refine lv_istore_n (lv' := [(3, .int (0 : Int32)), (2, .int (0 : Int32)), (1, .int (0 : Int32)), (0, .ref s0)]) hx hb dX3_firstFaultOfParts_5 rfl hl (by decide) rfl (fun ls hl => ?_)
  refine lv_bipush (v := 9) hx hb dX3_firstFaultOfParts_6 (by decide) ?_
  refine lv_istore (lv' := [(4, .int (9 : Int32)), (3, .int (0 : Int32)), (2, .int (0 : Int32)), (1, .int (0 : Int32)), (0, .ref s0)]) hx hb dX3_firstFaultOfParts_8 hl (by decide) rfl (fun ls hl => ?_)
  exact J_10  130 (0 : Int32) (0 : Int32) (9 : Int32) _ _ _ h hP hS (lv_sub hl [4, 3, 2, 0] rfl)
def f_X3_firstFault_14 (S_len : Int32) (S_let : Nat → Int32) : Nat → Int32 → Option (Int32)
  | 0, _ => none
  | fu + 1, v1 => if (9 : Int32) ≤ v1 then (bnd1 (f_X3_firstFaultOfParts S_len S_let) (fun rr_2 => some rr_2)) else (bnd1 (f_X3_figureAt S_len S_let v1) (fun rr_4 => bnd1 (f_X5_within rr_4 (0 : Int32) (9 : Int32)) (fun rr_6 => if rr_6 = 0 then (some v1) else (f_X3_firstFault_14 S_len S_let fu (v1 + 1)))))
def f_X3_firstFault (S_len : Int32) (S_let : Nat → Int32) : Option (Int32) := bnd1 (f_X3_letterAt S_len S_let (0 : Int32)) (fun rr_9 => if rr_9 = (66 : Int32) then (f_X3_firstFault_14 S_len S_let  130 (1 : Int32)) else (some (0 : Int32)))
set_option maxRecDepth 100000 in
set_option maxHeartbeats 4000000 in
theorem k_X3_firstFault (l : Launch) (G : Gt) (s0 s1 : Nat) (S_len : Int32) (S_let : Nat → Int32) (r_ : Int32) (h : f_X3_firstFault S_len S_let = some r_) : CT l yX3_firstFault wsX3_firstFault 4 90 G [.ref s0] (W_S G s0 s1 S_len S_let) (QI G r_ (W_S G s0 s1 S_len S_let)) := by
  refine met_of cX3_firstFault 2 (some .int) (by decide) rfl (Nat.le_of_ble_eq_true rfl) ?_
  intro p e s m below meth c A ls hx hb hr hml hts hown hlocks hK hA hD hP hS hl
  replace hown : s.vm.findClass RX3 = some m.cls := hown
  replace hl : lv_has ls 2 [(0, .ref s0)] := hl
  have S0 : CallFix p m c cX3_firstFault 2 s _ wsX3_firstFault RX3 := ⟨hx, hb, hml, hown, hts⟩
  have cw_X3_firstFaultOfParts := show CallW (rmv 4 90) s _ RX3 RX3 30 yX3_firstFaultOfParts cX3_firstFaultOfParts 8 (some .int) wsX3_firstFaultOfParts (rmv 3 63) 0 0 0 from cwV 0 hts gX3_firstFault_X3_firstFaultOfParts rfl rfl rfl (by decide +kernel) ⟨Nat.le_of_ble_eq_true rfl, Nat.le_of_ble_eq_true rfl⟩
  have cw_X3_figureAt := show CallW (rmv 4 90) s _ RX3 RX3 23 yX3_figureAt cX3_figureAt 2 (some .int) wsX3_figureAt (rmv 1 21) 0 0 1 from cwV 1 hts gX3_firstFault_X3_figureAt rfl rfl rfl (by decide +kernel) ⟨Nat.le_of_ble_eq_true rfl, Nat.le_of_ble_eq_true rfl⟩
  have cw_X5_within := show va_CN (rmv 4 90) s _ RX3 26 yX5_within "DustVote" cX5_within 3 (some .boolean) wsX5_within (rmv 0 0) 0 0 3 ∧ (Cond.static yX5_within).before _ s = true ∧ True from ⟨va_cnB 3 hts gX3_firstFault_X5_within_n26 rfl rfl rfl (hK.m (by decide)) (hts (.initialized RX5) (by decide +kernel)) (by decide +kernel) ⟨Nat.le_of_ble_eq_true rfl, Nat.le_of_ble_eq_true rfl⟩, hts (.static yX5_within) (by decide +kernel), trivial⟩
  have cw_X3_letterAt := show CallW (rmv 4 90) s _ RX3 RX3 19 yX3_letterAt cX3_letterAt 2 (some .int) wsX3_letterAt (rmv 0 0) 0 0 1 from cwV 1 hts gX3_firstFault_X3_letterAt rfl rfl rfl (by decide +kernel) ⟨Nat.le_of_ble_eq_true rfl, Nat.le_of_ble_eq_true rfl⟩
  have J_14 : ∀ (fu : Nat), ∀ (v1 : Int32) (H : Heap) (locs : List Loc) (ls : Array Slot), f_X3_firstFault_14 S_len S_let fu v1 = some r_ → va_P G.1 vwCl (W_S G s0 s1 S_len S_let) H → va_S A s.heap H locs → lv_has ls 2 [(0, .ref s0), (1, .int v1)] → W p l e (rmv 4 90) s m (List.toArray [.ref s0]) below meth c H locs 0 0 (MQ below ((QI G r_ (W_S G s0 s1 S_len S_let)) A) (List.toArray [.ref s0]) s 0 0 A) (F0 m 14 ls []) := by
    intro  fu
    induction fu with
    | zero =>
      intro v1 H locs ls h
      cases h
    | succ fu ih =>
      intro v1 H locs ls h hP hS hl
      rw [f_X3_firstFault_14] at h
      refine lv_iload_n hx hb dX3_firstFault_14 rfl (lv_at hl 1 rfl) ?_
      refine lv_bipush (v := 9) hx hb dX3_firstFault_15 (by decide) ?_
      refine lv_icmp_ge (tgt := 42) hx hb dX3_firstFault_17 (by decide) (fun cc_1 => ?_) (fun cc_1 => ?_)
      · replace h := if_t cc_1 h
        refine lv_aload_n hx hb dX3_firstFault_42 rfl (lv_at hl 0 rfl) ?_
        obtain ⟨rr_2, ee_3, h⟩ := bnd1_s h
        refine cVi (As := []) (rest := []) S0 hK hA (va_D_same hD rfl) hP hS [0, 1] (k_X3_firstFaultOfParts l G s0 s1 S_len S_let rr_2 ee_3) cw_X3_firstFaultOfParts rfl rfl (Nat.le_of_ble_eq_true rfl) 3 0 rfl rfl rfl rfl hl.1 rfl (Nat.le_of_ble_eq_true rfl) dX3_firstFault_43 ⟨Nat.zero_le _, Nat.zero_le _⟩ (fun H locs hP hS => ?_)
        replace hP : va_P G.1 vwCl (W_S G s0 s1 S_len S_let) H := hP
        cases h
        exact W.iret hx hb hr (fun t ht _ => ⟨⟨_, (), rfl, rfl, by rw [ht]; exact hP⟩, hS.F ht⟩) hS.2.2 dX3_firstFault_46
      · replace h := if_f cc_1 h
        refine lv_aload_n hx hb dX3_firstFault_20 rfl (lv_at hl 0 rfl) ?_
        refine lv_iload_n hx hb dX3_firstFault_21 rfl (lv_at hl 1 rfl) ?_
        obtain ⟨rr_4, ee_5, h⟩ := bnd1_s h
        refine cVi (As := [.int v1]) (rest := []) S0 hK hA (va_D_same hD rfl) hP hS [0, 1] (k_X3_figureAt l G s0 s1 S_len S_let v1 rr_4 ee_5) cw_X3_figureAt rfl rfl (Nat.le_of_ble_eq_true rfl) 3 0 rfl rfl rfl rfl hl.1 rfl (Nat.le_of_ble_eq_true rfl) dX3_firstFault_22 ⟨Nat.zero_le _, Nat.zero_le _⟩ (fun H locs hP hS => ?_)
        replace hP : va_P G.1 vwCl (W_S G s0 s1 S_len S_let) H := hP
        refine lv_iconst (v := 0) hx hb dX3_firstFault_25 (by decide) ?_
        refine lv_bipush (v := 9) hx hb dX3_firstFault_26 (by decide) ?_
        obtain ⟨rr_6, ee_7, h⟩ := bnd1_s h
        refine cNi (As := [.int rr_4, .int (0 : Int32), .int (9 : Int32)]) (rest := []) S0 hK hA (va_D_same hD rfl) hP hS [] (k_X5_within l G rr_4 (0 : Int32) (9 : Int32) rr_6 ee_7) cw_X5_within rfl rfl (Nat.le_of_ble_eq_true rfl) rfl hl.1 rfl (Nat.le_of_ble_eq_true rfl) dX3_firstFault_28 ⟨Nat.zero_le _, Nat.zero_le _⟩ (fun H locs hP hS => ?_)
        replace hP : va_P G.1 vwCl (W_S G s0 s1 S_len S_let) H := hP
        refine lv_if_ne (tgt := 36) hx hb dX3_firstFault_31 (by decide) (fun cc_8 => ?_) (fun cc_8 => ?_)
        · replace h := if_f cc_8 h
          refine lv_iinc (v := (v1 + 1)) (lv' := [(1, .int (v1 + 1)), (0, .ref s0)]) hx hb dX3_firstFault_36 hl (k := 1) rfl rfl (by decide) rfl (fun ls hl => ?_)
          refine lv_goto (tgt := 14) hx hb dX3_firstFault_39 (by decide) ?_
          exact ih (v1 + 1) _ _ _ h hP hS (lv_sub hl [1, 0] rfl)
        · replace h := if_t cc_8 h
          refine lv_iload_n hx hb dX3_firstFault_34 rfl (lv_at hl 1 rfl) ?_
          cases h
          exact W.iret hx hb hr (fun t ht _ => ⟨⟨_, (), rfl, rfl, by rw [ht]; exact hP⟩, hS.F ht⟩) hS.2.2 dX3_firstFault_35
  unfold f_X3_firstFault at h
  refine lv_aload_n hx hb dX3_firstFault_0 rfl (lv_at hl 0 rfl) ?_
  refine lv_iconst (v := 0) hx hb dX3_firstFault_1 (by decide) ?_
  obtain ⟨rr_9, ee_10, h⟩ := bnd1_s h
  refine cVi (As := [.int (0 : Int32)]) (rest := []) S0 hK hA (va_D_same hD rfl) hP hS [0, 1] (k_X3_letterAt l G s0 s1 S_len S_let (0 : Int32) rr_9 ee_10) cw_X3_letterAt rfl rfl (Nat.le_of_ble_eq_true rfl) 3 0 rfl rfl rfl rfl hl.1 rfl (Nat.le_of_ble_eq_true rfl) dX3_firstFault_2 ⟨Nat.zero_le _, Nat.zero_le _⟩ (fun H locs hP hS => ?_)
  replace hP : va_P G.1 vwCl (W_S G s0 s1 S_len S_let) H := hP
  refine lv_bipush (v := 66) hx hb dX3_firstFault_5 (by decide) ?_
  refine lv_icmp_eq (tgt := 12) hx hb dX3_firstFault_7 (by decide) (fun cc_11 => ?_) (fun cc_11 => ?_)
  · replace h := if_t cc_11 h
    refine lv_iconst (v := 1) hx hb dX3_firstFault_12 (by decide) ?_
    refine lv_istore_n (lv' := [(1, .int (1 : Int32)), (0, .ref s0)]) hx hb dX3_firstFault_13 rfl hl (by decide) rfl (fun ls hl => ?_)
    exact J_14  130 (1 : Int32) _ _ _ h hP hS (lv_sub hl [1, 0] rfl)
  · replace h := if_f cc_11 h
    refine lv_iconst (v := 0) hx hb dX3_firstFault_10 (by decide) ?_
    cases h
    exact W.iret hx hb hr (fun t ht _ => ⟨⟨_, (), rfl, rfl, by rw [ht]; exact hP⟩, hS.F ht⟩) hS.2.2 dX3_firstFault_11
def f_X5_fault (S_len : Int32) (S_let : Nat → Int32) : Option (Int32) := bnd1 (f_X3_firstFault S_len S_let) (fun rr_1 => some rr_1)
set_option maxRecDepth 100000 in
set_option maxHeartbeats 4000000 in
theorem k_X5_fault (l : Launch) (G : Gt) (x0 s0 s1 t0 t1 t2 t3 t4 t5 t6 n0 n1 n2 n3 r0 r1 r2 r3 a0 a1 p0 p1 p2 p3 k0 j0 : Nat) (X_ch : Int64) (S_len : Int32) (S_let : Nat → Int32) (T_br : Int32) (T_fa : Int32) (T_fd : Nat → Int32) (T_fp : Nat → Int32) (T_st : Nat → Int32) (T_kd : Nat → Int32) (T_fs : Nat → Int32) (T_fl : Nat → Int32) (N_gi : Int32) (N_be : Int32) (N_da : Int32) (N_du : Nat → Int32) (N_pl : Nat → Int32) (N_de : Nat → Int32) (R_gi : Int32) (R_be : Int32) (R_da : Int32) (R_du : Nat → Int32) (R_pl : Nat → Int32) (R_de : Nat → Int32) (A_fi : Int32) (A_si : Int32) (A_ce : Nat → Int32) (P_si : Int32) (P_be : Nat → Int32) (P_le : Nat → Int32) (P_go : Nat → Int32) (K_sl : Nat → Int32) (J_fi : Nat → Int32) (r_ : Int32) (h : f_X5_fault S_len S_let = some r_) : CT l yX5_fault wsX5_fault 5 111 G [.ref x0] (W_F G x0 s0 s1 t0 t1 t2 t3 t4 t5 t6 n0 n1 n2 n3 r0 r1 r2 r3 a0 a1 p0 p1 p2 p3 k0 j0 X_ch S_len S_let T_br T_fa T_fd T_fp T_st T_kd T_fs T_fl N_gi N_be N_da N_du N_pl N_de R_gi R_be R_da R_du R_pl R_de A_fi A_si A_ce P_si P_be P_le P_go K_sl J_fi) (QI G r_ (W_F G x0 s0 s1 t0 t1 t2 t3 t4 t5 t6 n0 n1 n2 n3 r0 r1 r2 r3 a0 a1 p0 p1 p2 p3 k0 j0 X_ch S_len S_let T_br T_fa T_fd T_fp T_st T_kd T_fs T_fl N_gi N_be N_da N_du N_pl N_de R_gi R_be R_da R_du R_pl R_de A_fi A_si A_ce P_si P_be P_le P_go K_sl J_fi)) := by
  refine met_of cX5_fault 1 (some .int) (by decide) rfl (Nat.le_of_ble_eq_true rfl) ?_
  intro p e s m below meth c A ls hx hb hr hml hts hown hlocks hK hA hD hP hS hl
  replace hown : s.vm.findClass RX5 = some m.cls := hown
  replace hl : lv_has ls 1 [(0, .ref x0)] := hl
  have S0 : CallFix p m c cX5_fault 1 s _ wsX5_fault RX5 := ⟨hx, hb, hml, hown, hts⟩
  have fl12 := hts (.fieldLink RX5 12 "DustVote" "script" "LDustVote$Script;") (by decide +kernel)
  have inX5 := show ∀ w ∈ wsX50, w ∈ wsX5_fault from by decide +kernel
  have cw_X3_firstFault := show CallW (rmv 5 111) s _ RX5 RX3 73 yX3_firstFault cX3_firstFault 2 (some .int) wsX3_firstFault (rmv 4 90) 0 0 0 from cwV 0 hts gX5_fault_X3_firstFault rfl rfl rfl (by decide +kernel) ⟨Nat.le_of_ble_eq_true rfl, Nat.le_of_ble_eq_true rfl⟩
  unfold f_X5_fault at h
  refine lv_aload_n hx hb dX5_fault_0 rfl (lv_at hl 0 rfl) ?_
  refine va_get (ci := 5) (C := RX5) (T := TX5) (N := 9) hx hb hts inX5 hown hK.1 hP 0 rfl rfl 0 (by decide) fl12 (fun _ h9 => h9) rfl dX5_fault_1 ?_
  obtain ⟨rr_1, ee_2, h⟩ := bnd1_s h
  refine cVi (As := []) (rest := []) S0 hK hA (va_D_same hD rfl) hP hS [1, 2] (k_X3_firstFault l G s0 s1 S_len S_let rr_1 ee_2) cw_X3_firstFault rfl rfl (Nat.le_of_ble_eq_true rfl) 3 0 rfl rfl rfl rfl hl.1 rfl (Nat.le_of_ble_eq_true rfl) dX5_fault_4 ⟨Nat.zero_le _, Nat.zero_le _⟩ (fun H locs hP hS => ?_)
  replace hP : va_P G.1 vwCl (W_F G x0 s0 s1 t0 t1 t2 t3 t4 t5 t6 n0 n1 n2 n3 r0 r1 r2 r3 a0 a1 p0 p1 p2 p3 k0 j0 X_ch S_len S_let T_br T_fa T_fd T_fp T_st T_kd T_fs T_fl N_gi N_be N_da N_du N_pl N_de R_gi R_be R_da R_du R_pl R_de A_fi A_si A_ce P_si P_be P_le P_go K_sl J_fi) H := hP
  cases h
  exact W.iret hx hb hr (fun t ht _ => ⟨⟨_, (), rfl, rfl, by rw [ht]; exact hP⟩, hS.F ht⟩) hS.2.2 dX5_fault_7
def f_X4_addBroom (T_br : Int32) (T_fp : Nat → Int32) (T_st : Nat → Int32) (T_kd : Nat → Int32) (S_len : Int32) (S_let : Nat → Int32) (u2 : Int32) : Option (Int32 × (Nat → Int32) × (Nat → Int32) × (Nat → Int32)) := if (5 : Int32) ≤ T_br then (some (T_br, T_fp, T_st, T_kd)) else (bnd1 (f_X3_figureAt S_len S_let (u2 + (1 : Int32))) (fun rr_2 => bnd1 (wr T_fp 5 T_br rr_2) (fun dd_4 => bnd1 (f_X3_figureAt S_len S_let (u2 + (2 : Int32))) (fun rr_6 => bnd1 (wr T_st 5 T_br rr_6) (fun dd_8 => bnd1 (f_X3_figureAt S_len S_let (u2 + (3 : Int32))) (fun rr_10 => bnd1 (wr T_kd 5 T_br rr_10) (fun dd_12 => some ((T_br + (1 : Int32)), dd_4, dd_8, dd_12))))))))
set_option maxRecDepth 100000 in
set_option maxHeartbeats 4000000 in
theorem k_X4_addBroom (l : Launch) (G : Gt) (t0 t1 t2 t3 t4 t5 t6 s0 s1 : Nat) (T_br : Int32) (T_fa : Int32) (T_fd : Nat → Int32) (T_fp : Nat → Int32) (T_st : Nat → Int32) (T_kd : Nat → Int32) (T_fs : Nat → Int32) (T_fl : Nat → Int32) (S_len : Int32) (S_let : Nat → Int32) (u2 : Int32) (o_T_br : Int32) (o_T_fp : Nat → Int32) (o_T_st : Nat → Int32) (o_T_kd : Nat → Int32) (h : f_X4_addBroom T_br T_fp T_st T_kd S_len S_let u2 = some (o_T_br, o_T_fp, o_T_st, o_T_kd)) : CT l yX4_addBroom wsX4_addBroom 2 42 G [.ref t0, .ref s0, .int u2] (W_TS G t0 t1 t2 t3 t4 t5 t6 s0 s1 T_br T_fa T_fd T_fp T_st T_kd T_fs T_fl S_len S_let) (QV G (W_TS G t0 t1 t2 t3 t4 t5 t6 s0 s1 o_T_br T_fa T_fd o_T_fp o_T_st o_T_kd T_fs T_fl S_len S_let)) := by
  refine met_of cX4_addBroom 3 none (by decide) rfl (Nat.le_of_ble_eq_true rfl) ?_
  intro p e s m below meth c A ls hx hb hr hml hts hown hlocks hK hA hD hP hS hl
  replace hown : s.vm.findClass RX4 = some m.cls := hown
  replace hl : lv_has ls 3 [(0, .ref t0), (1, .ref s0), (2, .int u2)] := hl
  have S0 : CallFix p m c cX4_addBroom 3 s _ wsX4_addBroom RX4 := ⟨hx, hb, hml, hown, hts⟩
  have fl30 := hts (.fieldLink RX4 30 "DustVote$Told" "brooms" "I") (by decide +kernel)
  have inX4 := show ∀ w ∈ wsX40, w ∈ wsX4_addBroom from by decide +kernel
  have fl15 := hts (.fieldLink RX4 15 "DustVote$Told" "firstPlace" "[I") (by decide +kernel)
  have cw_X3_figureAt := show CallW (rmv 2 42) s _ RX4 RX3 37 yX3_figureAt cX3_figureAt 2 (some .int) wsX3_figureAt (rmv 1 21) 0 0 1 from cwV 1 hts gX4_addBroom_X3_figureAt rfl rfl rfl (by decide +kernel) ⟨Nat.le_of_ble_eq_true rfl, Nat.le_of_ble_eq_true rfl⟩
  have fl18 := hts (.fieldLink RX4 18 "DustVote$Told" "strength" "[I") (by decide +kernel)
  have fl21 := hts (.fieldLink RX4 21 "DustVote$Told" "kind" "[I") (by decide +kernel)
  unfold f_X4_addBroom at h
  refine lv_aload_n hx hb dX4_addBroom_0 rfl (lv_at hl 0 rfl) ?_
  refine va_get (ci := 4) (C := RX4) (T := TX4) (N := 8) hx hb hts inX4 hown hK.1 hP 0 rfl rfl 6 (by decide) fl30 (fun _ h9 => h9) rfl dX4_addBroom_1 ?_
  refine lv_iconst (v := 5) hx hb dX4_addBroom_4 (by decide) ?_
  refine lv_icmp_ge (tgt := 66) hx hb dX4_addBroom_5 (by decide) (fun cc_1 => ?_) (fun cc_1 => ?_)
  · replace h := if_t cc_1 h
    cases h
    exact W.vret hx hb hr (fun t ht _ => ⟨⟨(), rfl, trivial, by rw [ht]; exact hP⟩, hS.F ht⟩) hS.2.2 dX4_addBroom_66
  · replace h := if_f cc_1 h
    refine lv_aload_n hx hb dX4_addBroom_8 rfl (lv_at hl 0 rfl) ?_
    refine va_get (ci := 4) (C := RX4) (T := TX4) (N := 8) hx hb hts inX4 hown hK.1 hP 0 rfl rfl 1 (by decide) fl15 (fun _ h9 => h9) rfl dX4_addBroom_9 ?_
    refine lv_aload_n hx hb dX4_addBroom_12 rfl (lv_at hl 0 rfl) ?_
    refine va_get (ci := 4) (C := RX4) (T := TX4) (N := 8) hx hb hts inX4 hown hK.1 hP 0 rfl rfl 6 (by decide) fl30 (fun _ h9 => h9) rfl dX4_addBroom_13 ?_
    refine lv_aload_n hx hb dX4_addBroom_16 rfl (lv_at hl 1 rfl) ?_
    refine lv_iload_n hx hb dX4_addBroom_17 rfl (lv_at hl 2 rfl) ?_
    refine lv_iconst (v := 1) hx hb dX4_addBroom_18 (by decide) ?_
    refine lv_iadd hx hb dX4_addBroom_19 ?_
    obtain ⟨rr_2, ee_3, h⟩ := bnd1_s h
    refine cVi (As := [.int (u2 + (1 : Int32))]) (rest := [.int T_br, .ref t2]) S0 hK hA (va_D_same hD rfl) hP hS [7, 8] (k_X3_figureAt l G s0 s1 S_len S_let (u2 + (1 : Int32)) rr_2 ee_3) cw_X3_figureAt rfl rfl (Nat.le_of_ble_eq_true rfl) 3 0 rfl rfl rfl rfl hl.1 rfl (Nat.le_of_ble_eq_true rfl) dX4_addBroom_20 ⟨Nat.zero_le _, Nat.zero_le _⟩ (fun H locs hP hS => ?_)
    replace hP : va_P G.1 vwCl (W_TS G t0 t1 t2 t3 t4 t5 t6 s0 s1 T_br T_fa T_fd T_fp T_st T_kd T_fs T_fl S_len S_let) H := hP
    obtain ⟨dd_4, ee_5, h⟩ := bnd1_s h
    refine wIast hx hb hK hP (va_D_same hD rfl) hS 2 rfl ee_5 dX4_addBroom_23 (fun H locs hP hS => ?_)
    replace hP : va_P G.1 vwCl (W_TS G t0 t1 t2 t3 t4 t5 t6 s0 s1 T_br T_fa T_fd dd_4 T_st T_kd T_fs T_fl S_len S_let) H := hP
    refine lv_aload_n hx hb dX4_addBroom_24 rfl (lv_at hl 0 rfl) ?_
    refine va_get (ci := 4) (C := RX4) (T := TX4) (N := 8) hx hb hts inX4 hown hK.1 hP 0 rfl rfl 2 (by decide) fl18 (fun _ h9 => h9) rfl dX4_addBroom_25 ?_
    refine lv_aload_n hx hb dX4_addBroom_28 rfl (lv_at hl 0 rfl) ?_
    refine va_get (ci := 4) (C := RX4) (T := TX4) (N := 8) hx hb hts inX4 hown hK.1 hP 0 rfl rfl 6 (by decide) fl30 (fun _ h9 => h9) rfl dX4_addBroom_29 ?_
    refine lv_aload_n hx hb dX4_addBroom_32 rfl (lv_at hl 1 rfl) ?_
    refine lv_iload_n hx hb dX4_addBroom_33 rfl (lv_at hl 2 rfl) ?_
    refine lv_iconst (v := 2) hx hb dX4_addBroom_34 (by decide) ?_
    refine lv_iadd hx hb dX4_addBroom_35 ?_
    obtain ⟨rr_6, ee_7, h⟩ := bnd1_s h
    refine cVi (As := [.int (u2 + (2 : Int32))]) (rest := [.int T_br, .ref t3]) S0 hK hA (va_D_same hD rfl) hP hS [7, 8] (k_X3_figureAt l G s0 s1 S_len S_let (u2 + (2 : Int32)) rr_6 ee_7) cw_X3_figureAt rfl rfl (Nat.le_of_ble_eq_true rfl) 3 0 rfl rfl rfl rfl hl.1 rfl (Nat.le_of_ble_eq_true rfl) dX4_addBroom_36 ⟨Nat.zero_le _, Nat.zero_le _⟩ (fun H locs hP hS => ?_)
    replace hP : va_P G.1 vwCl (W_TS G t0 t1 t2 t3 t4 t5 t6 s0 s1 T_br T_fa T_fd dd_4 T_st T_kd T_fs T_fl S_len S_let) H := hP
    obtain ⟨dd_8, ee_9, h⟩ := bnd1_s h
    refine wIast hx hb hK hP (va_D_same hD rfl) hS 3 rfl ee_9 dX4_addBroom_39 (fun H locs hP hS => ?_)
    replace hP : va_P G.1 vwCl (W_TS G t0 t1 t2 t3 t4 t5 t6 s0 s1 T_br T_fa T_fd dd_4 dd_8 T_kd T_fs T_fl S_len S_let) H := hP
    refine lv_aload_n hx hb dX4_addBroom_40 rfl (lv_at hl 0 rfl) ?_
    refine va_get (ci := 4) (C := RX4) (T := TX4) (N := 8) hx hb hts inX4 hown hK.1 hP 0 rfl rfl 3 (by decide) fl21 (fun _ h9 => h9) rfl dX4_addBroom_41 ?_
    refine lv_aload_n hx hb dX4_addBroom_44 rfl (lv_at hl 0 rfl) ?_
    refine va_get (ci := 4) (C := RX4) (T := TX4) (N := 8) hx hb hts inX4 hown hK.1 hP 0 rfl rfl 6 (by decide) fl30 (fun _ h9 => h9) rfl dX4_addBroom_45 ?_
    refine lv_aload_n hx hb dX4_addBroom_48 rfl (lv_at hl 1 rfl) ?_
    refine lv_iload_n hx hb dX4_addBroom_49 rfl (lv_at hl 2 rfl) ?_
    refine lv_iconst (v := 3) hx hb dX4_addBroom_50 (by decide) ?_
    refine lv_iadd hx hb dX4_addBroom_51 ?_
    obtain ⟨rr_10, ee_11, h⟩ := bnd1_s h
    refine cVi (As := [.int (u2 + (3 : Int32))]) (rest := [.int T_br, .ref t4]) S0 hK hA (va_D_same hD rfl) hP hS [7, 8] (k_X3_figureAt l G s0 s1 S_len S_let (u2 + (3 : Int32)) rr_10 ee_11) cw_X3_figureAt rfl rfl (Nat.le_of_ble_eq_true rfl) 3 0 rfl rfl rfl rfl hl.1 rfl (Nat.le_of_ble_eq_true rfl) dX4_addBroom_52 ⟨Nat.zero_le _, Nat.zero_le _⟩ (fun H locs hP hS => ?_)
    replace hP : va_P G.1 vwCl (W_TS G t0 t1 t2 t3 t4 t5 t6 s0 s1 T_br T_fa T_fd dd_4 dd_8 T_kd T_fs T_fl S_len S_let) H := hP
    obtain ⟨dd_12, ee_13, h⟩ := bnd1_s h
    refine wIast hx hb hK hP (va_D_same hD rfl) hS 4 rfl ee_13 dX4_addBroom_55 (fun H locs hP hS => ?_)
    replace hP : va_P G.1 vwCl (W_TS G t0 t1 t2 t3 t4 t5 t6 s0 s1 T_br T_fa T_fd dd_4 dd_8 dd_12 T_fs T_fl S_len S_let) H := hP
    refine lv_aload_n hx hb dX4_addBroom_56 rfl (lv_at hl 0 rfl) ?_
    refine lv_dup hx hb dX4_addBroom_57 rfl ?_
    refine va_get (ci := 4) (C := RX4) (T := TX4) (N := 8) hx hb hts inX4 hown hK.1 hP 0 rfl rfl 6 (by decide) fl30 (fun _ h9 => h9) rfl dX4_addBroom_58 ?_
    refine lv_iconst (v := 1) hx hb dX4_addBroom_61 (by decide) ?_
    refine lv_iadd hx hb dX4_addBroom_62 ?_
    refine va_put (ci := 4) (ty := .int) (C := RX4) (T := TX4) (N := 8) hx hb hts inX4 tyX4 tyX4_ok nmX4 hown hK.1 hP (va_D_same hD rfl) hS 0 rfl rfl 6 (by decide) fl30 (fun _ h9 => h9) rfl (by decide +kernel) rfl rfl (Nat.le_of_ble_eq_true rfl) dX4_addBroom_63 (fun H locs hP _ hS => ?_)
    replace hP : va_P G.1 vwCl (W_TS G t0 t1 t2 t3 t4 t5 t6 s0 s1 (T_br + (1 : Int32)) T_fa T_fd dd_4 dd_8 dd_12 T_fs T_fl S_len S_let) H := hP
    cases h
    exact W.vret hx hb hr (fun t ht _ => ⟨⟨(), rfl, trivial, by rw [ht]; exact hP⟩, hS.F ht⟩) hS.2.2 dX4_addBroom_66
def f_X4_addFall (T_fa : Int32) (T_fs : Nat → Int32) (T_fl : Nat → Int32) (S_len : Int32) (S_let : Nat → Int32) (u2 : Int32) : Option (Int32 × (Nat → Int32) × (Nat → Int32)) := if (5 : Int32) ≤ T_fa then (some (T_fa, T_fs, T_fl)) else (bnd1 (f_X3_figureAt S_len S_let (u2 + (1 : Int32))) (fun rr_2 => bnd1 (wr T_fs 5 T_fa rr_2) (fun dd_4 => bnd1 (f_X3_figureAt S_len S_let (u2 + (2 : Int32))) (fun rr_6 => bnd1 (wr T_fl 5 T_fa rr_6) (fun dd_8 => some ((T_fa + (1 : Int32)), dd_4, dd_8))))))
set_option maxRecDepth 100000 in
set_option maxHeartbeats 4000000 in
theorem k_X4_addFall (l : Launch) (G : Gt) (t0 t1 t2 t3 t4 t5 t6 s0 s1 : Nat) (T_br : Int32) (T_fa : Int32) (T_fd : Nat → Int32) (T_fp : Nat → Int32) (T_st : Nat → Int32) (T_kd : Nat → Int32) (T_fs : Nat → Int32) (T_fl : Nat → Int32) (S_len : Int32) (S_let : Nat → Int32) (u2 : Int32) (o_T_fa : Int32) (o_T_fs : Nat → Int32) (o_T_fl : Nat → Int32) (h : f_X4_addFall T_fa T_fs T_fl S_len S_let u2 = some (o_T_fa, o_T_fs, o_T_fl)) : CT l yX4_addFall wsX4_addFall 2 42 G [.ref t0, .ref s0, .int u2] (W_TS G t0 t1 t2 t3 t4 t5 t6 s0 s1 T_br T_fa T_fd T_fp T_st T_kd T_fs T_fl S_len S_let) (QV G (W_TS G t0 t1 t2 t3 t4 t5 t6 s0 s1 T_br o_T_fa T_fd T_fp T_st T_kd o_T_fs o_T_fl S_len S_let)) := by
  refine met_of cX4_addFall 3 none (by decide) rfl (Nat.le_of_ble_eq_true rfl) ?_
  intro p e s m below meth c A ls hx hb hr hml hts hown hlocks hK hA hD hP hS hl
  replace hown : s.vm.findClass RX4 = some m.cls := hown
  replace hl : lv_has ls 3 [(0, .ref t0), (1, .ref s0), (2, .int u2)] := hl
  have S0 : CallFix p m c cX4_addFall 3 s _ wsX4_addFall RX4 := ⟨hx, hb, hml, hown, hts⟩
  have fl34 := hts (.fieldLink RX4 34 "DustVote$Told" "falls" "I") (by decide +kernel)
  have inX4 := show ∀ w ∈ wsX40, w ∈ wsX4_addFall from by decide +kernel
  have fl24 := hts (.fieldLink RX4 24 "DustVote$Told" "fallStreet" "[I") (by decide +kernel)
  have cw_X3_figureAt := show CallW (rmv 2 42) s _ RX4 RX3 37 yX3_figureAt cX3_figureAt 2 (some .int) wsX3_figureAt (rmv 1 21) 0 0 1 from cwV 1 hts gX4_addFall_X3_figureAt rfl rfl rfl (by decide +kernel) ⟨Nat.le_of_ble_eq_true rfl, Nat.le_of_ble_eq_true rfl⟩
  have fl27 := hts (.fieldLink RX4 27 "DustVote$Told" "fallDust" "[I") (by decide +kernel)
  unfold f_X4_addFall at h
  refine lv_aload_n hx hb dX4_addFall_0 rfl (lv_at hl 0 rfl) ?_
  refine va_get (ci := 4) (C := RX4) (T := TX4) (N := 8) hx hb hts inX4 hown hK.1 hP 0 rfl rfl 7 (by decide) fl34 (fun _ h9 => h9) rfl dX4_addFall_1 ?_
  refine lv_iconst (v := 5) hx hb dX4_addFall_4 (by decide) ?_
  refine lv_icmp_ge (tgt := 50) hx hb dX4_addFall_5 (by decide) (fun cc_1 => ?_) (fun cc_1 => ?_)
  · replace h := if_t cc_1 h
    cases h
    exact W.vret hx hb hr (fun t ht _ => ⟨⟨(), rfl, trivial, by rw [ht]; exact hP⟩, hS.F ht⟩) hS.2.2 dX4_addFall_50
  · replace h := if_f cc_1 h
    refine lv_aload_n hx hb dX4_addFall_8 rfl (lv_at hl 0 rfl) ?_
    refine va_get (ci := 4) (C := RX4) (T := TX4) (N := 8) hx hb hts inX4 hown hK.1 hP 0 rfl rfl 4 (by decide) fl24 (fun _ h9 => h9) rfl dX4_addFall_9 ?_
    refine lv_aload_n hx hb dX4_addFall_12 rfl (lv_at hl 0 rfl) ?_
    refine va_get (ci := 4) (C := RX4) (T := TX4) (N := 8) hx hb hts inX4 hown hK.1 hP 0 rfl rfl 7 (by decide) fl34 (fun _ h9 => h9) rfl dX4_addFall_13 ?_
    refine lv_aload_n hx hb dX4_addFall_16 rfl (lv_at hl 1 rfl) ?_
    refine lv_iload_n hx hb dX4_addFall_17 rfl (lv_at hl 2 rfl) ?_
    refine lv_iconst (v := 1) hx hb dX4_addFall_18 (by decide) ?_
    refine lv_iadd hx hb dX4_addFall_19 ?_
    obtain ⟨rr_2, ee_3, h⟩ := bnd1_s h
    refine cVi (As := [.int (u2 + (1 : Int32))]) (rest := [.int T_fa, .ref t5]) S0 hK hA (va_D_same hD rfl) hP hS [7, 8] (k_X3_figureAt l G s0 s1 S_len S_let (u2 + (1 : Int32)) rr_2 ee_3) cw_X3_figureAt rfl rfl (Nat.le_of_ble_eq_true rfl) 3 0 rfl rfl rfl rfl hl.1 rfl (Nat.le_of_ble_eq_true rfl) dX4_addFall_20 ⟨Nat.zero_le _, Nat.zero_le _⟩ (fun H locs hP hS => ?_)
    replace hP : va_P G.1 vwCl (W_TS G t0 t1 t2 t3 t4 t5 t6 s0 s1 T_br T_fa T_fd T_fp T_st T_kd T_fs T_fl S_len S_let) H := hP
    obtain ⟨dd_4, ee_5, h⟩ := bnd1_s h
    refine wIast hx hb hK hP (va_D_same hD rfl) hS 5 rfl ee_5 dX4_addFall_23 (fun H locs hP hS => ?_)
    replace hP : va_P G.1 vwCl (W_TS G t0 t1 t2 t3 t4 t5 t6 s0 s1 T_br T_fa T_fd T_fp T_st T_kd dd_4 T_fl S_len S_let) H := hP
    refine lv_aload_n hx hb dX4_addFall_24 rfl (lv_at hl 0 rfl) ?_
    refine va_get (ci := 4) (C := RX4) (T := TX4) (N := 8) hx hb hts inX4 hown hK.1 hP 0 rfl rfl 5 (by decide) fl27 (fun _ h9 => h9) rfl dX4_addFall_25 ?_
    refine lv_aload_n hx hb dX4_addFall_28 rfl (lv_at hl 0 rfl) ?_
    refine va_get (ci := 4) (C := RX4) (T := TX4) (N := 8) hx hb hts inX4 hown hK.1 hP 0 rfl rfl 7 (by decide) fl34 (fun _ h9 => h9) rfl dX4_addFall_29 ?_
    refine lv_aload_n hx hb dX4_addFall_32 rfl (lv_at hl 1 rfl) ?_
    refine lv_iload_n hx hb dX4_addFall_33 rfl (lv_at hl 2 rfl) ?_
    refine lv_iconst (v := 2) hx hb dX4_addFall_34 (by decide) ?_
    refine lv_iadd hx hb dX4_addFall_35 ?_
    obtain ⟨rr_6, ee_7, h⟩ := bnd1_s h
    refine cVi (As := [.int (u2 + (2 : Int32))]) (rest := [.int T_fa, .ref t6]) S0 hK hA (va_D_same hD rfl) hP hS [7, 8] (k_X3_figureAt l G s0 s1 S_len S_let (u2 + (2 : Int32)) rr_6 ee_7) cw_X3_figureAt rfl rfl (Nat.le_of_ble_eq_true rfl) 3 0 rfl rfl rfl rfl hl.1 rfl (Nat.le_of_ble_eq_true rfl) dX4_addFall_36 ⟨Nat.zero_le _, Nat.zero_le _⟩ (fun H locs hP hS => ?_)
    replace hP : va_P G.1 vwCl (W_TS G t0 t1 t2 t3 t4 t5 t6 s0 s1 T_br T_fa T_fd T_fp T_st T_kd dd_4 T_fl S_len S_let) H := hP
    obtain ⟨dd_8, ee_9, h⟩ := bnd1_s h
    refine wIast hx hb hK hP (va_D_same hD rfl) hS 6 rfl ee_9 dX4_addFall_39 (fun H locs hP hS => ?_)
    replace hP : va_P G.1 vwCl (W_TS G t0 t1 t2 t3 t4 t5 t6 s0 s1 T_br T_fa T_fd T_fp T_st T_kd dd_4 dd_8 S_len S_let) H := hP
    refine lv_aload_n hx hb dX4_addFall_40 rfl (lv_at hl 0 rfl) ?_
    refine lv_dup hx hb dX4_addFall_41 rfl ?_
    refine va_get (ci := 4) (C := RX4) (T := TX4) (N := 8) hx hb hts inX4 hown hK.1 hP 0 rfl rfl 7 (by decide) fl34 (fun _ h9 => h9) rfl dX4_addFall_42 ?_
    refine lv_iconst (v := 1) hx hb dX4_addFall_45 (by decide) ?_
    refine lv_iadd hx hb dX4_addFall_46 ?_
    refine va_put (ci := 4) (ty := .int) (C := RX4) (T := TX4) (N := 8) hx hb hts inX4 tyX4 tyX4_ok nmX4 hown hK.1 hP (va_D_same hD rfl) hS 0 rfl rfl 7 (by decide) fl34 (fun _ h9 => h9) rfl (by decide +kernel) rfl rfl (Nat.le_of_ble_eq_true rfl) dX4_addFall_47 (fun H locs hP _ hS => ?_)
    replace hP : va_P G.1 vwCl (W_TS G t0 t1 t2 t3 t4 t5 t6 s0 s1 T_br (T_fa + (1 : Int32)) T_fd T_fp T_st T_kd dd_4 dd_8 S_len S_let) H := hP
    cases h
    exact W.vret hx hb hr (fun t ht _ => ⟨⟨(), rfl, trivial, by rw [ht]; exact hP⟩, hS.F ht⟩) hS.2.2 dX4_addFall_50
