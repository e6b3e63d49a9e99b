def f_X5_within (u1 : Int32) (u2 : Int32) (u3 : Int32) : Option (Int32) := if u1 < u2 then (some (0 : Int32)) else (if u3 < u1 then (some (0 : Int32)) else (some (1 : Int32)))
set_option maxRecDepth 100000 in
set_option maxHeartbeats 4000000 in
theorem k_X5_within (l : Launch) (G : Gt) (u1 : Int32) (u2 : Int32) (u3 : Int32) (r_ : Int32) (h : f_X5_within u1 u2 u3 = some r_) : CT l yX5_within wsX5_within 0 0 G [.int u1, .int u2, .int u3] (W_0 G) (QI G r_ (W_0 G)) := by
  refine met_of cX5_within 3 (some .boolean) (by decide) rfl (Nat.le_of_ble_eq_true rfl) ?_
  intro p e s m below meth c A ls hx hb hr hml hts hown hlocks hK hA hD hP hS hl
  replace hown : s.vm.findClass RX5 = some m.cls := hown
  replace hl : lv_has ls 3 [(0, .int u1), (1, .int u2), (2, .int u3)] := hl
  have S0 : CallFix p m c cX5_within 3 s _ wsX5_within RX5 := ⟨hx, hb, hml, hown, hts⟩
  unfold f_X5_within at h
  refine lv_iload_n hx hb dX5_within_0 rfl (lv_at hl 0 rfl) ?_
  refine lv_iload_n hx hb dX5_within_1 rfl (lv_at hl 1 rfl) ?_
  refine lv_icmp_lt (tgt := 14) hx hb dX5_within_2 (by decide) (fun cc_1 => ?_) (fun cc_1 => ?_)
  · replace h := if_t cc_1 h
    refine lv_iconst (v := 0) hx hb dX5_within_14 (by decide) ?_
    cases h
    exact W.zret (ty := .boolean) hx hb hr (by decide) (fun t ht _ => ⟨⟨_, (), rfl, rfl, by show va_P G.1 vwCl _ t.heap; rw [ht]; exact hP⟩, hS.F ht⟩) hS.2.2 dX5_within_15
  · replace h := if_f cc_1 h
    refine lv_iload_n hx hb dX5_within_5 rfl (lv_at hl 0 rfl) ?_
    refine lv_iload_n hx hb dX5_within_6 rfl (lv_at hl 2 rfl) ?_
    refine lv_icmp_gt (tgt := 14) hx hb dX5_within_7 (by decide) (fun cc_2 => ?_) (fun cc_2 => ?_)
    · replace h := if_t cc_2 h
      refine lv_iconst (v := 0) hx hb dX5_within_14 (by decide) ?_
      cases h
      exact W.zret (ty := .boolean) hx hb hr (by decide) (fun t ht _ => ⟨⟨_, (), rfl, rfl, by show va_P G.1 vwCl _ t.heap; rw [ht]; exact hP⟩, hS.F ht⟩) hS.2.2 dX5_within_15
    · replace h := if_f cc_2 h
      refine lv_iconst (v := 1) hx hb dX5_within_10 (by decide) ?_
      refine lv_goto (tgt := 15) hx hb dX5_within_11 (by decide) ?_
      cases h
      exact W.zret (ty := .boolean) hx hb hr (by decide) (fun t ht _ => ⟨⟨_, (), rfl, rfl, by show va_P G.1 vwCl _ t.heap; rw [ht]; exact hP⟩, hS.F ht⟩) hS.2.2 dX5_within_15
def f_X3_add (S_len : Int32) (S_let : Nat → Int32) (u1 : Int32) : Option (Int32 × (Nat → Int32)) := if (48 : Int32) ≤ S_len then (some (S_len, S_let)) else (bnd1 (wr S_let 48 S_len u1) (fun dd_2 => some ((S_len + (1 : Int32)), dd_2)))
set_option maxRecDepth 100000 in
set_option maxHeartbeats 4000000 in
theorem k_X3_add (l : Launch) (G : Gt) (s0 s1 : Nat) (S_len : Int32) (S_let : Nat → Int32) (u1 : Int32) (o_S_len : Int32) (o_S_let : Nat → Int32) (h : f_X3_add S_len S_let u1 = some (o_S_len, o_S_let)) : CT l yX3_add wsX3_add 0 0 G [.ref s0, .int u1] (W_S G s0 s1 S_len S_let) (QV G (W_S G s0 s1 o_S_len o_S_let)) := by
  refine met_of cX3_add 2 none (by decide) rfl (Nat.le_of_ble_eq_true rfl) ?_
  intro p e s m below meth c A ls hx hb hr hml hts hown hlocks hK hA hD hP hS hl
  replace hown : s.vm.findClass RX3 = some m.cls := hown
  replace hl : lv_has ls 2 [(0, .ref s0), (1, .int u1)] := hl
  have S0 : CallFix p m c cX3_add 2 s _ wsX3_add RX3 := ⟨hx, hb, hml, hown, hts⟩
  have fl15 := hts (.fieldLink RX3 15 "DustVote$Script" "length" "I") (by decide +kernel)
  have inX3 := show ∀ w ∈ wsX30, w ∈ wsX3_add from by decide +kernel
  have fl9 := hts (.fieldLink RX3 9 "DustVote$Script" "letters" "[I") (by decide +kernel)
  unfold f_X3_add at h
  refine lv_aload_n hx hb dX3_add_0 rfl (lv_at hl 0 rfl) ?_
  refine va_get (ci := 3) (C := RX3) (T := TX3) (N := 2) hx hb hts inX3 hown hK.1 hP 0 rfl rfl 1 (by decide) fl15 (fun _ h9 => h9) rfl dX3_add_1 ?_
  refine lv_bipush (v := 48) hx hb dX3_add_4 (by decide) ?_
  refine lv_icmp_ge (tgt := 29) hx hb dX3_add_6 (by decide) (fun cc_1 => ?_) (fun cc_1 => ?_)
  · replace h := if_t cc_1 h
    cases h
    exact W.vret hx hb hr (fun t ht _ => ⟨⟨(), rfl, trivial, by show va_P G.1 vwCl _ t.heap; rw [ht]; exact hP⟩, hS.F ht⟩) hS.2.2 dX3_add_29
  · replace h := if_f cc_1 h
    refine lv_aload_n hx hb dX3_add_9 rfl (lv_at hl 0 rfl) ?_
    refine va_get (ci := 3) (C := RX3) (T := TX3) (N := 2) hx hb hts inX3 hown hK.1 hP 0 rfl rfl 0 (by decide) fl9 (fun _ h9 => h9) rfl dX3_add_10 ?_
    refine lv_aload_n hx hb dX3_add_13 rfl (lv_at hl 0 rfl) ?_
    refine va_get (ci := 3) (C := RX3) (T := TX3) (N := 2) hx hb hts inX3 hown hK.1 hP 0 rfl rfl 1 (by decide) fl15 (fun _ h9 => h9) rfl dX3_add_14 ?_
    refine lv_iload_n hx hb dX3_add_17 rfl (lv_at hl 1 rfl) ?_
    obtain ⟨dd_2, ee_3, h⟩ := bnd1_s h
    refine wIast hx hb hK hP (va_D_same hD rfl) hS 1 rfl ee_3 dX3_add_18 (fun H locs hP hS => ?_)
    replace hP : va_P G.1 vwCl (W_S G s0 s1 S_len dd_2) H := hP
    refine lv_aload_n hx hb dX3_add_19 rfl (lv_at hl 0 rfl) ?_
    refine lv_dup hx hb dX3_add_20 rfl ?_
    refine va_get (ci := 3) (C := RX3) (T := TX3) (N := 2) hx hb hts inX3 hown hK.1 hP 0 rfl rfl 1 (by decide) fl15 (fun _ h9 => h9) rfl dX3_add_21 ?_
    refine lv_iconst (v := 1) hx hb dX3_add_24 (by decide) ?_
    refine lv_iadd hx hb dX3_add_25 ?_
    refine va_put (ci := 3) (ty := .int) (C := RX3) (T := TX3) (N := 2) hx hb hts inX3 tyX3 tyX3_ok nmX3 hown hK.1 hP (va_D_same hD rfl) hS 0 rfl rfl 1 (by decide) fl15 (fun _ h9 => h9) rfl (by decide +kernel) rfl rfl (Nat.le_of_ble_eq_true rfl) dX3_add_26 (fun H locs hP _ hS => ?_)
    replace hP : va_P G.1 vwCl (W_S G s0 s1 (S_len + (1 : Int32)) dd_2) H := hP
    cases h
    exact W.vret hx hb hr (fun t ht _ => ⟨⟨(), rfl, trivial, by show va_P G.1 vwCl _ t.heap; rw [ht]; exact hP⟩, hS.F ht⟩) hS.2.2 dX3_add_29
def f_X5_write (S_len : Int32) (S_let : Nat → Int32) (u1 : Int32) : Option (Int32 × Int32 × (Nat → Int32)) := bnd1 (f_X5_within u1 (0 : Int32) (255 : Int32)) (fun rr_1 => if rr_1 = 0 then (some (((-2) : Int32), S_len, S_let)) else (if S_len < (48 : Int32) then (bnd2 (f_X3_add S_len S_let u1) (fun dd_5 dd_6 => some (dd_5, dd_5, dd_6))) else (some (((-4) : Int32), S_len, S_let))))
set_option maxRecDepth 100000 in
set_option maxHeartbeats 4000000 in
theorem k_X5_write (l : Launch) (G : Gt) (x0 s0 s1 t0 t1 t2 t3 t4 t5 t6 n0 n1 n2 n3 r0 r1 r2 r3 a0 a1 p0 p1 p2 p3 k0 j0 : Nat) (X_ch : Int64) (S_len : Int32) (S_let : Nat → Int32) (T_br : Int32) (T_fa : Int32) (T_fd : Nat → Int32) (T_fp : Nat → Int32) (T_st : Nat → Int32) (T_kd : Nat → Int32) (T_fs : Nat → Int32) (T_fl : Nat → Int32) (N_gi : Int32) (N_be : Int32) (N_da : Int32) (N_du : Nat → Int32) (N_pl : Nat → Int32) (N_de : Nat → Int32) (R_gi : Int32) (R_be : Int32) (R_da : Int32) (R_du : Nat → Int32) (R_pl : Nat → Int32) (R_de : Nat → Int32) (A_fi : Int32) (A_si : Int32) (A_ce : Nat → Int32) (P_si : Int32) (P_be : Nat → Int32) (P_le : Nat → Int32) (P_go : Nat → Int32) (K_sl : Nat → Int32) (J_fi : Nat → Int32) (u1 : Int32) (r_ : Int32) (o_S_len : Int32) (o_S_let : Nat → Int32) (h : f_X5_write S_len S_let u1 = some (r_, o_S_len, o_S_let)) : CT l yX5_write wsX5_write 1 22 G [.ref x0, .int u1] (W_F G x0 s0 s1 t0 t1 t2 t3 t4 t5 t6 n0 n1 n2 n3 r0 r1 r2 r3 a0 a1 p0 p1 p2 p3 k0 j0 X_ch S_len S_let T_br T_fa T_fd T_fp T_st T_kd T_fs T_fl N_gi N_be N_da N_du N_pl N_de R_gi R_be R_da R_du R_pl R_de A_fi A_si A_ce P_si P_be P_le P_go K_sl J_fi) (QI G r_ (W_F G x0 s0 s1 t0 t1 t2 t3 t4 t5 t6 n0 n1 n2 n3 r0 r1 r2 r3 a0 a1 p0 p1 p2 p3 k0 j0 X_ch o_S_len o_S_let T_br T_fa T_fd T_fp T_st T_kd T_fs T_fl N_gi N_be N_da N_du N_pl N_de R_gi R_be R_da R_du R_pl R_de A_fi A_si A_ce P_si P_be P_le P_go K_sl J_fi)) := by
  refine met_of cX5_write 2 (some .int) (by decide) rfl (Nat.le_of_ble_eq_true rfl) ?_
  intro p e s m below meth c A ls hx hb hr hml hts hown hlocks hK hA hD hP hS hl
  replace hown : s.vm.findClass RX5 = some m.cls := hown
  replace hl : lv_has ls 2 [(0, .ref x0), (1, .int u1)] := hl
  have S0 : CallFix p m c cX5_write 2 s _ wsX5_write RX5 := ⟨hx, hb, hml, hown, hts⟩
  have cw_X5_within := show CallB (rmv 1 22) s _ RX5 61 yX5_within cX5_within 3 (some .boolean) wsX5_within (rmv 0 0) 0 0 3 ∧ (Cond.static yX5_within).before _ s = true from va_cwS 3 hts gX5_write_X5_within rfl rfl rfl (by decide +kernel) ⟨Nat.le_of_ble_eq_true rfl, Nat.le_of_ble_eq_true rfl⟩
  have fl12 := hts (.fieldLink RX5 12 "DustVote" "script" "LDustVote$Script;") (by decide +kernel)
  have inX5 := show ∀ w ∈ wsX50, w ∈ wsX5_write from by decide +kernel
  have fl65 := hK.f (args := List.toArray [.ref x0, .int u1]) (show ("DustVote", 65, "DustVote$Script", "length", "I", "DustVote") ∈ nestF by decide)
  have inX3 := show ∀ w ∈ wsX30, w ∈ wsX5_write from by decide +kernel
  have cw_X3_add := show CallW (rmv 1 22) s _ RX5 RX3 69 yX3_add cX3_add 2 none wsX3_add (rmv 0 0) 0 0 1 from cwV 1 hts gX5_write_X3_add rfl rfl rfl (by decide +kernel) ⟨Nat.le_of_ble_eq_true rfl, Nat.le_of_ble_eq_true rfl⟩
  unfold f_X5_write at h
  refine lv_iload_n hx hb dX5_write_0 rfl (lv_at hl 1 rfl) ?_
  refine lv_iconst (v := 0) hx hb dX5_write_1 (by decide) ?_
  refine lv_sipush (v := 255) hx hb dX5_write_2 (by decide) ?_
  obtain ⟨rr_1, ee_2, h⟩ := bnd1_s h
  refine cSi (As := [.int u1, .int (0 : Int32), .int (255 : Int32)]) (rest := []) S0 hK hA hP (va_D_same hD rfl) hS [] (k_X5_within l G u1 (0 : Int32) (255 : Int32) rr_1 ee_2) cw_X5_within rfl rfl (Nat.le_of_ble_eq_true rfl) rfl hl.1 rfl (Nat.le_of_ble_eq_true rfl) dX5_write_5 ⟨Nat.zero_le _, Nat.zero_le _⟩ (fun H locs hP hS => ?_)
  replace hP : va_P G.1 vwCl (W_F G x0 s0 s1 t0 t1 t2 t3 t4 t5 t6 n0 n1 n2 n3 r0 r1 r2 r3 a0 a1 p0 p1 p2 p3 k0 j0 X_ch S_len S_let T_br T_fa T_fd T_fp T_st T_kd T_fs T_fl N_gi N_be N_da N_du N_pl N_de R_gi R_be R_da R_du R_pl R_de A_fi A_si A_ce P_si P_be P_le P_go K_sl J_fi) H := hP
  refine lv_if_ne (tgt := 14) hx hb dX5_write_8 (by decide) (fun cc_3 => ?_) (fun cc_3 => ?_)
  · replace h := if_f cc_3 h
    refine lv_aload_n hx hb dX5_write_14 rfl (lv_at hl 0 rfl) ?_
    refine va_get (ci := 5) (C := RX5) (T := TX5) (N := 9) hx hb hts inX5 hown hK.1 hP 0 rfl rfl 0 (by decide) fl12 (fun _ h9 => h9) rfl dX5_write_15 ?_
    refine va_getN (ci := 3) (C := RX3) (T := TX3) (N := 2) hx hb hts inX3 hown hK.1 hP 1 rfl rfl 1 (by decide) fl65 (fun _ h9 => h9) rfl dX5_write_18 ?_
    refine lv_bipush (v := 48) hx hb dX5_write_21 (by decide) ?_
    refine lv_icmp_lt (tgt := 29) hx hb dX5_write_23 (by decide) (fun cc_4 => ?_) (fun cc_4 => ?_)
    · replace h := if_t cc_4 h
      refine lv_aload_n hx hb dX5_write_29 rfl (lv_at hl 0 rfl) ?_
      refine va_get (ci := 5) (C := RX5) (T := TX5) (N := 9) hx hb hts inX5 hown hK.1 hP 0 rfl rfl 0 (by decide) fl12 (fun _ h9 => h9) rfl dX5_write_30 ?_
      refine lv_iload_n hx hb dX5_write_33 rfl (lv_at hl 1 rfl) ?_
      obtain ⟨dd_5, dd_6, ee_7, h⟩ := bnd2_s h
      refine cVv (As := [.int u1]) (rest := []) S0 hK hA hP (va_D_same hD rfl) hS [1, 2] (k_X3_add l G s0 s1 S_len S_let u1 dd_5 dd_6 ee_7) cw_X3_add rfl rfl (Nat.le_of_ble_eq_true rfl) 3 0 rfl rfl rfl rfl hl.1 rfl (Nat.le_of_ble_eq_true rfl) dX5_write_34 ⟨Nat.zero_le _, Nat.zero_le _⟩ (fun H locs hP hS => ?_)
      replace hP : va_P G.1 vwCl (W_F G x0 s0 s1 t0 t1 t2 t3 t4 t5 t6 n0 n1 n2 n3 r0 r1 r2 r3 a0 a1 p0 p1 p2 p3 k0 j0 X_ch dd_5 dd_6 T_br T_fa T_fd T_fp T_st T_kd T_fs T_fl N_gi N_be N_da N_du N_pl N_de R_gi R_be R_da R_du R_pl R_de A_fi A_si A_ce P_si P_be P_le P_go K_sl J_fi) H := hP
      refine lv_aload_n hx hb dX5_write_37 rfl (lv_at hl 0 rfl) ?_
      refine va_get (ci := 5) (C := RX5) (T := TX5) (N := 9) hx hb hts inX5 hown hK.1 hP 0 rfl rfl 0 (by decide) fl12 (fun _ h9 => h9) rfl dX5_write_38 ?_
      refine va_getN (ci := 3) (C := RX3) (T := TX3) (N := 2) hx hb hts inX3 hown hK.1 hP 1 rfl rfl 1 (by decide) fl65 (fun _ h9 => h9) rfl dX5_write_41 ?_
      cases h
      exact W.iret hx hb hr (fun t ht _ => ⟨⟨_, (), rfl, rfl, by show va_P G.1 vwCl _ t.heap; rw [ht]; exact hP⟩, hS.F ht⟩) hS.2.2 dX5_write_44
    · replace h := if_f cc_4 h
      refine lv_bipush (v := (-4)) hx hb dX5_write_26 (by decide) ?_
      cases h
      exact W.iret hx hb hr (fun t ht _ => ⟨⟨_, (), rfl, rfl, by show va_P G.1 vwCl _ t.heap; rw [ht]; exact hP⟩, hS.F ht⟩) hS.2.2 dX5_write_28
  · replace h := if_t cc_3 h
    refine lv_bipush (v := (-2)) hx hb dX5_write_11 (by decide) ?_
    cases h
    exact W.iret hx hb hr (fun t ht _ => ⟨⟨_, (), rfl, rfl, by show va_P G.1 vwCl _ t.heap; rw [ht]; exact hP⟩, hS.F ht⟩) hS.2.2 dX5_write_13
def f_X5_wipe (S_len : Int32) : Option (Int32 × Int32) := some (S_len, (0 : Int32))
set_option maxRecDepth 100000 in
set_option maxHeartbeats 4000000 in
theorem k_X5_wipe (l : Launch) (G : Gt) (x0 s0 s1 t0 t1 t2 t3 t4 t5 t6 n0 n1 n2 n3 r0 r1 r2 r3 a0 a1 p0 p1 p2 p3 k0 j0 : Nat) (X_ch : Int64) (S_len : Int32) (S_let : Nat → Int32) (T_br : Int32) (T_fa : Int32) (T_fd : Nat → Int32) (T_fp : Nat → Int32) (T_st : Nat → Int32) (T_kd : Nat → Int32) (T_fs : Nat → Int32) (T_fl : Nat → Int32) (N_gi : Int32) (N_be : Int32) (N_da : Int32) (N_du : Nat → Int32) (N_pl : Nat → Int32) (N_de : Nat → Int32) (R_gi : Int32) (R_be : Int32) (R_da : Int32) (R_du : Nat → Int32) (R_pl : Nat → Int32) (R_de : Nat → Int32) (A_fi : Int32) (A_si : Int32) (A_ce : Nat → Int32) (P_si : Int32) (P_be : Nat → Int32) (P_le : Nat → Int32) (P_go : Nat → Int32) (K_sl : Nat → Int32) (J_fi : Nat → Int32) (r_ : Int32) (o_S_len : Int32) (h : f_X5_wipe S_len = some (r_, o_S_len)) : CT l yX5_wipe wsX5_wipe 0 0 G [.ref x0] (W_F G x0 s0 s1 t0 t1 t2 t3 t4 t5 t6 n0 n1 n2 n3 r0 r1 r2 r3 a0 a1 p0 p1 p2 p3 k0 j0 X_ch S_len S_let T_br T_fa T_fd T_fp T_st T_kd T_fs T_fl N_gi N_be N_da N_du N_pl N_de R_gi R_be R_da R_du R_pl R_de A_fi A_si A_ce P_si P_be P_le P_go K_sl J_fi) (QI G r_ (W_F G x0 s0 s1 t0 t1 t2 t3 t4 t5 t6 n0 n1 n2 n3 r0 r1 r2 r3 a0 a1 p0 p1 p2 p3 k0 j0 X_ch o_S_len S_let T_br T_fa T_fd T_fp T_st T_kd T_fs T_fl N_gi N_be N_da N_du N_pl N_de R_gi R_be R_da R_du R_pl R_de A_fi A_si A_ce P_si P_be P_le P_go K_sl J_fi)) := by
  refine met_of cX5_wipe 2 (some .int) (by decide) rfl (Nat.le_of_ble_eq_true rfl) ?_
  intro p e s m below meth c A ls hx hb hr hml hts hown hlocks hK hA hD hP hS hl
  replace hown : s.vm.findClass RX5 = some m.cls := hown
  replace hl : lv_has ls 2 [(0, .ref x0)] := hl
  have S0 : CallFix p m c cX5_wipe 2 s _ wsX5_wipe RX5 := ⟨hx, hb, hml, hown, hts⟩
  have fl12 := hts (.fieldLink RX5 12 "DustVote" "script" "LDustVote$Script;") (by decide +kernel)
  have inX5 := show ∀ w ∈ wsX50, w ∈ wsX5_wipe from by decide +kernel
  have fl65 := hK.f (args := List.toArray [.ref x0]) (show ("DustVote", 65, "DustVote$Script", "length", "I", "DustVote") ∈ nestF by decide)
  have inX3 := show ∀ w ∈ wsX30, w ∈ wsX5_wipe from by decide +kernel
  unfold f_X5_wipe at h
  refine lv_aload_n hx hb dX5_wipe_0 rfl (lv_at hl 0 rfl) ?_
  refine va_get (ci := 5) (C := RX5) (T := TX5) (N := 9) hx hb hts inX5 hown hK.1 hP 0 rfl rfl 0 (by decide) fl12 (fun _ h9 => h9) rfl dX5_wipe_1 ?_
  refine va_getN (ci := 3) (C := RX3) (T := TX3) (N := 2) hx hb hts inX3 hown hK.1 hP 1 rfl rfl 1 (by decide) fl65 (fun _ h9 => h9) rfl dX5_wipe_4 ?_
  refine lv_istore_n (lv' := [(1, .int S_len), (0, .ref x0)]) hx hb dX5_wipe_7 rfl hl (by decide) rfl (fun ls hl => ?_)
  refine lv_aload_n hx hb dX5_wipe_8 rfl (lv_at hl 1 rfl) ?_
  refine va_get (ci := 5) (C := RX5) (T := TX5) (N := 9) hx hb hts inX5 hown hK.1 hP 0 rfl rfl 0 (by decide) fl12 (fun _ h9 => h9) rfl dX5_wipe_9 ?_
  refine lv_iconst (v := 0) hx hb dX5_wipe_12 (by decide) ?_
  refine va_putN (ci := 3) (ty := .int) (C := RX3) (T := TX3) (N := 2) hx hb hts inX3 tyX3 tyX3_ok nmX3 hown hK.1 hP (va_D_same hD rfl) hS 1 rfl rfl 1 (by decide) fl65 (fun _ h9 => h9) rfl (by decide +kernel) rfl rfl (Nat.le_of_ble_eq_true rfl) dX5_wipe_13 (fun H locs hP _ hS => ?_)
  replace hP : va_P G.1 vwCl (W_F G x0 s0 s1 t0 t1 t2 t3 t4 t5 t6 n0 n1 n2 n3 r0 r1 r2 r3 a0 a1 p0 p1 p2 p3 k0 j0 X_ch (0 : Int32) S_let T_br T_fa T_fd T_fp T_st T_kd T_fs T_fl N_gi N_be N_da N_du N_pl N_de R_gi R_be R_da R_du R_pl R_de A_fi A_si A_ce P_si P_be P_le P_go K_sl J_fi) H := hP
  refine lv_iload_n hx hb dX5_wipe_16 rfl (lv_at hl 0 rfl) ?_
  cases h
  exact W.iret hx hb hr (fun t ht _ => ⟨⟨_, (), rfl, rfl, by show va_P G.1 vwCl _ t.heap; rw [ht]; exact hP⟩, hS.F ht⟩) hS.2.2 dX5_wipe_17
def f_X3_letterAt (S_len : Int32) (S_let : Nat → Int32) (u1 : Int32) : Option (Int32) := if u1 < 0 then (some ((-9) : Int32)) else (if S_len ≤ u1 then (some ((-9) : Int32)) else (if (48 : Int32) ≤ u1 then (some ((-9) : Int32)) else (bnd1 (rd S_let 48 u1) (fun zz_4 => some zz_4))))
set_option maxRecDepth 100000 in
set_option maxHeartbeats 4000000 in
theorem k_X3_letterAt (l : Launch) (G : Gt) (s0 s1 : Nat) (S_len : Int32) (S_let : Nat → Int32) (u1 : Int32) (r_ : Int32) (h : f_X3_letterAt S_len S_let u1 = some r_) : CT l yX3_letterAt wsX3_letterAt 0 0 G [.ref s0, .int u1] (W_S G s0 s1 S_len S_let) (QI G r_ (W_S G s0 s1 S_len S_let)) := by
  refine met_of cX3_letterAt 2 (some .int) (by decide) rfl (Nat.le_of_ble_eq_true rfl) ?_
  intro p e s m below meth c A ls hx hb hr hml hts hown hlocks hK hA hD hP hS hl
  replace hown : s.vm.findClass RX3 = some m.cls := hown
  replace hl : lv_has ls 2 [(0, .ref s0), (1, .int u1)] := hl
  have S0 : CallFix p m c cX3_letterAt 2 s _ wsX3_letterAt RX3 := ⟨hx, hb, hml, hown, hts⟩
  have fl15 := hts (.fieldLink RX3 15 "DustVote$Script" "length" "I") (by decide +kernel)
  have inX3 := show ∀ w ∈ wsX30, w ∈ wsX3_letterAt from by decide +kernel
  have fl9 := hts (.fieldLink RX3 9 "DustVote$Script" "letters" "[I") (by decide +kernel)
  unfold f_X3_letterAt at h
  refine lv_iload_n hx hb dX3_letterAt_0 rfl (lv_at hl 1 rfl) ?_
  refine lv_if_lt (tgt := 27) hx hb dX3_letterAt_1 (by decide) (fun cc_1 => ?_) (fun cc_1 => ?_)
  · replace h := if_t cc_1 h
    refine lv_bipush (v := (-9)) hx hb dX3_letterAt_27 (by decide) ?_
    cases h
    exact W.iret hx hb hr (fun t ht _ => ⟨⟨_, (), rfl, rfl, by show va_P G.1 vwCl _ t.heap; rw [ht]; exact hP⟩, hS.F ht⟩) hS.2.2 dX3_letterAt_29
  · replace h := if_f cc_1 h
    refine lv_iload_n hx hb dX3_letterAt_4 rfl (lv_at hl 1 rfl) ?_
    refine lv_aload_n hx hb dX3_letterAt_5 rfl (lv_at hl 0 rfl) ?_
    refine va_get (ci := 3) (C := RX3) (T := TX3) (N := 2) hx hb hts inX3 hown hK.1 hP 0 rfl rfl 1 (by decide) fl15 (fun _ h9 => h9) rfl dX3_letterAt_6 ?_
    refine lv_icmp_ge (tgt := 27) hx hb dX3_letterAt_9 (by decide) (fun cc_2 => ?_) (fun cc_2 => ?_)
    · replace h := if_t cc_2 h
      refine lv_bipush (v := (-9)) hx hb dX3_letterAt_27 (by decide) ?_
      cases h
      exact W.iret hx hb hr (fun t ht _ => ⟨⟨_, (), rfl, rfl, by show va_P G.1 vwCl _ t.heap; rw [ht]; exact hP⟩, hS.F ht⟩) hS.2.2 dX3_letterAt_29
    · replace h := if_f cc_2 h
      refine lv_iload_n hx hb dX3_letterAt_12 rfl (lv_at hl 1 rfl) ?_
      refine lv_bipush (v := 48) hx hb dX3_letterAt_13 (by decide) ?_
      refine lv_icmp_ge (tgt := 27) hx hb dX3_letterAt_15 (by decide) (fun cc_3 => ?_) (fun cc_3 => ?_)
      · replace h := if_t cc_3 h
        refine lv_bipush (v := (-9)) hx hb dX3_letterAt_27 (by decide) ?_
        cases h
        exact W.iret hx hb hr (fun t ht _ => ⟨⟨_, (), rfl, rfl, by show va_P G.1 vwCl _ t.heap; rw [ht]; exact hP⟩, hS.F ht⟩) hS.2.2 dX3_letterAt_29
      · replace h := if_f cc_3 h
        refine lv_aload_n hx hb dX3_letterAt_18 rfl (lv_at hl 0 rfl) ?_
        refine va_get (ci := 3) (C := RX3) (T := TX3) (N := 2) hx hb hts inX3 hown hK.1 hP 0 rfl rfl 0 (by decide) fl9 (fun _ h9 => h9) rfl dX3_letterAt_19 ?_
        refine lv_iload_n hx hb dX3_letterAt_22 rfl (lv_at hl 1 rfl) ?_
        obtain ⟨zz_4, ee_5, h⟩ := bnd1_s h
        refine wIald hx hb hK hP 1 rfl ee_5 dX3_letterAt_23 ?_
        refine lv_goto (tgt := 29) hx hb dX3_letterAt_24 (by decide) ?_
        cases h
        exact W.iret hx hb hr (fun t ht _ => ⟨⟨_, (), rfl, rfl, by show va_P G.1 vwCl _ t.heap; rw [ht]; exact hP⟩, hS.F ht⟩) hS.2.2 dX3_letterAt_29
def f_X3_figureAt (S_len : Int32) (S_let : Nat → Int32) (u1 : Int32) : Option (Int32) := bnd1 (f_X3_letterAt S_len S_let u1) (fun rr_1 => some (rr_1 - (48 : Int32)))
set_option maxRecDepth 100000 in
set_option maxHeartbeats 4000000 in
theorem k_X3_figureAt (l : Launch) (G : Gt) (s0 s1 : Nat) (S_len : Int32) (S_let : Nat → Int32) (u1 : Int32) (r_ : Int32) (h : f_X3_figureAt S_len S_let u1 = some r_) : CT l yX3_figureAt wsX3_figureAt 1 21 G [.ref s0, .int u1] (W_S G s0 s1 S_len S_let) (QI G r_ (W_S G s0 s1 S_len S_let)) := by
  refine met_of cX3_figureAt 2 (some .int) (by decide) rfl (Nat.le_of_ble_eq_true rfl) ?_
  intro p e s m below meth c A ls hx hb hr hml hts hown hlocks hK hA hD hP hS hl
  replace hown : s.vm.findClass RX3 = some m.cls := hown
  replace hl : lv_has ls 2 [(0, .ref s0), (1, .int u1)] := hl
  have S0 : CallFix p m c cX3_figureAt 2 s _ wsX3_figureAt RX3 := ⟨hx, hb, hml, hown, hts⟩
  have cw_X3_letterAt := show CallW (rmv 1 21) s _ RX3 RX3 19 yX3_letterAt cX3_letterAt 2 (some .int) wsX3_letterAt (rmv 0 0) 0 0 1 from cwV 1 hts gX3_figureAt_X3_letterAt rfl rfl rfl (by decide +kernel) ⟨Nat.le_of_ble_eq_true rfl, Nat.le_of_ble_eq_true rfl⟩
  unfold f_X3_figureAt at h
  refine lv_aload_n hx hb dX3_figureAt_0 rfl (lv_at hl 0 rfl) ?_
  refine lv_iload_n hx hb dX3_figureAt_1 rfl (lv_at hl 1 rfl) ?_
  obtain ⟨rr_1, ee_2, h⟩ := bnd1_s h
  refine cFi (As := [.int u1]) (rest := []) S0 hK hA hP (va_D_same hD rfl) hS (k_X3_letterAt l G s0 s1 S_len S_let u1 rr_1 ee_2) cw_X3_letterAt 3 0 rfl rfl rfl rfl hl.1 rfl (Nat.le_of_ble_eq_true rfl) dX3_figureAt_2 ⟨Nat.zero_le _, Nat.zero_le _⟩ (fun H locs hP hS => ?_)
  replace hP : va_P G.1 vwCl (W_S G s0 s1 S_len S_let) H := hP
  refine lv_bipush (v := 48) hx hb dX3_figureAt_5 (by decide) ?_
  refine lv_isub hx hb dX3_figureAt_7 ?_
  cases h
  exact W.iret hx hb hr (fun t ht _ => ⟨⟨_, (), rfl, rfl, by show va_P G.1 vwCl _ t.heap; rw [ht]; exact hP⟩, hS.F ht⟩) hS.2.2 dX3_figureAt_8
