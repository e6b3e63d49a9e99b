def f_X5_count (S_len : Int32) (T_br : Int32) (T_fa : Int32) (N_gi : Int32) (N_be : Int32) (N_da : Int32) (N_du : Nat → Int32) (A_si : Int32) (P_si : Int32) (u1 : Int32) : Option (Int32) := if u1 = 0 then (some S_len) else (if u1 = 1 then (some T_br) else (if u1 = 2 then (some T_fa) else (if u1 = 3 then (some N_da) else (if u1 = 4 then (bnd1 (f_X2_allDust N_du) (fun rr_6 => some rr_6)) else (if u1 = 5 then (bnd1 (f_X2_deepStreets N_du) (fun rr_9 => some rr_9)) else (if u1 = 6 then (if N_gi = 0 then (some (0 : Int32)) else (some (1 : Int32))) else (if u1 = 7 then (some N_be) else (if u1 = 8 then (some A_si) else (if u1 = 9 then (some P_si) else (some ((-2) : Int32)))))))))))
set_option maxRecDepth 100000 in
set_option maxHeartbeats 4000000 in
theorem k_X5_count (l : Launch) (G : Gt) (x0 s0 s1 t0 t1 t2 t3 t4 t5 t6 n0 n1 n2 n3 r0 r1 r2 r3 a0 a1 p0 p1 p2 p3 k0 j0 : Nat) (X_ch : Int64) (S_len : Int32) (S_let : Nat → Int32) (T_br : Int32) (T_fa : Int32) (T_fd : Nat → Int32) (T_fp : Nat → Int32) (T_st : Nat → Int32) (T_kd : Nat → Int32) (T_fs : Nat → Int32) (T_fl : Nat → Int32) (N_gi : Int32) (N_be : Int32) (N_da : Int32) (N_du : Nat → Int32) (N_pl : Nat → Int32) (N_de : Nat → Int32) (R_gi : Int32) (R_be : Int32) (R_da : Int32) (R_du : Nat → Int32) (R_pl : Nat → Int32) (R_de : Nat → Int32) (A_fi : Int32) (A_si : Int32) (A_ce : Nat → Int32) (P_si : Int32) (P_be : Nat → Int32) (P_le : Nat → Int32) (P_go : Nat → Int32) (K_sl : Nat → Int32) (J_fi : Nat → Int32) (u1 : Int32) (r_ : Int32) (h : f_X5_count S_len T_br T_fa N_gi N_be N_da N_du A_si P_si u1 = some r_) : CT l yX5_count wsX5_count 4 84 G [.ref x0, .int u1] (W_F G x0 s0 s1 t0 t1 t2 t3 t4 t5 t6 n0 n1 n2 n3 r0 r1 r2 r3 a0 a1 p0 p1 p2 p3 k0 j0 X_ch S_len S_let T_br T_fa T_fd T_fp T_st T_kd T_fs T_fl N_gi N_be N_da N_du N_pl N_de R_gi R_be R_da R_du R_pl R_de A_fi A_si A_ce P_si P_be P_le P_go K_sl J_fi) (QI G r_ (W_F G x0 s0 s1 t0 t1 t2 t3 t4 t5 t6 n0 n1 n2 n3 r0 r1 r2 r3 a0 a1 p0 p1 p2 p3 k0 j0 X_ch S_len S_let T_br T_fa T_fd T_fp T_st T_kd T_fs T_fl N_gi N_be N_da N_du N_pl N_de R_gi R_be R_da R_du R_pl R_de A_fi A_si A_ce P_si P_be P_le P_go K_sl J_fi)) := by
  refine met_of cX5_count 2 (some .int) (by decide) rfl (Nat.le_of_ble_eq_true rfl) ?_
  intro p e s m below meth c A ls hx hb hr hml hts hown hlocks hK hA hD hP hS hl
  replace hown : s.vm.findClass RX5 = some m.cls := hown
  replace hl : lv_has ls 2 [(0, .ref x0), (1, .int u1)] := hl
  have S0 : CallFix p m c cX5_count 2 s _ wsX5_count RX5 := ⟨hx, hb, hml, hown, hts⟩
  have fl12 := hts (.fieldLink RX5 12 "DustVote" "script" "LDustVote$Script;") (by decide +kernel)
  have inX5 := show ∀ w ∈ wsX50, w ∈ wsX5_count from by decide +kernel
  have fl65 := hK.f (args := List.toArray [.ref x0, .int u1]) (show ("DustVote", 65, "DustVote$Script", "length", "I", "DustVote") ∈ nestF by decide)
  have inX3 := show ∀ w ∈ wsX30, w ∈ wsX5_count from by decide +kernel
  have fl19 := hts (.fieldLink RX5 19 "DustVote" "told" "LDustVote$Told;") (by decide +kernel)
  have fl87 := hK.f (args := List.toArray [.ref x0, .int u1]) (show ("DustVote", 87, "DustVote$Told", "brooms", "I", "DustVote") ∈ nestF by decide)
  have inX4 := show ∀ w ∈ wsX40, w ∈ wsX5_count from by decide +kernel
  have fl90 := hK.f (args := List.toArray [.ref x0, .int u1]) (show ("DustVote", 90, "DustVote$Told", "falls", "I", "DustVote") ∈ nestF by decide)
  have fl28 := hts (.fieldLink RX5 28 "DustVote" "now" "LDustVote$Moment;") (by decide +kernel)
  have fl241 := hK.f (args := List.toArray [.ref x0, .int u1]) (show ("DustVote", 241, "DustVote$Moment", "dawns", "I", "DustVote") ∈ nestF by decide)
  have inX2 := show ∀ w ∈ wsX20, w ∈ wsX5_count from by decide +kernel
  have cw_X2_allDust := show CallW (rmv 4 84) s _ RX5 RX2 133 yX2_allDust cX2_allDust 3 (some .int) wsX2_allDust (rmv 0 0) 0 0 0 from cwV 0 hts gX5_count_X2_allDust rfl rfl rfl (by decide +kernel) ⟨Nat.le_of_ble_eq_true rfl, Nat.le_of_ble_eq_true rfl⟩
  have cw_X2_deepStreets := show CallW (rmv 4 84) s _ RX5 RX2 170 yX2_deepStreets cX2_deepStreets 3 (some .int) wsX2_deepStreets (rmv 3 62) 0 0 0 from cwV 0 hts gX5_count_X2_deepStreets rfl rfl rfl (by decide +kernel) ⟨Nat.le_of_ble_eq_true rfl, Nat.le_of_ble_eq_true rfl⟩
  have fl142 := hK.f (args := List.toArray [.ref x0, .int u1]) (show ("DustVote", 142, "DustVote$Moment", "given", "Z", "DustVote") ∈ nestF by decide)
  have fl149 := hK.f (args := List.toArray [.ref x0, .int u1]) (show ("DustVote", 149, "DustVote$Moment", "bent", "I", "DustVote") ∈ nestF by decide)
  have fl38 := hts (.fieldLink RX5 38 "DustVote" "acts" "LDustVote$ActRow;") (by decide +kernel)
  have fl160 := hK.f (args := List.toArray [.ref x0, .int u1]) (show ("DustVote", 160, "DustVote$ActRow", "size", "I", "DustVote") ∈ nestF by decide)
  have inX0 := show ∀ w ∈ wsX00, w ∈ wsX5_count from by decide +kernel
  have fl45 := hts (.fieldLink RX5 45 "DustVote" "heaps" "LDustVote$Heaps;") (by decide +kernel)
  have fl203 := hK.f (args := List.toArray [.ref x0, .int u1]) (show ("DustVote", 203, "DustVote$Heaps", "size", "I", "DustVote") ∈ nestF by decide)
  have inX1 := show ∀ w ∈ wsX10, w ∈ wsX5_count from by decide +kernel
  unfold f_X5_count at h
  refine lv_iload_n hx hb dX5_count_0 rfl (lv_at hl 1 rfl) ?_
  by_cases cc_1 : u1 = 0
  · refine lv_tableIn (off := 55) (tgt := 56) hx hb dX5_count_1 (by rw [cc_1]; decide) (by rw [cc_1]; decide) (by rw [cc_1]; rfl) (by decide) ?_
    replace h := if_t cc_1 h
    refine lv_aload_n hx hb dX5_count_56 rfl (lv_at hl 0 rfl) ?_
    refine va_get (ci := 5) (C := RX5) (T := TX5) (N := 9) hx hb hts inX5 hown hK.1 hP 0 rfl rfl 0 (by decide) fl12 (fun _ h9 => h9) rfl dX5_count_57 ?_
    refine va_getN (ci := 3) (C := RX3) (T := TX3) (N := 2) hx hb hts inX3 hown hK.1 hP 1 rfl rfl 1 (by decide) fl65 (fun _ h9 => h9) rfl dX5_count_60 ?_
    cases h
    exact W.iret hx hb hr (fun t ht _ => ⟨⟨_, (), rfl, rfl, by show va_P G.1 vwCl _ t.heap; rw [ht]; exact hP⟩, hS.F ht⟩) hS.2.2 dX5_count_63
  replace h := if_f cc_1 h
  by_cases cc_2 : u1 = 1
  · refine lv_tableIn (off := 63) (tgt := 64) hx hb dX5_count_1 (by rw [cc_2]; decide) (by rw [cc_2]; decide) (by rw [cc_2]; rfl) (by decide) ?_
    replace h := if_t cc_2 h
    refine lv_aload_n hx hb dX5_count_64 rfl (lv_at hl 0 rfl) ?_
    refine va_get (ci := 5) (C := RX5) (T := TX5) (N := 9) hx hb hts inX5 hown hK.1 hP 0 rfl rfl 1 (by decide) fl19 (fun _ h9 => h9) rfl dX5_count_65 ?_
    refine va_getN (ci := 4) (C := RX4) (T := TX4) (N := 8) hx hb hts inX4 hown hK.1 hP 3 rfl rfl 6 (by decide) fl87 (fun _ h9 => h9) rfl dX5_count_68 ?_
    cases h
    exact W.iret hx hb hr (fun t ht _ => ⟨⟨_, (), rfl, rfl, by show va_P G.1 vwCl _ t.heap; rw [ht]; exact hP⟩, hS.F ht⟩) hS.2.2 dX5_count_71
  replace h := if_f cc_2 h
  by_cases cc_3 : u1 = 2
  · refine lv_tableIn (off := 71) (tgt := 72) hx hb dX5_count_1 (by rw [cc_3]; decide) (by rw [cc_3]; decide) (by rw [cc_3]; rfl) (by decide) ?_
    replace h := if_t cc_3 h
    refine lv_aload_n hx hb dX5_count_72 rfl (lv_at hl 0 rfl) ?_
    refine va_get (ci := 5) (C := RX5) (T := TX5) (N := 9) hx hb hts inX5 hown hK.1 hP 0 rfl rfl 1 (by decide) fl19 (fun _ h9 => h9) rfl dX5_count_73 ?_
    refine va_getN (ci := 4) (C := RX4) (T := TX4) (N := 8) hx hb hts inX4 hown hK.1 hP 3 rfl rfl 7 (by decide) fl90 (fun _ h9 => h9) rfl dX5_count_76 ?_
    cases h
    exact W.iret hx hb hr (fun t ht _ => ⟨⟨_, (), rfl, rfl, by show va_P G.1 vwCl _ t.heap; rw [ht]; exact hP⟩, hS.F ht⟩) hS.2.2 dX5_count_79
  replace h := if_f cc_3 h
  by_cases cc_4 : u1 = 3
  · refine lv_tableIn (off := 79) (tgt := 80) hx hb dX5_count_1 (by rw [cc_4]; decide) (by rw [cc_4]; decide) (by rw [cc_4]; rfl) (by decide) ?_
    replace h := if_t cc_4 h
    refine lv_aload_n hx hb dX5_count_80 rfl (lv_at hl 0 rfl) ?_
    refine va_get (ci := 5) (C := RX5) (T := TX5) (N := 9) hx hb hts inX5 hown hK.1 hP 0 rfl rfl 2 (by decide) fl28 (fun _ h9 => h9) rfl dX5_count_81 ?_
    refine va_getN (ci := 2) (C := RX2) (T := TX2) (N := 7) hx hb hts inX2 hown hK.1 hP 10 rfl rfl 6 (by decide) fl241 (fun _ h9 => h9) rfl dX5_count_84 ?_
    cases h
    exact W.iret hx hb hr (fun t ht _ => ⟨⟨_, (), rfl, rfl, by show va_P G.1 vwCl _ t.heap; rw [ht]; exact hP⟩, hS.F ht⟩) hS.2.2 dX5_count_87
  replace h := if_f cc_4 h
  by_cases cc_5 : u1 = 4
  · refine lv_tableIn (off := 87) (tgt := 88) hx hb dX5_count_1 (by rw [cc_5]; decide) (by rw [cc_5]; decide) (by rw [cc_5]; rfl) (by decide) ?_
    replace h := if_t cc_5 h
    refine lv_aload_n hx hb dX5_count_88 rfl (lv_at hl 0 rfl) ?_
    refine va_get (ci := 5) (C := RX5) (T := TX5) (N := 9) hx hb hts inX5 hown hK.1 hP 0 rfl rfl 2 (by decide) fl28 (fun _ h9 => h9) rfl dX5_count_89 ?_
    obtain ⟨rr_6, ee_7, h⟩ := bnd1_s h
    refine cVi (As := []) (rest := []) S0 hK hA hP (va_D_same hD rfl) hS [10, 11, 12, 13, 3, 4, 5, 6, 7, 8, 9] (k_X2_allDust l G n0 n1 n2 n3 t0 t1 t2 t3 t4 t5 t6 N_gi N_be N_da N_du N_pl N_de T_br T_fa T_fd T_fp T_st T_kd T_fs T_fl rr_6 ee_7) cw_X2_allDust rfl rfl (Nat.le_of_ble_eq_true rfl) 2 0 rfl rfl rfl rfl hl.1 rfl (Nat.le_of_ble_eq_true rfl) dX5_count_92 ⟨Nat.zero_le _, Nat.zero_le _⟩ (fun H locs hP hS => ?_)
    replace hP : va_P G.1 vwCl (W_F G x0 s0 s1 t0 t1 t2 t3 t4 t5 t6 n0 n1 n2 n3 r0 r1 r2 r3 a0 a1 p0 p1 p2 p3 k0 j0 X_ch S_len S_let T_br T_fa T_fd T_fp T_st T_kd T_fs T_fl N_gi N_be N_da N_du N_pl N_de R_gi R_be R_da R_du R_pl R_de A_fi A_si A_ce P_si P_be P_le P_go K_sl J_fi) H := hP
    cases h
    exact W.iret hx hb hr (fun t ht _ => ⟨⟨_, (), rfl, rfl, by show va_P G.1 vwCl _ t.heap; rw [ht]; exact hP⟩, hS.F ht⟩) hS.2.2 dX5_count_95
  replace h := if_f cc_5 h
  by_cases cc_8 : u1 = 5
  · refine lv_tableIn (off := 95) (tgt := 96) hx hb dX5_count_1 (by rw [cc_8]; decide) (by rw [cc_8]; decide) (by rw [cc_8]; rfl) (by decide) ?_
    replace h := if_t cc_8 h
    refine lv_aload_n hx hb dX5_count_96 rfl (lv_at hl 0 rfl) ?_
    refine va_get (ci := 5) (C := RX5) (T := TX5) (N := 9) hx hb hts inX5 hown hK.1 hP 0 rfl rfl 2 (by decide) fl28 (fun _ h9 => h9) rfl dX5_count_97 ?_
    obtain ⟨rr_9, ee_10, h⟩ := bnd1_s h
    refine cVi (As := []) (rest := []) S0 hK hA hP (va_D_same hD rfl) hS [10, 11, 12, 13, 3, 4, 5, 6, 7, 8, 9] (k_X2_deepStreets l G n0 n1 n2 n3 t0 t1 t2 t3 t4 t5 t6 N_gi N_be N_da N_du N_pl N_de T_br T_fa T_fd T_fp T_st T_kd T_fs T_fl rr_9 ee_10) cw_X2_deepStreets rfl rfl (Nat.le_of_ble_eq_true rfl) 2 0 rfl rfl rfl rfl hl.1 rfl (Nat.le_of_ble_eq_true rfl) dX5_count_100 ⟨Nat.zero_le _, Nat.zero_le _⟩ (fun H locs hP hS => ?_)
    replace hP : va_P G.1 vwCl (W_F G x0 s0 s1 t0 t1 t2 t3 t4 t5 t6 n0 n1 n2 n3 r0 r1 r2 r3 a0 a1 p0 p1 p2 p3 k0 j0 X_ch S_len S_let T_br T_fa T_fd T_fp T_st T_kd T_fs T_fl N_gi N_be N_da N_du N_pl N_de R_gi R_be R_da R_du R_pl R_de A_fi A_si A_ce P_si P_be P_le P_go K_sl J_fi) H := hP
    cases h
    exact W.iret hx hb hr (fun t ht _ => ⟨⟨_, (), rfl, rfl, by show va_P G.1 vwCl _ t.heap; rw [ht]; exact hP⟩, hS.F ht⟩) hS.2.2 dX5_count_103
  replace h := if_f cc_8 h
  by_cases cc_11 : u1 = 6
  · refine lv_tableIn (off := 103) (tgt := 104) hx hb dX5_count_1 (by rw [cc_11]; decide) (by rw [cc_11]; decide) (by rw [cc_11]; rfl) (by decide) ?_
    replace h := if_t cc_11 h
    refine lv_aload_n hx hb dX5_count_104 rfl (lv_at hl 0 rfl) ?_
    refine va_get (ci := 5) (C := RX5) (T := TX5) (N := 9) hx hb hts inX5 hown hK.1 hP 0 rfl rfl 2 (by decide) fl28 (fun _ h9 => h9) rfl dX5_count_105 ?_
    refine va_getN (ci := 2) (C := RX2) (T := TX2) (N := 7) hx hb hts inX2 hown hK.1 hP 10 rfl rfl 4 (by decide) fl142 (fun _ h9 => h9) rfl dX5_count_108 ?_
    refine lv_if_eq (tgt := 118) hx hb dX5_count_111 (by decide) (fun cc_12 => ?_) (fun cc_12 => ?_)
    · replace h := if_t cc_12 h
      refine lv_iconst (v := 0) hx hb dX5_count_118 (by decide) ?_
      cases h
      exact W.iret hx hb hr (fun t ht _ => ⟨⟨_, (), rfl, rfl, by show va_P G.1 vwCl _ t.heap; rw [ht]; exact hP⟩, hS.F ht⟩) hS.2.2 dX5_count_119
    · replace h := if_f cc_12 h
      refine lv_iconst (v := 1) hx hb dX5_count_114 (by decide) ?_
      refine lv_goto (tgt := 119) hx hb dX5_count_115 (by decide) ?_
      cases h
      exact W.iret hx hb hr (fun t ht _ => ⟨⟨_, (), rfl, rfl, by show va_P G.1 vwCl _ t.heap; rw [ht]; exact hP⟩, hS.F ht⟩) hS.2.2 dX5_count_119
  replace h := if_f cc_11 h
  by_cases cc_13 : u1 = 7
  · refine lv_tableIn (off := 119) (tgt := 120) hx hb dX5_count_1 (by rw [cc_13]; decide) (by rw [cc_13]; decide) (by rw [cc_13]; rfl) (by decide) ?_
    replace h := if_t cc_13 h
    refine lv_aload_n hx hb dX5_count_120 rfl (lv_at hl 0 rfl) ?_
    refine va_get (ci := 5) (C := RX5) (T := TX5) (N := 9) hx hb hts inX5 hown hK.1 hP 0 rfl rfl 2 (by decide) fl28 (fun _ h9 => h9) rfl dX5_count_121 ?_
    refine va_getN (ci := 2) (C := RX2) (T := TX2) (N := 7) hx hb hts inX2 hown hK.1 hP 10 rfl rfl 5 (by decide) fl149 (fun _ h9 => h9) rfl dX5_count_124 ?_
    cases h
    exact W.iret hx hb hr (fun t ht _ => ⟨⟨_, (), rfl, rfl, by show va_P G.1 vwCl _ t.heap; rw [ht]; exact hP⟩, hS.F ht⟩) hS.2.2 dX5_count_127
  replace h := if_f cc_13 h
  by_cases cc_14 : u1 = 8
  · refine lv_tableIn (off := 127) (tgt := 128) hx hb dX5_count_1 (by rw [cc_14]; decide) (by rw [cc_14]; decide) (by rw [cc_14]; rfl) (by decide) ?_
    replace h := if_t cc_14 h
    refine lv_aload_n hx hb dX5_count_128 rfl (lv_at hl 0 rfl) ?_
    refine va_get (ci := 5) (C := RX5) (T := TX5) (N := 9) hx hb hts inX5 hown hK.1 hP 0 rfl rfl 4 (by decide) fl38 (fun _ h9 => h9) rfl dX5_count_129 ?_
    refine va_getN (ci := 0) (C := RX0) (T := TX0) (N := 3) hx hb hts inX0 hown hK.1 hP 18 rfl rfl 2 (by decide) fl160 (fun _ h9 => h9) rfl dX5_count_132 ?_
    cases h
    exact W.iret hx hb hr (fun t ht _ => ⟨⟨_, (), rfl, rfl, by show va_P G.1 vwCl _ t.heap; rw [ht]; exact hP⟩, hS.F ht⟩) hS.2.2 dX5_count_135
  replace h := if_f cc_14 h
  by_cases cc_15 : u1 = 9
  · refine lv_tableIn (off := 135) (tgt := 136) hx hb dX5_count_1 (by rw [cc_15]; decide) (by rw [cc_15]; decide) (by rw [cc_15]; rfl) (by decide) ?_
    replace h := if_t cc_15 h
    refine lv_aload_n hx hb dX5_count_136 rfl (lv_at hl 0 rfl) ?_
    refine va_get (ci := 5) (C := RX5) (T := TX5) (N := 9) hx hb hts inX5 hown hK.1 hP 0 rfl rfl 5 (by decide) fl45 (fun _ h9 => h9) rfl dX5_count_137 ?_
    refine va_getN (ci := 1) (C := RX1) (T := TX1) (N := 4) hx hb hts inX1 hown hK.1 hP 20 rfl rfl 3 (by decide) fl203 (fun _ h9 => h9) rfl dX5_count_140 ?_
    cases h
    exact W.iret hx hb hr (fun t ht _ => ⟨⟨_, (), rfl, rfl, by show va_P G.1 vwCl _ t.heap; rw [ht]; exact hP⟩, hS.F ht⟩) hS.2.2 dX5_count_143
  replace h := if_f cc_15 h
  refine lv_tableOut (tgt := 144) hx hb dX5_count_1 (by have acc_1 := ne_toInt cc_1 (k := 0) (by decide); have acc_2 := ne_toInt cc_2 (k := 1) (by decide); have acc_3 := ne_toInt cc_3 (k := 2) (by decide); have acc_4 := ne_toInt cc_4 (k := 3) (by decide); have acc_5 := ne_toInt cc_5 (k := 4) (by decide); have acc_8 := ne_toInt cc_8 (k := 5) (by decide); have acc_11 := ne_toInt cc_11 (k := 6) (by decide); have acc_13 := ne_toInt cc_13 (k := 7) (by decide); have acc_14 := ne_toInt cc_14 (k := 8) (by decide); have acc_15 := ne_toInt cc_15 (k := 9) (by decide); omega) (by decide) ?_
  refine lv_bipush (v := (-2)) hx hb dX5_count_144 (by decide) ?_
  cases h
  exact W.iret hx hb hr (fun t ht _ => ⟨⟨_, (), rfl, rfl, by show va_P G.1 vwCl _ t.heap; rw [ht]; exact hP⟩, hS.F ht⟩) hS.2.2 dX5_count_146
