def f_X1_add (P_si : Int32) (P_be : Nat → Int32) (P_le : Nat → Int32) (P_go : Nat → Int32) (u1 : Int32) (u2 : Int32) (u3 : Int32) : Option (Int32 × (Nat → Int32) × (Nat → Int32) × (Nat → Int32)) := if (6 : Int32) ≤ P_si then (some (P_si, P_be, P_le, P_go)) else (bnd1 (wr P_be 6 P_si u1) (fun dd_2 => bnd1 (wr P_le 6 P_si u2) (fun dd_4 => bnd1 (wr P_go 6 P_si u3) (fun dd_6 => some ((P_si + (1 : Int32)), dd_2, dd_4, dd_6)))))
set_option maxRecDepth 100000 in
set_option maxHeartbeats 4000000 in
theorem k_X1_add (l : Launch) (G : Gt) (p0 p1 p2 p3 : Nat) (P_si : Int32) (P_be : Nat → Int32) (P_le : Nat → Int32) (P_go : Nat → Int32) (u1 : Int32) (u2 : Int32) (u3 : Int32) (o_P_si : Int32) (o_P_be : Nat → Int32) (o_P_le : Nat → Int32) (o_P_go : Nat → Int32) (h : f_X1_add P_si P_be P_le P_go u1 u2 u3 = some (o_P_si, o_P_be, o_P_le, o_P_go)) : CT l yX1_add wsX1_add 0 0 G [.ref p0, .int u1, .int u2, .int u3] (W_P G p0 p1 p2 p3 P_si P_be P_le P_go) (QV G (W_P G p0 p1 p2 p3 o_P_si o_P_be o_P_le o_P_go)) := by
  refine met_of cX1_add 4 none (by decide) rfl (Nat.le_of_ble_eq_true rfl) ?_
  intro p e s m below meth c A ls hx hb hr hml hts hown hlocks hK hA hD hP hS hl
  replace hown : s.vm.findClass RX1 = some m.cls := hown
  replace hl : lv_has ls 4 [(0, .ref p0), (1, .int u1), (2, .int u2), (3, .int u3)] := hl
  have S0 : CallFix p m c cX1_add 4 s _ wsX1_add RX1 := ⟨hx, hb, hml, hown, hts⟩
  have fl21 := hts (.fieldLink RX1 21 "DustVote$Heaps" "size" "I") (by decide +kernel)
  have inX1 := show ∀ w ∈ wsX10, w ∈ wsX1_add from by decide +kernel
  have fl9 := hts (.fieldLink RX1 9 "DustVote$Heaps" "before" "[I") (by decide +kernel)
  have fl15 := hts (.fieldLink RX1 15 "DustVote$Heaps" "left" "[I") (by decide +kernel)
  have fl18 := hts (.fieldLink RX1 18 "DustVote$Heaps" "gone" "[I") (by decide +kernel)
  unfold f_X1_add at h
  refine lv_aload_n hx hb dX1_add_0 rfl (lv_at hl 0 rfl) ?_
  refine va_get (ci := 1) (C := RX1) (T := TX1) (N := 4) hx hb hts inX1 hown hK.1 hP 0 rfl rfl 3 (by decide) fl21 (fun _ h9 => h9) rfl dX1_add_1 ?_
  refine lv_bipush (v := 6) hx hb dX1_add_4 (by decide) ?_
  refine lv_icmp_ge (tgt := 49) hx hb dX1_add_6 (by decide) (fun cc_1 => ?_) (fun cc_1 => ?_)
  · replace h := if_t cc_1 h
    cases h
    exact W.vret hx hb hr (fun t ht _ => ⟨⟨(), rfl, trivial, by show va_P G.1 vwCl _ t.heap; rw [ht]; exact hP⟩, hS.F ht⟩) hS.2.2 dX1_add_49
  · replace h := if_f cc_1 h
    refine lv_aload_n hx hb dX1_add_9 rfl (lv_at hl 0 rfl) ?_
    refine va_get (ci := 1) (C := RX1) (T := TX1) (N := 4) hx hb hts inX1 hown hK.1 hP 0 rfl rfl 0 (by decide) fl9 (fun _ h9 => h9) rfl dX1_add_10 ?_
    refine lv_aload_n hx hb dX1_add_13 rfl (lv_at hl 0 rfl) ?_
    refine va_get (ci := 1) (C := RX1) (T := TX1) (N := 4) hx hb hts inX1 hown hK.1 hP 0 rfl rfl 3 (by decide) fl21 (fun _ h9 => h9) rfl dX1_add_14 ?_
    refine lv_iload_n hx hb dX1_add_17 rfl (lv_at hl 1 rfl) ?_
    obtain ⟨dd_2, ee_3, h⟩ := bnd1_s h
    refine wIast hx hb hK hP (va_D_same hD rfl) hS 1 rfl ee_3 dX1_add_18 (fun H locs hP hS => ?_)
    replace hP : va_P G.1 vwCl (W_P G p0 p1 p2 p3 P_si dd_2 P_le P_go) H := hP
    refine lv_aload_n hx hb dX1_add_19 rfl (lv_at hl 0 rfl) ?_
    refine va_get (ci := 1) (C := RX1) (T := TX1) (N := 4) hx hb hts inX1 hown hK.1 hP 0 rfl rfl 1 (by decide) fl15 (fun _ h9 => h9) rfl dX1_add_20 ?_
    refine lv_aload_n hx hb dX1_add_23 rfl (lv_at hl 0 rfl) ?_
    refine va_get (ci := 1) (C := RX1) (T := TX1) (N := 4) hx hb hts inX1 hown hK.1 hP 0 rfl rfl 3 (by decide) fl21 (fun _ h9 => h9) rfl dX1_add_24 ?_
    refine lv_iload_n hx hb dX1_add_27 rfl (lv_at hl 2 rfl) ?_
    obtain ⟨dd_4, ee_5, h⟩ := bnd1_s h
    refine wIast hx hb hK hP (va_D_same hD rfl) hS 2 rfl ee_5 dX1_add_28 (fun H locs hP hS => ?_)
    replace hP : va_P G.1 vwCl (W_P G p0 p1 p2 p3 P_si dd_2 dd_4 P_go) H := hP
    refine lv_aload_n hx hb dX1_add_29 rfl (lv_at hl 0 rfl) ?_
    refine va_get (ci := 1) (C := RX1) (T := TX1) (N := 4) hx hb hts inX1 hown hK.1 hP 0 rfl rfl 2 (by decide) fl18 (fun _ h9 => h9) rfl dX1_add_30 ?_
    refine lv_aload_n hx hb dX1_add_33 rfl (lv_at hl 0 rfl) ?_
    refine va_get (ci := 1) (C := RX1) (T := TX1) (N := 4) hx hb hts inX1 hown hK.1 hP 0 rfl rfl 3 (by decide) fl21 (fun _ h9 => h9) rfl dX1_add_34 ?_
    refine lv_iload_n hx hb dX1_add_37 rfl (lv_at hl 3 rfl) ?_
    obtain ⟨dd_6, ee_7, h⟩ := bnd1_s h
    refine wIast hx hb hK hP (va_D_same hD rfl) hS 3 rfl ee_7 dX1_add_38 (fun H locs hP hS => ?_)
    replace hP : va_P G.1 vwCl (W_P G p0 p1 p2 p3 P_si dd_2 dd_4 dd_6) H := hP
    refine lv_aload_n hx hb dX1_add_39 rfl (lv_at hl 0 rfl) ?_
    refine lv_dup hx hb dX1_add_40 rfl ?_
    refine va_get (ci := 1) (C := RX1) (T := TX1) (N := 4) hx hb hts inX1 hown hK.1 hP 0 rfl rfl 3 (by decide) fl21 (fun _ h9 => h9) rfl dX1_add_41 ?_
    refine lv_iconst (v := 1) hx hb dX1_add_44 (by decide) ?_
    refine lv_iadd hx hb dX1_add_45 ?_
    refine va_put (ci := 1) (ty := .int) (C := RX1) (T := TX1) (N := 4) hx hb hts inX1 tyX1 tyX1_ok nmX1 hown hK.1 hP (va_D_same hD rfl) hS 0 rfl rfl 3 (by decide) fl21 (fun _ h9 => h9) rfl (by decide +kernel) rfl rfl (Nat.le_of_ble_eq_true rfl) dX1_add_46 (fun H locs hP _ hS => ?_)
    replace hP : va_P G.1 vwCl (W_P G p0 p1 p2 p3 (P_si + (1 : Int32)) dd_2 dd_4 dd_6) H := hP
    cases h
    exact W.vret hx hb hr (fun t ht _ => ⟨⟨(), rfl, trivial, by show va_P G.1 vwCl _ t.heap; rw [ht]; exact hP⟩, hS.F ht⟩) hS.2.2 dX1_add_49
def f_X5_heap (P_si : Int32) (P_be : Nat → Int32) (P_le : Nat → Int32) (P_go : Nat → Int32) (u1 : Int32) (u2 : Int32) (u3 : Int32) : Option (Int32 × Int32 × (Nat → Int32) × (Nat → Int32) × (Nat → Int32)) := bnd1 (f_X5_within u1 (0 : Int32) (20 : Int32)) (fun rr_1 => if rr_1 = 0 then (some (((-2) : Int32), P_si, P_be, P_le, P_go)) else (bnd1 (f_X5_within u2 (0 : Int32) (20 : Int32)) (fun rr_4 => if rr_4 = 0 then (some (((-2) : Int32), P_si, P_be, P_le, P_go)) else (bnd1 (f_X5_within u3 (0 : Int32) (9 : Int32)) (fun rr_7 => if rr_7 = 0 then (some (((-2) : Int32), P_si, P_be, P_le, P_go)) else (if P_si < (6 : Int32) then (bnd4 (f_X1_add P_si P_be P_le P_go u1 u2 u3) (fun dd_11 dd_12 dd_13 dd_14 => some (dd_11, dd_11, dd_12, dd_13, dd_14))) else (some (((-4) : Int32), P_si, P_be, P_le, P_go))))))))
set_option maxRecDepth 100000 in
set_option maxHeartbeats 4000000 in
theorem k_X5_heap (l : Launch) (G : Gt) (x0 s0 s1 t0 t1 t2 t3 t4 t5 t6 n0 n1 n2 n3 r0 r1 r2 r3 a0 a1 p0 p1 p2 p3 k0 j0 : Nat) (X_ch : Int64) (S_len : Int32) (S_let : Nat → Int32) (T_br : Int32) (T_fa : Int32) (T_fd : Nat → Int32) (T_fp : Nat → Int32) (T_st : Nat → Int32) (T_kd : Nat → Int32) (T_fs : Nat → Int32) (T_fl : Nat → Int32) (N_gi : Int32) (N_be : Int32) (N_da : Int32) (N_du : Nat → Int32) (N_pl : Nat → Int32) (N_de : Nat → Int32) (R_gi : Int32) (R_be : Int32) (R_da : Int32) (R_du : Nat → Int32) (R_pl : Nat → Int32) (R_de : Nat → Int32) (A_fi : Int32) (A_si : Int32) (A_ce : Nat → Int32) (P_si : Int32) (P_be : Nat → Int32) (P_le : Nat → Int32) (P_go : Nat → Int32) (K_sl : Nat → Int32) (J_fi : Nat → Int32) (u1 : Int32) (u2 : Int32) (u3 : Int32) (r_ : Int32) (o_P_si : Int32) (o_P_be : Nat → Int32) (o_P_le : Nat → Int32) (o_P_go : Nat → Int32) (h : f_X5_heap P_si P_be P_le P_go u1 u2 u3 = some (r_, o_P_si, o_P_be, o_P_le, o_P_go)) : CT l yX5_heap wsX5_heap 1 23 G [.ref x0, .int u1, .int u2, .int u3] (W_F G x0 s0 s1 t0 t1 t2 t3 t4 t5 t6 n0 n1 n2 n3 r0 r1 r2 r3 a0 a1 p0 p1 p2 p3 k0 j0 X_ch S_len S_let T_br T_fa T_fd T_fp T_st T_kd T_fs T_fl N_gi N_be N_da N_du N_pl N_de R_gi R_be R_da R_du R_pl R_de A_fi A_si A_ce P_si P_be P_le P_go K_sl J_fi) (QI G r_ (W_F G x0 s0 s1 t0 t1 t2 t3 t4 t5 t6 n0 n1 n2 n3 r0 r1 r2 r3 a0 a1 p0 p1 p2 p3 k0 j0 X_ch S_len S_let T_br T_fa T_fd T_fp T_st T_kd T_fs T_fl N_gi N_be N_da N_du N_pl N_de R_gi R_be R_da R_du R_pl R_de A_fi A_si A_ce o_P_si o_P_be o_P_le o_P_go K_sl J_fi)) := by
  refine met_of cX5_heap 4 (some .int) (by decide) rfl (Nat.le_of_ble_eq_true rfl) ?_
  intro p e s m below meth c A ls hx hb hr hml hts hown hlocks hK hA hD hP hS hl
  replace hown : s.vm.findClass RX5 = some m.cls := hown
  replace hl : lv_has ls 4 [(0, .ref x0), (1, .int u1), (2, .int u2), (3, .int u3)] := hl
  have S0 : CallFix p m c cX5_heap 4 s _ wsX5_heap RX5 := ⟨hx, hb, hml, hown, hts⟩
  have cw_X5_within := show CallB (rmv 1 23) s _ RX5 61 yX5_within cX5_within 3 (some .boolean) wsX5_within (rmv 0 0) 0 0 3 ∧ (Cond.static yX5_within).before _ s = true from va_cwS 3 hts gX5_heap_X5_within rfl rfl rfl (by decide +kernel) ⟨Nat.le_of_ble_eq_true rfl, Nat.le_of_ble_eq_true rfl⟩
  have fl45 := hts (.fieldLink RX5 45 "DustVote" "heaps" "LDustVote$Heaps;") (by decide +kernel)
  have inX5 := show ∀ w ∈ wsX50, w ∈ wsX5_heap from by decide +kernel
  have fl203 := hK.f (args := List.toArray [.ref x0, .int u1, .int u2, .int u3]) (show ("DustVote", 203, "DustVote$Heaps", "size", "I", "DustVote") ∈ nestF by decide)
  have inX1 := show ∀ w ∈ wsX10, w ∈ wsX5_heap from by decide +kernel
  have cw_X1_add := show CallW (rmv 1 23) s _ RX5 RX1 204 yX1_add cX1_add 4 none wsX1_add (rmv 0 0) 0 0 3 from cwV 3 hts gX5_heap_X1_add rfl rfl rfl (by decide +kernel) ⟨Nat.le_of_ble_eq_true rfl, Nat.le_of_ble_eq_true rfl⟩
  unfold f_X5_heap at h
  refine lv_iload_n hx hb dX5_heap_0 rfl (lv_at hl 1 rfl) ?_
  refine lv_iconst (v := 0) hx hb dX5_heap_1 (by decide) ?_
  refine lv_bipush (v := 20) hx hb dX5_heap_2 (by decide) ?_
  obtain ⟨rr_1, ee_2, h⟩ := bnd1_s h
  refine cSi (As := [.int u1, .int (0 : Int32), .int (20 : Int32)]) (rest := []) S0 hK hA hP (va_D_same hD rfl) hS [] (k_X5_within l G u1 (0 : Int32) (20 : Int32) rr_1 ee_2) cw_X5_within rfl rfl (Nat.le_of_ble_eq_true rfl) rfl hl.1 rfl (Nat.le_of_ble_eq_true rfl) dX5_heap_4 ⟨Nat.zero_le _, Nat.zero_le _⟩ (fun H locs hP hS => ?_)
  replace hP : va_P G.1 vwCl (W_F G x0 s0 s1 t0 t1 t2 t3 t4 t5 t6 n0 n1 n2 n3 r0 r1 r2 r3 a0 a1 p0 p1 p2 p3 k0 j0 X_ch S_len S_let T_br T_fa T_fd T_fp T_st T_kd T_fs T_fl N_gi N_be N_da N_du N_pl N_de R_gi R_be R_da R_du R_pl R_de A_fi A_si A_ce P_si P_be P_le P_go K_sl J_fi) H := hP
  refine lv_if_eq (tgt := 30) hx hb dX5_heap_7 (by decide) (fun cc_3 => ?_) (fun cc_3 => ?_)
  · replace h := if_t cc_3 h
    refine lv_bipush (v := (-2)) hx hb dX5_heap_30 (by decide) ?_
    cases h
    exact W.iret hx hb hr (fun t ht _ => ⟨⟨_, (), rfl, rfl, by show va_P G.1 vwCl _ t.heap; rw [ht]; exact hP⟩, hS.F ht⟩) hS.2.2 dX5_heap_32
  · replace h := if_f cc_3 h
    refine lv_iload_n hx hb dX5_heap_10 rfl (lv_at hl 2 rfl) ?_
    refine lv_iconst (v := 0) hx hb dX5_heap_11 (by decide) ?_
    refine lv_bipush (v := 20) hx hb dX5_heap_12 (by decide) ?_
    obtain ⟨rr_4, ee_5, h⟩ := bnd1_s h
    refine cSi (As := [.int u2, .int (0 : Int32), .int (20 : Int32)]) (rest := []) S0 hK hA hP (va_D_same hD rfl) hS [] (k_X5_within l G u2 (0 : Int32) (20 : Int32) rr_4 ee_5) cw_X5_within rfl rfl (Nat.le_of_ble_eq_true rfl) rfl hl.1 rfl (Nat.le_of_ble_eq_true rfl) dX5_heap_14 ⟨Nat.zero_le _, Nat.zero_le _⟩ (fun H locs hP hS => ?_)
    replace hP : va_P G.1 vwCl (W_F G x0 s0 s1 t0 t1 t2 t3 t4 t5 t6 n0 n1 n2 n3 r0 r1 r2 r3 a0 a1 p0 p1 p2 p3 k0 j0 X_ch S_len S_let T_br T_fa T_fd T_fp T_st T_kd T_fs T_fl N_gi N_be N_da N_du N_pl N_de R_gi R_be R_da R_du R_pl R_de A_fi A_si A_ce P_si P_be P_le P_go K_sl J_fi) H := hP
    refine lv_if_eq (tgt := 30) hx hb dX5_heap_17 (by decide) (fun cc_6 => ?_) (fun cc_6 => ?_)
    · replace h := if_t cc_6 h
      refine lv_bipush (v := (-2)) hx hb dX5_heap_30 (by decide) ?_
      cases h
      exact W.iret hx hb hr (fun t ht _ => ⟨⟨_, (), rfl, rfl, by show va_P G.1 vwCl _ t.heap; rw [ht]; exact hP⟩, hS.F ht⟩) hS.2.2 dX5_heap_32
    · replace h := if_f cc_6 h
      refine lv_iload_n hx hb dX5_heap_20 rfl (lv_at hl 3 rfl) ?_
      refine lv_iconst (v := 0) hx hb dX5_heap_21 (by decide) ?_
      refine lv_bipush (v := 9) hx hb dX5_heap_22 (by decide) ?_
      obtain ⟨rr_7, ee_8, h⟩ := bnd1_s h
      refine cSi (As := [.int u3, .int (0 : Int32), .int (9 : Int32)]) (rest := []) S0 hK hA hP (va_D_same hD rfl) hS [] (k_X5_within l G u3 (0 : Int32) (9 : Int32) rr_7 ee_8) cw_X5_within rfl rfl (Nat.le_of_ble_eq_true rfl) rfl hl.1 rfl (Nat.le_of_ble_eq_true rfl) dX5_heap_24 ⟨Nat.zero_le _, Nat.zero_le _⟩ (fun H locs hP hS => ?_)
      replace hP : va_P G.1 vwCl (W_F G x0 s0 s1 t0 t1 t2 t3 t4 t5 t6 n0 n1 n2 n3 r0 r1 r2 r3 a0 a1 p0 p1 p2 p3 k0 j0 X_ch S_len S_let T_br T_fa T_fd T_fp T_st T_kd T_fs T_fl N_gi N_be N_da N_du N_pl N_de R_gi R_be R_da R_du R_pl R_de A_fi A_si A_ce P_si P_be P_le P_go K_sl J_fi) H := hP
      refine lv_if_ne (tgt := 33) hx hb dX5_heap_27 (by decide) (fun cc_9 => ?_) (fun cc_9 => ?_)
      · replace h := if_f cc_9 h
        refine lv_aload_n hx hb dX5_heap_33 rfl (lv_at hl 0 rfl) ?_
        refine va_get (ci := 5) (C := RX5) (T := TX5) (N := 9) hx hb hts inX5 hown hK.1 hP 0 rfl rfl 5 (by decide) fl45 (fun _ h9 => h9) rfl dX5_heap_34 ?_
        refine va_getN (ci := 1) (C := RX1) (T := TX1) (N := 4) hx hb hts inX1 hown hK.1 hP 20 rfl rfl 3 (by decide) fl203 (fun _ h9 => h9) rfl dX5_heap_37 ?_
        refine lv_bipush (v := 6) hx hb dX5_heap_40 (by decide) ?_
        refine lv_icmp_lt (tgt := 48) hx hb dX5_heap_42 (by decide) (fun cc_10 => ?_) (fun cc_10 => ?_)
        · replace h := if_t cc_10 h
          refine lv_aload_n hx hb dX5_heap_48 rfl (lv_at hl 0 rfl) ?_
          refine va_get (ci := 5) (C := RX5) (T := TX5) (N := 9) hx hb hts inX5 hown hK.1 hP 0 rfl rfl 5 (by decide) fl45 (fun _ h9 => h9) rfl dX5_heap_49 ?_
          refine lv_iload_n hx hb dX5_heap_52 rfl (lv_at hl 1 rfl) ?_
          refine lv_iload_n hx hb dX5_heap_53 rfl (lv_at hl 2 rfl) ?_
          refine lv_iload_n hx hb dX5_heap_54 rfl (lv_at hl 3 rfl) ?_
          obtain ⟨dd_11, dd_12, dd_13, dd_14, ee_15, h⟩ := bnd4_s h
          refine cVv (As := [.int u1, .int u2, .int u3]) (rest := []) S0 hK hA hP (va_D_same hD rfl) hS [20, 21, 22, 23] (k_X1_add l G p0 p1 p2 p3 P_si P_be P_le P_go u1 u2 u3 dd_11 dd_12 dd_13 dd_14 ee_15) cw_X1_add rfl rfl (Nat.le_of_ble_eq_true rfl) 1 0 rfl rfl rfl rfl hl.1 rfl (Nat.le_of_ble_eq_true rfl) dX5_heap_55 ⟨Nat.zero_le _, Nat.zero_le _⟩ (fun H locs hP hS => ?_)
          replace hP : va_P G.1 vwCl (W_F G x0 s0 s1 t0 t1 t2 t3 t4 t5 t6 n0 n1 n2 n3 r0 r1 r2 r3 a0 a1 p0 p1 p2 p3 k0 j0 X_ch S_len S_let T_br T_fa T_fd T_fp T_st T_kd T_fs T_fl N_gi N_be N_da N_du N_pl N_de R_gi R_be R_da R_du R_pl R_de A_fi A_si A_ce dd_11 dd_12 dd_13 dd_14 K_sl J_fi) H := hP
          refine lv_aload_n hx hb dX5_heap_58 rfl (lv_at hl 0 rfl) ?_
          refine va_get (ci := 5) (C := RX5) (T := TX5) (N := 9) hx hb hts inX5 hown hK.1 hP 0 rfl rfl 5 (by decide) fl45 (fun _ h9 => h9) rfl dX5_heap_59 ?_
          refine va_getN (ci := 1) (C := RX1) (T := TX1) (N := 4) hx hb hts inX1 hown hK.1 hP 20 rfl rfl 3 (by decide) fl203 (fun _ h9 => h9) rfl dX5_heap_62 ?_
          cases h
          exact W.iret hx hb hr (fun t ht _ => ⟨⟨_, (), rfl, rfl, by show va_P G.1 vwCl _ t.heap; rw [ht]; exact hP⟩, hS.F ht⟩) hS.2.2 dX5_heap_65
        · replace h := if_f cc_10 h
          refine lv_bipush (v := (-4)) hx hb dX5_heap_45 (by decide) ?_
          cases h
          exact W.iret hx hb hr (fun t ht _ => ⟨⟨_, (), rfl, rfl, by show va_P G.1 vwCl _ t.heap; rw [ht]; exact hP⟩, hS.F ht⟩) hS.2.2 dX5_heap_47
      · replace h := if_t cc_9 h
        refine lv_bipush (v := (-2)) hx hb dX5_heap_30 (by decide) ?_
        cases h
        exact W.iret hx hb hr (fun t ht _ => ⟨⟨_, (), rfl, rfl, by show va_P G.1 vwCl _ t.heap; rw [ht]; exact hP⟩, hS.F ht⟩) hS.2.2 dX5_heap_32
