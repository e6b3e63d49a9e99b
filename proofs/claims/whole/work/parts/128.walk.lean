def f_X5_factorial_4 : Nat → Int32 → Int64 → Int32 → Option (Int64)
  | 0, _, _, _ => none
  | fu + 1, v0, v1, v3 => if v0 < v3 then (some v1) else (f_X5_factorial_4 fu v0 (v1 * (v3.toInt64)) (v3 + 1))
def f_X5_factorial (u1 : Int32) : Option (Int64) := f_X5_factorial_4  130 u1 (1 : Int64) (2 : Int32)
set_option maxRecDepth 100000 in
set_option maxHeartbeats 4000000 in
theorem k_X5_factorial (l : Launch) (G : Gt) (u1 : Int32) (r_ : Int64) (h : f_X5_factorial u1 = some r_) : CT l yX5_factorial wsX5_factorial 0 0 G [.int u1] (W_0 G) (QL G r_ (W_0 G)) := by
  refine met_of cX5_factorial 4 (some .long) (by decide) rfl (Nat.le_of_ble_eq_true rfl) ?_
  intro p e s m below meth c A ls hx hb hr hml hts hown hlocks hK hA hD hP hS hl
  replace hown : s.vm.findClass RX5 = some m.cls := hown
  replace hl : lv_has ls 4 [(0, .int u1)] := hl
  have S0 : CallFix p m c cX5_factorial 4 s _ wsX5_factorial RX5 := ⟨hx, hb, hml, hown, hts⟩
  have J_4 : ∀ (fu : Nat), ∀ (v0 : Int32) (v1 : Int64) (v3 : Int32) (H : Heap) (locs : List Loc) (ls : Array Slot), f_X5_factorial_4 fu v0 v1 v3 = some r_ → va_P G.1 vwCl (W_0 G) H → va_S A s.heap H locs → lv_has ls 4 [(0, .int v0), (1, .long v1), (3, .int v3)] → W p l e (rmv 0 0) s m (List.toArray [.int u1]) below meth c H locs 0 0 (MQ below ((QL G r_ (W_0 G)) A) (List.toArray [.int u1]) s 0 0 A) (F0 m 4 ls []) := by
    intro  fu
    induction fu with
    | zero =>
      intro v0 v1 v3 H locs ls h
      cases h
    | succ fu ih =>
      intro v0 v1 v3 H locs ls h hP hS hl
      rw [f_X5_factorial_4] at h
      refine lv_iload_n hx hb dX5_factorial_4 rfl (lv_at hl 2 rfl) ?_
      refine lv_iload_n hx hb dX5_factorial_5 rfl (lv_at hl 0 rfl) ?_
      refine lv_icmp_gt (tgt := 20) hx hb dX5_factorial_6 (by decide) (fun cc_1 => ?_) (fun cc_1 => ?_)
      · replace h := if_t cc_1 h
        refine lv_lload_n hx hb dX5_factorial_20 rfl (lv_at hl 1 rfl) ?_
        cases h
        exact W.lret hx hb hr (fun t ht _ => ⟨⟨_, (), rfl, rfl, by show va_P G.1 vwCl _ t.heap; rw [ht]; exact hP⟩, hS.F ht⟩) hS.2.2 dX5_factorial_21
      · replace h := if_f cc_1 h
        refine lv_lload_n hx hb dX5_factorial_9 rfl (lv_at hl 1 rfl) ?_
        refine lv_iload_n hx hb dX5_factorial_10 rfl (lv_at hl 2 rfl) ?_
        refine lv_i2l (v := v3.toInt64) hx hb dX5_factorial_11 rfl ?_
        refine lv_lmul hx hb dX5_factorial_12 ?_
        refine lv_lstore_n (lv' := [(1, .long (v1 * (v3.toInt64))), (0, .int v0), (3, .int v3)]) hx hb dX5_factorial_13 rfl hl (by decide) rfl (fun ls hl => ?_)
        refine lv_iinc (v := (v3 + 1)) (lv' := [(3, .int (v3 + 1)), (1, .long (v1 * (v3.toInt64))), (0, .int v0)]) hx hb dX5_factorial_14 hl (k := 2) rfl rfl (by decide) rfl (fun ls hl => ?_)
        refine lv_goto (tgt := 4) hx hb dX5_factorial_17 (by decide) ?_
        exact ih v0 (v1 * (v3.toInt64)) (v3 + 1) _ _ _ h hP hS (lv_sub hl [2, 1, 0] rfl)
  unfold f_X5_factorial at h
  refine lv_lconst (v := 1) hx hb dX5_factorial_0 (by decide) ?_
  refine lv_lstore_n (lv' := [(1, .long (1 : Int64)), (0, .int u1)]) hx hb dX5_factorial_1 rfl hl (by decide) rfl (fun ls hl => ?_)
  refine lv_iconst (v := 2) hx hb dX5_factorial_2 (by decide) ?_
  refine lv_istore_n (lv' := [(3, .int (2 : Int32)), (1, .long (1 : Int64)), (0, .int u1)]) hx hb dX5_factorial_3 rfl hl (by decide) rfl (fun ls hl => ?_)
  exact J_4  130 u1 (1 : Int64) (2 : Int32) _ _ _ h hP hS (lv_sub hl [2, 1, 0] rfl)
def f_X5_ordersWith (T_br : Int32) (u1 : Int32) : Option (Int64) := bnd1 (f_X5_factorial u1) (fun rr_1 => bnd1 (f_X5_factorial ((T_br - (1 : Int32)) - u1)) (fun rr_3 => some (rr_1 * rr_3)))
set_option maxRecDepth 100000 in
set_option maxHeartbeats 4000000 in
theorem k_X5_ordersWith (l : Launch) (G : Gt) (x0 s0 s1 t0 t1 t2 t3 t4 t5 t6 n0 n1 n2 n3 r0 r1 r2 r3 a0 a1 p0 p1 p2 p3 k0 j0 : Nat) (X_ch : Int64) (S_len : Int32) (S_let : Nat → Int32) (T_br : Int32) (T_fa : Int32) (T_fd : Nat → Int32) (T_fp : Nat → Int32) (T_st : Nat → Int32) (T_kd : Nat → Int32) (T_fs : Nat → Int32) (T_fl : Nat → Int32) (N_gi : Int32) (N_be : Int32) (N_da : Int32) (N_du : Nat → Int32) (N_pl : Nat → Int32) (N_de : Nat → Int32) (R_gi : Int32) (R_be : Int32) (R_da : Int32) (R_du : Nat → Int32) (R_pl : Nat → Int32) (R_de : Nat → Int32) (A_fi : Int32) (A_si : Int32) (A_ce : Nat → Int32) (P_si : Int32) (P_be : Nat → Int32) (P_le : Nat → Int32) (P_go : Nat → Int32) (K_sl : Nat → Int32) (J_fi : Nat → Int32) (u1 : Int32) (r_ : Int64) (h : f_X5_ordersWith T_br u1 = some r_) : CT l yX5_ordersWith wsX5_ordersWith 1 23 G [.ref x0, .int u1] (W_F G x0 s0 s1 t0 t1 t2 t3 t4 t5 t6 n0 n1 n2 n3 r0 r1 r2 r3 a0 a1 p0 p1 p2 p3 k0 j0 X_ch S_len S_let T_br T_fa T_fd T_fp T_st T_kd T_fs T_fl N_gi N_be N_da N_du N_pl N_de R_gi R_be R_da R_du R_pl R_de A_fi A_si A_ce P_si P_be P_le P_go K_sl J_fi) (QL G r_ (W_F G x0 s0 s1 t0 t1 t2 t3 t4 t5 t6 n0 n1 n2 n3 r0 r1 r2 r3 a0 a1 p0 p1 p2 p3 k0 j0 X_ch S_len S_let T_br T_fa T_fd T_fp T_st T_kd T_fs T_fl N_gi N_be N_da N_du N_pl N_de R_gi R_be R_da R_du R_pl R_de A_fi A_si A_ce P_si P_be P_le P_go K_sl J_fi)) := by
  refine met_of cX5_ordersWith 2 (some .long) (by decide) rfl (Nat.le_of_ble_eq_true rfl) ?_
  intro p e s m below meth c A ls hx hb hr hml hts hown hlocks hK hA hD hP hS hl
  replace hown : s.vm.findClass RX5 = some m.cls := hown
  replace hl : lv_has ls 2 [(0, .ref x0), (1, .int u1)] := hl
  have S0 : CallFix p m c cX5_ordersWith 2 s _ wsX5_ordersWith RX5 := ⟨hx, hb, hml, hown, hts⟩
  have cw_X5_factorial := show CallB (rmv 1 23) s _ RX5 214 yX5_factorial cX5_factorial 4 (some .long) wsX5_factorial (rmv 0 0) 0 0 1 ∧ (Cond.static yX5_factorial).before _ s = true from va_cwS 1 hts gX5_ordersWith_X5_factorial rfl rfl rfl (by decide +kernel) ⟨Nat.le_of_ble_eq_true rfl, Nat.le_of_ble_eq_true rfl⟩
  have fl19 := hts (.fieldLink RX5 19 "DustVote" "told" "LDustVote$Told;") (by decide +kernel)
  have inX5 := show ∀ w ∈ wsX50, w ∈ wsX5_ordersWith from by decide +kernel
  have fl87 := hK.f (args := List.toArray [.ref x0, .int u1]) (show ("DustVote", 87, "DustVote$Told", "brooms", "I", "DustVote") ∈ nestF by decide)
  have inX4 := show ∀ w ∈ wsX40, w ∈ wsX5_ordersWith from by decide +kernel
  unfold f_X5_ordersWith at h
  refine lv_iload_n hx hb dX5_ordersWith_0 rfl (lv_at hl 1 rfl) ?_
  obtain ⟨rr_1, ee_2, h⟩ := bnd1_s h
  refine cSl (As := [.int u1]) (rest := []) S0 hK hA hP (va_D_same hD rfl) hS [] (k_X5_factorial l G u1 rr_1 ee_2) cw_X5_factorial rfl rfl (Nat.le_of_ble_eq_true rfl) rfl hl.1 rfl (Nat.le_of_ble_eq_true rfl) dX5_ordersWith_1 ⟨Nat.zero_le _, Nat.zero_le _⟩ (fun H locs hP hS => ?_)
  replace hP : va_P G.1 vwCl (W_F G x0 s0 s1 t0 t1 t2 t3 t4 t5 t6 n0 n1 n2 n3 r0 r1 r2 r3 a0 a1 p0 p1 p2 p3 k0 j0 X_ch S_len S_let T_br T_fa T_fd T_fp T_st T_kd T_fs T_fl N_gi N_be N_da N_du N_pl N_de R_gi R_be R_da R_du R_pl R_de A_fi A_si A_ce P_si P_be P_le P_go K_sl J_fi) H := hP
  refine lv_aload_n hx hb dX5_ordersWith_4 rfl (lv_at hl 0 rfl) ?_
  refine va_get (ci := 5) (C := RX5) (T := TX5) (N := 9) hx hb hts inX5 hown hK.1 hP 0 rfl rfl 1 (by decide) fl19 (fun _ h9 => h9) rfl dX5_ordersWith_5 ?_
  refine va_getN (ci := 4) (C := RX4) (T := TX4) (N := 8) hx hb hts inX4 hown hK.1 hP 3 rfl rfl 6 (by decide) fl87 (fun _ h9 => h9) rfl dX5_ordersWith_8 ?_
  refine lv_iconst (v := 1) hx hb dX5_ordersWith_11 (by decide) ?_
  refine lv_isub hx hb dX5_ordersWith_12 ?_
  refine lv_iload_n hx hb dX5_ordersWith_13 rfl (lv_at hl 1 rfl) ?_
  refine lv_isub hx hb dX5_ordersWith_14 ?_
  obtain ⟨rr_3, ee_4, h⟩ := bnd1_s h
  refine cSl (As := [.int ((T_br - (1 : Int32)) - u1)]) (rest := [.long rr_1]) S0 hK hA hP (va_D_same hD rfl) hS [] (k_X5_factorial l G ((T_br - (1 : Int32)) - u1) rr_3 ee_4) cw_X5_factorial rfl rfl (Nat.le_of_ble_eq_true rfl) rfl hl.1 rfl (Nat.le_of_ble_eq_true rfl) dX5_ordersWith_15 ⟨Nat.zero_le _, Nat.zero_le _⟩ (fun H locs hP hS => ?_)
  replace hP : va_P G.1 vwCl (W_F G x0 s0 s1 t0 t1 t2 t3 t4 t5 t6 n0 n1 n2 n3 r0 r1 r2 r3 a0 a1 p0 p1 p2 p3 k0 j0 X_ch S_len S_let T_br T_fa T_fd T_fp T_st T_kd T_fs T_fl N_gi N_be N_da N_du N_pl N_de R_gi R_be R_da R_du R_pl R_de A_fi A_si A_ce P_si P_be P_le P_go K_sl J_fi) H := hP
  refine lv_lmul hx hb dX5_ordersWith_18 ?_
  cases h
  exact W.lret hx hb hr (fun t ht _ => ⟨⟨_, (), rfl, rfl, by show va_P G.1 vwCl _ t.heap; rw [ht]; exact hP⟩, hS.F ht⟩) hS.2.2 dX5_ordersWith_19
def f_X5_commonDivisor_9 : Nat → Int64 → Int64 → Int32 → Option (Int64)
  | 0, _, _, _ => none
  | fu + 1, v4, v6, v8 => if (100 : Int32) ≤ v8 then (some v4) else (if (lg_cmp v6 (0 : Int64)) = 0 then (some v4) else (if v6 = 0 then none else (f_X5_commonDivisor_9 fu v6 (v4 - v4 / v6 * v6) (v8 + 1))))
def f_X5_commonDivisor (u1 : Int64) (u2 : Int64) : Option (Int64) := f_X5_commonDivisor_9  130 u1 u2 (0 : Int32)
set_option maxRecDepth 100000 in
set_option maxHeartbeats 4000000 in
theorem k_X5_commonDivisor (l : Launch) (G : Gt) (u1 : Int64) (u2 : Int64) (r_ : Int64) (h : f_X5_commonDivisor u1 u2 = some r_) : CT l yX5_commonDivisor wsX5_commonDivisor 0 0 G [.long u1, .long u2] (W_0 G) (QL G r_ (W_0 G)) := by
  refine met_of cX5_commonDivisor 11 (some .long) (by decide) rfl (Nat.le_of_ble_eq_true rfl) ?_
  intro p e s m below meth c A ls hx hb hr hml hts hown hlocks hK hA hD hP hS hl
  replace hown : s.vm.findClass RX5 = some m.cls := hown
  replace hl : lv_has ls 11 [(0, .long u1), (2, .long u2)] := hl
  have S0 : CallFix p m c cX5_commonDivisor 11 s _ wsX5_commonDivisor RX5 := ⟨hx, hb, hml, hown, hts⟩
  have J_9 : ∀ (fu : Nat), ∀ (v4 : Int64) (v6 : Int64) (v8 : Int32) (H : Heap) (locs : List Loc) (ls : Array Slot), f_X5_commonDivisor_9 fu v4 v6 v8 = some r_ → va_P G.1 vwCl (W_0 G) H → va_S A s.heap H locs → lv_has ls 11 [(4, .long v4), (6, .long v6), (8, .int v8)] → W p l e (rmv 0 0) s m (List.toArray [.long u1, .long u2]) below meth c H locs 0 0 (MQ below ((QL G r_ (W_0 G)) A) (List.toArray [.long u1, .long u2]) s 0 0 A) (F0 m 9 ls []) := by
    intro  fu
    induction fu with
    | zero =>
      intro v4 v6 v8 H locs ls h
      cases h
    | succ fu ih =>
      intro v4 v6 v8 H locs ls h hP hS hl
      rw [f_X5_commonDivisor_9] at h
      refine lv_iload hx hb dX5_commonDivisor_9 (lv_at hl 2 rfl) ?_
      refine lv_bipush (v := 100) hx hb dX5_commonDivisor_11 (by decide) ?_
      refine lv_icmp_ge (tgt := 44) hx hb dX5_commonDivisor_13 (by decide) (fun cc_1 => ?_) (fun cc_1 => ?_)
      · replace h := if_t cc_1 h
        refine lv_lload hx hb dX5_commonDivisor_44 (lv_at hl 0 rfl) ?_
        cases h
        exact W.lret hx hb hr (fun t ht _ => ⟨⟨_, (), rfl, rfl, by show va_P G.1 vwCl _ t.heap; rw [ht]; exact hP⟩, hS.F ht⟩) hS.2.2 dX5_commonDivisor_46
      · replace h := if_f cc_1 h
        refine lv_lload hx hb dX5_commonDivisor_16 (lv_at hl 1 rfl) ?_
        refine lv_lconst (v := 0) hx hb dX5_commonDivisor_18 (by decide) ?_
        refine W.lcmp hx hb dX5_commonDivisor_19 ?_
        refine lv_if_eq (tgt := 44) hx hb dX5_commonDivisor_20 (by decide) (fun cc_2 => ?_) (fun cc_2 => ?_)
        · replace h := if_t cc_2 h
          refine lv_lload hx hb dX5_commonDivisor_44 (lv_at hl 0 rfl) ?_
          cases h
          exact W.lret hx hb hr (fun t ht _ => ⟨⟨_, (), rfl, rfl, by show va_P G.1 vwCl _ t.heap; rw [ht]; exact hP⟩, hS.F ht⟩) hS.2.2 dX5_commonDivisor_46
        · replace h := if_f cc_2 h
          refine lv_lload hx hb dX5_commonDivisor_23 (lv_at hl 0 rfl) ?_
          refine lv_lload hx hb dX5_commonDivisor_25 (lv_at hl 1 rfl) ?_
          by_cases cc_3 : v6 = 0
          · cases (if_t cc_3 h)
          replace h := if_f cc_3 h
          refine lv_lrem hx hb dX5_commonDivisor_27 cc_3 ?_
          refine lv_lstore (lv' := [(9, .long (v4 - v4 / v6 * v6)), (4, .long v4), (6, .long v6), (8, .int v8)]) hx hb dX5_commonDivisor_28 hl (by decide) rfl (fun ls hl => ?_)
          refine lv_lload hx hb dX5_commonDivisor_30 (lv_at hl 2 rfl) ?_
          refine lv_lstore (lv' := [(4, .long v6), (9, .long (v4 - v4 / v6 * v6)), (6, .long v6), (8, .int v8)]) hx hb dX5_commonDivisor_32 hl (by decide) rfl (fun ls hl => ?_)
          refine lv_lload hx hb dX5_commonDivisor_34 (lv_at hl 1 rfl) ?_
          refine lv_lstore (lv' := [(6, .long (v4 - v4 / v6 * v6)), (4, .long v6), (9, .long (v4 - v4 / v6 * v6)), (8, .int v8)]) hx hb dX5_commonDivisor_36 hl (by decide) rfl (fun ls hl => ?_)
          refine lv_iinc (v := (v8 + 1)) (lv' := [(8, .int (v8 + 1)), (6, .long (v4 - v4 / v6 * v6)), (4, .long v6), (9, .long (v4 - v4 / v6 * v6))]) hx hb dX5_commonDivisor_38 hl (k := 3) rfl rfl (by decide) rfl (fun ls hl => ?_)
          refine lv_goto (tgt := 9) hx hb dX5_commonDivisor_41 (by decide) ?_
          exact ih v6 (v4 - v4 / v6 * v6) (v8 + 1) _ _ _ h hP hS (lv_sub hl [2, 1, 0] rfl)
  unfold f_X5_commonDivisor at h
  refine lv_lload_n hx hb dX5_commonDivisor_0 rfl (lv_at hl 0 rfl) ?_
  refine lv_lstore (lv' := [(4, .long u1), (0, .long u1), (2, .long u2)]) hx hb dX5_commonDivisor_1 hl (by decide) rfl (fun ls hl => ?_)
  refine lv_lload_n hx hb dX5_commonDivisor_3 rfl (lv_at hl 2 rfl) ?_
  refine lv_lstore (lv' := [(6, .long u2), (4, .long u1), (0, .long u1), (2, .long u2)]) hx hb dX5_commonDivisor_4 hl (by decide) rfl (fun ls hl => ?_)
  refine lv_iconst (v := 0) hx hb dX5_commonDivisor_6 (by decide) ?_
  refine lv_istore (lv' := [(8, .int (0 : Int32)), (6, .long u2), (4, .long u1), (0, .long u1), (2, .long u2)]) hx hb dX5_commonDivisor_7 hl (by decide) rfl (fun ls hl => ?_)
  exact J_9  130 u1 u2 (0 : Int32) _ _ _ h hP hS (lv_sub hl [2, 1, 0] rfl)
def f_X5_fraction (u1 : Int64) (u2 : Int64) (u3 : Int32) : Option (Int32) := bnd1 (f_X5_commonDivisor (if 0 < u1 then u1 else -u1) u2) (fun rr_1 => if u3 = 0 then (if (if rr_1 < (1 : Int64) then (1 : Int64) else rr_1) = 0 then none else (some ((u2 / (if rr_1 < (1 : Int64) then (1 : Int64) else rr_1)).toInt32))) else (if (if rr_1 < (1 : Int64) then (1 : Int64) else rr_1) = 0 then none else (some ((u1 / (if rr_1 < (1 : Int64) then (1 : Int64) else rr_1)).toInt32))))
set_option maxRecDepth 100000 in
set_option maxHeartbeats 4000000 in
theorem k_X5_fraction (l : Launch) (G : Gt) (u1 : Int64) (u2 : Int64) (u3 : Int32) (r_ : Int32) (h : f_X5_fraction u1 u2 u3 = some r_) : CT l yX5_fraction wsX5_fraction 1 30 G [.long u1, .long u2, .int u3] (W_0 G) (QI G r_ (W_0 G)) := by
  refine met_of cX5_fraction 7 (some .int) (by decide) rfl (Nat.le_of_ble_eq_true rfl) ?_
  intro p e s m below meth c A ls hx hb hr hml hts hown hlocks hK hA hD hP hS hl
  replace hown : s.vm.findClass RX5 = some m.cls := hown
  replace hl : lv_has ls 7 [(0, .long u1), (2, .long u2), (4, .int u3)] := hl
  have S0 : CallFix p m c cX5_fraction 7 s _ wsX5_fraction RX5 := ⟨hx, hb, hml, hown, hts⟩
  have jabs1 := hts (.methodLink RX5 272 Lib.MathLoose.abs_long.x) (by decide +kernel)
  have jabs2 := hts (.static Lib.MathLoose.abs_long.x) (by decide +kernel)
  have jabs3 := hts (.initialized "java/lang/Math") (by decide +kernel)
  have jabs4 := hts (.code Lib.MathLoose.abs_long.x Lib.MathLoose.abs_long.code 2 (some .long)) (by decide +kernel)
  have cw_X5_commonDivisor := show CallB (rmv 1 30) s _ RX5 276 yX5_commonDivisor cX5_commonDivisor 11 (some .long) wsX5_commonDivisor (rmv 0 0) 0 0 2 ∧ (Cond.static yX5_commonDivisor).before _ s = true from va_cwS 2 hts gX5_fraction_X5_commonDivisor rfl rfl rfl (by decide +kernel) ⟨Nat.le_of_ble_eq_true rfl, Nat.le_of_ble_eq_true rfl⟩
  have jmax1 := hts (.methodLink RX5 191 Lib.MathLoose.max_long.x) (by decide +kernel)
  have jmax2 := hts (.static Lib.MathLoose.max_long.x) (by decide +kernel)
  have jmax3 := hts (.initialized "java/lang/Math") (by decide +kernel)
  have jmax4 := hts (.code Lib.MathLoose.max_long.x Lib.MathLoose.max_long.code 4 (some .long)) (by decide +kernel)
  unfold f_X5_fraction at h
  refine lv_lconst (v := 1) hx hb dX5_fraction_0 (by decide) ?_
  refine lv_lload_n hx hb dX5_fraction_1 rfl (lv_at hl 0 rfl) ?_
  refine va_mabs_long hx hb (hml.trans hl.1.symm) hown jabs1 jabs2 jabs3 jabs4 (Nat.le_of_ble_eq_true rfl) (Nat.le_of_ble_eq_true rfl) (Nat.zero_le _) (Nat.zero_le _) dX5_fraction_2 ?_
  refine lv_lload_n hx hb dX5_fraction_5 rfl (lv_at hl 1 rfl) ?_
  obtain ⟨rr_1, ee_2, h⟩ := bnd1_s h
  refine cSl (As := [.long (if 0 < u1 then u1 else -u1), .long u2]) (rest := [.long (1 : Int64)]) S0 hK hA hP (va_D_same hD rfl) hS [] (k_X5_commonDivisor l G (if 0 < u1 then u1 else -u1) u2 rr_1 ee_2) cw_X5_commonDivisor rfl rfl (Nat.le_of_ble_eq_true rfl) rfl hl.1 rfl (Nat.le_of_ble_eq_true rfl) dX5_fraction_6 ⟨Nat.zero_le _, Nat.zero_le _⟩ (fun H locs hP hS => ?_)
  replace hP : va_P G.1 vwCl (W_0 G) H := hP
  refine va_mmax_long hx hb (hml.trans hl.1.symm) hown jmax1 jmax2 jmax3 jmax4 (Nat.le_of_ble_eq_true rfl) (Nat.le_of_ble_eq_true rfl) (Nat.zero_le _) (Nat.zero_le _) dX5_fraction_9 ?_
  refine lv_lstore (lv' := [(5, .long (if rr_1 < (1 : Int64) then (1 : Int64) else rr_1)), (0, .long u1), (2, .long u2), (4, .int u3)]) hx hb dX5_fraction_12 hl (by decide) rfl (fun ls hl => ?_)
  refine lv_iload hx hb dX5_fraction_14 (lv_at hl 3 rfl) ?_
  refine lv_if_eq (tgt := 23) hx hb dX5_fraction_16 (by decide) (fun cc_3 => ?_) (fun cc_3 => ?_)
  · replace h := if_t cc_3 h
    refine lv_lload_n hx hb dX5_fraction_23 rfl (lv_at hl 2 rfl) ?_
    refine lv_lload hx hb dX5_fraction_24 (lv_at hl 0 rfl) ?_
    by_cases cc_4 : (if rr_1 < (1 : Int64) then (1 : Int64) else rr_1) = 0
    · cases (if_t cc_4 h)
    replace h := if_f cc_4 h
    refine lv_ldiv hx hb dX5_fraction_26 cc_4 ?_
    refine lv_l2i (v := (u2 / (if rr_1 < (1 : Int64) then (1 : Int64) else rr_1)).toInt32) hx hb dX5_fraction_27 rfl ?_
    cases h
    exact W.iret hx hb hr (fun t ht _ => ⟨⟨_, (), rfl, rfl, by show va_P G.1 vwCl _ t.heap; rw [ht]; exact hP⟩, hS.F ht⟩) hS.2.2 dX5_fraction_28
  · replace h := if_f cc_3 h
    refine lv_lload_n hx hb dX5_fraction_19 rfl (lv_at hl 1 rfl) ?_
    refine lv_goto (tgt := 24) hx hb dX5_fraction_20 (by decide) ?_
    refine lv_lload hx hb dX5_fraction_24 (lv_at hl 0 rfl) ?_
    by_cases cc_5 : (if rr_1 < (1 : Int64) then (1 : Int64) else rr_1) = 0
    · cases (if_t cc_5 h)
    replace h := if_f cc_5 h
    refine lv_ldiv hx hb dX5_fraction_26 cc_5 ?_
    refine lv_l2i (v := (u1 / (if rr_1 < (1 : Int64) then (1 : Int64) else rr_1)).toInt32) hx hb dX5_fraction_27 rfl ?_
    cases h
    exact W.iret hx hb hr (fun t ht _ => ⟨⟨_, (), rfl, rfl, by show va_P G.1 vwCl _ t.heap; rw [ht]; exact hP⟩, hS.F ht⟩) hS.2.2 dX5_fraction_28
