def f_X5_share_93 (T_br : Int32) (T_fa : Int32) (T_st : Nat → Int32) (T_kd : Nat → Int32) (T_fs : Nat → Int32) (T_fl : Nat → Int32) (N_gi : Int32) (N_be : Int32) (N_da : Int32) (N_du : Nat → Int32) (N_pl : Nat → Int32) (kk23 : Int32 → Int32 → Int64 → Int32 → Int32 → Int32 → Int32 → (Nat → Int32) → (Nat → Int32) → (Nat → Int32) → Option (Int32 × Int32 × Int32 × Int32 × (Nat → Int32) × (Nat → Int32) × (Nat → Int32))) (v2 : Int32) (v3 : Int32) (v4 : Int64) (v6 : Int32) (R_gi : Int32) (R_be : Int32) (R_da : Int32) (R_du : Nat → Int32) (R_pl : Nat → Int32) (R_de : Nat → Int32) : Option (Int32 × Int32 × Int32 × Int32 × (Nat → Int32) × (Nat → Int32) × (Nat → Int32)) := kk23 v2 v3 v4 (v6 + 1) R_gi R_be R_da R_du R_pl R_de
def f_X5_share_23 (T_br : Int32) (T_fa : Int32) (T_st : Nat → Int32) (T_kd : Nat → Int32) (T_fs : Nat → Int32) (T_fl : Nat → Int32) (N_gi : Int32) (N_be : Int32) (N_da : Int32) (N_du : Nat → Int32) (N_pl : Nat → Int32) : Nat → Int32 → Int32 → Int64 → Int32 → Int32 → Int32 → Int32 → (Nat → Int32) → (Nat → Int32) → (Nat → Int32) → Option (Int32 × Int32 × Int32 × Int32 × (Nat → Int32) × (Nat → Int32) × (Nat → Int32))
  | 0, _, _, _, _, _, _, _, _, _, _ => none
  | fu + 1, v2, v3, v4, v6, R_gi, R_be, R_da, R_du, R_pl, R_de => if ((1 : Int32) <<< (T_br &&& 31)) ≤ v6 then (bnd1 (f_X5_factorial T_br) (fun rr_2 => bnd1 (f_X5_fraction v4 rr_2 v2) (fun rr_4 => some (rr_4, R_gi, R_be, R_da, R_du, R_pl, R_de)))) else (if (v6 &&& v3) = 0 then (bnd6 (f_X5_behind T_br T_fa T_st T_kd T_fs T_fl N_gi N_be N_da N_du N_pl R_gi R_be R_da R_du R_pl R_de (6 : Int32) v6) (fun dd_7 dd_8 dd_9 dd_10 dd_11 dd_12 => bnd1 (f_X2_allDust dd_10) (fun rr_14 => bnd6 (f_X5_behind T_br T_fa T_st T_kd T_fs T_fl N_gi N_be N_da N_du N_pl dd_7 dd_8 dd_9 dd_10 dd_11 dd_12 (6 : Int32) (v6 ||| v3)) (fun dd_16 dd_17 dd_18 dd_19 dd_20 dd_21 => bnd1 (f_X2_allDust dd_19) (fun rr_23 => bnd1 (f_J6_bitCount_0f7a4 v6) (fun rr_25 => bnd1 (f_X5_ordersWith T_br rr_25) (fun rr_27 => f_X5_share_93 T_br T_fa T_st T_kd T_fs T_fl N_gi N_be N_da N_du N_pl (f_X5_share_23 T_br T_fa T_st T_kd T_fs T_fl N_gi N_be N_da N_du N_pl fu) v2 v3 (v4 + (((rr_14 - rr_23).toInt64) * rr_27)) v6 dd_16 dd_17 dd_18 dd_19 dd_20 dd_21))))))) else (f_X5_share_93 T_br T_fa T_st T_kd T_fs T_fl N_gi N_be N_da N_du N_pl (f_X5_share_23 T_br T_fa T_st T_kd T_fs T_fl N_gi N_be N_da N_du N_pl fu) v2 v3 v4 v6 R_gi R_be R_da R_du R_pl R_de))
def f_X5_share (T_br : Int32) (T_fa : Int32) (T_st : Nat → Int32) (T_kd : Nat → Int32) (T_fs : Nat → Int32) (T_fl : Nat → Int32) (N_gi : Int32) (N_be : Int32) (N_da : Int32) (N_du : Nat → Int32) (N_pl : Nat → Int32) (R_gi : Int32) (R_be : Int32) (R_da : Int32) (R_du : Nat → Int32) (R_pl : Nat → Int32) (R_de : Nat → Int32) (u1 : Int32) (u2 : Int32) : Option (Int32 × Int32 × Int32 × Int32 × (Nat → Int32) × (Nat → Int32) × (Nat → Int32)) := bnd1 (f_X4_hasBroom T_br u1) (fun rr_29 => if rr_29 = 0 then (some (((-1) : Int32), R_gi, R_be, R_da, R_du, R_pl, R_de)) else (f_X5_share_23 T_br T_fa T_st T_kd T_fs T_fl N_gi N_be N_da N_du N_pl  130 u2 ((1 : Int32) <<< (u1 &&& 31)) (0 : Int64) (0 : Int32) R_gi R_be R_da R_du R_pl R_de))
set_option maxRecDepth 100000 in
set_option maxHeartbeats 4000000 in
theorem k_X5_share (l : Launch) (G : Gt) (x0 s0 s1 t0 t1 t2 t3 t4 t5 t6 n0 n1 n2 n3 r0 r1 r2 r3 a0 a1 p0 p1 p2 p3 k0 j0 : Nat) (X_ch : Int64) (S_len : Int32) (S_let : Nat → Int32) (T_br : Int32) (T_fa : Int32) (T_fd : Nat → Int32) (T_fp : Nat → Int32) (T_st : Nat → Int32) (T_kd : Nat → Int32) (T_fs : Nat → Int32) (T_fl : Nat → Int32) (N_gi : Int32) (N_be : Int32) (N_da : Int32) (N_du : Nat → Int32) (N_pl : Nat → Int32) (N_de : Nat → Int32) (R_gi : Int32) (R_be : Int32) (R_da : Int32) (R_du : Nat → Int32) (R_pl : Nat → Int32) (R_de : Nat → Int32) (A_fi : Int32) (A_si : Int32) (A_ce : Nat → Int32) (P_si : Int32) (P_be : Nat → Int32) (P_le : Nat → Int32) (P_go : Nat → Int32) (K_sl : Nat → Int32) (J_fi : Nat → Int32) (u1 : Int32) (u2 : Int32) (r_ : Int32) (o_R_gi : Int32) (o_R_be : Int32) (o_R_da : Int32) (o_R_du : Nat → Int32) (o_R_pl : Nat → Int32) (o_R_de : Nat → Int32) (h : f_X5_share T_br T_fa T_st T_kd T_fs T_fl N_gi N_be N_da N_du N_pl R_gi R_be R_da R_du R_pl R_de u1 u2 = some (r_, o_R_gi, o_R_be, o_R_da, o_R_du, o_R_pl, o_R_de)) : CT l yX5_share wsX5_share 5 114 G [.ref x0, .int u1, .int u2] (W_F G x0 s0 s1 t0 t1 t2 t3 t4 t5 t6 n0 n1 n2 n3 r0 r1 r2 r3 a0 a1 p0 p1 p2 p3 k0 j0 X_ch S_len S_let T_br T_fa T_fd T_fp T_st T_kd T_fs T_fl N_gi N_be N_da N_du N_pl N_de R_gi R_be R_da R_du R_pl R_de A_fi A_si A_ce P_si P_be P_le P_go K_sl J_fi) (QI G r_ (W_F G x0 s0 s1 t0 t1 t2 t3 t4 t5 t6 n0 n1 n2 n3 r0 r1 r2 r3 a0 a1 p0 p1 p2 p3 k0 j0 X_ch S_len S_let T_br T_fa T_fd T_fp T_st T_kd T_fs T_fl N_gi N_be N_da N_du N_pl N_de o_R_gi o_R_be o_R_da o_R_du o_R_pl o_R_de A_fi A_si A_ce P_si P_be P_le P_go K_sl J_fi)) := by
  refine met_of cX5_share 8 (some .int) (by decide) rfl (Nat.le_of_ble_eq_true rfl) ?_
  intro p e s m below meth c A ls hx hb hr hml hts hown hlocks hK hA hD hP hS hl
  replace hown : s.vm.findClass RX5 = some m.cls := hown
  replace hl : lv_has ls 8 [(0, .ref x0), (1, .int u1), (2, .int u2)] := hl
  have S0 : CallFix p m c cX5_share 8 s _ wsX5_share RX5 := ⟨hx, hb, hml, hown, hts⟩
  have fl19 := hts (.fieldLink RX5 19 "DustVote" "told" "LDustVote$Told;") (by decide +kernel)
  have inX5 := show ∀ w ∈ wsX50, w ∈ wsX5_share from by decide +kernel
  have fl87 := hK.f (args := List.toArray [.ref x0, .int u1, .int u2]) (show ("DustVote", 87, "DustVote$Told", "brooms", "I", "DustVote") ∈ nestF by decide)
  have inX4 := show ∀ w ∈ wsX40, w ∈ wsX5_share from by decide +kernel
  have cw_X5_factorial := show CallB (rmv 5 114) s _ RX5 214 yX5_factorial cX5_factorial 4 (some .long) wsX5_factorial (rmv 0 0) 0 0 1 ∧ (Cond.static yX5_factorial).before _ s = true from va_cwS 1 hts gX5_share_X5_factorial rfl rfl rfl (by decide +kernel) ⟨Nat.le_of_ble_eq_true rfl, Nat.le_of_ble_eq_true rfl⟩
  have cw_X5_fraction := show CallB (rmv 5 114) s _ RX5 217 yX5_fraction cX5_fraction 7 (some .int) wsX5_fraction (rmv 1 30) 0 0 3 ∧ (Cond.static yX5_fraction).before _ s = true from va_cwS 3 hts gX5_share_X5_fraction rfl rfl rfl (by decide +kernel) ⟨Nat.le_of_ble_eq_true rfl, Nat.le_of_ble_eq_true rfl⟩
  have cw_X5_behind := show CallW (rmv 5 114) s _ RX5 RX5 166 yX5_behind cX5_behind 5 (some (.object "DustVote$Moment")) wsX5_behind (rmv 4 90) 0 0 2 from cwV 2 hts gX5_share_X5_behind rfl rfl rfl (by decide +kernel) ⟨Nat.le_of_ble_eq_true rfl, Nat.le_of_ble_eq_true rfl⟩
  have cw_X2_allDust := show CallW (rmv 5 114) s _ RX5 RX2 133 yX2_allDust cX2_allDust 3 (some .int) wsX2_allDust (rmv 0 0) 0 0 0 from cwV 0 hts gX5_share_X2_allDust rfl rfl rfl (by decide +kernel) ⟨Nat.le_of_ble_eq_true rfl, Nat.le_of_ble_eq_true rfl⟩
  have cw_J6_bitCount_0f7a4 := show CallB (rmv 5 114) s _ RX5 152 yJ6_bitCount_0f7a4 cJ6_bitCount_0f7a4 1 (some .int) wsJ6_bitCount_0f7a4 (rmv 0 0) 0 0 1 ∧ (Cond.static yJ6_bitCount_0f7a4).before _ s = true from va_cwS 1 hts gX5_share_J6_bitCount_0f7a4 rfl rfl rfl (by decide +kernel) ⟨Nat.le_of_ble_eq_true rfl, Nat.le_of_ble_eq_true rfl⟩
  have cw_X5_ordersWith := show CallW (rmv 5 114) s _ RX5 RX5 210 yX5_ordersWith cX5_ordersWith 2 (some .long) wsX5_ordersWith (rmv 1 23) 0 0 1 from cwV 1 hts gX5_share_X5_ordersWith rfl rfl rfl (by decide +kernel) ⟨Nat.le_of_ble_eq_true rfl, Nat.le_of_ble_eq_true rfl⟩
  have cw_X4_hasBroom := show CallW (rmv 5 114) s _ RX5 RX4 107 yX4_hasBroom cX4_hasBroom 2 (some .boolean) wsX4_hasBroom (rmv 0 0) 0 0 1 from cwV 1 hts gX5_share_X4_hasBroom rfl rfl rfl (by decide +kernel) ⟨Nat.le_of_ble_eq_true rfl, Nat.le_of_ble_eq_true rfl⟩
  have J_93 : ∀ (kk23 : Int32 → Int32 → Int64 → Int32 → Int32 → Int32 → Int32 → (Nat → Int32) → (Nat → Int32) → (Nat → Int32) → Option (Int32 × Int32 × Int32 × Int32 × (Nat → Int32) × (Nat → Int32) × (Nat → Int32))) (hk23 : ∀ (v2 : Int32) (v3 : Int32) (v4 : Int64) (v6 : Int32) (R_gi : Int32) (R_be : Int32) (R_da : Int32) (R_du : Nat → Int32) (R_pl : Nat → Int32) (R_de : Nat → Int32) (H : Heap) (locs : List Loc) (ls : Array Slot), kk23 v2 v3 v4 v6 R_gi R_be R_da R_du R_pl R_de = some (r_, o_R_gi, o_R_be, o_R_da, o_R_du, o_R_pl, o_R_de) → va_P G.1 vwCl (W_F G x0 s0 s1 t0 t1 t2 t3 t4 t5 t6 n0 n1 n2 n3 r0 r1 r2 r3 a0 a1 p0 p1 p2 p3 k0 j0 X_ch S_len S_let T_br T_fa T_fd T_fp T_st T_kd T_fs T_fl N_gi N_be N_da N_du N_pl N_de R_gi R_be R_da R_du R_pl R_de A_fi A_si A_ce P_si P_be P_le P_go K_sl J_fi) H → va_S A s.heap H locs → lv_has ls 8 [(0, .ref x0), (2, .int v2), (3, .int v3), (4, .long v4), (6, .int v6)] → W p l e (rmv 5 114) s m (List.toArray [.ref x0, .int u1, .int u2]) below meth c H locs 0 0 (MQ below ((QI G r_ (W_F G x0 s0 s1 t0 t1 t2 t3 t4 t5 t6 n0 n1 n2 n3 r0 r1 r2 r3 a0 a1 p0 p1 p2 p3 k0 j0 X_ch S_len S_let T_br T_fa T_fd T_fp T_st T_kd T_fs T_fl N_gi N_be N_da N_du N_pl N_de o_R_gi o_R_be o_R_da o_R_du o_R_pl o_R_de A_fi A_si A_ce P_si P_be P_le P_go K_sl J_fi)) A) (List.toArray [.ref x0, .int u1, .int u2]) s 0 0 A) (F0 m 23 ls [])), ∀ (v2 : Int32) (v3 : Int32) (v4 : Int64) (v6 : Int32) (R_gi : Int32) (R_be : Int32) (R_da : Int32) (R_du : Nat → Int32) (R_pl : Nat → Int32) (R_de : Nat → Int32) (H : Heap) (locs : List Loc) (ls : Array Slot), f_X5_share_93 T_br T_fa T_st T_kd T_fs T_fl N_gi N_be N_da N_du N_pl kk23 v2 v3 v4 v6 R_gi R_be R_da R_du R_pl R_de = some (r_, o_R_gi, o_R_be, o_R_da, o_R_du, o_R_pl, o_R_de) → va_P G.1 vwCl (W_F G x0 s0 s1 t0 t1 t2 t3 t4 t5 t6 n0 n1 n2 n3 r0 r1 r2 r3 a0 a1 p0 p1 p2 p3 k0 j0 X_ch S_len S_let T_br T_fa T_fd T_fp T_st T_kd T_fs T_fl N_gi N_be N_da N_du N_pl N_de R_gi R_be R_da R_du R_pl R_de A_fi A_si A_ce P_si P_be P_le P_go K_sl J_fi) H → va_S A s.heap H locs → lv_has ls 8 [(0, .ref x0), (2, .int v2), (3, .int v3), (4, .long v4), (6, .int v6)] → W p l e (rmv 5 114) s m (List.toArray [.ref x0, .int u1, .int u2]) below meth c H locs 0 0 (MQ below ((QI G r_ (W_F G x0 s0 s1 t0 t1 t2 t3 t4 t5 t6 n0 n1 n2 n3 r0 r1 r2 r3 a0 a1 p0 p1 p2 p3 k0 j0 X_ch S_len S_let T_br T_fa T_fd T_fp T_st T_kd T_fs T_fl N_gi N_be N_da N_du N_pl N_de o_R_gi o_R_be o_R_da o_R_du o_R_pl o_R_de A_fi A_si A_ce P_si P_be P_le P_go K_sl J_fi)) A) (List.toArray [.ref x0, .int u1, .int u2]) s 0 0 A) (F0 m 93 ls []) := by
    intro kk23 hk23 v2 v3 v4 v6 R_gi R_be R_da R_du R_pl R_de H locs ls h hP hS hl
    unfold f_X5_share_93 at h
    refine lv_iinc (v := (v6 + 1)) (lv' := [(6, .int (v6 + 1)), (0, .ref x0), (2, .int v2), (3, .int v3), (4, .long v4)]) hx hb dX5_share_93 hl (k := 4) rfl rfl (by decide) rfl (fun ls hl => ?_)
    refine lv_goto (tgt := 23) hx hb dX5_share_96 (by decide) ?_
    exact hk23 v2 v3 v4 (v6 + 1) R_gi R_be R_da R_du R_pl R_de _ _ _ h hP hS (lv_sub hl [1, 2, 3, 4, 0] rfl)
  have J_23 : ∀ (fu : Nat), ∀ (v2 : Int32) (v3 : Int32) (v4 : Int64) (v6 : Int32) (R_gi : Int32) (R_be : Int32) (R_da : Int32) (R_du : Nat → Int32) (R_pl : Nat → Int32) (R_de : Nat → Int32) (H : Heap) (locs : List Loc) (ls : Array Slot), f_X5_share_23 T_br T_fa T_st T_kd T_fs T_fl N_gi N_be N_da N_du N_pl fu v2 v3 v4 v6 R_gi R_be R_da R_du R_pl R_de = some (r_, o_R_gi, o_R_be, o_R_da, o_R_du, o_R_pl, o_R_de) → va_P G.1 vwCl (W_F G x0 s0 s1 t0 t1 t2 t3 t4 t5 t6 n0 n1 n2 n3 r0 r1 r2 r3 a0 a1 p0 p1 p2 p3 k0 j0 X_ch S_len S_let T_br T_fa T_fd T_fp T_st T_kd T_fs T_fl N_gi N_be N_da N_du N_pl N_de R_gi R_be R_da R_du R_pl R_de A_fi A_si A_ce P_si P_be P_le P_go K_sl J_fi) H → va_S A s.heap H locs → lv_has ls 8 [(0, .ref x0), (2, .int v2), (3, .int v3), (4, .long v4), (6, .int v6)] → W p l e (rmv 5 114) s m (List.toArray [.ref x0, .int u1, .int u2]) below meth c H locs 0 0 (MQ below ((QI G r_ (W_F G x0 s0 s1 t0 t1 t2 t3 t4 t5 t6 n0 n1 n2 n3 r0 r1 r2 r3 a0 a1 p0 p1 p2 p3 k0 j0 X_ch S_len S_let T_br T_fa T_fd T_fp T_st T_kd T_fs T_fl N_gi N_be N_da N_du N_pl N_de o_R_gi o_R_be o_R_da o_R_du o_R_pl o_R_de A_fi A_si A_ce P_si P_be P_le P_go K_sl J_fi)) A) (List.toArray [.ref x0, .int u1, .int u2]) s 0 0 A) (F0 m 23 ls []) := by
    intro  fu
    induction fu with
    | zero =>
      intro v2 v3 v4 v6 R_gi R_be R_da R_du R_pl R_de H locs ls h
      cases h
    | succ fu ih =>
      intro v2 v3 v4 v6 R_gi R_be R_da R_du R_pl R_de H locs ls h hP hS hl
      rw [f_X5_share_23] at h
      refine lv_iload hx hb dX5_share_23 (lv_at hl 4 rfl) ?_
      refine lv_iconst (v := 1) hx hb dX5_share_25 (by decide) ?_
      refine lv_aload_n hx hb dX5_share_26 rfl (lv_at hl 0 rfl) ?_
      refine va_get (ci := 5) (C := RX5) (T := TX5) (N := 9) hx hb hts inX5 hown hK.1 hP 0 rfl rfl 1 (by decide) fl19 (fun _ h9 => h9) rfl dX5_share_27 ?_
      refine va_getN (ci := 4) (C := RX4) (T := TX4) (N := 8) hx hb hts inX4 hown hK.1 hP 3 rfl rfl 6 (by decide) fl87 (fun _ h9 => h9) rfl dX5_share_30 ?_
      refine lv_ishl hx hb dX5_share_33 ?_
      refine lv_icmp_ge (tgt := 99) hx hb dX5_share_34 (by decide) (fun cc_1 => ?_) (fun cc_1 => ?_)
      · replace h := if_t cc_1 h
        refine lv_lload hx hb dX5_share_99 (lv_at hl 3 rfl) ?_
        refine lv_aload_n hx hb dX5_share_101 rfl (lv_at hl 0 rfl) ?_
        refine va_get (ci := 5) (C := RX5) (T := TX5) (N := 9) hx hb hts inX5 hown hK.1 hP 0 rfl rfl 1 (by decide) fl19 (fun _ h9 => h9) rfl dX5_share_102 ?_
        refine va_getN (ci := 4) (C := RX4) (T := TX4) (N := 8) hx hb hts inX4 hown hK.1 hP 3 rfl rfl 6 (by decide) fl87 (fun _ h9 => h9) rfl dX5_share_105 ?_
        obtain ⟨rr_2, ee_3, h⟩ := bnd1_s h
        refine cSl (As := [.int T_br]) (rest := [.long v4]) S0 hK hA hP (va_D_same hD rfl) hS [] (k_X5_factorial l G T_br rr_2 ee_3) cw_X5_factorial rfl rfl (Nat.le_of_ble_eq_true rfl) rfl hl.1 rfl (Nat.le_of_ble_eq_true rfl) dX5_share_108 ⟨Nat.zero_le _, Nat.zero_le _⟩ (fun H locs hP hS => ?_)
        replace hP : va_P G.1 vwCl (W_F G x0 s0 s1 t0 t1 t2 t3 t4 t5 t6 n0 n1 n2 n3 r0 r1 r2 r3 a0 a1 p0 p1 p2 p3 k0 j0 X_ch S_len S_let T_br T_fa T_fd T_fp T_st T_kd T_fs T_fl N_gi N_be N_da N_du N_pl N_de R_gi R_be R_da R_du R_pl R_de A_fi A_si A_ce P_si P_be P_le P_go K_sl J_fi) H := hP
        refine lv_iload_n hx hb dX5_share_111 rfl (lv_at hl 1 rfl) ?_
        obtain ⟨rr_4, ee_5, h⟩ := bnd1_s h
        refine cSi (As := [.long v4, .long rr_2, .int v2]) (rest := []) S0 hK hA hP (va_D_same hD rfl) hS [] (k_X5_fraction l G v4 rr_2 v2 rr_4 ee_5) cw_X5_fraction rfl rfl (Nat.le_of_ble_eq_true rfl) rfl hl.1 rfl (Nat.le_of_ble_eq_true rfl) dX5_share_112 ⟨Nat.zero_le _, Nat.zero_le _⟩ (fun H locs hP hS => ?_)
        replace hP : va_P G.1 vwCl (W_F G x0 s0 s1 t0 t1 t2 t3 t4 t5 t6 n0 n1 n2 n3 r0 r1 r2 r3 a0 a1 p0 p1 p2 p3 k0 j0 X_ch S_len S_let T_br T_fa T_fd T_fp T_st T_kd T_fs T_fl N_gi N_be N_da N_du N_pl N_de R_gi R_be R_da R_du R_pl R_de A_fi A_si A_ce P_si P_be P_le P_go K_sl J_fi) H := hP
        cases h
        exact W.iret hx hb hr (fun t ht _ => ⟨⟨_, (), rfl, rfl, by show va_P G.1 vwCl _ t.heap; rw [ht]; exact hP⟩, hS.F ht⟩) hS.2.2 dX5_share_115
      · replace h := if_f cc_1 h
        refine lv_iload hx hb dX5_share_37 (lv_at hl 4 rfl) ?_
        refine lv_iload_n hx hb dX5_share_39 rfl (lv_at hl 2 rfl) ?_
        refine lv_iand hx hb dX5_share_40 ?_
        refine lv_if_ne (tgt := 93) hx hb dX5_share_41 (by decide) (fun cc_6 => ?_) (fun cc_6 => ?_)
        · replace h := if_f cc_6 h
          exact J_93 (f_X5_share_23 T_br T_fa T_st T_kd T_fs T_fl N_gi N_be N_da N_du N_pl fu) ih v2 v3 v4 v6 R_gi R_be R_da R_du R_pl R_de _ _ _ h hP hS (lv_sub hl [0, 1, 2, 3, 4] rfl)
        · replace h := if_t cc_6 h
          refine lv_aload_n hx hb dX5_share_44 rfl (lv_at hl 0 rfl) ?_
          refine lv_bipush (v := 6) hx hb dX5_share_45 (by decide) ?_
          refine lv_iload hx hb dX5_share_47 (lv_at hl 4 rfl) ?_
          obtain ⟨dd_7, dd_8, dd_9, dd_10, dd_11, dd_12, ee_13, h⟩ := bnd6_s h
          refine cFr (As := [.int (6 : Int32), .int v6]) (rest := []) S0 hK hA hP (va_D_same hD rfl) hS (k_X5_behind l G x0 s0 s1 t0 t1 t2 t3 t4 t5 t6 n0 n1 n2 n3 r0 r1 r2 r3 a0 a1 p0 p1 p2 p3 k0 j0 X_ch S_len S_let T_br T_fa T_fd T_fp T_st T_kd T_fs T_fl N_gi N_be N_da N_du N_pl N_de R_gi R_be R_da R_du R_pl R_de A_fi A_si A_ce P_si P_be P_le P_go K_sl J_fi (6 : Int32) v6 dd_7 dd_8 dd_9 dd_10 dd_11 dd_12 ee_13) cw_X5_behind 5 0 rfl rfl rfl rfl hl.1 rfl (Nat.le_of_ble_eq_true rfl) dX5_share_49 ⟨Nat.zero_le _, Nat.zero_le _⟩ (fun H locs hP hS => ?_)
          replace hP : va_P G.1 vwCl (W_F G x0 s0 s1 t0 t1 t2 t3 t4 t5 t6 n0 n1 n2 n3 r0 r1 r2 r3 a0 a1 p0 p1 p2 p3 k0 j0 X_ch S_len S_let T_br T_fa T_fd T_fp T_st T_kd T_fs T_fl N_gi N_be N_da N_du N_pl N_de dd_7 dd_8 dd_9 dd_10 dd_11 dd_12 A_fi A_si A_ce P_si P_be P_le P_go K_sl J_fi) H := hP
          obtain ⟨rr_14, ee_15, h⟩ := bnd1_s h
          refine cVi (As := []) (rest := []) S0 hK hA hP (va_D_same hD rfl) hS [14, 15, 16, 17, 3, 4, 5, 6, 7, 8, 9] (k_X2_allDust l G r0 r1 r2 r3 t0 t1 t2 t3 t4 t5 t6 dd_7 dd_8 dd_9 dd_10 dd_11 dd_12 T_br T_fa T_fd T_fp T_st T_kd T_fs T_fl rr_14 ee_15) cw_X2_allDust rfl rfl (Nat.le_of_ble_eq_true rfl) 2 0 rfl rfl rfl rfl hl.1 rfl (Nat.le_of_ble_eq_true rfl) dX5_share_52 ⟨Nat.zero_le _, Nat.zero_le _⟩ (fun H locs hP hS => ?_)
          replace hP : va_P G.1 vwCl (W_F G x0 s0 s1 t0 t1 t2 t3 t4 t5 t6 n0 n1 n2 n3 r0 r1 r2 r3 a0 a1 p0 p1 p2 p3 k0 j0 X_ch S_len S_let T_br T_fa T_fd T_fp T_st T_kd T_fs T_fl N_gi N_be N_da N_du N_pl N_de dd_7 dd_8 dd_9 dd_10 dd_11 dd_12 A_fi A_si A_ce P_si P_be P_le P_go K_sl J_fi) H := hP
          refine lv_istore (lv' := [(7, .int rr_14), (0, .ref x0), (2, .int v2), (3, .int v3), (4, .long v4), (6, .int v6)]) hx hb dX5_share_55 hl (by decide) rfl (fun ls hl => ?_)
          refine lv_iload hx hb dX5_share_57 (lv_at hl 0 rfl) ?_
          refine lv_aload_n hx hb dX5_share_59 rfl (lv_at hl 1 rfl) ?_
          refine lv_bipush (v := 6) hx hb dX5_share_60 (by decide) ?_
          refine lv_iload hx hb dX5_share_62 (lv_at hl 5 rfl) ?_
          refine lv_iload_n hx hb dX5_share_64 rfl (lv_at hl 3 rfl) ?_
          refine lv_ior hx hb dX5_share_65 ?_
          obtain ⟨dd_16, dd_17, dd_18, dd_19, dd_20, dd_21, ee_22, h⟩ := bnd6_s h
          refine cFr (As := [.int (6 : Int32), .int (v6 ||| v3)]) (rest := [.int rr_14]) S0 hK hA hP (va_D_same hD rfl) hS (k_X5_behind l G x0 s0 s1 t0 t1 t2 t3 t4 t5 t6 n0 n1 n2 n3 r0 r1 r2 r3 a0 a1 p0 p1 p2 p3 k0 j0 X_ch S_len S_let T_br T_fa T_fd T_fp T_st T_kd T_fs T_fl N_gi N_be N_da N_du N_pl N_de dd_7 dd_8 dd_9 dd_10 dd_11 dd_12 A_fi A_si A_ce P_si P_be P_le P_go K_sl J_fi (6 : Int32) (v6 ||| v3) dd_16 dd_17 dd_18 dd_19 dd_20 dd_21 ee_22) cw_X5_behind 5 0 rfl rfl rfl rfl hl.1 rfl (Nat.le_of_ble_eq_true rfl) dX5_share_66 ⟨Nat.zero_le _, Nat.zero_le _⟩ (fun H locs hP hS => ?_)
          replace hP : va_P G.1 vwCl (W_F G x0 s0 s1 t0 t1 t2 t3 t4 t5 t6 n0 n1 n2 n3 r0 r1 r2 r3 a0 a1 p0 p1 p2 p3 k0 j0 X_ch S_len S_let T_br T_fa T_fd T_fp T_st T_kd T_fs T_fl N_gi N_be N_da N_du N_pl N_de dd_16 dd_17 dd_18 dd_19 dd_20 dd_21 A_fi A_si A_ce P_si P_be P_le P_go K_sl J_fi) H := hP
          obtain ⟨rr_23, ee_24, h⟩ := bnd1_s h
          refine cVi (As := []) (rest := [.int rr_14]) S0 hK hA hP (va_D_same hD rfl) hS [14, 15, 16, 17, 3, 4, 5, 6, 7, 8, 9] (k_X2_allDust l G r0 r1 r2 r3 t0 t1 t2 t3 t4 t5 t6 dd_16 dd_17 dd_18 dd_19 dd_20 dd_21 T_br T_fa T_fd T_fp T_st T_kd T_fs T_fl rr_23 ee_24) cw_X2_allDust rfl rfl (Nat.le_of_ble_eq_true rfl) 2 0 rfl rfl rfl rfl hl.1 rfl (Nat.le_of_ble_eq_true rfl) dX5_share_69 ⟨Nat.zero_le _, Nat.zero_le _⟩ (fun H locs hP hS => ?_)
          replace hP : va_P G.1 vwCl (W_F G x0 s0 s1 t0 t1 t2 t3 t4 t5 t6 n0 n1 n2 n3 r0 r1 r2 r3 a0 a1 p0 p1 p2 p3 k0 j0 X_ch S_len S_let T_br T_fa T_fd T_fp T_st T_kd T_fs T_fl N_gi N_be N_da N_du N_pl N_de dd_16 dd_17 dd_18 dd_19 dd_20 dd_21 A_fi A_si A_ce P_si P_be P_le P_go K_sl J_fi) H := hP
          refine lv_isub hx hb dX5_share_72 ?_
          refine lv_istore (lv' := [(7, .int (rr_14 - rr_23)), (0, .ref x0), (2, .int v2), (3, .int v3), (4, .long v4), (6, .int v6)]) hx hb dX5_share_73 hl (by decide) rfl (fun ls hl => ?_)
          refine lv_lload hx hb dX5_share_75 (lv_at hl 4 rfl) ?_
          refine lv_iload hx hb dX5_share_77 (lv_at hl 0 rfl) ?_
          refine lv_i2l (v := (rr_14 - rr_23).toInt64) hx hb dX5_share_79 rfl ?_
          refine lv_aload_n hx hb dX5_share_80 rfl (lv_at hl 1 rfl) ?_
          refine lv_iload hx hb dX5_share_81 (lv_at hl 5 rfl) ?_
          obtain ⟨rr_25, ee_26, h⟩ := bnd1_s h
          refine cSi (As := [.int v6]) (rest := [.ref x0, .long ((rr_14 - rr_23).toInt64), .long v4]) S0 hK hA hP (va_D_same hD rfl) hS [] (k_J6_bitCount_0f7a4 l G v6 rr_25 ee_26) cw_J6_bitCount_0f7a4 rfl rfl (Nat.le_of_ble_eq_true rfl) rfl hl.1 rfl (Nat.le_of_ble_eq_true rfl) dX5_share_83 ⟨Nat.zero_le _, Nat.zero_le _⟩ (fun H locs hP hS => ?_)
          replace hP : va_P G.1 vwCl (W_F G x0 s0 s1 t0 t1 t2 t3 t4 t5 t6 n0 n1 n2 n3 r0 r1 r2 r3 a0 a1 p0 p1 p2 p3 k0 j0 X_ch S_len S_let T_br T_fa T_fd T_fp T_st T_kd T_fs T_fl N_gi N_be N_da N_du N_pl N_de dd_16 dd_17 dd_18 dd_19 dd_20 dd_21 A_fi A_si A_ce P_si P_be P_le P_go K_sl J_fi) H := hP
          obtain ⟨rr_27, ee_28, h⟩ := bnd1_s h
          refine cFl (As := [.int rr_25]) (rest := [.long ((rr_14 - rr_23).toInt64), .long v4]) S0 hK hA hP (va_D_same hD rfl) hS (k_X5_ordersWith l G x0 s0 s1 t0 t1 t2 t3 t4 t5 t6 n0 n1 n2 n3 r0 r1 r2 r3 a0 a1 p0 p1 p2 p3 k0 j0 X_ch S_len S_let T_br T_fa T_fd T_fp T_st T_kd T_fs T_fl N_gi N_be N_da N_du N_pl N_de dd_16 dd_17 dd_18 dd_19 dd_20 dd_21 A_fi A_si A_ce P_si P_be P_le P_go K_sl J_fi rr_25 rr_27 ee_28) cw_X5_ordersWith 5 0 rfl rfl rfl rfl hl.1 rfl (Nat.le_of_ble_eq_true rfl) dX5_share_86 ⟨Nat.zero_le _, Nat.zero_le _⟩ (fun H locs hP hS => ?_)
          replace hP : va_P G.1 vwCl (W_F G x0 s0 s1 t0 t1 t2 t3 t4 t5 t6 n0 n1 n2 n3 r0 r1 r2 r3 a0 a1 p0 p1 p2 p3 k0 j0 X_ch S_len S_let T_br T_fa T_fd T_fp T_st T_kd T_fs T_fl N_gi N_be N_da N_du N_pl N_de dd_16 dd_17 dd_18 dd_19 dd_20 dd_21 A_fi A_si A_ce P_si P_be P_le P_go K_sl J_fi) H := hP
          refine lv_lmul hx hb dX5_share_89 ?_
          refine lv_ladd hx hb dX5_share_90 ?_
          refine lv_lstore (lv' := [(4, .long (v4 + (((rr_14 - rr_23).toInt64) * rr_27))), (7, .int (rr_14 - rr_23)), (0, .ref x0), (2, .int v2), (3, .int v3), (6, .int v6)]) hx hb dX5_share_91 hl (by decide) rfl (fun ls hl => ?_)
          exact J_93 (f_X5_share_23 T_br T_fa T_st T_kd T_fs T_fl N_gi N_be N_da N_du N_pl fu) ih v2 v3 (v4 + (((rr_14 - rr_23).toInt64) * rr_27)) v6 dd_16 dd_17 dd_18 dd_19 dd_20 dd_21 _ _ _ h hP hS (lv_sub hl [2, 3, 4, 0, 5] rfl)
  unfold f_X5_share at h
  refine lv_aload_n hx hb dX5_share_0 rfl (lv_at hl 0 rfl) ?_
  refine va_get (ci := 5) (C := RX5) (T := TX5) (N := 9) hx hb hts inX5 hown hK.1 hP 0 rfl rfl 1 (by decide) fl19 (fun _ h9 => h9) rfl dX5_share_1 ?_
  refine lv_iload_n hx hb dX5_share_4 rfl (lv_at hl 1 rfl) ?_
  obtain ⟨rr_29, ee_30, h⟩ := bnd1_s h
  refine cVi (As := [.int u1]) (rest := []) S0 hK hA hP (va_D_same hD rfl) hS [3, 4, 5, 6, 7, 8, 9] (k_X4_hasBroom l G t0 t1 t2 t3 t4 t5 t6 T_br T_fa T_fd T_fp T_st T_kd T_fs T_fl u1 rr_29 ee_30) cw_X4_hasBroom rfl rfl (Nat.le_of_ble_eq_true rfl) 4 0 rfl rfl rfl rfl hl.1 rfl (Nat.le_of_ble_eq_true rfl) dX5_share_5 ⟨Nat.zero_le _, Nat.zero_le _⟩ (fun H locs hP hS => ?_)
  replace hP : va_P G.1 vwCl (W_F G x0 s0 s1 t0 t1 t2 t3 t4 t5 t6 n0 n1 n2 n3 r0 r1 r2 r3 a0 a1 p0 p1 p2 p3 k0 j0 X_ch S_len S_let T_br T_fa T_fd T_fp T_st T_kd T_fs T_fl N_gi N_be N_da N_du N_pl N_de R_gi R_be R_da R_du R_pl R_de A_fi A_si A_ce P_si P_be P_le P_go K_sl J_fi) H := hP
  refine lv_if_ne (tgt := 13) hx hb dX5_share_8 (by decide) (fun cc_31 => ?_) (fun cc_31 => ?_)
  · replace h := if_f cc_31 h
    refine lv_iconst (v := 1) hx hb dX5_share_13 (by decide) ?_
    refine lv_iload_n hx hb dX5_share_14 rfl (lv_at hl 1 rfl) ?_
    refine lv_ishl hx hb dX5_share_15 ?_
    refine lv_istore_n (lv' := [(3, .int ((1 : Int32) <<< (u1 &&& 31))), (0, .ref x0), (1, .int u1), (2, .int u2)]) hx hb dX5_share_16 rfl hl (by decide) rfl (fun ls hl => ?_)
    refine lv_lconst (v := 0) hx hb dX5_share_17 (by decide) ?_
    refine lv_lstore (lv' := [(4, .long (0 : Int64)), (3, .int ((1 : Int32) <<< (u1 &&& 31))), (0, .ref x0), (1, .int u1), (2, .int u2)]) hx hb dX5_share_18 hl (by decide) rfl (fun ls hl => ?_)
    refine lv_iconst (v := 0) hx hb dX5_share_20 (by decide) ?_
    refine lv_istore (lv' := [(6, .int (0 : Int32)), (4, .long (0 : Int64)), (3, .int ((1 : Int32) <<< (u1 &&& 31))), (0, .ref x0), (1, .int u1), (2, .int u2)]) hx hb dX5_share_21 hl (by decide) rfl (fun ls hl => ?_)
    exact J_23  130 u2 ((1 : Int32) <<< (u1 &&& 31)) (0 : Int64) (0 : Int32) R_gi R_be R_da R_du R_pl R_de _ _ _ h hP hS (lv_sub hl [3, 5, 2, 1, 0] rfl)
  · replace h := if_t cc_31 h
    refine lv_iconst (v := (-1)) hx hb dX5_share_11 (by decide) ?_
    cases h
    exact W.iret hx hb hr (fun t ht _ => ⟨⟨_, (), rfl, rfl, by show va_P G.1 vwCl _ t.heap; rw [ht]; exact hP⟩, hS.F ht⟩) hS.2.2 dX5_share_12
