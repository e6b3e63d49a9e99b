def f_X5_twice_87 (T_br : Int32) (T_fa : Int32) (T_st : Nat → Int32) (T_kd : Nat → Int32) (T_fs : Nat → Int32) (T_fl : Nat → Int32) (N_gi : Int32) (N_be : Int32) (N_da : Int32) (N_du : Nat → Int32) (N_pl : Nat → Int32) (kk38 : Int32 → Int32 → Int32 → Int32 → Int64 → Int32 → Int32 → Int32 → Int32 → (Nat → Int32) → (Nat → Int32) → (Nat → Int32) → Option (Int32 × Int32 × Int32 × Int32 × (Nat → Int32) × (Nat → Int32) × (Nat → Int32))) (v1 : Int32) (v2 : Int32) (v3 : Int32) (v4 : Int32) (v5 : Int64) (v7 : Int32) (R_gi : Int32) (R_be : Int32) (R_da : Int32) (R_du : Nat → Int32) (R_pl : Nat → Int32) (R_de : Nat → Int32) : Option (Int32 × Int32 × Int32 × Int32 × (Nat → Int32) × (Nat → Int32) × (Nat → Int32)) := kk38 v1 v2 v3 v4 v5 (v7 + 1) R_gi R_be R_da R_du R_pl R_de
def f_X5_twice_38 (T_br : Int32) (T_fa : Int32) (T_st : Nat → Int32) (T_kd : Nat → Int32) (T_fs : Nat → Int32) (T_fl : Nat → Int32) (N_gi : Int32) (N_be : Int32) (N_da : Int32) (N_du : Nat → Int32) (N_pl : Nat → Int32) : Nat → Int32 → Int32 → Int32 → Int32 → Int64 → Int32 → Int32 → Int32 → Int32 → (Nat → Int32) → (Nat → Int32) → (Nat → Int32) → Option (Int32 × Int32 × Int32 × Int32 × (Nat → Int32) × (Nat → Int32) × (Nat → Int32))
  | 0, _, _, _, _, _, _, _, _, _, _, _, _ => none
  | fu + 1, v1, v2, v3, v4, v5, v7, R_gi, R_be, R_da, R_du, R_pl, R_de => if ((1 : Int32) <<< (v2 &&& 31)) ≤ v7 then (bnd1 (f_X5_power (10 : Int32) v2) (fun rr_2 => bnd1 (f_X5_fraction v5 rr_2 v4) (fun rr_4 => some (rr_4, R_gi, R_be, R_da, R_du, R_pl, R_de)))) else (bnd7 (f_X5_isDeepBehind T_br T_fa T_st T_kd T_fs T_fl N_gi N_be N_da N_du N_pl R_gi R_be R_da R_du R_pl R_de v1 v2 v7) (fun rr_6 dd_7 dd_8 dd_9 dd_10 dd_11 dd_12 => if rr_6 = 0 then (f_X5_twice_87 T_br T_fa T_st T_kd T_fs T_fl N_gi N_be N_da N_du N_pl (f_X5_twice_38 T_br T_fa T_st T_kd T_fs T_fl N_gi N_be N_da N_du N_pl fu) v1 v2 v3 v4 v5 v7 dd_7 dd_8 dd_9 dd_10 dd_11 dd_12) else (bnd1 (f_J6_bitCount_0f7a4 v7) (fun rr_15 => bnd1 (f_X5_power v3 rr_15) (fun rr_17 => bnd1 (f_X5_power ((10 : Int32) - v3) (v2 - rr_15)) (fun rr_19 => f_X5_twice_87 T_br T_fa T_st T_kd T_fs T_fl N_gi N_be N_da N_du N_pl (f_X5_twice_38 T_br T_fa T_st T_kd T_fs T_fl N_gi N_be N_da N_du N_pl fu) v1 v2 v3 v4 (v5 + (rr_17 * rr_19)) v7 dd_7 dd_8 dd_9 dd_10 dd_11 dd_12))))))
def f_X5_twice (T_br : Int32) (T_fa : Int32) (T_st : Nat → Int32) (T_kd : Nat → Int32) (T_fs : Nat → Int32) (T_fl : Nat → Int32) (N_gi : Int32) (N_be : Int32) (N_da : Int32) (N_du : Nat → Int32) (N_pl : Nat → Int32) (R_gi : Int32) (R_be : Int32) (R_da : Int32) (R_du : Nat → Int32) (R_pl : Nat → Int32) (R_de : Nat → Int32) (u1 : Int32) (u2 : Int32) (u3 : Int32) (u4 : Int32) : Option (Int32 × Int32 × Int32 × Int32 × (Nat → Int32) × (Nat → Int32) × (Nat → Int32)) := bnd1 (f_X5_isStreet u1) (fun rr_21 => if rr_21 = 0 then (some (((-1) : Int32), R_gi, R_be, R_da, R_du, R_pl, R_de)) else (bnd1 (f_X5_within u2 (1 : Int32) (6 : Int32)) (fun rr_24 => if rr_24 = 0 then (some (((-2) : Int32), R_gi, R_be, R_da, R_du, R_pl, R_de)) else (bnd1 (f_X5_within u3 (0 : Int32) (10 : Int32)) (fun rr_27 => if rr_27 = 0 then (some (((-2) : Int32), R_gi, R_be, R_da, R_du, R_pl, R_de)) else (f_X5_twice_38 T_br T_fa T_st T_kd T_fs T_fl N_gi N_be N_da N_du N_pl  130 u1 u2 u3 u4 (0 : Int64) (0 : Int32) R_gi R_be R_da R_du R_pl R_de))))))
set_option maxRecDepth 100000 in
set_option maxHeartbeats 4000000 in
theorem k_X5_twice (l : Launch) (G : Gt) (x0 s0 s1 t0 t1 t2 t3 t4 t5 t6 n0 n1 n2 n3 r0 r1 r2 r3 a0 a1 p0 p1 p2 p3 k0 j0 : Nat) (X_ch : Int64) (S_len : Int32) (S_let : Nat → Int32) (T_br : Int32) (T_fa : Int32) (T_fd : Nat → Int32) (T_fp : Nat → Int32) (T_st : Nat → Int32) (T_kd : Nat → Int32) (T_fs : Nat → Int32) (T_fl : Nat → Int32) (N_gi : Int32) (N_be : Int32) (N_da : Int32) (N_du : Nat → Int32) (N_pl : Nat → Int32) (N_de : Nat → Int32) (R_gi : Int32) (R_be : Int32) (R_da : Int32) (R_du : Nat → Int32) (R_pl : Nat → Int32) (R_de : Nat → Int32) (A_fi : Int32) (A_si : Int32) (A_ce : Nat → Int32) (P_si : Int32) (P_be : Nat → Int32) (P_le : Nat → Int32) (P_go : Nat → Int32) (K_sl : Nat → Int32) (J_fi : Nat → Int32) (u1 : Int32) (u2 : Int32) (u3 : Int32) (u4 : Int32) (r_ : Int32) (o_R_gi : Int32) (o_R_be : Int32) (o_R_da : Int32) (o_R_du : Nat → Int32) (o_R_pl : Nat → Int32) (o_R_de : Nat → Int32) (h : f_X5_twice T_br T_fa T_st T_kd T_fs T_fl N_gi N_be N_da N_du N_pl R_gi R_be R_da R_du R_pl R_de u1 u2 u3 u4 = some (r_, o_R_gi, o_R_be, o_R_da, o_R_du, o_R_pl, o_R_de)) : CT l yX5_twice wsX5_twice 5 115 G [.ref x0, .int u1, .int u2, .int u3, .int u4] (W_F G x0 s0 s1 t0 t1 t2 t3 t4 t5 t6 n0 n1 n2 n3 r0 r1 r2 r3 a0 a1 p0 p1 p2 p3 k0 j0 X_ch S_len S_let T_br T_fa T_fd T_fp T_st T_kd T_fs T_fl N_gi N_be N_da N_du N_pl N_de R_gi R_be R_da R_du R_pl R_de A_fi A_si A_ce P_si P_be P_le P_go K_sl J_fi) (QI G r_ (W_F G x0 s0 s1 t0 t1 t2 t3 t4 t5 t6 n0 n1 n2 n3 r0 r1 r2 r3 a0 a1 p0 p1 p2 p3 k0 j0 X_ch S_len S_let T_br T_fa T_fd T_fp T_st T_kd T_fs T_fl N_gi N_be N_da N_du N_pl N_de o_R_gi o_R_be o_R_da o_R_du o_R_pl o_R_de A_fi A_si A_ce P_si P_be P_le P_go K_sl J_fi)) := by
  refine met_of cX5_twice 9 (some .int) (by decide) rfl (Nat.le_of_ble_eq_true rfl) ?_
  intro p e s m below meth c A ls hx hb hr hml hts hown hlocks hK hA hD hP hS hl
  replace hown : s.vm.findClass RX5 = some m.cls := hown
  replace hl : lv_has ls 9 [(0, .ref x0), (1, .int u1), (2, .int u2), (3, .int u3), (4, .int u4)] := hl
  have S0 : CallFix p m c cX5_twice 9 s _ wsX5_twice RX5 := ⟨hx, hb, hml, hown, hts⟩
  have cw_X5_power := show CallB (rmv 5 115) s _ RX5 187 yX5_power cX5_power 5 (some .long) wsX5_power (rmv 0 0) 0 0 2 ∧ (Cond.static yX5_power).before _ s = true from va_cwS 2 hts gX5_twice_X5_power rfl rfl rfl (by decide +kernel) ⟨Nat.le_of_ble_eq_true rfl, Nat.le_of_ble_eq_true rfl⟩
  have cw_X5_fraction := show CallB (rmv 5 115) s _ RX5 217 yX5_fraction cX5_fraction 7 (some .int) wsX5_fraction (rmv 1 30) 0 0 3 ∧ (Cond.static yX5_fraction).before _ s = true from va_cwS 3 hts gX5_twice_X5_fraction rfl rfl rfl (by decide +kernel) ⟨Nat.le_of_ble_eq_true rfl, Nat.le_of_ble_eq_true rfl⟩
  have cw_X5_isDeepBehind := show CallW (rmv 5 115) s _ RX5 RX5 224 yX5_isDeepBehind cX5_isDeepBehind 6 (some .boolean) wsX5_isDeepBehind (rmv 4 90) 0 0 3 from cwV 3 hts gX5_twice_X5_isDeepBehind rfl rfl rfl (by decide +kernel) ⟨Nat.le_of_ble_eq_true rfl, Nat.le_of_ble_eq_true rfl⟩
  have cw_J6_bitCount_0f7a4 := show CallB (rmv 5 115) s _ RX5 152 yJ6_bitCount_0f7a4 cJ6_bitCount_0f7a4 1 (some .int) wsJ6_bitCount_0f7a4 (rmv 0 0) 0 0 1 ∧ (Cond.static yJ6_bitCount_0f7a4).before _ s = true from va_cwS 1 hts gX5_twice_J6_bitCount_0f7a4 rfl rfl rfl (by decide +kernel) ⟨Nat.le_of_ble_eq_true rfl, Nat.le_of_ble_eq_true rfl⟩
  have cw_X5_isStreet := show CallB (rmv 5 115) s _ RX5 93 yX5_isStreet cX5_isStreet 1 (some .boolean) wsX5_isStreet (rmv 0 0) 0 0 1 ∧ (Cond.static yX5_isStreet).before _ s = true from va_cwS 1 hts gX5_twice_X5_isStreet rfl rfl rfl (by decide +kernel) ⟨Nat.le_of_ble_eq_true rfl, Nat.le_of_ble_eq_true rfl⟩
  have cw_X5_within := show CallB (rmv 5 115) s _ RX5 61 yX5_within cX5_within 3 (some .boolean) wsX5_within (rmv 0 0) 0 0 3 ∧ (Cond.static yX5_within).before _ s = true from va_cwS 3 hts gX5_twice_X5_within rfl rfl rfl (by decide +kernel) ⟨Nat.le_of_ble_eq_true rfl, Nat.le_of_ble_eq_true rfl⟩
  have J_87 : ∀ (kk38 : Int32 → Int32 → Int32 → Int32 → Int64 → Int32 → Int32 → Int32 → Int32 → (Nat → Int32) → (Nat → Int32) → (Nat → Int32) → Option (Int32 × Int32 × Int32 × Int32 × (Nat → Int32) × (Nat → Int32) × (Nat → Int32))) (hk38 : ∀ (v1 : Int32) (v2 : Int32) (v3 : Int32) (v4 : Int32) (v5 : Int64) (v7 : Int32) (R_gi : Int32) (R_be : Int32) (R_da : Int32) (R_du : Nat → Int32) (R_pl : Nat → Int32) (R_de : Nat → Int32) (H : Heap) (locs : List Loc) (ls : Array Slot), kk38 v1 v2 v3 v4 v5 v7 R_gi R_be R_da R_du R_pl R_de = some (r_, o_R_gi, o_R_be, o_R_da, o_R_du, o_R_pl, o_R_de) → va_P G.1 vwCl (W_F G x0 s0 s1 t0 t1 t2 t3 t4 t5 t6 n0 n1 n2 n3 r0 r1 r2 r3 a0 a1 p0 p1 p2 p3 k0 j0 X_ch S_len S_let T_br T_fa T_fd T_fp T_st T_kd T_fs T_fl N_gi N_be N_da N_du N_pl N_de R_gi R_be R_da R_du R_pl R_de A_fi A_si A_ce P_si P_be P_le P_go K_sl J_fi) H → va_S A s.heap H locs → lv_has ls 9 [(0, .ref x0), (1, .int v1), (2, .int v2), (3, .int v3), (4, .int v4), (5, .long v5), (7, .int v7)] → W p l e (rmv 5 115) s m (List.toArray [.ref x0, .int u1, .int u2, .int u3, .int u4]) below meth c H locs 0 0 (MQ below ((QI G r_ (W_F G x0 s0 s1 t0 t1 t2 t3 t4 t5 t6 n0 n1 n2 n3 r0 r1 r2 r3 a0 a1 p0 p1 p2 p3 k0 j0 X_ch S_len S_let T_br T_fa T_fd T_fp T_st T_kd T_fs T_fl N_gi N_be N_da N_du N_pl N_de o_R_gi o_R_be o_R_da o_R_du o_R_pl o_R_de A_fi A_si A_ce P_si P_be P_le P_go K_sl J_fi)) A) (List.toArray [.ref x0, .int u1, .int u2, .int u3, .int u4]) s 0 0 A) (F0 m 38 ls [])), ∀ (v1 : Int32) (v2 : Int32) (v3 : Int32) (v4 : Int32) (v5 : Int64) (v7 : Int32) (R_gi : Int32) (R_be : Int32) (R_da : Int32) (R_du : Nat → Int32) (R_pl : Nat → Int32) (R_de : Nat → Int32) (H : Heap) (locs : List Loc) (ls : Array Slot), f_X5_twice_87 T_br T_fa T_st T_kd T_fs T_fl N_gi N_be N_da N_du N_pl kk38 v1 v2 v3 v4 v5 v7 R_gi R_be R_da R_du R_pl R_de = some (r_, o_R_gi, o_R_be, o_R_da, o_R_du, o_R_pl, o_R_de) → va_P G.1 vwCl (W_F G x0 s0 s1 t0 t1 t2 t3 t4 t5 t6 n0 n1 n2 n3 r0 r1 r2 r3 a0 a1 p0 p1 p2 p3 k0 j0 X_ch S_len S_let T_br T_fa T_fd T_fp T_st T_kd T_fs T_fl N_gi N_be N_da N_du N_pl N_de R_gi R_be R_da R_du R_pl R_de A_fi A_si A_ce P_si P_be P_le P_go K_sl J_fi) H → va_S A s.heap H locs → lv_has ls 9 [(0, .ref x0), (1, .int v1), (2, .int v2), (3, .int v3), (4, .int v4), (5, .long v5), (7, .int v7)] → W p l e (rmv 5 115) s m (List.toArray [.ref x0, .int u1, .int u2, .int u3, .int u4]) below meth c H locs 0 0 (MQ below ((QI G r_ (W_F G x0 s0 s1 t0 t1 t2 t3 t4 t5 t6 n0 n1 n2 n3 r0 r1 r2 r3 a0 a1 p0 p1 p2 p3 k0 j0 X_ch S_len S_let T_br T_fa T_fd T_fp T_st T_kd T_fs T_fl N_gi N_be N_da N_du N_pl N_de o_R_gi o_R_be o_R_da o_R_du o_R_pl o_R_de A_fi A_si A_ce P_si P_be P_le P_go K_sl J_fi)) A) (List.toArray [.ref x0, .int u1, .int u2, .int u3, .int u4]) s 0 0 A) (F0 m 87 ls []) := by
    intro kk38 hk38 v1 v2 v3 v4 v5 v7 R_gi R_be R_da R_du R_pl R_de H locs ls h hP hS hl
    unfold f_X5_twice_87 at h
    refine lv_iinc (v := (v7 + 1)) (lv' := [(7, .int (v7 + 1)), (0, .ref x0), (1, .int v1), (2, .int v2), (3, .int v3), (4, .int v4), (5, .long v5)]) hx hb dX5_twice_87 hl (k := 6) rfl rfl (by decide) rfl (fun ls hl => ?_)
    refine lv_goto (tgt := 38) hx hb dX5_twice_90 (by decide) ?_
    exact hk38 v1 v2 v3 v4 v5 (v7 + 1) R_gi R_be R_da R_du R_pl R_de _ _ _ h hP hS (lv_sub hl [1, 2, 3, 4, 5, 6, 0] rfl)
  have J_38 : ∀ (fu : Nat), ∀ (v1 : Int32) (v2 : Int32) (v3 : Int32) (v4 : Int32) (v5 : Int64) (v7 : Int32) (R_gi : Int32) (R_be : Int32) (R_da : Int32) (R_du : Nat → Int32) (R_pl : Nat → Int32) (R_de : Nat → Int32) (H : Heap) (locs : List Loc) (ls : Array Slot), f_X5_twice_38 T_br T_fa T_st T_kd T_fs T_fl N_gi N_be N_da N_du N_pl fu v1 v2 v3 v4 v5 v7 R_gi R_be R_da R_du R_pl R_de = some (r_, o_R_gi, o_R_be, o_R_da, o_R_du, o_R_pl, o_R_de) → va_P G.1 vwCl (W_F G x0 s0 s1 t0 t1 t2 t3 t4 t5 t6 n0 n1 n2 n3 r0 r1 r2 r3 a0 a1 p0 p1 p2 p3 k0 j0 X_ch S_len S_let T_br T_fa T_fd T_fp T_st T_kd T_fs T_fl N_gi N_be N_da N_du N_pl N_de R_gi R_be R_da R_du R_pl R_de A_fi A_si A_ce P_si P_be P_le P_go K_sl J_fi) H → va_S A s.heap H locs → lv_has ls 9 [(0, .ref x0), (1, .int v1), (2, .int v2), (3, .int v3), (4, .int v4), (5, .long v5), (7, .int v7)] → W p l e (rmv 5 115) s m (List.toArray [.ref x0, .int u1, .int u2, .int u3, .int u4]) below meth c H locs 0 0 (MQ below ((QI G r_ (W_F G x0 s0 s1 t0 t1 t2 t3 t4 t5 t6 n0 n1 n2 n3 r0 r1 r2 r3 a0 a1 p0 p1 p2 p3 k0 j0 X_ch S_len S_let T_br T_fa T_fd T_fp T_st T_kd T_fs T_fl N_gi N_be N_da N_du N_pl N_de o_R_gi o_R_be o_R_da o_R_du o_R_pl o_R_de A_fi A_si A_ce P_si P_be P_le P_go K_sl J_fi)) A) (List.toArray [.ref x0, .int u1, .int u2, .int u3, .int u4]) s 0 0 A) (F0 m 38 ls []) := by
    intro  fu
    induction fu with
    | zero =>
      intro v1 v2 v3 v4 v5 v7 R_gi R_be R_da R_du R_pl R_de H locs ls h
      cases h
    | succ fu ih =>
      intro v1 v2 v3 v4 v5 v7 R_gi R_be R_da R_du R_pl R_de H locs ls h hP hS hl
      rw [f_X5_twice_38] at h
      refine lv_iload hx hb dX5_twice_38 (lv_at hl 6 rfl) ?_
      refine lv_iconst (v := 1) hx hb dX5_twice_40 (by decide) ?_
      refine lv_iload_n hx hb dX5_twice_41 rfl (lv_at hl 2 rfl) ?_
      refine lv_ishl hx hb dX5_twice_42 ?_
      refine lv_icmp_ge (tgt := 93) hx hb dX5_twice_43 (by decide) (fun cc_1 => ?_) (fun cc_1 => ?_)
      · replace h := if_t cc_1 h
        refine lv_lload hx hb dX5_twice_93 (lv_at hl 5 rfl) ?_
        refine lv_bipush (v := 10) hx hb dX5_twice_95 (by decide) ?_
        refine lv_iload_n hx hb dX5_twice_97 rfl (lv_at hl 2 rfl) ?_
        obtain ⟨rr_2, ee_3, h⟩ := bnd1_s h
        refine cSl (As := [.int (10 : Int32), .int v2]) (rest := [.long v5]) S0 hK hA hP (va_D_same hD rfl) hS [] (k_X5_power l G (10 : Int32) v2 rr_2 ee_3) cw_X5_power rfl rfl (Nat.le_of_ble_eq_true rfl) rfl hl.1 rfl (Nat.le_of_ble_eq_true rfl) dX5_twice_98 ⟨Nat.zero_le _, Nat.zero_le _⟩ (fun H locs hP hS => ?_)
        replace hP : va_P G.1 vwCl (W_F G x0 s0 s1 t0 t1 t2 t3 t4 t5 t6 n0 n1 n2 n3 r0 r1 r2 r3 a0 a1 p0 p1 p2 p3 k0 j0 X_ch S_len S_let T_br T_fa T_fd T_fp T_st T_kd T_fs T_fl N_gi N_be N_da N_du N_pl N_de R_gi R_be R_da R_du R_pl R_de A_fi A_si A_ce P_si P_be P_le P_go K_sl J_fi) H := hP
        refine lv_iload hx hb dX5_twice_101 (lv_at hl 4 rfl) ?_
        obtain ⟨rr_4, ee_5, h⟩ := bnd1_s h
        refine cSi (As := [.long v5, .long rr_2, .int v4]) (rest := []) S0 hK hA hP (va_D_same hD rfl) hS [] (k_X5_fraction l G v5 rr_2 v4 rr_4 ee_5) cw_X5_fraction rfl rfl (Nat.le_of_ble_eq_true rfl) rfl hl.1 rfl (Nat.le_of_ble_eq_true rfl) dX5_twice_103 ⟨Nat.zero_le _, Nat.zero_le _⟩ (fun H locs hP hS => ?_)
        replace hP : va_P G.1 vwCl (W_F G x0 s0 s1 t0 t1 t2 t3 t4 t5 t6 n0 n1 n2 n3 r0 r1 r2 r3 a0 a1 p0 p1 p2 p3 k0 j0 X_ch S_len S_let T_br T_fa T_fd T_fp T_st T_kd T_fs T_fl N_gi N_be N_da N_du N_pl N_de R_gi R_be R_da R_du R_pl R_de A_fi A_si A_ce P_si P_be P_le P_go K_sl J_fi) H := hP
        cases h
        exact W.iret hx hb hr (fun t ht _ => ⟨⟨_, (), rfl, rfl, by show va_P G.1 vwCl _ t.heap; rw [ht]; exact hP⟩, hS.F ht⟩) hS.2.2 dX5_twice_106
      · replace h := if_f cc_1 h
        refine lv_aload_n hx hb dX5_twice_46 rfl (lv_at hl 0 rfl) ?_
        refine lv_iload_n hx hb dX5_twice_47 rfl (lv_at hl 1 rfl) ?_
        refine lv_iload_n hx hb dX5_twice_48 rfl (lv_at hl 2 rfl) ?_
        refine lv_iload hx hb dX5_twice_49 (lv_at hl 6 rfl) ?_
        obtain ⟨rr_6, dd_7, dd_8, dd_9, dd_10, dd_11, dd_12, ee_13, h⟩ := bnd7_s h
        refine cFi (As := [.int v1, .int v2, .int v7]) (rest := []) S0 hK hA hP (va_D_same hD rfl) hS (k_X5_isDeepBehind l G x0 s0 s1 t0 t1 t2 t3 t4 t5 t6 n0 n1 n2 n3 r0 r1 r2 r3 a0 a1 p0 p1 p2 p3 k0 j0 X_ch S_len S_let T_br T_fa T_fd T_fp T_st T_kd T_fs T_fl N_gi N_be N_da N_du N_pl N_de R_gi R_be R_da R_du R_pl R_de A_fi A_si A_ce P_si P_be P_le P_go K_sl J_fi v1 v2 v7 rr_6 dd_7 dd_8 dd_9 dd_10 dd_11 dd_12 ee_13) cw_X5_isDeepBehind 5 0 rfl rfl rfl rfl hl.1 rfl (Nat.le_of_ble_eq_true rfl) dX5_twice_51 ⟨Nat.zero_le _, Nat.zero_le _⟩ (fun H locs hP hS => ?_)
        replace hP : va_P G.1 vwCl (W_F G x0 s0 s1 t0 t1 t2 t3 t4 t5 t6 n0 n1 n2 n3 r0 r1 r2 r3 a0 a1 p0 p1 p2 p3 k0 j0 X_ch S_len S_let T_br T_fa T_fd T_fp T_st T_kd T_fs T_fl N_gi N_be N_da N_du N_pl N_de dd_7 dd_8 dd_9 dd_10 dd_11 dd_12 A_fi A_si A_ce P_si P_be P_le P_go K_sl J_fi) H := hP
        refine lv_if_eq (tgt := 87) hx hb dX5_twice_54 (by decide) (fun cc_14 => ?_) (fun cc_14 => ?_)
        · replace h := if_t cc_14 h
          exact J_87 (f_X5_twice_38 T_br T_fa T_st T_kd T_fs T_fl N_gi N_be N_da N_du N_pl fu) ih v1 v2 v3 v4 v5 v7 dd_7 dd_8 dd_9 dd_10 dd_11 dd_12 _ _ _ h hP hS (lv_sub hl [0, 1, 2, 3, 4, 5, 6] rfl)
        · replace h := if_f cc_14 h
          refine lv_iload hx hb dX5_twice_57 (lv_at hl 6 rfl) ?_
          obtain ⟨rr_15, ee_16, h⟩ := bnd1_s h
          refine cSi (As := [.int v7]) (rest := []) S0 hK hA hP (va_D_same hD rfl) hS [] (k_J6_bitCount_0f7a4 l G v7 rr_15 ee_16) cw_J6_bitCount_0f7a4 rfl rfl (Nat.le_of_ble_eq_true rfl) rfl hl.1 rfl (Nat.le_of_ble_eq_true rfl) dX5_twice_59 ⟨Nat.zero_le _, Nat.zero_le _⟩ (fun H locs hP hS => ?_)
          replace hP : va_P G.1 vwCl (W_F G x0 s0 s1 t0 t1 t2 t3 t4 t5 t6 n0 n1 n2 n3 r0 r1 r2 r3 a0 a1 p0 p1 p2 p3 k0 j0 X_ch S_len S_let T_br T_fa T_fd T_fp T_st T_kd T_fs T_fl N_gi N_be N_da N_du N_pl N_de dd_7 dd_8 dd_9 dd_10 dd_11 dd_12 A_fi A_si A_ce P_si P_be P_le P_go K_sl J_fi) H := hP
          refine lv_istore (lv' := [(8, .int rr_15), (0, .ref x0), (1, .int v1), (2, .int v2), (3, .int v3), (4, .int v4), (5, .long v5), (7, .int v7)]) hx hb dX5_twice_62 hl (by decide) rfl (fun ls hl => ?_)
          refine lv_lload hx hb dX5_twice_64 (lv_at hl 6 rfl) ?_
          refine lv_iload_n hx hb dX5_twice_66 rfl (lv_at hl 4 rfl) ?_
          refine lv_iload hx hb dX5_twice_67 (lv_at hl 0 rfl) ?_
          obtain ⟨rr_17, ee_18, h⟩ := bnd1_s h
          refine cSl (As := [.int v3, .int rr_15]) (rest := [.long v5]) S0 hK hA hP (va_D_same hD rfl) hS [] (k_X5_power l G v3 rr_15 rr_17 ee_18) cw_X5_power rfl rfl (Nat.le_of_ble_eq_true rfl) rfl hl.1 rfl (Nat.le_of_ble_eq_true rfl) dX5_twice_69 ⟨Nat.zero_le _, Nat.zero_le _⟩ (fun H locs hP hS => ?_)
          replace hP : va_P G.1 vwCl (W_F G x0 s0 s1 t0 t1 t2 t3 t4 t5 t6 n0 n1 n2 n3 r0 r1 r2 r3 a0 a1 p0 p1 p2 p3 k0 j0 X_ch S_len S_let T_br T_fa T_fd T_fp T_st T_kd T_fs T_fl N_gi N_be N_da N_du N_pl N_de dd_7 dd_8 dd_9 dd_10 dd_11 dd_12 A_fi A_si A_ce P_si P_be P_le P_go K_sl J_fi) H := hP
          refine lv_bipush (v := 10) hx hb dX5_twice_72 (by decide) ?_
          refine lv_iload_n hx hb dX5_twice_74 rfl (lv_at hl 4 rfl) ?_
          refine lv_isub hx hb dX5_twice_75 ?_
          refine lv_iload_n hx hb dX5_twice_76 rfl (lv_at hl 3 rfl) ?_
          refine lv_iload hx hb dX5_twice_77 (lv_at hl 0 rfl) ?_
          refine lv_isub hx hb dX5_twice_79 ?_
          obtain ⟨rr_19, ee_20, h⟩ := bnd1_s h
          refine cSl (As := [.int ((10 : Int32) - v3), .int (v2 - rr_15)]) (rest := [.long rr_17, .long v5]) S0 hK hA hP (va_D_same hD rfl) hS [] (k_X5_power l G ((10 : Int32) - v3) (v2 - rr_15) rr_19 ee_20) cw_X5_power rfl rfl (Nat.le_of_ble_eq_true rfl) rfl hl.1 rfl (Nat.le_of_ble_eq_true rfl) dX5_twice_80 ⟨Nat.zero_le _, Nat.zero_le _⟩ (fun H locs hP hS => ?_)
          replace hP : va_P G.1 vwCl (W_F G x0 s0 s1 t0 t1 t2 t3 t4 t5 t6 n0 n1 n2 n3 r0 r1 r2 r3 a0 a1 p0 p1 p2 p3 k0 j0 X_ch S_len S_let T_br T_fa T_fd T_fp T_st T_kd T_fs T_fl N_gi N_be N_da N_du N_pl N_de dd_7 dd_8 dd_9 dd_10 dd_11 dd_12 A_fi A_si A_ce P_si P_be P_le P_go K_sl J_fi) H := hP
          refine lv_lmul hx hb dX5_twice_83 ?_
          refine lv_ladd hx hb dX5_twice_84 ?_
          refine lv_lstore (lv' := [(5, .long (v5 + (rr_17 * rr_19))), (8, .int rr_15), (0, .ref x0), (1, .int v1), (2, .int v2), (3, .int v3), (4, .int v4), (7, .int v7)]) hx hb dX5_twice_85 hl (by decide) rfl (fun ls hl => ?_)
          exact J_87 (f_X5_twice_38 T_br T_fa T_st T_kd T_fs T_fl N_gi N_be N_da N_du N_pl fu) ih v1 v2 v3 v4 (v5 + (rr_17 * rr_19)) v7 dd_7 dd_8 dd_9 dd_10 dd_11 dd_12 _ _ _ h hP hS (lv_sub hl [2, 3, 4, 5, 6, 0, 7] rfl)
  unfold f_X5_twice at h
  refine lv_iload_n hx hb dX5_twice_0 rfl (lv_at hl 1 rfl) ?_
  obtain ⟨rr_21, ee_22, h⟩ := bnd1_s h
  refine cSi (As := [.int u1]) (rest := []) S0 hK hA hP (va_D_same hD rfl) hS [] (k_X5_isStreet l G u1 rr_21 ee_22) cw_X5_isStreet rfl rfl (Nat.le_of_ble_eq_true rfl) rfl hl.1 rfl (Nat.le_of_ble_eq_true rfl) dX5_twice_1 ⟨Nat.zero_le _, Nat.zero_le _⟩ (fun H locs hP hS => ?_)
  replace hP : va_P G.1 vwCl (W_F G x0 s0 s1 t0 t1 t2 t3 t4 t5 t6 n0 n1 n2 n3 r0 r1 r2 r3 a0 a1 p0 p1 p2 p3 k0 j0 X_ch S_len S_let T_br T_fa T_fd T_fp T_st T_kd T_fs T_fl N_gi N_be N_da N_du N_pl N_de R_gi R_be R_da R_du R_pl R_de A_fi A_si A_ce P_si P_be P_le P_go K_sl J_fi) H := hP
  refine lv_if_ne (tgt := 9) hx hb dX5_twice_4 (by decide) (fun cc_23 => ?_) (fun cc_23 => ?_)
  · replace h := if_f cc_23 h
    refine lv_iload_n hx hb dX5_twice_9 rfl (lv_at hl 2 rfl) ?_
    refine lv_iconst (v := 1) hx hb dX5_twice_10 (by decide) ?_
    refine lv_bipush (v := 6) hx hb dX5_twice_11 (by decide) ?_
    obtain ⟨rr_24, ee_25, h⟩ := bnd1_s h
    refine cSi (As := [.int u2, .int (1 : Int32), .int (6 : Int32)]) (rest := []) S0 hK hA hP (va_D_same hD rfl) hS [] (k_X5_within l G u2 (1 : Int32) (6 : Int32) rr_24 ee_25) cw_X5_within rfl rfl (Nat.le_of_ble_eq_true rfl) rfl hl.1 rfl (Nat.le_of_ble_eq_true rfl) dX5_twice_13 ⟨Nat.zero_le _, Nat.zero_le _⟩ (fun H locs hP hS => ?_)
    replace hP : va_P G.1 vwCl (W_F G x0 s0 s1 t0 t1 t2 t3 t4 t5 t6 n0 n1 n2 n3 r0 r1 r2 r3 a0 a1 p0 p1 p2 p3 k0 j0 X_ch S_len S_let T_br T_fa T_fd T_fp T_st T_kd T_fs T_fl N_gi N_be N_da N_du N_pl N_de R_gi R_be R_da R_du R_pl R_de A_fi A_si A_ce P_si P_be P_le P_go K_sl J_fi) H := hP
    refine lv_if_eq (tgt := 29) hx hb dX5_twice_16 (by decide) (fun cc_26 => ?_) (fun cc_26 => ?_)
    · replace h := if_t cc_26 h
      refine lv_bipush (v := (-2)) hx hb dX5_twice_29 (by decide) ?_
      cases h
      exact W.iret hx hb hr (fun t ht _ => ⟨⟨_, (), rfl, rfl, by show va_P G.1 vwCl _ t.heap; rw [ht]; exact hP⟩, hS.F ht⟩) hS.2.2 dX5_twice_31
    · replace h := if_f cc_26 h
      refine lv_iload_n hx hb dX5_twice_19 rfl (lv_at hl 3 rfl) ?_
      refine lv_iconst (v := 0) hx hb dX5_twice_20 (by decide) ?_
      refine lv_bipush (v := 10) hx hb dX5_twice_21 (by decide) ?_
      obtain ⟨rr_27, ee_28, h⟩ := bnd1_s h
      refine cSi (As := [.int u3, .int (0 : Int32), .int (10 : Int32)]) (rest := []) S0 hK hA hP (va_D_same hD rfl) hS [] (k_X5_within l G u3 (0 : Int32) (10 : Int32) rr_27 ee_28) cw_X5_within rfl rfl (Nat.le_of_ble_eq_true rfl) rfl hl.1 rfl (Nat.le_of_ble_eq_true rfl) dX5_twice_23 ⟨Nat.zero_le _, Nat.zero_le _⟩ (fun H locs hP hS => ?_)
      replace hP : va_P G.1 vwCl (W_F G x0 s0 s1 t0 t1 t2 t3 t4 t5 t6 n0 n1 n2 n3 r0 r1 r2 r3 a0 a1 p0 p1 p2 p3 k0 j0 X_ch S_len S_let T_br T_fa T_fd T_fp T_st T_kd T_fs T_fl N_gi N_be N_da N_du N_pl N_de R_gi R_be R_da R_du R_pl R_de A_fi A_si A_ce P_si P_be P_le P_go K_sl J_fi) H := hP
      refine lv_if_ne (tgt := 32) hx hb dX5_twice_26 (by decide) (fun cc_29 => ?_) (fun cc_29 => ?_)
      · replace h := if_f cc_29 h
        refine lv_lconst (v := 0) hx hb dX5_twice_32 (by decide) ?_
        refine lv_lstore (lv' := [(5, .long (0 : Int64)), (0, .ref x0), (1, .int u1), (2, .int u2), (3, .int u3), (4, .int u4)]) hx hb dX5_twice_33 hl (by decide) rfl (fun ls hl => ?_)
        refine lv_iconst (v := 0) hx hb dX5_twice_35 (by decide) ?_
        refine lv_istore (lv' := [(7, .int (0 : Int32)), (5, .long (0 : Int64)), (0, .ref x0), (1, .int u1), (2, .int u2), (3, .int u3), (4, .int u4)]) hx hb dX5_twice_36 hl (by decide) rfl (fun ls hl => ?_)
        exact J_38  130 u1 u2 u3 u4 (0 : Int64) (0 : Int32) R_gi R_be R_da R_du R_pl R_de _ _ _ h hP hS (lv_sub hl [2, 3, 4, 5, 6, 1, 0] rfl)
      · replace h := if_t cc_29 h
        refine lv_bipush (v := (-2)) hx hb dX5_twice_29 (by decide) ?_
        cases h
        exact W.iret hx hb hr (fun t ht _ => ⟨⟨_, (), rfl, rfl, by show va_P G.1 vwCl _ t.heap; rw [ht]; exact hP⟩, hS.F ht⟩) hS.2.2 dX5_twice_31
  · replace h := if_t cc_23 h
    refine lv_iconst (v := (-1)) hx hb dX5_twice_7 (by decide) ?_
    cases h
    exact W.iret hx hb hr (fun t ht _ => ⟨⟨_, (), rfl, rfl, by show va_P G.1 vwCl _ t.heap; rw [ht]; exact hP⟩, hS.F ht⟩) hS.2.2 dX5_twice_8
