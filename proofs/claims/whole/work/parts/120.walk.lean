def f_X5_bends_89 (T_br : Int32) (T_fa : Int32) (T_st : Nat → Int32) (T_kd : Nat → Int32) (T_fs : Nat → Int32) (T_fl : Nat → Int32) (N_gi : Int32) (N_be : Int32) (N_da : Int32) (N_du : Nat → Int32) (N_pl : Nat → Int32) (kk22 : Int32 → Int32 → Int32 → Int32 → Int32 → Int32 → Int32 → (Nat → Int32) → (Nat → Int32) → (Nat → Int32) → Option (Int32 × Int32 × Int32 × Int32 × (Nat → Int32) × (Nat → Int32) × (Nat → Int32))) (v1 : Int32) (v2 : Int32) (v3 : Int32) (v4 : Int32) (R_gi : Int32) (R_be : Int32) (R_da : Int32) (R_du : Nat → Int32) (R_pl : Nat → Int32) (R_de : Nat → Int32) : Option (Int32 × Int32 × Int32 × Int32 × (Nat → Int32) × (Nat → Int32) × (Nat → Int32)) := kk22 v1 v2 v3 (v4 + 1) R_gi R_be R_da R_du R_pl R_de
def f_X5_bends_54 (T_br : Int32) (T_fa : Int32) (T_st : Nat → Int32) (T_kd : Nat → Int32) (T_fs : Nat → Int32) (T_fl : Nat → Int32) (N_gi : Int32) (N_be : Int32) (N_da : Int32) (N_du : Nat → Int32) (N_pl : Nat → Int32) (kk22 : Int32 → Int32 → Int32 → Int32 → Int32 → Int32 → Int32 → (Nat → Int32) → (Nat → Int32) → (Nat → Int32) → Option (Int32 × Int32 × Int32 × Int32 × (Nat → Int32) × (Nat → Int32) × (Nat → Int32))) (v1 : Int32) (v2 : Int32) (v3 : Int32) (v4 : Int32) (q0 : Int32) (R_gi : Int32) (R_be : Int32) (R_da : Int32) (R_du : Nat → Int32) (R_pl : Nat → Int32) (R_de : Nat → Int32) : Option (Int32 × Int32 × Int32 × Int32 × (Nat → Int32) × (Nat → Int32) × (Nat → Int32)) := if q0 = 0 then (f_X5_bends_89 T_br T_fa T_st T_kd T_fs T_fl N_gi N_be N_da N_du N_pl kk22 v1 v2 v3 v4 R_gi R_be R_da R_du R_pl R_de) else (bnd1 (f_J6_bitCount_0f7a4 v4) (fun rr_2 => if v3 ≤ rr_2 then (f_X5_bends_89 T_br T_fa T_st T_kd T_fs T_fl N_gi N_be N_da N_du N_pl kk22 v1 v2 v3 v4 R_gi R_be R_da R_du R_pl R_de) else (bnd7 (f_X5_staysShallow T_br T_fa T_st T_kd T_fs T_fl N_gi N_be N_da N_du N_pl R_gi R_be R_da R_du R_pl R_de v4 v1) (fun rr_5 dd_6 dd_7 dd_8 dd_9 dd_10 dd_11 => if rr_5 = 0 then (f_X5_bends_89 T_br T_fa T_st T_kd T_fs T_fl N_gi N_be N_da N_du N_pl kk22 v1 v2 v3 v4 dd_6 dd_7 dd_8 dd_9 dd_10 dd_11) else (bnd1 (f_J6_bitCount_0f7a4 v4) (fun rr_14 => f_X5_bends_89 T_br T_fa T_st T_kd T_fs T_fl N_gi N_be N_da N_du N_pl kk22 v1 v4 rr_14 v4 dd_6 dd_7 dd_8 dd_9 dd_10 dd_11))))))
def f_X5_bends_22 (T_br : Int32) (T_fa : Int32) (T_st : Nat → Int32) (T_kd : Nat → Int32) (T_fs : Nat → Int32) (T_fl : Nat → Int32) (N_gi : Int32) (N_be : Int32) (N_da : Int32) (N_du : Nat → Int32) (N_pl : Nat → Int32) : Nat → Int32 → Int32 → Int32 → Int32 → Int32 → Int32 → Int32 → (Nat → Int32) → (Nat → Int32) → (Nat → Int32) → Option (Int32 × Int32 × Int32 × Int32 × (Nat → Int32) × (Nat → Int32) × (Nat → Int32))
  | 0, _, _, _, _, _, _, _, _, _, _ => none
  | fu + 1, v1, v2, v3, v4, R_gi, R_be, R_da, R_du, R_pl, R_de => if ((1 : Int32) <<< (T_br &&& 31)) ≤ v4 then (some (v2, R_gi, R_be, R_da, R_du, R_pl, R_de)) else (if (v4 &&& N_be) = 0 then (f_X5_bends_54 T_br T_fa T_st T_kd T_fs T_fl N_gi N_be N_da N_du N_pl (f_X5_bends_22 T_br T_fa T_st T_kd T_fs T_fl N_gi N_be N_da N_du N_pl fu) v1 v2 v3 v4 (1 : Int32) R_gi R_be R_da R_du R_pl R_de) else (f_X5_bends_54 T_br T_fa T_st T_kd T_fs T_fl N_gi N_be N_da N_du N_pl (f_X5_bends_22 T_br T_fa T_st T_kd T_fs T_fl N_gi N_be N_da N_du N_pl fu) v1 v2 v3 v4 (0 : Int32) R_gi R_be R_da R_du R_pl R_de))
def f_X5_bends (T_br : Int32) (T_fa : Int32) (T_st : Nat → Int32) (T_kd : Nat → Int32) (T_fs : Nat → Int32) (T_fl : Nat → Int32) (N_gi : Int32) (N_be : Int32) (N_da : Int32) (N_du : Nat → Int32) (N_pl : Nat → Int32) (R_gi : Int32) (R_be : Int32) (R_da : Int32) (R_du : Nat → Int32) (R_pl : Nat → Int32) (R_de : Nat → Int32) (u1 : Int32) : Option (Int32 × Int32 × Int32 × Int32 × (Nat → Int32) × (Nat → Int32) × (Nat → Int32)) := bnd1 (f_X5_within u1 (1 : Int32) (9 : Int32)) (fun rr_18 => if rr_18 = 0 then (some (((-2) : Int32), R_gi, R_be, R_da, R_du, R_pl, R_de)) else (f_X5_bends_22 T_br T_fa T_st T_kd T_fs T_fl N_gi N_be N_da N_du N_pl  130 u1 ((-9) : Int32) (6 : Int32) (0 : Int32) R_gi R_be R_da R_du R_pl R_de))
set_option maxRecDepth 100000 in
set_option maxHeartbeats 4000000 in
theorem k_X5_bends (l : Launch) (G : Gt) (x0 s0 s1 t0 t1 t2 t3 t4 t5 t6 n0 n1 n2 n3 r0 r1 r2 r3 a0 a1 p0 p1 p2 p3 k0 j0 : Nat) (X_ch : Int64) (S_len : Int32) (S_let : Nat → Int32) (T_br : Int32) (T_fa : Int32) (T_fd : Nat → Int32) (T_fp : Nat → Int32) (T_st : Nat → Int32) (T_kd : Nat → Int32) (T_fs : Nat → Int32) (T_fl : Nat → Int32) (N_gi : Int32) (N_be : Int32) (N_da : Int32) (N_du : Nat → Int32) (N_pl : Nat → Int32) (N_de : Nat → Int32) (R_gi : Int32) (R_be : Int32) (R_da : Int32) (R_du : Nat → Int32) (R_pl : Nat → Int32) (R_de : Nat → Int32) (A_fi : Int32) (A_si : Int32) (A_ce : Nat → Int32) (P_si : Int32) (P_be : Nat → Int32) (P_le : Nat → Int32) (P_go : Nat → Int32) (K_sl : Nat → Int32) (J_fi : Nat → Int32) (u1 : Int32) (r_ : Int32) (o_R_gi : Int32) (o_R_be : Int32) (o_R_da : Int32) (o_R_du : Nat → Int32) (o_R_pl : Nat → Int32) (o_R_de : Nat → Int32) (h : f_X5_bends T_br T_fa T_st T_kd T_fs T_fl N_gi N_be N_da N_du N_pl R_gi R_be R_da R_du R_pl R_de u1 = some (r_, o_R_gi, o_R_be, o_R_da, o_R_du, o_R_pl, o_R_de)) : CT l yX5_bends wsX5_bends 5 114 G [.ref x0, .int u1] (W_F G x0 s0 s1 t0 t1 t2 t3 t4 t5 t6 n0 n1 n2 n3 r0 r1 r2 r3 a0 a1 p0 p1 p2 p3 k0 j0 X_ch S_len S_let T_br T_fa T_fd T_fp T_st T_kd T_fs T_fl N_gi N_be N_da N_du N_pl N_de R_gi R_be R_da R_du R_pl R_de A_fi A_si A_ce P_si P_be P_le P_go K_sl J_fi) (QI G r_ (W_F G x0 s0 s1 t0 t1 t2 t3 t4 t5 t6 n0 n1 n2 n3 r0 r1 r2 r3 a0 a1 p0 p1 p2 p3 k0 j0 X_ch S_len S_let T_br T_fa T_fd T_fp T_st T_kd T_fs T_fl N_gi N_be N_da N_du N_pl N_de o_R_gi o_R_be o_R_da o_R_du o_R_pl o_R_de A_fi A_si A_ce P_si P_be P_le P_go K_sl J_fi)) := by
  refine met_of cX5_bends 6 (some .int) (by decide) rfl (Nat.le_of_ble_eq_true rfl) ?_
  intro p e s m below meth c A ls hx hb hr hml hts hown hlocks hK hA hD hP hS hl
  replace hown : s.vm.findClass RX5 = some m.cls := hown
  replace hl : lv_has ls 6 [(0, .ref x0), (1, .int u1)] := hl
  have S0 : CallFix p m c cX5_bends 6 s _ wsX5_bends RX5 := ⟨hx, hb, hml, hown, hts⟩
  have cw_J6_bitCount_0f7a4 := show CallB (rmv 5 114) s _ RX5 152 yJ6_bitCount_0f7a4 cJ6_bitCount_0f7a4 1 (some .int) wsJ6_bitCount_0f7a4 (rmv 0 0) 0 0 1 ∧ (Cond.static yJ6_bitCount_0f7a4).before _ s = true from va_cwS 1 hts gX5_bends_J6_bitCount_0f7a4 rfl rfl rfl (by decide +kernel) ⟨Nat.le_of_ble_eq_true rfl, Nat.le_of_ble_eq_true rfl⟩
  have cw_X5_staysShallow := show CallW (rmv 5 114) s _ RX5 RX5 183 yX5_staysShallow cX5_staysShallow 5 (some .boolean) wsX5_staysShallow (rmv 4 90) 0 0 2 from cwV 2 hts gX5_bends_X5_staysShallow rfl rfl rfl (by decide +kernel) ⟨Nat.le_of_ble_eq_true rfl, Nat.le_of_ble_eq_true rfl⟩
  have fl19 := hts (.fieldLink RX5 19 "DustVote" "told" "LDustVote$Told;") (by decide +kernel)
  have inX5 := show ∀ w ∈ wsX50, w ∈ wsX5_bends from by decide +kernel
  have fl87 := hK.f (args := List.toArray [.ref x0, .int u1]) (show ("DustVote", 87, "DustVote$Told", "brooms", "I", "DustVote") ∈ nestF by decide)
  have inX4 := show ∀ w ∈ wsX40, w ∈ wsX5_bends from by decide +kernel
  have fl28 := hts (.fieldLink RX5 28 "DustVote" "now" "LDustVote$Moment;") (by decide +kernel)
  have fl149 := hK.f (args := List.toArray [.ref x0, .int u1]) (show ("DustVote", 149, "DustVote$Moment", "bent", "I", "DustVote") ∈ nestF by decide)
  have inX2 := show ∀ w ∈ wsX20, w ∈ wsX5_bends from by decide +kernel
  have cw_X5_within := show CallB (rmv 5 114) s _ RX5 61 yX5_within cX5_within 3 (some .boolean) wsX5_within (rmv 0 0) 0 0 3 ∧ (Cond.static yX5_within).before _ s = true from va_cwS 3 hts gX5_bends_X5_within rfl rfl rfl (by decide +kernel) ⟨Nat.le_of_ble_eq_true rfl, Nat.le_of_ble_eq_true rfl⟩
  have J_89 : ∀ (kk22 : Int32 → Int32 → Int32 → Int32 → Int32 → Int32 → Int32 → (Nat → Int32) → (Nat → Int32) → (Nat → Int32) → Option (Int32 × Int32 × Int32 × Int32 × (Nat → Int32) × (Nat → Int32) × (Nat → Int32))) (hk22 : ∀ (v1 : Int32) (v2 : Int32) (v3 : Int32) (v4 : Int32) (R_gi : Int32) (R_be : Int32) (R_da : Int32) (R_du : Nat → Int32) (R_pl : Nat → Int32) (R_de : Nat → Int32) (H : Heap) (locs : List Loc) (ls : Array Slot), kk22 v1 v2 v3 v4 R_gi R_be R_da R_du R_pl R_de = some (r_, o_R_gi, o_R_be, o_R_da, o_R_du, o_R_pl, o_R_de) → va_P G.1 vwCl (W_F G x0 s0 s1 t0 t1 t2 t3 t4 t5 t6 n0 n1 n2 n3 r0 r1 r2 r3 a0 a1 p0 p1 p2 p3 k0 j0 X_ch S_len S_let T_br T_fa T_fd T_fp T_st T_kd T_fs T_fl N_gi N_be N_da N_du N_pl N_de R_gi R_be R_da R_du R_pl R_de A_fi A_si A_ce P_si P_be P_le P_go K_sl J_fi) H → va_S A s.heap H locs → lv_has ls 6 [(0, .ref x0), (1, .int v1), (2, .int v2), (3, .int v3), (4, .int v4)] → W p l e (rmv 5 114) s m (List.toArray [.ref x0, .int u1]) below meth c H locs 0 0 (MQ below ((QI G r_ (W_F G x0 s0 s1 t0 t1 t2 t3 t4 t5 t6 n0 n1 n2 n3 r0 r1 r2 r3 a0 a1 p0 p1 p2 p3 k0 j0 X_ch S_len S_let T_br T_fa T_fd T_fp T_st T_kd T_fs T_fl N_gi N_be N_da N_du N_pl N_de o_R_gi o_R_be o_R_da o_R_du o_R_pl o_R_de A_fi A_si A_ce P_si P_be P_le P_go K_sl J_fi)) A) (List.toArray [.ref x0, .int u1]) s 0 0 A) (F0 m 22 ls [])), ∀ (v1 : Int32) (v2 : Int32) (v3 : Int32) (v4 : Int32) (R_gi : Int32) (R_be : Int32) (R_da : Int32) (R_du : Nat → Int32) (R_pl : Nat → Int32) (R_de : Nat → Int32) (H : Heap) (locs : List Loc) (ls : Array Slot), f_X5_bends_89 T_br T_fa T_st T_kd T_fs T_fl N_gi N_be N_da N_du N_pl kk22 v1 v2 v3 v4 R_gi R_be R_da R_du R_pl R_de = some (r_, o_R_gi, o_R_be, o_R_da, o_R_du, o_R_pl, o_R_de) → va_P G.1 vwCl (W_F G x0 s0 s1 t0 t1 t2 t3 t4 t5 t6 n0 n1 n2 n3 r0 r1 r2 r3 a0 a1 p0 p1 p2 p3 k0 j0 X_ch S_len S_let T_br T_fa T_fd T_fp T_st T_kd T_fs T_fl N_gi N_be N_da N_du N_pl N_de R_gi R_be R_da R_du R_pl R_de A_fi A_si A_ce P_si P_be P_le P_go K_sl J_fi) H → va_S A s.heap H locs → lv_has ls 6 [(0, .ref x0), (1, .int v1), (2, .int v2), (3, .int v3), (4, .int v4)] → W p l e (rmv 5 114) s m (List.toArray [.ref x0, .int u1]) below meth c H locs 0 0 (MQ below ((QI G r_ (W_F G x0 s0 s1 t0 t1 t2 t3 t4 t5 t6 n0 n1 n2 n3 r0 r1 r2 r3 a0 a1 p0 p1 p2 p3 k0 j0 X_ch S_len S_let T_br T_fa T_fd T_fp T_st T_kd T_fs T_fl N_gi N_be N_da N_du N_pl N_de o_R_gi o_R_be o_R_da o_R_du o_R_pl o_R_de A_fi A_si A_ce P_si P_be P_le P_go K_sl J_fi)) A) (List.toArray [.ref x0, .int u1]) s 0 0 A) (F0 m 89 ls []) := by
    intro kk22 hk22 v1 v2 v3 v4 R_gi R_be R_da R_du R_pl R_de H locs ls h hP hS hl
    unfold f_X5_bends_89 at h
    refine lv_iinc (v := (v4 + 1)) (lv' := [(4, .int (v4 + 1)), (0, .ref x0), (1, .int v1), (2, .int v2), (3, .int v3)]) hx hb dX5_bends_89 hl (k := 4) rfl rfl (by decide) rfl (fun ls hl => ?_)
    refine lv_goto (tgt := 22) hx hb dX5_bends_92 (by decide) ?_
    exact hk22 v1 v2 v3 (v4 + 1) R_gi R_be R_da R_du R_pl R_de _ _ _ h hP hS (lv_sub hl [1, 2, 3, 4, 0] rfl)
  have J_54 : ∀ (kk22 : Int32 → Int32 → Int32 → Int32 → Int32 → Int32 → Int32 → (Nat → Int32) → (Nat → Int32) → (Nat → Int32) → Option (Int32 × Int32 × Int32 × Int32 × (Nat → Int32) × (Nat → Int32) × (Nat → Int32))) (hk22 : ∀ (v1 : Int32) (v2 : Int32) (v3 : Int32) (v4 : Int32) (R_gi : Int32) (R_be : Int32) (R_da : Int32) (R_du : Nat → Int32) (R_pl : Nat → Int32) (R_de : Nat → Int32) (H : Heap) (locs : List Loc) (ls : Array Slot), kk22 v1 v2 v3 v4 R_gi R_be R_da R_du R_pl R_de = some (r_, o_R_gi, o_R_be, o_R_da, o_R_du, o_R_pl, o_R_de) → va_P G.1 vwCl (W_F G x0 s0 s1 t0 t1 t2 t3 t4 t5 t6 n0 n1 n2 n3 r0 r1 r2 r3 a0 a1 p0 p1 p2 p3 k0 j0 X_ch S_len S_let T_br T_fa T_fd T_fp T_st T_kd T_fs T_fl N_gi N_be N_da N_du N_pl N_de R_gi R_be R_da R_du R_pl R_de A_fi A_si A_ce P_si P_be P_le P_go K_sl J_fi) H → va_S A s.heap H locs → lv_has ls 6 [(0, .ref x0), (1, .int v1), (2, .int v2), (3, .int v3), (4, .int v4)] → W p l e (rmv 5 114) s m (List.toArray [.ref x0, .int u1]) below meth c H locs 0 0 (MQ below ((QI G r_ (W_F G x0 s0 s1 t0 t1 t2 t3 t4 t5 t6 n0 n1 n2 n3 r0 r1 r2 r3 a0 a1 p0 p1 p2 p3 k0 j0 X_ch S_len S_let T_br T_fa T_fd T_fp T_st T_kd T_fs T_fl N_gi N_be N_da N_du N_pl N_de o_R_gi o_R_be o_R_da o_R_du o_R_pl o_R_de A_fi A_si A_ce P_si P_be P_le P_go K_sl J_fi)) A) (List.toArray [.ref x0, .int u1]) s 0 0 A) (F0 m 22 ls [])), ∀ (v1 : Int32) (v2 : Int32) (v3 : Int32) (v4 : Int32) (q0 : Int32) (R_gi : Int32) (R_be : Int32) (R_da : Int32) (R_du : Nat → Int32) (R_pl : Nat → Int32) (R_de : Nat → Int32) (H : Heap) (locs : List Loc) (ls : Array Slot), f_X5_bends_54 T_br T_fa T_st T_kd T_fs T_fl N_gi N_be N_da N_du N_pl kk22 v1 v2 v3 v4 q0 R_gi R_be R_da R_du R_pl R_de = some (r_, o_R_gi, o_R_be, o_R_da, o_R_du, o_R_pl, o_R_de) → va_P G.1 vwCl (W_F G x0 s0 s1 t0 t1 t2 t3 t4 t5 t6 n0 n1 n2 n3 r0 r1 r2 r3 a0 a1 p0 p1 p2 p3 k0 j0 X_ch S_len S_let T_br T_fa T_fd T_fp T_st T_kd T_fs T_fl N_gi N_be N_da N_du N_pl N_de R_gi R_be R_da R_du R_pl R_de A_fi A_si A_ce P_si P_be P_le P_go K_sl J_fi) H → va_S A s.heap H locs → lv_has ls 6 [(0, .ref x0), (1, .int v1), (2, .int v2), (3, .int v3), (4, .int v4)] → W p l e (rmv 5 114) s m (List.toArray [.ref x0, .int u1]) below meth c H locs 0 0 (MQ below ((QI G r_ (W_F G x0 s0 s1 t0 t1 t2 t3 t4 t5 t6 n0 n1 n2 n3 r0 r1 r2 r3 a0 a1 p0 p1 p2 p3 k0 j0 X_ch S_len S_let T_br T_fa T_fd T_fp T_st T_kd T_fs T_fl N_gi N_be N_da N_du N_pl N_de o_R_gi o_R_be o_R_da o_R_du o_R_pl o_R_de A_fi A_si A_ce P_si P_be P_le P_go K_sl J_fi)) A) (List.toArray [.ref x0, .int u1]) s 0 0 A) (F0 m 54 ls [.int q0]) := by
    intro kk22 hk22 v1 v2 v3 v4 q0 R_gi R_be R_da R_du R_pl R_de H locs ls h hP hS hl
    unfold f_X5_bends_54 at h
    refine lv_istore (lv' := [(5, .int q0), (0, .ref x0), (1, .int v1), (2, .int v2), (3, .int v3), (4, .int v4)]) hx hb dX5_bends_54 hl (by decide) rfl (fun ls hl => ?_)
    refine lv_iload hx hb dX5_bends_56 (lv_at hl 0 rfl) ?_
    refine lv_if_eq (tgt := 89) hx hb dX5_bends_58 (by decide) (fun cc_1 => ?_) (fun cc_1 => ?_)
    · replace h := if_t cc_1 h
      exact J_89 kk22 hk22 v1 v2 v3 v4 R_gi R_be R_da R_du R_pl R_de _ _ _ h hP hS (lv_sub hl [1, 2, 3, 4, 5] rfl)
    · replace h := if_f cc_1 h
      refine lv_iload hx hb dX5_bends_61 (lv_at hl 5 rfl) ?_
      obtain ⟨rr_2, ee_3, h⟩ := bnd1_s h
      refine cSi (As := [.int v4]) (rest := []) S0 hK hA hP (va_D_same hD rfl) hS [] (k_J6_bitCount_0f7a4 l G v4 rr_2 ee_3) cw_J6_bitCount_0f7a4 rfl rfl (Nat.le_of_ble_eq_true rfl) rfl hl.1 rfl (Nat.le_of_ble_eq_true rfl) dX5_bends_63 ⟨Nat.zero_le _, Nat.zero_le _⟩ (fun H locs hP hS => ?_)
      replace hP : va_P G.1 vwCl (W_F G x0 s0 s1 t0 t1 t2 t3 t4 t5 t6 n0 n1 n2 n3 r0 r1 r2 r3 a0 a1 p0 p1 p2 p3 k0 j0 X_ch S_len S_let T_br T_fa T_fd T_fp T_st T_kd T_fs T_fl N_gi N_be N_da N_du N_pl N_de R_gi R_be R_da R_du R_pl R_de A_fi A_si A_ce P_si P_be P_le P_go K_sl J_fi) H := hP
      refine lv_iload_n hx hb dX5_bends_66 rfl (lv_at hl 4 rfl) ?_
      refine lv_icmp_ge (tgt := 89) hx hb dX5_bends_67 (by decide) (fun cc_4 => ?_) (fun cc_4 => ?_)
      · replace h := if_t cc_4 h
        exact J_89 kk22 hk22 v1 v2 v3 v4 R_gi R_be R_da R_du R_pl R_de _ _ _ h hP hS (lv_sub hl [1, 2, 3, 4, 5] rfl)
      · replace h := if_f cc_4 h
        refine lv_aload_n hx hb dX5_bends_70 rfl (lv_at hl 1 rfl) ?_
        refine lv_iload hx hb dX5_bends_71 (lv_at hl 5 rfl) ?_
        refine lv_iload_n hx hb dX5_bends_73 rfl (lv_at hl 2 rfl) ?_
        obtain ⟨rr_5, dd_6, dd_7, dd_8, dd_9, dd_10, dd_11, ee_12, h⟩ := bnd7_s h
        refine cFi (As := [.int v4, .int v1]) (rest := []) S0 hK hA hP (va_D_same hD rfl) hS (k_X5_staysShallow l G x0 s0 s1 t0 t1 t2 t3 t4 t5 t6 n0 n1 n2 n3 r0 r1 r2 r3 a0 a1 p0 p1 p2 p3 k0 j0 X_ch S_len S_let T_br T_fa T_fd T_fp T_st T_kd T_fs T_fl N_gi N_be N_da N_du N_pl N_de R_gi R_be R_da R_du R_pl R_de A_fi A_si A_ce P_si P_be P_le P_go K_sl J_fi v4 v1 rr_5 dd_6 dd_7 dd_8 dd_9 dd_10 dd_11 ee_12) cw_X5_staysShallow 5 0 rfl rfl rfl rfl hl.1 rfl (Nat.le_of_ble_eq_true rfl) dX5_bends_74 ⟨Nat.zero_le _, Nat.zero_le _⟩ (fun H locs hP hS => ?_)
        replace hP : va_P G.1 vwCl (W_F G x0 s0 s1 t0 t1 t2 t3 t4 t5 t6 n0 n1 n2 n3 r0 r1 r2 r3 a0 a1 p0 p1 p2 p3 k0 j0 X_ch S_len S_let T_br T_fa T_fd T_fp T_st T_kd T_fs T_fl N_gi N_be N_da N_du N_pl N_de dd_6 dd_7 dd_8 dd_9 dd_10 dd_11 A_fi A_si A_ce P_si P_be P_le P_go K_sl J_fi) H := hP
        refine lv_if_eq (tgt := 89) hx hb dX5_bends_77 (by decide) (fun cc_13 => ?_) (fun cc_13 => ?_)
        · replace h := if_t cc_13 h
          exact J_89 kk22 hk22 v1 v2 v3 v4 dd_6 dd_7 dd_8 dd_9 dd_10 dd_11 _ _ _ h hP hS (lv_sub hl [1, 2, 3, 4, 5] rfl)
        · replace h := if_f cc_13 h
          refine lv_iload hx hb dX5_bends_80 (lv_at hl 5 rfl) ?_
          refine lv_istore_n (lv' := [(2, .int v4), (5, .int q0), (0, .ref x0), (1, .int v1), (3, .int v3), (4, .int v4)]) hx hb dX5_bends_82 rfl hl (by decide) rfl (fun ls hl => ?_)
          refine lv_iload hx hb dX5_bends_83 (lv_at hl 5 rfl) ?_
          obtain ⟨rr_14, ee_15, h⟩ := bnd1_s h
          refine cSi (As := [.int v4]) (rest := []) S0 hK hA hP (va_D_same hD rfl) hS [] (k_J6_bitCount_0f7a4 l G v4 rr_14 ee_15) cw_J6_bitCount_0f7a4 rfl rfl (Nat.le_of_ble_eq_true rfl) rfl hl.1 rfl (Nat.le_of_ble_eq_true rfl) dX5_bends_85 ⟨Nat.zero_le _, Nat.zero_le _⟩ (fun H locs hP hS => ?_)
          replace hP : va_P G.1 vwCl (W_F G x0 s0 s1 t0 t1 t2 t3 t4 t5 t6 n0 n1 n2 n3 r0 r1 r2 r3 a0 a1 p0 p1 p2 p3 k0 j0 X_ch S_len S_let T_br T_fa T_fd T_fp T_st T_kd T_fs T_fl N_gi N_be N_da N_du N_pl N_de dd_6 dd_7 dd_8 dd_9 dd_10 dd_11 A_fi A_si A_ce P_si P_be P_le P_go K_sl J_fi) H := hP
          refine lv_istore_n (lv' := [(3, .int rr_14), (2, .int v4), (5, .int q0), (0, .ref x0), (1, .int v1), (4, .int v4)]) hx hb dX5_bends_88 rfl hl (by decide) rfl (fun ls hl => ?_)
          exact J_89 kk22 hk22 v1 v4 rr_14 v4 dd_6 dd_7 dd_8 dd_9 dd_10 dd_11 _ _ _ h hP hS (lv_sub hl [3, 4, 1, 0, 5] rfl)
  have J_22 : ∀ (fu : Nat), ∀ (v1 : Int32) (v2 : Int32) (v3 : Int32) (v4 : Int32) (R_gi : Int32) (R_be : Int32) (R_da : Int32) (R_du : Nat → Int32) (R_pl : Nat → Int32) (R_de : Nat → Int32) (H : Heap) (locs : List Loc) (ls : Array Slot), f_X5_bends_22 T_br T_fa T_st T_kd T_fs T_fl N_gi N_be N_da N_du N_pl fu v1 v2 v3 v4 R_gi R_be R_da R_du R_pl R_de = some (r_, o_R_gi, o_R_be, o_R_da, o_R_du, o_R_pl, o_R_de) → va_P G.1 vwCl (W_F G x0 s0 s1 t0 t1 t2 t3 t4 t5 t6 n0 n1 n2 n3 r0 r1 r2 r3 a0 a1 p0 p1 p2 p3 k0 j0 X_ch S_len S_let T_br T_fa T_fd T_fp T_st T_kd T_fs T_fl N_gi N_be N_da N_du N_pl N_de R_gi R_be R_da R_du R_pl R_de A_fi A_si A_ce P_si P_be P_le P_go K_sl J_fi) H → va_S A s.heap H locs → lv_has ls 6 [(0, .ref x0), (1, .int v1), (2, .int v2), (3, .int v3), (4, .int v4)] → W p l e (rmv 5 114) s m (List.toArray [.ref x0, .int u1]) below meth c H locs 0 0 (MQ below ((QI G r_ (W_F G x0 s0 s1 t0 t1 t2 t3 t4 t5 t6 n0 n1 n2 n3 r0 r1 r2 r3 a0 a1 p0 p1 p2 p3 k0 j0 X_ch S_len S_let T_br T_fa T_fd T_fp T_st T_kd T_fs T_fl N_gi N_be N_da N_du N_pl N_de o_R_gi o_R_be o_R_da o_R_du o_R_pl o_R_de A_fi A_si A_ce P_si P_be P_le P_go K_sl J_fi)) A) (List.toArray [.ref x0, .int u1]) s 0 0 A) (F0 m 22 ls []) := by
    intro  fu
    induction fu with
    | zero =>
      intro v1 v2 v3 v4 R_gi R_be R_da R_du R_pl R_de H locs ls h
      cases h
    | succ fu ih =>
      intro v1 v2 v3 v4 R_gi R_be R_da R_du R_pl R_de H locs ls h hP hS hl
      rw [f_X5_bends_22] at h
      refine lv_iload hx hb dX5_bends_22 (lv_at hl 4 rfl) ?_
      refine lv_iconst (v := 1) hx hb dX5_bends_24 (by decide) ?_
      refine lv_aload_n hx hb dX5_bends_25 rfl (lv_at hl 0 rfl) ?_
      refine va_get (ci := 5) (C := RX5) (T := TX5) (N := 9) hx hb hts inX5 hown hK.1 hP 0 rfl rfl 1 (by decide) fl19 (fun _ h9 => h9) rfl dX5_bends_26 ?_
      refine va_getN (ci := 4) (C := RX4) (T := TX4) (N := 8) hx hb hts inX4 hown hK.1 hP 3 rfl rfl 6 (by decide) fl87 (fun _ h9 => h9) rfl dX5_bends_29 ?_
      refine lv_ishl hx hb dX5_bends_32 ?_
      refine lv_icmp_ge (tgt := 95) hx hb dX5_bends_33 (by decide) (fun cc_16 => ?_) (fun cc_16 => ?_)
      · replace h := if_t cc_16 h
        refine lv_iload_n hx hb dX5_bends_95 rfl (lv_at hl 2 rfl) ?_
        cases h
        exact W.iret hx hb hr (fun t ht _ => ⟨⟨_, (), rfl, rfl, by show va_P G.1 vwCl _ t.heap; rw [ht]; exact hP⟩, hS.F ht⟩) hS.2.2 dX5_bends_96
      · replace h := if_f cc_16 h
        refine lv_iload hx hb dX5_bends_36 (lv_at hl 4 rfl) ?_
        refine lv_aload_n hx hb dX5_bends_38 rfl (lv_at hl 0 rfl) ?_
        refine va_get (ci := 5) (C := RX5) (T := TX5) (N := 9) hx hb hts inX5 hown hK.1 hP 0 rfl rfl 2 (by decide) fl28 (fun _ h9 => h9) rfl dX5_bends_39 ?_
        refine va_getN (ci := 2) (C := RX2) (T := TX2) (N := 7) hx hb hts inX2 hown hK.1 hP 10 rfl rfl 5 (by decide) fl149 (fun _ h9 => h9) rfl dX5_bends_42 ?_
        refine lv_iand hx hb dX5_bends_45 ?_
        refine lv_if_ne (tgt := 53) hx hb dX5_bends_46 (by decide) (fun cc_17 => ?_) (fun cc_17 => ?_)
        · replace h := if_f cc_17 h
          refine lv_iconst (v := 0) hx hb dX5_bends_53 (by decide) ?_
          exact J_54 (f_X5_bends_22 T_br T_fa T_st T_kd T_fs T_fl N_gi N_be N_da N_du N_pl fu) ih v1 v2 v3 v4 (0 : Int32) R_gi R_be R_da R_du R_pl R_de _ _ _ h hP hS (lv_sub hl [0, 1, 2, 3, 4] rfl)
        · replace h := if_t cc_17 h
          refine lv_iconst (v := 1) hx hb dX5_bends_49 (by decide) ?_
          refine lv_goto (tgt := 54) hx hb dX5_bends_50 (by decide) ?_
          exact J_54 (f_X5_bends_22 T_br T_fa T_st T_kd T_fs T_fl N_gi N_be N_da N_du N_pl fu) ih v1 v2 v3 v4 (1 : Int32) R_gi R_be R_da R_du R_pl R_de _ _ _ h hP hS (lv_sub hl [0, 1, 2, 3, 4] rfl)
  unfold f_X5_bends at h
  refine lv_iload_n hx hb dX5_bends_0 rfl (lv_at hl 1 rfl) ?_
  refine lv_iconst (v := 1) hx hb dX5_bends_1 (by decide) ?_
  refine lv_bipush (v := 9) hx hb dX5_bends_2 (by decide) ?_
  obtain ⟨rr_18, ee_19, h⟩ := bnd1_s h
  refine cSi (As := [.int u1, .int (1 : Int32), .int (9 : Int32)]) (rest := []) S0 hK hA hP (va_D_same hD rfl) hS [] (k_X5_within l G u1 (1 : Int32) (9 : Int32) rr_18 ee_19) cw_X5_within rfl rfl (Nat.le_of_ble_eq_true rfl) rfl hl.1 rfl (Nat.le_of_ble_eq_true rfl) dX5_bends_4 ⟨Nat.zero_le _, Nat.zero_le _⟩ (fun H locs hP hS => ?_)
  replace hP : va_P G.1 vwCl (W_F G x0 s0 s1 t0 t1 t2 t3 t4 t5 t6 n0 n1 n2 n3 r0 r1 r2 r3 a0 a1 p0 p1 p2 p3 k0 j0 X_ch S_len S_let T_br T_fa T_fd T_fp T_st T_kd T_fs T_fl N_gi N_be N_da N_du N_pl N_de R_gi R_be R_da R_du R_pl R_de A_fi A_si A_ce P_si P_be P_le P_go K_sl J_fi) H := hP
  refine lv_if_ne (tgt := 13) hx hb dX5_bends_7 (by decide) (fun cc_20 => ?_) (fun cc_20 => ?_)
  · replace h := if_f cc_20 h
    refine lv_bipush (v := (-9)) hx hb dX5_bends_13 (by decide) ?_
    refine lv_istore_n (lv' := [(2, .int ((-9) : Int32)), (0, .ref x0), (1, .int u1)]) hx hb dX5_bends_15 rfl hl (by decide) rfl (fun ls hl => ?_)
    refine lv_bipush (v := 6) hx hb dX5_bends_16 (by decide) ?_
    refine lv_istore_n (lv' := [(3, .int (6 : Int32)), (2, .int ((-9) : Int32)), (0, .ref x0), (1, .int u1)]) hx hb dX5_bends_18 rfl hl (by decide) rfl (fun ls hl => ?_)
    refine lv_iconst (v := 0) hx hb dX5_bends_19 (by decide) ?_
    refine lv_istore (lv' := [(4, .int (0 : Int32)), (3, .int (6 : Int32)), (2, .int ((-9) : Int32)), (0, .ref x0), (1, .int u1)]) hx hb dX5_bends_20 hl (by decide) rfl (fun ls hl => ?_)
    exact J_22  130 u1 ((-9) : Int32) (6 : Int32) (0 : Int32) R_gi R_be R_da R_du R_pl R_de _ _ _ h hP hS (lv_sub hl [3, 4, 2, 1, 0] rfl)
  · replace h := if_t cc_20 h
    refine lv_bipush (v := (-2)) hx hb dX5_bends_10 (by decide) ?_
    cases h
    exact W.iret hx hb hr (fun t ht _ => ⟨⟨_, (), rfl, rfl, by show va_P G.1 vwCl _ t.heap; rw [ht]; exact hP⟩, hS.F ht⟩) hS.2.2 dX5_bends_12
