def f_X5_whose_72 (P_si : Int32) (P_be : Nat → Int32) (P_le : Nat → Int32) (P_go : Nat → Int32) (kk20 : Int32 → Int32 → Int32 → Int32 → Option (Int32)) (kk29 : Int32 → Int32 → Int32 → Int32 → Int32 → Option (Int32)) (v1 : Int32) (v2 : Int32) (v3 : Int32) (v4 : Int32) (v5 : Int32) : Option (Int32) := kk29 v1 v2 v3 v4 (v5 + 1)
def f_X5_whose_71 (P_si : Int32) (P_be : Nat → Int32) (P_le : Nat → Int32) (P_go : Nat → Int32) (kk20 : Int32 → Int32 → Int32 → Int32 → Option (Int32)) (kk29 : Int32 → Int32 → Int32 → Int32 → Int32 → Option (Int32)) (v1 : Int32) (v2 : Int32) (v4 : Int32) (v5 : Int32) (q0 : Int32) : Option (Int32) := f_X5_whose_72 P_si P_be P_le P_go kk20 kk29 v1 v2 q0 v4 v5
def f_X5_whose_29 (P_si : Int32) (P_be : Nat → Int32) (P_le : Nat → Int32) (P_go : Nat → Int32) (kk20 : Int32 → Int32 → Int32 → Int32 → Option (Int32)) : Nat → Int32 → Int32 → Int32 → Int32 → Int32 → Option (Int32)
  | 0, _, _, _, _, _ => none
  | fu + 1, v1, v2, v3, v4, v5 => if (9 : Int32) < v5 then (kk20 v1 v2 v3 (v4 + 1)) else (bnd1 (f_X1_fit P_si P_be P_le P_go v4 v5) (fun rr_2 => if rr_2 = 0 then (f_X5_whose_72 P_si P_be P_le P_go kk20 (f_X5_whose_29 P_si P_be P_le P_go kk20 fu) v1 v2 v3 v4 v5) else (if v3 = ((-9) : Int32) then (f_X5_whose_71 P_si P_be P_le P_go kk20 (f_X5_whose_29 P_si P_be P_le P_go kk20 fu) v1 (v2 + 1) v4 v5 (((10 : Int32) * v4) + v5)) else (f_X5_whose_71 P_si P_be P_le P_go kk20 (f_X5_whose_29 P_si P_be P_le P_go kk20 fu) v1 (v2 + 1) v4 v5 v3))))
def f_X5_whose_20 (P_si : Int32) (P_be : Nat → Int32) (P_le : Nat → Int32) (P_go : Nat → Int32) : Nat → Int32 → Int32 → Int32 → Int32 → Option (Int32)
  | 0, _, _, _, _ => none
  | fu + 1, v1, v2, v3, v4 => if (1 : Int32) < v4 then (if v1 = 0 then (some v2) else (some v3)) else (f_X5_whose_29 P_si P_be P_le P_go (f_X5_whose_20 P_si P_be P_le P_go fu) 130 v1 v2 v3 v4 (1 : Int32))
def f_X5_whose (P_si : Int32) (P_be : Nat → Int32) (P_le : Nat → Int32) (P_go : Nat → Int32) (u1 : Int32) : Option (Int32) := bnd1 (f_X5_within u1 (0 : Int32) (1 : Int32)) (fun rr_8 => if rr_8 = 0 then (some ((-2) : Int32)) else (f_X5_whose_20 P_si P_be P_le P_go  130 u1 (0 : Int32) ((-9) : Int32) (0 : Int32)))
set_option maxRecDepth 100000 in
set_option maxHeartbeats 4000000 in
theorem k_X5_whose (l : Launch) (G : Gt) (x0 s0 s1 t0 t1 t2 t3 t4 t5 t6 n0 n1 n2 n3 r0 r1 r2 r3 a0 a1 p0 p1 p2 p3 k0 j0 : Nat) (X_ch : Int64) (S_len : Int32) (S_let : Nat → Int32) (T_br : Int32) (T_fa : Int32) (T_fd : Nat → Int32) (T_fp : Nat → Int32) (T_st : Nat → Int32) (T_kd : Nat → Int32) (T_fs : Nat → Int32) (T_fl : Nat → Int32) (N_gi : Int32) (N_be : Int32) (N_da : Int32) (N_du : Nat → Int32) (N_pl : Nat → Int32) (N_de : Nat → Int32) (R_gi : Int32) (R_be : Int32) (R_da : Int32) (R_du : Nat → Int32) (R_pl : Nat → Int32) (R_de : Nat → Int32) (A_fi : Int32) (A_si : Int32) (A_ce : Nat → Int32) (P_si : Int32) (P_be : Nat → Int32) (P_le : Nat → Int32) (P_go : Nat → Int32) (K_sl : Nat → Int32) (J_fi : Nat → Int32) (u1 : Int32) (r_ : Int32) (h : f_X5_whose P_si P_be P_le P_go u1 = some r_) : CT l yX5_whose wsX5_whose 2 46 G [.ref x0, .int u1] (W_F G x0 s0 s1 t0 t1 t2 t3 t4 t5 t6 n0 n1 n2 n3 r0 r1 r2 r3 a0 a1 p0 p1 p2 p3 k0 j0 X_ch S_len S_let T_br T_fa T_fd T_fp T_st T_kd T_fs T_fl N_gi N_be N_da N_du N_pl N_de R_gi R_be R_da R_du R_pl R_de A_fi A_si A_ce P_si P_be P_le P_go K_sl J_fi) (QI G r_ (W_F G x0 s0 s1 t0 t1 t2 t3 t4 t5 t6 n0 n1 n2 n3 r0 r1 r2 r3 a0 a1 p0 p1 p2 p3 k0 j0 X_ch S_len S_let T_br T_fa T_fd T_fp T_st T_kd T_fs T_fl N_gi N_be N_da N_du N_pl N_de R_gi R_be R_da R_du R_pl R_de A_fi A_si A_ce P_si P_be P_le P_go K_sl J_fi)) := by
  refine met_of cX5_whose 6 (some .int) (by decide) rfl (Nat.le_of_ble_eq_true rfl) ?_
  intro p e s m below meth c A ls hx hb hr hml hts hown hlocks hK hA hD hP hS hl
  replace hown : s.vm.findClass RX5 = some m.cls := hown
  replace hl : lv_has ls 6 [(0, .ref x0), (1, .int u1)] := hl
  have S0 : CallFix p m c cX5_whose 6 s _ wsX5_whose RX5 := ⟨hx, hb, hml, hown, hts⟩
  have fl45 := hts (.fieldLink RX5 45 "DustVote" "heaps" "LDustVote$Heaps;") (by decide +kernel)
  have inX5 := show ∀ w ∈ wsX50, w ∈ wsX5_whose from by decide +kernel
  have cw_X1_fit := show CallW (rmv 2 46) s _ RX5 RX1 207 yX1_fit cX1_fit 6 (some .boolean) wsX1_fit (rmv 1 21) 0 0 2 from cwV 2 hts gX5_whose_X1_fit rfl rfl rfl (by decide +kernel) ⟨Nat.le_of_ble_eq_true rfl, Nat.le_of_ble_eq_true rfl⟩
  have cw_X5_within := show CallB (rmv 2 46) s _ RX5 61 yX5_within cX5_within 3 (some .boolean) wsX5_within (rmv 0 0) 0 0 3 ∧ (Cond.static yX5_within).before _ s = true from va_cwS 3 hts gX5_whose_X5_within rfl rfl rfl (by decide +kernel) ⟨Nat.le_of_ble_eq_true rfl, Nat.le_of_ble_eq_true rfl⟩
  have J_72 : ∀ (kk20 : Int32 → Int32 → Int32 → Int32 → Option (Int32)) (hk20 : ∀ (v1 : Int32) (v2 : Int32) (v3 : Int32) (v4 : Int32) (H : Heap) (locs : List Loc) (ls : Array Slot), kk20 v1 v2 v3 v4 = some r_ → va_P G.1 vwCl (W_F G x0 s0 s1 t0 t1 t2 t3 t4 t5 t6 n0 n1 n2 n3 r0 r1 r2 r3 a0 a1 p0 p1 p2 p3 k0 j0 X_ch S_len S_let T_br T_fa T_fd T_fp T_st T_kd T_fs T_fl N_gi N_be N_da N_du N_pl N_de R_gi R_be R_da R_du R_pl R_de A_fi A_si A_ce P_si P_be P_le P_go K_sl J_fi) H → va_S A s.heap H locs → lv_has ls 6 [(0, .ref x0), (1, .int v1), (2, .int v2), (3, .int v3), (4, .int v4)] → W p l e (rmv 2 46) s m (List.toArray [.ref x0, .int u1]) below meth c H locs 0 0 (MQ below ((QI G r_ (W_F G x0 s0 s1 t0 t1 t2 t3 t4 t5 t6 n0 n1 n2 n3 r0 r1 r2 r3 a0 a1 p0 p1 p2 p3 k0 j0 X_ch S_len S_let T_br T_fa T_fd T_fp T_st T_kd T_fs T_fl N_gi N_be N_da N_du N_pl N_de R_gi R_be R_da R_du R_pl R_de A_fi A_si A_ce P_si P_be P_le P_go K_sl J_fi)) A) (List.toArray [.ref x0, .int u1]) s 0 0 A) (F0 m 20 ls [])) (kk29 : Int32 → Int32 → Int32 → Int32 → Int32 → Option (Int32)) (hk29 : ∀ (v1 : Int32) (v2 : Int32) (v3 : Int32) (v4 : Int32) (v5 : Int32) (H : Heap) (locs : List Loc) (ls : Array Slot), kk29 v1 v2 v3 v4 v5 = some r_ → va_P G.1 vwCl (W_F G x0 s0 s1 t0 t1 t2 t3 t4 t5 t6 n0 n1 n2 n3 r0 r1 r2 r3 a0 a1 p0 p1 p2 p3 k0 j0 X_ch S_len S_let T_br T_fa T_fd T_fp T_st T_kd T_fs T_fl N_gi N_be N_da N_du N_pl N_de R_gi R_be R_da R_du R_pl R_de A_fi A_si A_ce P_si P_be P_le P_go K_sl J_fi) H → va_S A s.heap H locs → lv_has ls 6 [(0, .ref x0), (1, .int v1), (2, .int v2), (3, .int v3), (4, .int v4), (5, .int v5)] → W p l e (rmv 2 46) s m (List.toArray [.ref x0, .int u1]) below meth c H locs 0 0 (MQ below ((QI G r_ (W_F G x0 s0 s1 t0 t1 t2 t3 t4 t5 t6 n0 n1 n2 n3 r0 r1 r2 r3 a0 a1 p0 p1 p2 p3 k0 j0 X_ch S_len S_let T_br T_fa T_fd T_fp T_st T_kd T_fs T_fl N_gi N_be N_da N_du N_pl N_de R_gi R_be R_da R_du R_pl R_de A_fi A_si A_ce P_si P_be P_le P_go K_sl J_fi)) A) (List.toArray [.ref x0, .int u1]) s 0 0 A) (F0 m 29 ls [])), ∀ (v1 : Int32) (v2 : Int32) (v3 : Int32) (v4 : Int32) (v5 : Int32) (H : Heap) (locs : List Loc) (ls : Array Slot), f_X5_whose_72 P_si P_be P_le P_go kk20 kk29 v1 v2 v3 v4 v5 = some r_ → va_P G.1 vwCl (W_F G x0 s0 s1 t0 t1 t2 t3 t4 t5 t6 n0 n1 n2 n3 r0 r1 r2 r3 a0 a1 p0 p1 p2 p3 k0 j0 X_ch S_len S_let T_br T_fa T_fd T_fp T_st T_kd T_fs T_fl N_gi N_be N_da N_du N_pl N_de R_gi R_be R_da R_du R_pl R_de A_fi A_si A_ce P_si P_be P_le P_go K_sl J_fi) H → va_S A s.heap H locs → lv_has ls 6 [(0, .ref x0), (1, .int v1), (2, .int v2), (3, .int v3), (4, .int v4), (5, .int v5)] → W p l e (rmv 2 46) s m (List.toArray [.ref x0, .int u1]) below meth c H locs 0 0 (MQ below ((QI G r_ (W_F G x0 s0 s1 t0 t1 t2 t3 t4 t5 t6 n0 n1 n2 n3 r0 r1 r2 r3 a0 a1 p0 p1 p2 p3 k0 j0 X_ch S_len S_let T_br T_fa T_fd T_fp T_st T_kd T_fs T_fl N_gi N_be N_da N_du N_pl N_de R_gi R_be R_da R_du R_pl R_de A_fi A_si A_ce P_si P_be P_le P_go K_sl J_fi)) A) (List.toArray [.ref x0, .int u1]) s 0 0 A) (F0 m 72 ls []) := by
    intro kk20 hk20 kk29 hk29 v1 v2 v3 v4 v5 H locs ls h hP hS hl
    unfold f_X5_whose_72 at h
    refine lv_iinc (v := (v5 + 1)) (lv' := [(5, .int (v5 + 1)), (0, .ref x0), (1, .int v1), (2, .int v2), (3, .int v3), (4, .int v4)]) hx hb dX5_whose_72 hl (k := 5) rfl rfl (by decide) rfl (fun ls hl => ?_)
    refine lv_goto (tgt := 29) hx hb dX5_whose_75 (by decide) ?_
    exact hk29 v1 v2 v3 v4 (v5 + 1) _ _ _ h hP hS (lv_sub hl [1, 2, 3, 4, 5, 0] rfl)
  have J_71 : ∀ (kk20 : Int32 → Int32 → Int32 → Int32 → Option (Int32)) (hk20 : ∀ (v1 : Int32) (v2 : Int32) (v3 : Int32) (v4 : Int32) (H : Heap) (locs : List Loc) (ls : Array Slot), kk20 v1 v2 v3 v4 = some r_ → va_P G.1 vwCl (W_F G x0 s0 s1 t0 t1 t2 t3 t4 t5 t6 n0 n1 n2 n3 r0 r1 r2 r3 a0 a1 p0 p1 p2 p3 k0 j0 X_ch S_len S_let T_br T_fa T_fd T_fp T_st T_kd T_fs T_fl N_gi N_be N_da N_du N_pl N_de R_gi R_be R_da R_du R_pl R_de A_fi A_si A_ce P_si P_be P_le P_go K_sl J_fi) H → va_S A s.heap H locs → lv_has ls 6 [(0, .ref x0), (1, .int v1), (2, .int v2), (3, .int v3), (4, .int v4)] → W p l e (rmv 2 46) s m (List.toArray [.ref x0, .int u1]) below meth c H locs 0 0 (MQ below ((QI G r_ (W_F G x0 s0 s1 t0 t1 t2 t3 t4 t5 t6 n0 n1 n2 n3 r0 r1 r2 r3 a0 a1 p0 p1 p2 p3 k0 j0 X_ch S_len S_let T_br T_fa T_fd T_fp T_st T_kd T_fs T_fl N_gi N_be N_da N_du N_pl N_de R_gi R_be R_da R_du R_pl R_de A_fi A_si A_ce P_si P_be P_le P_go K_sl J_fi)) A) (List.toArray [.ref x0, .int u1]) s 0 0 A) (F0 m 20 ls [])) (kk29 : Int32 → Int32 → Int32 → Int32 → Int32 → Option (Int32)) (hk29 : ∀ (v1 : Int32) (v2 : Int32) (v3 : Int32) (v4 : Int32) (v5 : Int32) (H : Heap) (locs : List Loc) (ls : Array Slot), kk29 v1 v2 v3 v4 v5 = some r_ → va_P G.1 vwCl (W_F G x0 s0 s1 t0 t1 t2 t3 t4 t5 t6 n0 n1 n2 n3 r0 r1 r2 r3 a0 a1 p0 p1 p2 p3 k0 j0 X_ch S_len S_let T_br T_fa T_fd T_fp T_st T_kd T_fs T_fl N_gi N_be N_da N_du N_pl N_de R_gi R_be R_da R_du R_pl R_de A_fi A_si A_ce P_si P_be P_le P_go K_sl J_fi) H → va_S A s.heap H locs → lv_has ls 6 [(0, .ref x0), (1, .int v1), (2, .int v2), (3, .int v3), (4, .int v4), (5, .int v5)] → W p l e (rmv 2 46) s m (List.toArray [.ref x0, .int u1]) below meth c H locs 0 0 (MQ below ((QI G r_ (W_F G x0 s0 s1 t0 t1 t2 t3 t4 t5 t6 n0 n1 n2 n3 r0 r1 r2 r3 a0 a1 p0 p1 p2 p3 k0 j0 X_ch S_len S_let T_br T_fa T_fd T_fp T_st T_kd T_fs T_fl N_gi N_be N_da N_du N_pl N_de R_gi R_be R_da R_du R_pl R_de A_fi A_si A_ce P_si P_be P_le P_go K_sl J_fi)) A) (List.toArray [.ref x0, .int u1]) s 0 0 A) (F0 m 29 ls [])), ∀ (v1 : Int32) (v2 : Int32) (v4 : Int32) (v5 : Int32) (q0 : Int32) (H : Heap) (locs : List Loc) (ls : Array Slot), f_X5_whose_71 P_si P_be P_le P_go kk20 kk29 v1 v2 v4 v5 q0 = some r_ → va_P G.1 vwCl (W_F G x0 s0 s1 t0 t1 t2 t3 t4 t5 t6 n0 n1 n2 n3 r0 r1 r2 r3 a0 a1 p0 p1 p2 p3 k0 j0 X_ch S_len S_let T_br T_fa T_fd T_fp T_st T_kd T_fs T_fl N_gi N_be N_da N_du N_pl N_de R_gi R_be R_da R_du R_pl R_de A_fi A_si A_ce P_si P_be P_le P_go K_sl J_fi) H → va_S A s.heap H locs → lv_has ls 6 [(0, .ref x0), (1, .int v1), (2, .int v2), (4, .int v4), (5, .int v5)] → W p l e (rmv 2 46) s m (List.toArray [.ref x0, .int u1]) below meth c H locs 0 0 (MQ below ((QI G r_ (W_F G x0 s0 s1 t0 t1 t2 t3 t4 t5 t6 n0 n1 n2 n3 r0 r1 r2 r3 a0 a1 p0 p1 p2 p3 k0 j0 X_ch S_len S_let T_br T_fa T_fd T_fp T_st T_kd T_fs T_fl N_gi N_be N_da N_du N_pl N_de R_gi R_be R_da R_du R_pl R_de A_fi A_si A_ce P_si P_be P_le P_go K_sl J_fi)) A) (List.toArray [.ref x0, .int u1]) s 0 0 A) (F0 m 71 ls [.int q0]) := by
    intro kk20 hk20 kk29 hk29 v1 v2 v4 v5 q0 H locs ls h hP hS hl
    unfold f_X5_whose_71 at h
    refine lv_istore_n (lv' := [(3, .int q0), (0, .ref x0), (1, .int v1), (2, .int v2), (4, .int v4), (5, .int v5)]) hx hb dX5_whose_71 rfl hl (by decide) rfl (fun ls hl => ?_)
    exact J_72 kk20 hk20 kk29 hk29 v1 v2 q0 v4 v5 _ _ _ h hP hS (lv_sub hl [1, 2, 3, 0, 4, 5] rfl)
  have J_29 : ∀ (kk20 : Int32 → Int32 → Int32 → Int32 → Option (Int32)) (hk20 : ∀ (v1 : Int32) (v2 : Int32) (v3 : Int32) (v4 : Int32) (H : Heap) (locs : List Loc) (ls : Array Slot), kk20 v1 v2 v3 v4 = some r_ → va_P G.1 vwCl (W_F G x0 s0 s1 t0 t1 t2 t3 t4 t5 t6 n0 n1 n2 n3 r0 r1 r2 r3 a0 a1 p0 p1 p2 p3 k0 j0 X_ch S_len S_let T_br T_fa T_fd T_fp T_st T_kd T_fs T_fl N_gi N_be N_da N_du N_pl N_de R_gi R_be R_da R_du R_pl R_de A_fi A_si A_ce P_si P_be P_le P_go K_sl J_fi) H → va_S A s.heap H locs → lv_has ls 6 [(0, .ref x0), (1, .int v1), (2, .int v2), (3, .int v3), (4, .int v4)] → W p l e (rmv 2 46) s m (List.toArray [.ref x0, .int u1]) below meth c H locs 0 0 (MQ below ((QI G r_ (W_F G x0 s0 s1 t0 t1 t2 t3 t4 t5 t6 n0 n1 n2 n3 r0 r1 r2 r3 a0 a1 p0 p1 p2 p3 k0 j0 X_ch S_len S_let T_br T_fa T_fd T_fp T_st T_kd T_fs T_fl N_gi N_be N_da N_du N_pl N_de R_gi R_be R_da R_du R_pl R_de A_fi A_si A_ce P_si P_be P_le P_go K_sl J_fi)) A) (List.toArray [.ref x0, .int u1]) s 0 0 A) (F0 m 20 ls [])) (fu : Nat), ∀ (v1 : Int32) (v2 : Int32) (v3 : Int32) (v4 : Int32) (v5 : Int32) (H : Heap) (locs : List Loc) (ls : Array Slot), f_X5_whose_29 P_si P_be P_le P_go kk20 fu v1 v2 v3 v4 v5 = some r_ → va_P G.1 vwCl (W_F G x0 s0 s1 t0 t1 t2 t3 t4 t5 t6 n0 n1 n2 n3 r0 r1 r2 r3 a0 a1 p0 p1 p2 p3 k0 j0 X_ch S_len S_let T_br T_fa T_fd T_fp T_st T_kd T_fs T_fl N_gi N_be N_da N_du N_pl N_de R_gi R_be R_da R_du R_pl R_de A_fi A_si A_ce P_si P_be P_le P_go K_sl J_fi) H → va_S A s.heap H locs → lv_has ls 6 [(0, .ref x0), (1, .int v1), (2, .int v2), (3, .int v3), (4, .int v4), (5, .int v5)] → W p l e (rmv 2 46) s m (List.toArray [.ref x0, .int u1]) below meth c H locs 0 0 (MQ below ((QI G r_ (W_F G x0 s0 s1 t0 t1 t2 t3 t4 t5 t6 n0 n1 n2 n3 r0 r1 r2 r3 a0 a1 p0 p1 p2 p3 k0 j0 X_ch S_len S_let T_br T_fa T_fd T_fp T_st T_kd T_fs T_fl N_gi N_be N_da N_du N_pl N_de R_gi R_be R_da R_du R_pl R_de A_fi A_si A_ce P_si P_be P_le P_go K_sl J_fi)) A) (List.toArray [.ref x0, .int u1]) s 0 0 A) (F0 m 29 ls []) := by
    intro kk20 hk20 fu
    induction fu with
    | zero =>
      intro v1 v2 v3 v4 v5 H locs ls h
      cases h
    | succ fu ih =>
      intro v1 v2 v3 v4 v5 H locs ls h hP hS hl
      rw [f_X5_whose_29] at h
      refine lv_iload hx hb dX5_whose_29 (lv_at hl 5 rfl) ?_
      refine lv_bipush (v := 9) hx hb dX5_whose_31 (by decide) ?_
      refine lv_icmp_gt (tgt := 78) hx hb dX5_whose_33 (by decide) (fun cc_1 => ?_) (fun cc_1 => ?_)
      · replace h := if_t cc_1 h
        refine lv_iinc (v := (v4 + 1)) (lv' := [(4, .int (v4 + 1)), (0, .ref x0), (1, .int v1), (2, .int v2), (3, .int v3), (5, .int v5)]) hx hb dX5_whose_78 hl (k := 4) rfl rfl (by decide) rfl (fun ls hl => ?_)
        refine lv_goto (tgt := 20) hx hb dX5_whose_81 (by decide) ?_
        exact hk20 v1 v2 v3 (v4 + 1) _ _ _ h hP hS (lv_sub hl [1, 2, 3, 4, 0] rfl)
      · replace h := if_f cc_1 h
        refine lv_aload_n hx hb dX5_whose_36 rfl (lv_at hl 0 rfl) ?_
        refine va_get (ci := 5) (C := RX5) (T := TX5) (N := 9) hx hb hts inX5 hown hK.1 hP 0 rfl rfl 5 (by decide) fl45 (fun _ h9 => h9) rfl dX5_whose_37 ?_
        refine lv_iload hx hb dX5_whose_40 (lv_at hl 4 rfl) ?_
        refine lv_iload hx hb dX5_whose_42 (lv_at hl 5 rfl) ?_
        obtain ⟨rr_2, ee_3, h⟩ := bnd1_s h
        refine cVi (As := [.int v4, .int v5]) (rest := []) S0 hK hA hP (va_D_same hD rfl) hS [20, 21, 22, 23] (k_X1_fit l G p0 p1 p2 p3 P_si P_be P_le P_go v4 v5 rr_2 ee_3) cw_X1_fit rfl rfl (Nat.le_of_ble_eq_true rfl) 1 0 rfl rfl rfl rfl hl.1 rfl (Nat.le_of_ble_eq_true rfl) dX5_whose_44 ⟨Nat.zero_le _, Nat.zero_le _⟩ (fun H locs hP hS => ?_)
        replace hP : va_P G.1 vwCl (W_F G x0 s0 s1 t0 t1 t2 t3 t4 t5 t6 n0 n1 n2 n3 r0 r1 r2 r3 a0 a1 p0 p1 p2 p3 k0 j0 X_ch S_len S_let T_br T_fa T_fd T_fp T_st T_kd T_fs T_fl N_gi N_be N_da N_du N_pl N_de R_gi R_be R_da R_du R_pl R_de A_fi A_si A_ce P_si P_be P_le P_go K_sl J_fi) H := hP
        refine lv_if_eq (tgt := 72) hx hb dX5_whose_47 (by decide) (fun cc_4 => ?_) (fun cc_4 => ?_)
        · replace h := if_t cc_4 h
          exact J_72 kk20 hk20 (f_X5_whose_29 P_si P_be P_le P_go kk20 fu) ih v1 v2 v3 v4 v5 _ _ _ h hP hS (lv_sub hl [0, 1, 2, 3, 4, 5] rfl)
        · replace h := if_f cc_4 h
          refine lv_iinc (v := (v2 + 1)) (lv' := [(2, .int (v2 + 1)), (0, .ref x0), (1, .int v1), (3, .int v3), (4, .int v4), (5, .int v5)]) hx hb dX5_whose_50 hl (k := 2) rfl rfl (by decide) rfl (fun ls hl => ?_)
          refine lv_iload_n hx hb dX5_whose_53 rfl (lv_at hl 3 rfl) ?_
          refine lv_bipush (v := (-9)) hx hb dX5_whose_54 (by decide) ?_
          refine lv_icmp_ne (tgt := 70) hx hb dX5_whose_56 (by decide) (fun cc_5 => ?_) (fun cc_5 => ?_)
          · replace h := if_f cc_5 h
            refine lv_iload_n hx hb dX5_whose_70 rfl (lv_at hl 3 rfl) ?_
            exact J_71 kk20 hk20 (f_X5_whose_29 P_si P_be P_le P_go kk20 fu) ih v1 (v2 + 1) v4 v5 v3 _ _ _ h hP hS (lv_sub hl [1, 2, 0, 4, 5] rfl)
          · replace h := if_t cc_5 h
            refine lv_bipush (v := 10) hx hb dX5_whose_59 (by decide) ?_
            refine lv_iload hx hb dX5_whose_61 (lv_at hl 4 rfl) ?_
            refine lv_imul hx hb dX5_whose_63 ?_
            refine lv_iload hx hb dX5_whose_64 (lv_at hl 5 rfl) ?_
            refine lv_iadd hx hb dX5_whose_66 ?_
            refine lv_goto (tgt := 71) hx hb dX5_whose_67 (by decide) ?_
            exact J_71 kk20 hk20 (f_X5_whose_29 P_si P_be P_le P_go kk20 fu) ih v1 (v2 + 1) v4 v5 (((10 : Int32) * v4) + v5) _ _ _ h hP hS (lv_sub hl [1, 2, 0, 4, 5] rfl)
  have J_20 : ∀ (fu : Nat), ∀ (v1 : Int32) (v2 : Int32) (v3 : Int32) (v4 : Int32) (H : Heap) (locs : List Loc) (ls : Array Slot), f_X5_whose_20 P_si P_be P_le P_go fu v1 v2 v3 v4 = some r_ → va_P G.1 vwCl (W_F G x0 s0 s1 t0 t1 t2 t3 t4 t5 t6 n0 n1 n2 n3 r0 r1 r2 r3 a0 a1 p0 p1 p2 p3 k0 j0 X_ch S_len S_let T_br T_fa T_fd T_fp T_st T_kd T_fs T_fl N_gi N_be N_da N_du N_pl N_de R_gi R_be R_da R_du R_pl R_de A_fi A_si A_ce P_si P_be P_le P_go K_sl J_fi) H → va_S A s.heap H locs → lv_has ls 6 [(0, .ref x0), (1, .int v1), (2, .int v2), (3, .int v3), (4, .int v4)] → W p l e (rmv 2 46) s m (List.toArray [.ref x0, .int u1]) below meth c H locs 0 0 (MQ below ((QI G r_ (W_F G x0 s0 s1 t0 t1 t2 t3 t4 t5 t6 n0 n1 n2 n3 r0 r1 r2 r3 a0 a1 p0 p1 p2 p3 k0 j0 X_ch S_len S_let T_br T_fa T_fd T_fp T_st T_kd T_fs T_fl N_gi N_be N_da N_du N_pl N_de R_gi R_be R_da R_du R_pl R_de A_fi A_si A_ce P_si P_be P_le P_go K_sl J_fi)) A) (List.toArray [.ref x0, .int u1]) s 0 0 A) (F0 m 20 ls []) := by
    intro  fu
    induction fu with
    | zero =>
      intro v1 v2 v3 v4 H locs ls h
      cases h
    | succ fu ih =>
      intro v1 v2 v3 v4 H locs ls h hP hS hl
      rw [f_X5_whose_20] at h
      refine lv_iload hx hb dX5_whose_20 (lv_at hl 4 rfl) ?_
      refine lv_iconst (v := 1) hx hb dX5_whose_22 (by decide) ?_
      refine lv_icmp_gt (tgt := 84) hx hb dX5_whose_23 (by decide) (fun cc_6 => ?_) (fun cc_6 => ?_)
      · replace h := if_t cc_6 h
        refine lv_iload_n hx hb dX5_whose_84 rfl (lv_at hl 1 rfl) ?_
        refine lv_if_ne (tgt := 92) hx hb dX5_whose_85 (by decide) (fun cc_7 => ?_) (fun cc_7 => ?_)
        · replace h := if_f cc_7 h
          refine lv_iload_n hx hb dX5_whose_92 rfl (lv_at hl 3 rfl) ?_
          cases h
          exact W.iret hx hb hr (fun t ht _ => ⟨⟨_, (), rfl, rfl, by show va_P G.1 vwCl _ t.heap; rw [ht]; exact hP⟩, hS.F ht⟩) hS.2.2 dX5_whose_93
        · replace h := if_t cc_7 h
          refine lv_iload_n hx hb dX5_whose_88 rfl (lv_at hl 2 rfl) ?_
          refine lv_goto (tgt := 93) hx hb dX5_whose_89 (by decide) ?_
          cases h
          exact W.iret hx hb hr (fun t ht _ => ⟨⟨_, (), rfl, rfl, by show va_P G.1 vwCl _ t.heap; rw [ht]; exact hP⟩, hS.F ht⟩) hS.2.2 dX5_whose_93
      · replace h := if_f cc_6 h
        refine lv_iconst (v := 1) hx hb dX5_whose_26 (by decide) ?_
        refine lv_istore (lv' := [(5, .int (1 : Int32)), (0, .ref x0), (1, .int v1), (2, .int v2), (3, .int v3), (4, .int v4)]) hx hb dX5_whose_27 hl (by decide) rfl (fun ls hl => ?_)
        exact J_29 (f_X5_whose_20 P_si P_be P_le P_go fu) ih 130 v1 v2 v3 v4 (1 : Int32) _ _ _ h hP hS (lv_sub hl [1, 2, 3, 4, 5, 0] rfl)
  unfold f_X5_whose at h
  refine lv_iload_n hx hb dX5_whose_0 rfl (lv_at hl 1 rfl) ?_
  refine lv_iconst (v := 0) hx hb dX5_whose_1 (by decide) ?_
  refine lv_iconst (v := 1) hx hb dX5_whose_2 (by decide) ?_
  obtain ⟨rr_8, ee_9, h⟩ := bnd1_s h
  refine cSi (As := [.int u1, .int (0 : Int32), .int (1 : Int32)]) (rest := []) S0 hK hA hP (va_D_same hD rfl) hS [] (k_X5_within l G u1 (0 : Int32) (1 : Int32) rr_8 ee_9) cw_X5_within rfl rfl (Nat.le_of_ble_eq_true rfl) rfl hl.1 rfl (Nat.le_of_ble_eq_true rfl) dX5_whose_3 ⟨Nat.zero_le _, Nat.zero_le _⟩ (fun H locs hP hS => ?_)
  replace hP : va_P G.1 vwCl (W_F G x0 s0 s1 t0 t1 t2 t3 t4 t5 t6 n0 n1 n2 n3 r0 r1 r2 r3 a0 a1 p0 p1 p2 p3 k0 j0 X_ch S_len S_let T_br T_fa T_fd T_fp T_st T_kd T_fs T_fl N_gi N_be N_da N_du N_pl N_de R_gi R_be R_da R_du R_pl R_de A_fi A_si A_ce P_si P_be P_le P_go K_sl J_fi) H := hP
  refine lv_if_ne (tgt := 12) hx hb dX5_whose_6 (by decide) (fun cc_10 => ?_) (fun cc_10 => ?_)
  · replace h := if_f cc_10 h
    refine lv_iconst (v := 0) hx hb dX5_whose_12 (by decide) ?_
    refine lv_istore_n (lv' := [(2, .int (0 : Int32)), (0, .ref x0), (1, .int u1)]) hx hb dX5_whose_13 rfl hl (by decide) rfl (fun ls hl => ?_)
    refine lv_bipush (v := (-9)) hx hb dX5_whose_14 (by decide) ?_
    refine lv_istore_n (lv' := [(3, .int ((-9) : Int32)), (2, .int (0 : Int32)), (0, .ref x0), (1, .int u1)]) hx hb dX5_whose_16 rfl hl (by decide) rfl (fun ls hl => ?_)
    refine lv_iconst (v := 0) hx hb dX5_whose_17 (by decide) ?_
    refine lv_istore (lv' := [(4, .int (0 : Int32)), (3, .int ((-9) : Int32)), (2, .int (0 : Int32)), (0, .ref x0), (1, .int u1)]) hx hb dX5_whose_18 hl (by decide) rfl (fun ls hl => ?_)
    exact J_20  130 u1 (0 : Int32) ((-9) : Int32) (0 : Int32) _ _ _ h hP hS (lv_sub hl [3, 4, 2, 1, 0] rfl)
  · replace h := if_t cc_10 h
    refine lv_bipush (v := (-2)) hx hb dX5_whose_9 (by decide) ?_
    cases h
    exact W.iret hx hb hr (fun t ht _ => ⟨⟨_, (), rfl, rfl, by show va_P G.1 vwCl _ t.heap; rw [ht]; exact hP⟩, hS.F ht⟩) hS.2.2 dX5_whose_11
