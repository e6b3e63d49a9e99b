def f_X5_behind_8 (T_br : Int32) (T_fa : Int32) (T_st : Nat → Int32) (T_kd : Nat → Int32) (T_fs : Nat → Int32) (T_fl : Nat → Int32) (N_gi : Int32) (N_be : Int32) (N_da : Int32) (N_du : Nat → Int32) (N_pl : Nat → Int32) : Nat → Int32 → Int32 → Int32 → Int32 → Int32 → Int32 → (Nat → Int32) → (Nat → Int32) → (Nat → Int32) → Option (Int32 × Int32 × Int32 × (Nat → Int32) × (Nat → Int32) × (Nat → Int32))
  | 0, _, _, _, _, _, _, _, _, _ => none
  | fu + 1, v1, v2, v4, R_gi, R_be, R_da, R_du, R_pl, R_de => if v1 ≤ v4 then (some (R_gi, R_be, R_da, R_du, R_pl, R_de)) else (bnd3 (f_X2_passDawn R_gi R_be R_da R_du R_pl R_de T_br T_fa T_st T_kd T_fs T_fl v2 (1 : Int32)) (fun dd_2 dd_3 dd_4 => f_X5_behind_8 T_br T_fa T_st T_kd T_fs T_fl N_gi N_be N_da N_du N_pl fu v1 v2 (v4 + 1) R_gi R_be dd_2 dd_3 R_pl dd_4))
def f_X5_behind (T_br : Int32) (T_fa : Int32) (T_st : Nat → Int32) (T_kd : Nat → Int32) (T_fs : Nat → Int32) (T_fl : Nat → Int32) (N_gi : Int32) (N_be : Int32) (N_da : Int32) (N_du : Nat → Int32) (N_pl : Nat → Int32) (R_gi : Int32) (R_be : Int32) (R_da : Int32) (R_du : Nat → Int32) (R_pl : Nat → Int32) (R_de : Nat → Int32) (u1 : Int32) (u2 : Int32) : Option (Int32 × Int32 × Int32 × (Nat → Int32) × (Nat → Int32) × (Nat → Int32)) := bnd5 (f_X5_fromNow N_gi N_be N_da N_du N_pl R_gi R_be R_da R_du R_pl) (fun dd_6 dd_7 dd_8 dd_9 dd_10 => f_X5_behind_8 T_br T_fa T_st T_kd T_fs T_fl N_gi N_be N_da N_du N_pl  130 u1 u2 (0 : Int32) dd_6 dd_7 dd_8 dd_9 dd_10 R_de)
set_option maxRecDepth 100000 in
set_option maxHeartbeats 4000000 in
theorem k_X5_behind (l : Launch) (G : Gt) (x0 s0 s1 t0 t1 t2 t3 t4 t5 t6 n0 n1 n2 n3 r0 r1 r2 r3 a0 a1 p0 p1 p2 p3 k0 j0 : Nat) (X_ch : Int64) (S_len : Int32) (S_let : Nat → Int32) (T_br : Int32) (T_fa : Int32) (T_fd : Nat → Int32) (T_fp : Nat → Int32) (T_st : Nat → Int32) (T_kd : Nat → Int32) (T_fs : Nat → Int32) (T_fl : Nat → Int32) (N_gi : Int32) (N_be : Int32) (N_da : Int32) (N_du : Nat → Int32) (N_pl : Nat → Int32) (N_de : Nat → Int32) (R_gi : Int32) (R_be : Int32) (R_da : Int32) (R_du : Nat → Int32) (R_pl : Nat → Int32) (R_de : Nat → Int32) (A_fi : Int32) (A_si : Int32) (A_ce : Nat → Int32) (P_si : Int32) (P_be : Nat → Int32) (P_le : Nat → Int32) (P_go : Nat → Int32) (K_sl : Nat → Int32) (J_fi : Nat → Int32) (u1 : Int32) (u2 : Int32) (o_R_gi : Int32) (o_R_be : Int32) (o_R_da : Int32) (o_R_du : Nat → Int32) (o_R_pl : Nat → Int32) (o_R_de : Nat → Int32) (h : f_X5_behind T_br T_fa T_st T_kd T_fs T_fl N_gi N_be N_da N_du N_pl R_gi R_be R_da R_du R_pl R_de u1 u2 = some (o_R_gi, o_R_be, o_R_da, o_R_du, o_R_pl, o_R_de)) : CT l yX5_behind wsX5_behind 4 90 G [.ref x0, .int u1, .int u2] (W_F G x0 s0 s1 t0 t1 t2 t3 t4 t5 t6 n0 n1 n2 n3 r0 r1 r2 r3 a0 a1 p0 p1 p2 p3 k0 j0 X_ch S_len S_let T_br T_fa T_fd T_fp T_st T_kd T_fs T_fl N_gi N_be N_da N_du N_pl N_de R_gi R_be R_da R_du R_pl R_de A_fi A_si A_ce P_si P_be P_le P_go K_sl J_fi) (QR G r0 (W_F G x0 s0 s1 t0 t1 t2 t3 t4 t5 t6 n0 n1 n2 n3 r0 r1 r2 r3 a0 a1 p0 p1 p2 p3 k0 j0 X_ch S_len S_let T_br T_fa T_fd T_fp T_st T_kd T_fs T_fl N_gi N_be N_da N_du N_pl N_de o_R_gi o_R_be o_R_da o_R_du o_R_pl o_R_de A_fi A_si A_ce P_si P_be P_le P_go K_sl J_fi)) := by
  refine met_of cX5_behind 5 (some (.object "DustVote$Moment")) (by decide) rfl (Nat.le_of_ble_eq_true rfl) ?_
  intro p e s m below meth c A ls hx hb hr hml hts hown hlocks hK hA hD hP hS hl
  replace hown : s.vm.findClass RX5 = some m.cls := hown
  replace hl : lv_has ls 5 [(0, .ref x0), (1, .int u1), (2, .int u2)] := hl
  have S0 : CallFix p m c cX5_behind 5 s _ wsX5_behind RX5 := ⟨hx, hb, hml, hown, hts⟩
  have cw_X2_passDawn := show CallW (rmv 4 90) s _ RX5 RX2 129 yX2_passDawn cX2_passDawn 4 none wsX2_passDawn (rmv 3 67) 0 0 2 from cwV 2 hts gX5_behind_X2_passDawn rfl rfl rfl (by decide +kernel) ⟨Nat.le_of_ble_eq_true rfl, Nat.le_of_ble_eq_true rfl⟩
  have cw_X5_fromNow := show CallW (rmv 4 90) s _ RX5 RX5 173 yX5_fromNow cX5_fromNow 1 (some (.object "DustVote$Moment")) wsX5_fromNow (rmv 2 39) 0 0 0 from cwV 0 hts gX5_behind_X5_fromNow rfl rfl rfl (by decide +kernel) ⟨Nat.le_of_ble_eq_true rfl, Nat.le_of_ble_eq_true rfl⟩
  have J_8 : ∀ (fu : Nat), ∀ (v1 : Int32) (v2 : Int32) (v4 : Int32) (R_gi : Int32) (R_be : Int32) (R_da : Int32) (R_du : Nat → Int32) (R_pl : Nat → Int32) (R_de : Nat → Int32) (H : Heap) (locs : List Loc) (ls : Array Slot), f_X5_behind_8 T_br T_fa T_st T_kd T_fs T_fl N_gi N_be N_da N_du N_pl fu v1 v2 v4 R_gi R_be R_da R_du R_pl R_de = some (o_R_gi, o_R_be, o_R_da, o_R_du, o_R_pl, o_R_de) → va_P G.1 vwCl (W_F G x0 s0 s1 t0 t1 t2 t3 t4 t5 t6 n0 n1 n2 n3 r0 r1 r2 r3 a0 a1 p0 p1 p2 p3 k0 j0 X_ch S_len S_let T_br T_fa T_fd T_fp T_st T_kd T_fs T_fl N_gi N_be N_da N_du N_pl N_de R_gi R_be R_da R_du R_pl R_de A_fi A_si A_ce P_si P_be P_le P_go K_sl J_fi) H → va_S A s.heap H locs → lv_has ls 5 [(1, .int v1), (2, .int v2), (3, .ref r0), (4, .int v4)] → W p l e (rmv 4 90) s m (List.toArray [.ref x0, .int u1, .int u2]) below meth c H locs 0 0 (MQ below ((QR G r0 (W_F G x0 s0 s1 t0 t1 t2 t3 t4 t5 t6 n0 n1 n2 n3 r0 r1 r2 r3 a0 a1 p0 p1 p2 p3 k0 j0 X_ch S_len S_let T_br T_fa T_fd T_fp T_st T_kd T_fs T_fl N_gi N_be N_da N_du N_pl N_de o_R_gi o_R_be o_R_da o_R_du o_R_pl o_R_de A_fi A_si A_ce P_si P_be P_le P_go K_sl J_fi)) A) (List.toArray [.ref x0, .int u1, .int u2]) s 0 0 A) (F0 m 8 ls []) := by
    intro  fu
    induction fu with
    | zero =>
      intro v1 v2 v4 R_gi R_be R_da R_du R_pl R_de H locs ls h
      cases h
    | succ fu ih =>
      intro v1 v2 v4 R_gi R_be R_da R_du R_pl R_de H locs ls h hP hS hl
      rw [f_X5_behind_8] at h
      refine lv_iload hx hb dX5_behind_8 (lv_at hl 3 rfl) ?_
      refine lv_iload_n hx hb dX5_behind_10 rfl (lv_at hl 0 rfl) ?_
      refine lv_icmp_ge (tgt := 26) hx hb dX5_behind_11 (by decide) (fun cc_1 => ?_) (fun cc_1 => ?_)
      · replace h := if_t cc_1 h
        refine lv_aload_n hx hb dX5_behind_26 rfl (lv_at hl 2 rfl) ?_
        cases h
        exact W.aret hx hb hr (Or.inl ⟨_, rfl⟩) (Or.inr ⟨_, rfl⟩) (fun t ht _ => ⟨⟨(), _, rfl, trivial, rfl, by show va_P G.1 vwCl _ t.heap; rw [ht]; exact hP⟩, hS.F ht⟩) hS.2.2 dX5_behind_27
      · replace h := if_f cc_1 h
        refine lv_aload_n hx hb dX5_behind_14 rfl (lv_at hl 2 rfl) ?_
        refine lv_iload_n hx hb dX5_behind_15 rfl (lv_at hl 1 rfl) ?_
        refine lv_iconst (v := 1) hx hb dX5_behind_16 (by decide) ?_
        obtain ⟨dd_2, dd_3, dd_4, ee_5, h⟩ := bnd3_s h
        refine cVv (As := [.int v2, .int (1 : Int32)]) (rest := []) S0 hK hA hP (va_D_same hD rfl) hS [14, 15, 16, 17, 3, 4, 5, 6, 7, 8, 9] (k_X2_passDawn l G r0 r1 r2 r3 t0 t1 t2 t3 t4 t5 t6 R_gi R_be R_da R_du R_pl R_de T_br T_fa T_fd T_fp T_st T_kd T_fs T_fl v2 (1 : Int32) dd_2 dd_3 dd_4 ee_5) cw_X2_passDawn rfl rfl (Nat.le_of_ble_eq_true rfl) 2 0 rfl rfl rfl rfl hl.1 rfl (Nat.le_of_ble_eq_true rfl) dX5_behind_17 ⟨Nat.zero_le _, Nat.zero_le _⟩ (fun H locs hP hS => ?_)
        replace hP : va_P G.1 vwCl (W_F G x0 s0 s1 t0 t1 t2 t3 t4 t5 t6 n0 n1 n2 n3 r0 r1 r2 r3 a0 a1 p0 p1 p2 p3 k0 j0 X_ch S_len S_let T_br T_fa T_fd T_fp T_st T_kd T_fs T_fl N_gi N_be N_da N_du N_pl N_de R_gi R_be dd_2 dd_3 R_pl dd_4 A_fi A_si A_ce P_si P_be P_le P_go K_sl J_fi) H := hP
        refine lv_iinc (v := (v4 + 1)) (lv' := [(4, .int (v4 + 1)), (1, .int v1), (2, .int v2), (3, .ref r0)]) hx hb dX5_behind_20 hl (k := 3) rfl rfl (by decide) rfl (fun ls hl => ?_)
        refine lv_goto (tgt := 8) hx hb dX5_behind_23 (by decide) ?_
        exact ih v1 v2 (v4 + 1) R_gi R_be dd_2 dd_3 R_pl dd_4 _ _ _ h hP hS (lv_sub hl [1, 2, 3, 0] rfl)
  unfold f_X5_behind at h
  refine lv_aload_n hx hb dX5_behind_0 rfl (lv_at hl 0 rfl) ?_
  obtain ⟨dd_6, dd_7, dd_8, dd_9, dd_10, ee_11, h⟩ := bnd5_s h
  refine cFr (As := []) (rest := []) S0 hK hA hP (va_D_same hD rfl) hS (k_X5_fromNow l G x0 s0 s1 t0 t1 t2 t3 t4 t5 t6 n0 n1 n2 n3 r0 r1 r2 r3 a0 a1 p0 p1 p2 p3 k0 j0 X_ch S_len S_let T_br T_fa T_fd T_fp T_st T_kd T_fs T_fl N_gi N_be N_da N_du N_pl N_de R_gi R_be R_da R_du R_pl R_de A_fi A_si A_ce P_si P_be P_le P_go K_sl J_fi dd_6 dd_7 dd_8 dd_9 dd_10 ee_11) cw_X5_fromNow 5 0 rfl rfl rfl rfl hl.1 rfl (Nat.le_of_ble_eq_true rfl) dX5_behind_1 ⟨Nat.zero_le _, Nat.zero_le _⟩ (fun H locs hP hS => ?_)
  replace hP : va_P G.1 vwCl (W_F G x0 s0 s1 t0 t1 t2 t3 t4 t5 t6 n0 n1 n2 n3 r0 r1 r2 r3 a0 a1 p0 p1 p2 p3 k0 j0 X_ch S_len S_let T_br T_fa T_fd T_fp T_st T_kd T_fs T_fl N_gi N_be N_da N_du N_pl N_de dd_6 dd_7 dd_8 dd_9 dd_10 R_de A_fi A_si A_ce P_si P_be P_le P_go K_sl J_fi) H := hP
  refine lv_astore_n (lv' := [(3, .ref r0), (0, .ref x0), (1, .int u1), (2, .int u2)]) hx hb dX5_behind_4 rfl hl (by decide) rfl (fun ls hl => ?_)
  refine lv_iconst (v := 0) hx hb dX5_behind_5 (by decide) ?_
  refine lv_istore (lv' := [(4, .int (0 : Int32)), (3, .ref r0), (0, .ref x0), (1, .int u1), (2, .int u2)]) hx hb dX5_behind_6 hl (by decide) rfl (fun ls hl => ?_)
  exact J_8  130 u1 u2 (0 : Int32) dd_6 dd_7 dd_8 dd_9 dd_10 R_de _ _ _ h hP hS (lv_sub hl [3, 4, 1, 0] rfl)
def f_X5_dust (T_br : Int32) (T_fa : Int32) (T_st : Nat → Int32) (T_kd : Nat → Int32) (T_fs : Nat → Int32) (T_fl : Nat → Int32) (N_gi : Int32) (N_be : Int32) (N_da : Int32) (N_du : Nat → Int32) (N_pl : Nat → Int32) (R_gi : Int32) (R_be : Int32) (R_da : Int32) (R_du : Nat → Int32) (R_pl : Nat → Int32) (R_de : Nat → Int32) (u1 : Int32) (u2 : Int32) : Option (Int32 × Int32 × Int32 × Int32 × (Nat → Int32) × (Nat → Int32) × (Nat → Int32)) := bnd1 (f_X5_isStreet u1) (fun rr_1 => if rr_1 = 0 then (some (((-1) : Int32), R_gi, R_be, R_da, R_du, R_pl, R_de)) else (bnd1 (f_X5_within u2 (0 : Int32) (30 : Int32)) (fun rr_4 => if rr_4 = 0 then (some (((-2) : Int32), R_gi, R_be, R_da, R_du, R_pl, R_de)) else (bnd6 (f_X5_behind T_br T_fa T_st T_kd T_fs T_fl N_gi N_be N_da N_du N_pl R_gi R_be R_da R_du R_pl R_de u2 (31 : Int32)) (fun dd_7 dd_8 dd_9 dd_10 dd_11 dd_12 => bnd1 (f_X2_dustIn dd_10 u1) (fun rr_14 => some (rr_14, dd_7, dd_8, dd_9, dd_10, dd_11, dd_12)))))))
set_option maxRecDepth 100000 in
set_option maxHeartbeats 4000000 in
theorem k_X5_dust (l : Launch) (G : Gt) (x0 s0 s1 t0 t1 t2 t3 t4 t5 t6 n0 n1 n2 n3 r0 r1 r2 r3 a0 a1 p0 p1 p2 p3 k0 j0 : Nat) (X_ch : Int64) (S_len : Int32) (S_let : Nat → Int32) (T_br : Int32) (T_fa : Int32) (T_fd : Nat → Int32) (T_fp : Nat → Int32) (T_st : Nat → Int32) (T_kd : Nat → Int32) (T_fs : Nat → Int32) (T_fl : Nat → Int32) (N_gi : Int32) (N_be : Int32) (N_da : Int32) (N_du : Nat → Int32) (N_pl : Nat → Int32) (N_de : Nat → Int32) (R_gi : Int32) (R_be : Int32) (R_da : Int32) (R_du : Nat → Int32) (R_pl : Nat → Int32) (R_de : Nat → Int32) (A_fi : Int32) (A_si : Int32) (A_ce : Nat → Int32) (P_si : Int32) (P_be : Nat → Int32) (P_le : Nat → Int32) (P_go : Nat → Int32) (K_sl : Nat → Int32) (J_fi : Nat → Int32) (u1 : Int32) (u2 : Int32) (r_ : Int32) (o_R_gi : Int32) (o_R_be : Int32) (o_R_da : Int32) (o_R_du : Nat → Int32) (o_R_pl : Nat → Int32) (o_R_de : Nat → Int32) (h : f_X5_dust T_br T_fa T_st T_kd T_fs T_fl N_gi N_be N_da N_du N_pl R_gi R_be R_da R_du R_pl R_de u1 u2 = some (r_, o_R_gi, o_R_be, o_R_da, o_R_du, o_R_pl, o_R_de)) : CT l yX5_dust wsX5_dust 5 114 G [.ref x0, .int u1, .int u2] (W_F G x0 s0 s1 t0 t1 t2 t3 t4 t5 t6 n0 n1 n2 n3 r0 r1 r2 r3 a0 a1 p0 p1 p2 p3 k0 j0 X_ch S_len S_let T_br T_fa T_fd T_fp T_st T_kd T_fs T_fl N_gi N_be N_da N_du N_pl N_de R_gi R_be R_da R_du R_pl R_de A_fi A_si A_ce P_si P_be P_le P_go K_sl J_fi) (QI G r_ (W_F G x0 s0 s1 t0 t1 t2 t3 t4 t5 t6 n0 n1 n2 n3 r0 r1 r2 r3 a0 a1 p0 p1 p2 p3 k0 j0 X_ch S_len S_let T_br T_fa T_fd T_fp T_st T_kd T_fs T_fl N_gi N_be N_da N_du N_pl N_de o_R_gi o_R_be o_R_da o_R_du o_R_pl o_R_de A_fi A_si A_ce P_si P_be P_le P_go K_sl J_fi)) := by
  refine met_of cX5_dust 3 (some .int) (by decide) rfl (Nat.le_of_ble_eq_true rfl) ?_
  intro p e s m below meth c A ls hx hb hr hml hts hown hlocks hK hA hD hP hS hl
  replace hown : s.vm.findClass RX5 = some m.cls := hown
  replace hl : lv_has ls 3 [(0, .ref x0), (1, .int u1), (2, .int u2)] := hl
  have S0 : CallFix p m c cX5_dust 3 s _ wsX5_dust RX5 := ⟨hx, hb, hml, hown, hts⟩
  have cw_X5_isStreet := show CallB (rmv 5 114) s _ RX5 93 yX5_isStreet cX5_isStreet 1 (some .boolean) wsX5_isStreet (rmv 0 0) 0 0 1 ∧ (Cond.static yX5_isStreet).before _ s = true from va_cwS 1 hts gX5_dust_X5_isStreet rfl rfl rfl (by decide +kernel) ⟨Nat.le_of_ble_eq_true rfl, Nat.le_of_ble_eq_true rfl⟩
  have cw_X5_within := show CallB (rmv 5 114) s _ RX5 61 yX5_within cX5_within 3 (some .boolean) wsX5_within (rmv 0 0) 0 0 3 ∧ (Cond.static yX5_within).before _ s = true from va_cwS 3 hts gX5_dust_X5_within rfl rfl rfl (by decide +kernel) ⟨Nat.le_of_ble_eq_true rfl, Nat.le_of_ble_eq_true rfl⟩
  have cw_X5_behind := show CallW (rmv 5 114) s _ RX5 RX5 166 yX5_behind cX5_behind 5 (some (.object "DustVote$Moment")) wsX5_behind (rmv 4 90) 0 0 2 from cwV 2 hts gX5_dust_X5_behind rfl rfl rfl (by decide +kernel) ⟨Nat.le_of_ble_eq_true rfl, Nat.le_of_ble_eq_true rfl⟩
  have cw_X2_dustIn := show CallW (rmv 5 114) s _ RX5 RX2 97 yX2_dustIn cX2_dustIn 2 (some .int) wsX2_dustIn (rmv 1 20) 0 0 1 from cwV 1 hts gX5_dust_X2_dustIn rfl rfl rfl (by decide +kernel) ⟨Nat.le_of_ble_eq_true rfl, Nat.le_of_ble_eq_true rfl⟩
  unfold f_X5_dust at h
  refine lv_iload_n hx hb dX5_dust_0 rfl (lv_at hl 1 rfl) ?_
  obtain ⟨rr_1, ee_2, h⟩ := bnd1_s h
  refine cSi (As := [.int u1]) (rest := []) S0 hK hA hP (va_D_same hD rfl) hS [] (k_X5_isStreet l G u1 rr_1 ee_2) cw_X5_isStreet rfl rfl (Nat.le_of_ble_eq_true rfl) rfl hl.1 rfl (Nat.le_of_ble_eq_true rfl) dX5_dust_1 ⟨Nat.zero_le _, Nat.zero_le _⟩ (fun H locs hP hS => ?_)
  replace hP : va_P G.1 vwCl (W_F G x0 s0 s1 t0 t1 t2 t3 t4 t5 t6 n0 n1 n2 n3 r0 r1 r2 r3 a0 a1 p0 p1 p2 p3 k0 j0 X_ch S_len S_let T_br T_fa T_fd T_fp T_st T_kd T_fs T_fl N_gi N_be N_da N_du N_pl N_de R_gi R_be R_da R_du R_pl R_de A_fi A_si A_ce P_si P_be P_le P_go K_sl J_fi) H := hP
  refine lv_if_ne (tgt := 9) hx hb dX5_dust_4 (by decide) (fun cc_3 => ?_) (fun cc_3 => ?_)
  · replace h := if_f cc_3 h
    refine lv_iload_n hx hb dX5_dust_9 rfl (lv_at hl 2 rfl) ?_
    refine lv_iconst (v := 0) hx hb dX5_dust_10 (by decide) ?_
    refine lv_bipush (v := 30) hx hb dX5_dust_11 (by decide) ?_
    obtain ⟨rr_4, ee_5, h⟩ := bnd1_s h
    refine cSi (As := [.int u2, .int (0 : Int32), .int (30 : Int32)]) (rest := []) S0 hK hA hP (va_D_same hD rfl) hS [] (k_X5_within l G u2 (0 : Int32) (30 : Int32) rr_4 ee_5) cw_X5_within rfl rfl (Nat.le_of_ble_eq_true rfl) rfl hl.1 rfl (Nat.le_of_ble_eq_true rfl) dX5_dust_13 ⟨Nat.zero_le _, Nat.zero_le _⟩ (fun H locs hP hS => ?_)
    replace hP : va_P G.1 vwCl (W_F G x0 s0 s1 t0 t1 t2 t3 t4 t5 t6 n0 n1 n2 n3 r0 r1 r2 r3 a0 a1 p0 p1 p2 p3 k0 j0 X_ch S_len S_let T_br T_fa T_fd T_fp T_st T_kd T_fs T_fl N_gi N_be N_da N_du N_pl N_de R_gi R_be R_da R_du R_pl R_de A_fi A_si A_ce P_si P_be P_le P_go K_sl J_fi) H := hP
    refine lv_if_ne (tgt := 22) hx hb dX5_dust_16 (by decide) (fun cc_6 => ?_) (fun cc_6 => ?_)
    · replace h := if_f cc_6 h
      refine lv_aload_n hx hb dX5_dust_22 rfl (lv_at hl 0 rfl) ?_
      refine lv_iload_n hx hb dX5_dust_23 rfl (lv_at hl 2 rfl) ?_
      refine lv_bipush (v := 31) hx hb dX5_dust_24 (by decide) ?_
      obtain ⟨dd_7, dd_8, dd_9, dd_10, dd_11, dd_12, ee_13, h⟩ := bnd6_s h
      refine cFr (As := [.int u2, .int (31 : Int32)]) (rest := []) S0 hK hA hP (va_D_same hD rfl) hS (k_X5_behind l G x0 s0 s1 t0 t1 t2 t3 t4 t5 t6 n0 n1 n2 n3 r0 r1 r2 r3 a0 a1 p0 p1 p2 p3 k0 j0 X_ch S_len S_let T_br T_fa T_fd T_fp T_st T_kd T_fs T_fl N_gi N_be N_da N_du N_pl N_de R_gi R_be R_da R_du R_pl R_de A_fi A_si A_ce P_si P_be P_le P_go K_sl J_fi u2 (31 : Int32) dd_7 dd_8 dd_9 dd_10 dd_11 dd_12 ee_13) cw_X5_behind 5 0 rfl rfl rfl rfl hl.1 rfl (Nat.le_of_ble_eq_true rfl) dX5_dust_26 ⟨Nat.zero_le _, Nat.zero_le _⟩ (fun H locs hP hS => ?_)
      replace hP : va_P G.1 vwCl (W_F G x0 s0 s1 t0 t1 t2 t3 t4 t5 t6 n0 n1 n2 n3 r0 r1 r2 r3 a0 a1 p0 p1 p2 p3 k0 j0 X_ch S_len S_let T_br T_fa T_fd T_fp T_st T_kd T_fs T_fl N_gi N_be N_da N_du N_pl N_de dd_7 dd_8 dd_9 dd_10 dd_11 dd_12 A_fi A_si A_ce P_si P_be P_le P_go K_sl J_fi) H := hP
      refine lv_iload_n hx hb dX5_dust_29 rfl (lv_at hl 1 rfl) ?_
      obtain ⟨rr_14, ee_15, h⟩ := bnd1_s h
      refine cVi (As := [.int u1]) (rest := []) S0 hK hA hP (va_D_same hD rfl) hS [14, 15, 16, 17, 3, 4, 5, 6, 7, 8, 9] (k_X2_dustIn l G r0 r1 r2 r3 t0 t1 t2 t3 t4 t5 t6 dd_7 dd_8 dd_9 dd_10 dd_11 dd_12 T_br T_fa T_fd T_fp T_st T_kd T_fs T_fl u1 rr_14 ee_15) cw_X2_dustIn rfl rfl (Nat.le_of_ble_eq_true rfl) 2 0 rfl rfl rfl rfl hl.1 rfl (Nat.le_of_ble_eq_true rfl) dX5_dust_30 ⟨Nat.zero_le _, Nat.zero_le _⟩ (fun H locs hP hS => ?_)
      replace hP : va_P G.1 vwCl (W_F G x0 s0 s1 t0 t1 t2 t3 t4 t5 t6 n0 n1 n2 n3 r0 r1 r2 r3 a0 a1 p0 p1 p2 p3 k0 j0 X_ch S_len S_let T_br T_fa T_fd T_fp T_st T_kd T_fs T_fl N_gi N_be N_da N_du N_pl N_de dd_7 dd_8 dd_9 dd_10 dd_11 dd_12 A_fi A_si A_ce P_si P_be P_le P_go K_sl J_fi) H := hP
      cases h
      exact W.iret hx hb hr (fun t ht _ => ⟨⟨_, (), rfl, rfl, by show va_P G.1 vwCl _ t.heap; rw [ht]; exact hP⟩, hS.F ht⟩) hS.2.2 dX5_dust_33
    · replace h := if_t cc_6 h
      refine lv_bipush (v := (-2)) hx hb dX5_dust_19 (by decide) ?_
      cases h
      exact W.iret hx hb hr (fun t ht _ => ⟨⟨_, (), rfl, rfl, by show va_P G.1 vwCl _ t.heap; rw [ht]; exact hP⟩, hS.F ht⟩) hS.2.2 dX5_dust_21
  · replace h := if_t cc_3 h
    refine lv_iconst (v := (-1)) hx hb dX5_dust_7 (by decide) ?_
    cases h
    exact W.iret hx hb hr (fun t ht _ => ⟨⟨_, (), rfl, rfl, by show va_P G.1 vwCl _ t.heap; rw [ht]; exact hP⟩, hS.F ht⟩) hS.2.2 dX5_dust_8
def f_X2_deepStreets_26 (M_du : Nat → Int32) (kk4 : Int32 → Int32 → Option (Int32)) (v2 : Int32) (q0 : Int32) (q1 : Int32) : Option (Int32) := kk4 (q0 ||| q1) (v2 + 1)
def f_X2_deepStreets_4 (M_du : Nat → Int32) : Nat → Int32 → Int32 → Option (Int32)
  | 0, _, _ => none
  | fu + 1, v1, v2 => if (8 : Int32) ≤ v2 then (some v1) else (bnd1 (f_X2_isDeep M_du v2) (fun rr_2 => if rr_2 = 0 then (f_X2_deepStreets_26 M_du (f_X2_deepStreets_4 M_du fu) v2 v1 (0 : Int32)) else (f_X2_deepStreets_26 M_du (f_X2_deepStreets_4 M_du fu) v2 v1 ((1 : Int32) <<< (v2 &&& 31)))))
def f_X2_deepStreets (M_du : Nat → Int32) : Option (Int32) := f_X2_deepStreets_4 M_du  130 (0 : Int32) (0 : Int32)
set_option maxRecDepth 100000 in
set_option maxHeartbeats 4000000 in
theorem k_X2_deepStreets (l : Launch) (G : Gt) (m0 m1 m2 m3 t0 t1 t2 t3 t4 t5 t6 : Nat) (M_gi : Int32) (M_be : Int32) (M_da : Int32) (M_du : Nat → Int32) (M_pl : Nat → Int32) (M_de : Nat → Int32) (T_br : Int32) (T_fa : Int32) (T_fd : Nat → Int32) (T_fp : Nat → Int32) (T_st : Nat → Int32) (T_kd : Nat → Int32) (T_fs : Nat → Int32) (T_fl : Nat → Int32) (r_ : Int32) (h : f_X2_deepStreets M_du = some r_) : CT l yX2_deepStreets wsX2_deepStreets 3 62 G [.ref m0] (W_MT G m0 m1 m2 m3 t0 t1 t2 t3 t4 t5 t6 M_gi M_be M_da M_du M_pl M_de T_br T_fa T_fd T_fp T_st T_kd T_fs T_fl) (QI G r_ (W_MT G m0 m1 m2 m3 t0 t1 t2 t3 t4 t5 t6 M_gi M_be M_da M_du M_pl M_de T_br T_fa T_fd T_fp T_st T_kd T_fs T_fl)) := by
  refine met_of cX2_deepStreets 3 (some .int) (by decide) rfl (Nat.le_of_ble_eq_true rfl) ?_
  intro p e s m below meth c A ls hx hb hr hml hts hown hlocks hK hA hD hP hS hl
  replace hown : s.vm.findClass RX2 = some m.cls := hown
  replace hl : lv_has ls 3 [(0, .ref m0)] := hl
  have S0 : CallFix p m c cX2_deepStreets 3 s _ wsX2_deepStreets RX2 := ⟨hx, hb, hml, hown, hts⟩
  have cw_X2_isDeep := show CallW (rmv 3 62) s _ RX2 RX2 62 yX2_isDeep cX2_isDeep 2 (some .boolean) wsX2_isDeep (rmv 2 41) 0 0 1 from cwV 1 hts gX2_deepStreets_X2_isDeep rfl rfl rfl (by decide +kernel) ⟨Nat.le_of_ble_eq_true rfl, Nat.le_of_ble_eq_true rfl⟩
  have J_26 : ∀ (kk4 : Int32 → Int32 → Option (Int32)) (hk4 : ∀ (v1 : Int32) (v2 : Int32) (H : Heap) (locs : List Loc) (ls : Array Slot), kk4 v1 v2 = some r_ → va_P G.1 vwCl (W_MT G m0 m1 m2 m3 t0 t1 t2 t3 t4 t5 t6 M_gi M_be M_da M_du M_pl M_de T_br T_fa T_fd T_fp T_st T_kd T_fs T_fl) H → va_S A s.heap H locs → lv_has ls 3 [(0, .ref m0), (1, .int v1), (2, .int v2)] → W p l e (rmv 3 62) s m (List.toArray [.ref m0]) below meth c H locs 0 0 (MQ below ((QI G r_ (W_MT G m0 m1 m2 m3 t0 t1 t2 t3 t4 t5 t6 M_gi M_be M_da M_du M_pl M_de T_br T_fa T_fd T_fp T_st T_kd T_fs T_fl)) A) (List.toArray [.ref m0]) s 0 0 A) (F0 m 4 ls [])), ∀ (v2 : Int32) (q0 : Int32) (q1 : Int32) (H : Heap) (locs : List Loc) (ls : Array Slot), f_X2_deepStreets_26 M_du kk4 v2 q0 q1 = some r_ → va_P G.1 vwCl (W_MT G m0 m1 m2 m3 t0 t1 t2 t3 t4 t5 t6 M_gi M_be M_da M_du M_pl M_de T_br T_fa T_fd T_fp T_st T_kd T_fs T_fl) H → va_S A s.heap H locs → lv_has ls 3 [(0, .ref m0), (2, .int v2)] → W p l e (rmv 3 62) s m (List.toArray [.ref m0]) below meth c H locs 0 0 (MQ below ((QI G r_ (W_MT G m0 m1 m2 m3 t0 t1 t2 t3 t4 t5 t6 M_gi M_be M_da M_du M_pl M_de T_br T_fa T_fd T_fp T_st T_kd T_fs T_fl)) A) (List.toArray [.ref m0]) s 0 0 A) (F0 m 26 ls [.int q1, .int q0]) := by
    intro kk4 hk4 v2 q0 q1 H locs ls h hP hS hl
    unfold f_X2_deepStreets_26 at h
    refine lv_ior hx hb dX2_deepStreets_26 ?_
    refine lv_istore_n (lv' := [(1, .int (q0 ||| q1)), (0, .ref m0), (2, .int v2)]) hx hb dX2_deepStreets_27 rfl hl (by decide) rfl (fun ls hl => ?_)
    refine lv_iinc (v := (v2 + 1)) (lv' := [(2, .int (v2 + 1)), (1, .int (q0 ||| q1)), (0, .ref m0)]) hx hb dX2_deepStreets_28 hl (k := 2) rfl rfl (by decide) rfl (fun ls hl => ?_)
    refine lv_goto (tgt := 4) hx hb dX2_deepStreets_31 (by decide) ?_
    exact hk4 (q0 ||| q1) (v2 + 1) _ _ _ h hP hS (lv_sub hl [2, 1, 0] rfl)
  have J_4 : ∀ (fu : Nat), ∀ (v1 : Int32) (v2 : Int32) (H : Heap) (locs : List Loc) (ls : Array Slot), f_X2_deepStreets_4 M_du fu v1 v2 = some r_ → va_P G.1 vwCl (W_MT G m0 m1 m2 m3 t0 t1 t2 t3 t4 t5 t6 M_gi M_be M_da M_du M_pl M_de T_br T_fa T_fd T_fp T_st T_kd T_fs T_fl) H → va_S A s.heap H locs → lv_has ls 3 [(0, .ref m0), (1, .int v1), (2, .int v2)] → W p l e (rmv 3 62) s m (List.toArray [.ref m0]) below meth c H locs 0 0 (MQ below ((QI G r_ (W_MT G m0 m1 m2 m3 t0 t1 t2 t3 t4 t5 t6 M_gi M_be M_da M_du M_pl M_de T_br T_fa T_fd T_fp T_st T_kd T_fs T_fl)) A) (List.toArray [.ref m0]) s 0 0 A) (F0 m 4 ls []) := by
    intro  fu
    induction fu with
    | zero =>
      intro v1 v2 H locs ls h
      cases h
    | succ fu ih =>
      intro v1 v2 H locs ls h hP hS hl
      rw [f_X2_deepStreets_4] at h
      refine lv_iload_n hx hb dX2_deepStreets_4 rfl (lv_at hl 2 rfl) ?_
      refine lv_bipush (v := 8) hx hb dX2_deepStreets_5 (by decide) ?_
      refine lv_icmp_ge (tgt := 34) hx hb dX2_deepStreets_7 (by decide) (fun cc_1 => ?_) (fun cc_1 => ?_)
      · replace h := if_t cc_1 h
        refine lv_iload_n hx hb dX2_deepStreets_34 rfl (lv_at hl 1 rfl) ?_
        cases h
        exact W.iret hx hb hr (fun t ht _ => ⟨⟨_, (), rfl, rfl, by show va_P G.1 vwCl _ t.heap; rw [ht]; exact hP⟩, hS.F ht⟩) hS.2.2 dX2_deepStreets_35
      · replace h := if_f cc_1 h
        refine lv_iload_n hx hb dX2_deepStreets_10 rfl (lv_at hl 1 rfl) ?_
        refine lv_aload_n hx hb dX2_deepStreets_11 rfl (lv_at hl 0 rfl) ?_
        refine lv_iload_n hx hb dX2_deepStreets_12 rfl (lv_at hl 2 rfl) ?_
        obtain ⟨rr_2, ee_3, h⟩ := bnd1_s h
        refine cFi (As := [.int v2]) (rest := [.int v1]) S0 hK hA hP (va_D_same hD rfl) hS (k_X2_isDeep l G m0 m1 m2 m3 t0 t1 t2 t3 t4 t5 t6 M_gi M_be M_da M_du M_pl M_de T_br T_fa T_fd T_fp T_st T_kd T_fs T_fl v2 rr_2 ee_3) cw_X2_isDeep 2 0 rfl rfl rfl rfl hl.1 rfl (Nat.le_of_ble_eq_true rfl) dX2_deepStreets_13 ⟨Nat.zero_le _, Nat.zero_le _⟩ (fun H locs hP hS => ?_)
        replace hP : va_P G.1 vwCl (W_MT G m0 m1 m2 m3 t0 t1 t2 t3 t4 t5 t6 M_gi M_be M_da M_du M_pl M_de T_br T_fa T_fd T_fp T_st T_kd T_fs T_fl) H := hP
        refine lv_if_eq (tgt := 25) hx hb dX2_deepStreets_16 (by decide) (fun cc_4 => ?_) (fun cc_4 => ?_)
        · replace h := if_t cc_4 h
          refine lv_iconst (v := 0) hx hb dX2_deepStreets_25 (by decide) ?_
          exact J_26 (f_X2_deepStreets_4 M_du fu) ih v2 v1 (0 : Int32) _ _ _ h hP hS (lv_sub hl [0, 2] rfl)
        · replace h := if_f cc_4 h
          refine lv_iconst (v := 1) hx hb dX2_deepStreets_19 (by decide) ?_
          refine lv_iload_n hx hb dX2_deepStreets_20 rfl (lv_at hl 2 rfl) ?_
          refine lv_ishl hx hb dX2_deepStreets_21 ?_
          refine lv_goto (tgt := 26) hx hb dX2_deepStreets_22 (by decide) ?_
          exact J_26 (f_X2_deepStreets_4 M_du fu) ih v2 v1 ((1 : Int32) <<< (v2 &&& 31)) _ _ _ h hP hS (lv_sub hl [0, 2] rfl)
  unfold f_X2_deepStreets at h
  refine lv_iconst (v := 0) hx hb dX2_deepStreets_0 (by decide) ?_
  refine lv_istore_n (lv' := [(1, .int (0 : Int32)), (0, .ref m0)]) hx hb dX2_deepStreets_1 rfl hl (by decide) rfl (fun ls hl => ?_)
  refine lv_iconst (v := 0) hx hb dX2_deepStreets_2 (by decide) ?_
  refine lv_istore_n (lv' := [(2, .int (0 : Int32)), (1, .int (0 : Int32)), (0, .ref m0)]) hx hb dX2_deepStreets_3 rfl hl (by decide) rfl (fun ls hl => ?_)
  exact J_4  130 (0 : Int32) (0 : Int32) _ _ _ h hP hS (lv_sub hl [2, 1, 0] rfl)
