def f_X2_passDawn_32 (M_gi : Int32) (M_be : Int32) (M_pl : Nat → Int32) (T_br : Int32) (T_fa : Int32) (T_st : Nat → Int32) (T_kd : Nat → Int32) (T_fs : Nat → Int32) (T_fl : Nat → Int32) (kk7 : Int32 → Int32 → Int32 → (Nat → Int32) → (Nat → Int32) → Option (Int32 × (Nat → Int32) × (Nat → Int32))) (v1 : Int32) (v3 : Int32) (M_da : Int32) (M_du : Nat → Int32) (M_de : Nat → Int32) : Option (Int32 × (Nat → Int32) × (Nat → Int32)) := kk7 v1 (v3 + 1) M_da M_du M_de
def f_X2_passDawn_7 (M_gi : Int32) (M_be : Int32) (M_pl : Nat → Int32) (T_br : Int32) (T_fa : Int32) (T_st : Nat → Int32) (T_kd : Nat → Int32) (T_fs : Nat → Int32) (T_fl : Nat → Int32) : Nat → Int32 → Int32 → Int32 → (Nat → Int32) → (Nat → Int32) → Option (Int32 × (Nat → Int32) × (Nat → Int32))
  | 0, _, _, _, _, _ => none
  | fu + 1, v1, v3, M_da, M_du, M_de => if T_br ≤ v3 then (bnd2 (f_X2_spread M_du M_de) (fun dd_2 dd_3 => some ((M_da + (1 : Int32)), dd_2, dd_3))) else (if ((v1 >>> (v3 &&& 31)) &&& (1 : Int32)) = (1 : Int32) then (bnd1 (f_X2_work M_gi M_be M_du M_pl T_br T_st T_kd v3) (fun dd_6 => f_X2_passDawn_32 M_gi M_be M_pl T_br T_fa T_st T_kd T_fs T_fl (f_X2_passDawn_7 M_gi M_be M_pl T_br T_fa T_st T_kd T_fs T_fl fu) v1 v3 M_da dd_6 M_de)) else (f_X2_passDawn_32 M_gi M_be M_pl T_br T_fa T_st T_kd T_fs T_fl (f_X2_passDawn_7 M_gi M_be M_pl T_br T_fa T_st T_kd T_fs T_fl fu) v1 v3 M_da M_du M_de))
def f_X2_passDawn (M_gi : Int32) (M_be : Int32) (M_da : Int32) (M_du : Nat → Int32) (M_pl : Nat → Int32) (M_de : Nat → Int32) (T_br : Int32) (T_fa : Int32) (T_st : Nat → Int32) (T_kd : Nat → Int32) (T_fs : Nat → Int32) (T_fl : Nat → Int32) (u1 : Int32) (u2 : Int32) : Option (Int32 × (Nat → Int32) × (Nat → Int32)) := bnd1 (f_X2_comeDown M_da M_du T_fa T_fs T_fl u2) (fun dd_8 => f_X2_passDawn_7 M_gi M_be M_pl T_br T_fa T_st T_kd T_fs T_fl  130 u1 (0 : Int32) M_da dd_8 M_de)
set_option maxRecDepth 100000 in
set_option maxHeartbeats 4000000 in
theorem k_X2_passDawn (l : Launch) (G : Gt) (m0 m1 m2 m3 t0 t1 t2 t3 t4 t5 t6 : Nat) (M_gi : Int32) (M_be : Int32) (M_da : Int32) (M_du : Nat → Int32) (M_pl : Nat → Int32) (M_de : Nat → Int32) (T_br : Int32) (T_fa : Int32) (T_fd : Nat → Int32) (T_fp : Nat → Int32) (T_st : Nat → Int32) (T_kd : Nat → Int32) (T_fs : Nat → Int32) (T_fl : Nat → Int32) (u1 : Int32) (u2 : Int32) (o_M_da : Int32) (o_M_du : Nat → Int32) (o_M_de : Nat → Int32) (h : f_X2_passDawn M_gi M_be M_da M_du M_pl M_de T_br T_fa T_st T_kd T_fs T_fl u1 u2 = some (o_M_da, o_M_du, o_M_de)) : CT l yX2_passDawn wsX2_passDawn 3 67 G [.ref m0, .int u1, .int u2] (W_MT G m0 m1 m2 m3 t0 t1 t2 t3 t4 t5 t6 M_gi M_be M_da M_du M_pl M_de T_br T_fa T_fd T_fp T_st T_kd T_fs T_fl) (QV G (W_MT G m0 m1 m2 m3 t0 t1 t2 t3 t4 t5 t6 M_gi M_be o_M_da o_M_du M_pl o_M_de T_br T_fa T_fd T_fp T_st T_kd T_fs T_fl)) := by
  refine met_of cX2_passDawn 4 none (by decide) rfl (Nat.le_of_ble_eq_true rfl) ?_
  intro p e s m below meth c A ls hx hb hr hml hts hown hlocks hK hA hD hP hS hl
  replace hown : s.vm.findClass RX2 = some m.cls := hown
  replace hl : lv_has ls 4 [(0, .ref m0), (1, .int u1), (2, .int u2)] := hl
  have S0 : CallFix p m c cX2_passDawn 4 s _ wsX2_passDawn RX2 := ⟨hx, hb, hml, hown, hts⟩
  have fl33 := hts (.fieldLink RX2 33 "DustVote$Moment" "told" "LDustVote$Told;") (by decide +kernel)
  have inX2 := show ∀ w ∈ wsX20, w ∈ wsX2_passDawn from by decide +kernel
  have fl65 := hK.f (args := List.toArray [.ref m0, .int u1, .int u2]) (show ("DustVote$Moment", 65, "DustVote$Told", "brooms", "I", "DustVote") ∈ nestF by decide)
  have inX4 := show ∀ w ∈ wsX40, w ∈ wsX2_passDawn from by decide +kernel
  have cw_X2_spread := show CallW (rmv 3 67) s _ RX2 RX2 94 yX2_spread cX2_spread 2 none wsX2_spread (rmv 1 20) 0 0 0 from cwV 0 hts gX2_passDawn_X2_spread rfl rfl rfl (by decide +kernel) ⟨Nat.le_of_ble_eq_true rfl, Nat.le_of_ble_eq_true rfl⟩
  have fl30 := hts (.fieldLink RX2 30 "DustVote$Moment" "dawns" "I") (by decide +kernel)
  have cw_X2_work := show CallW (rmv 3 67) s _ RX2 RX2 91 yX2_work cX2_work 4 none wsX2_work (rmv 2 44) 0 0 1 from cwV 1 hts gX2_passDawn_X2_work rfl rfl rfl (by decide +kernel) ⟨Nat.le_of_ble_eq_true rfl, Nat.le_of_ble_eq_true rfl⟩
  have cw_X2_comeDown := show CallW (rmv 3 67) s _ RX2 RX2 87 yX2_comeDown cX2_comeDown 4 none wsX2_comeDown (rmv 2 43) 0 0 1 from cwV 1 hts gX2_passDawn_X2_comeDown rfl rfl rfl (by decide +kernel) ⟨Nat.le_of_ble_eq_true rfl, Nat.le_of_ble_eq_true rfl⟩
  have J_32 : ∀ (kk7 : Int32 → Int32 → Int32 → (Nat → Int32) → (Nat → Int32) → Option (Int32 × (Nat → Int32) × (Nat → Int32))) (hk7 : ∀ (v1 : Int32) (v3 : Int32) (M_da : Int32) (M_du : Nat → Int32) (M_de : Nat → Int32) (H : Heap) (locs : List Loc) (ls : Array Slot), kk7 v1 v3 M_da M_du M_de = some (o_M_da, o_M_du, o_M_de) → va_P G.1 vwCl (W_MT G m0 m1 m2 m3 t0 t1 t2 t3 t4 t5 t6 M_gi M_be M_da M_du M_pl M_de T_br T_fa T_fd T_fp T_st T_kd T_fs T_fl) H → va_S A s.heap H locs → lv_has ls 4 [(0, .ref m0), (1, .int v1), (3, .int v3)] → W p l e (rmv 3 67) s m (List.toArray [.ref m0, .int u1, .int u2]) below meth c H locs 0 0 (MQ below ((QV G (W_MT G m0 m1 m2 m3 t0 t1 t2 t3 t4 t5 t6 M_gi M_be o_M_da o_M_du M_pl o_M_de T_br T_fa T_fd T_fp T_st T_kd T_fs T_fl)) A) (List.toArray [.ref m0, .int u1, .int u2]) s 0 0 A) (F0 m 7 ls [])), ∀ (v1 : Int32) (v3 : Int32) (M_da : Int32) (M_du : Nat → Int32) (M_de : Nat → Int32) (H : Heap) (locs : List Loc) (ls : Array Slot), f_X2_passDawn_32 M_gi M_be M_pl T_br T_fa T_st T_kd T_fs T_fl kk7 v1 v3 M_da M_du M_de = some (o_M_da, o_M_du, o_M_de) → va_P G.1 vwCl (W_MT G m0 m1 m2 m3 t0 t1 t2 t3 t4 t5 t6 M_gi M_be M_da M_du M_pl M_de T_br T_fa T_fd T_fp T_st T_kd T_fs T_fl) H → va_S A s.heap H locs → lv_has ls 4 [(0, .ref m0), (1, .int v1), (3, .int v3)] → W p l e (rmv 3 67) s m (List.toArray [.ref m0, .int u1, .int u2]) below meth c H locs 0 0 (MQ below ((QV G (W_MT G m0 m1 m2 m3 t0 t1 t2 t3 t4 t5 t6 M_gi M_be o_M_da o_M_du M_pl o_M_de T_br T_fa T_fd T_fp T_st T_kd T_fs T_fl)) A) (List.toArray [.ref m0, .int u1, .int u2]) s 0 0 A) (F0 m 32 ls []) := by
    intro kk7 hk7 v1 v3 M_da M_du M_de H locs ls h hP hS hl
    unfold f_X2_passDawn_32 at h
    refine lv_iinc (v := (v3 + 1)) (lv' := [(3, .int (v3 + 1)), (0, .ref m0), (1, .int v1)]) hx hb dX2_passDawn_32 hl (k := 2) rfl rfl (by decide) rfl (fun ls hl => ?_)
    refine lv_goto (tgt := 7) hx hb dX2_passDawn_35 (by decide) ?_
    exact hk7 v1 (v3 + 1) M_da M_du M_de _ _ _ h hP hS (lv_sub hl [1, 2, 0] rfl)
  have J_7 : ∀ (fu : Nat), ∀ (v1 : Int32) (v3 : Int32) (M_da : Int32) (M_du : Nat → Int32) (M_de : Nat → Int32) (H : Heap) (locs : List Loc) (ls : Array Slot), f_X2_passDawn_7 M_gi M_be M_pl T_br T_fa T_st T_kd T_fs T_fl fu v1 v3 M_da M_du M_de = some (o_M_da, o_M_du, o_M_de) → va_P G.1 vwCl (W_MT G m0 m1 m2 m3 t0 t1 t2 t3 t4 t5 t6 M_gi M_be M_da M_du M_pl M_de T_br T_fa T_fd T_fp T_st T_kd T_fs T_fl) H → va_S A s.heap H locs → lv_has ls 4 [(0, .ref m0), (1, .int v1), (3, .int v3)] → W p l e (rmv 3 67) s m (List.toArray [.ref m0, .int u1, .int u2]) below meth c H locs 0 0 (MQ below ((QV G (W_MT G m0 m1 m2 m3 t0 t1 t2 t3 t4 t5 t6 M_gi M_be o_M_da o_M_du M_pl o_M_de T_br T_fa T_fd T_fp T_st T_kd T_fs T_fl)) A) (List.toArray [.ref m0, .int u1, .int u2]) s 0 0 A) (F0 m 7 ls []) := by
    intro  fu
    induction fu with
    | zero =>
      intro v1 v3 M_da M_du M_de H locs ls h
      cases h
    | succ fu ih =>
      intro v1 v3 M_da M_du M_de H locs ls h hP hS hl
      rw [f_X2_passDawn_7] at h
      refine lv_iload_n hx hb dX2_passDawn_7 rfl (lv_at hl 2 rfl) ?_
      refine lv_aload_n hx hb dX2_passDawn_8 rfl (lv_at hl 0 rfl) ?_
      refine va_get (ci := 2) (C := RX2) (T := TX2) (N := 7) hx hb hts inX2 hown hK.1 hP 0 rfl rfl 0 (by decide) fl33 (fun _ h9 => h9) rfl dX2_passDawn_9 ?_
      refine va_getN (ci := 4) (C := RX4) (T := TX4) (N := 8) hx hb hts inX4 hown hK.1 hP 4 rfl rfl 6 (by decide) fl65 (fun _ h9 => h9) rfl dX2_passDawn_12 ?_
      refine lv_icmp_ge (tgt := 38) hx hb dX2_passDawn_15 (by decide) (fun cc_1 => ?_) (fun cc_1 => ?_)
      · replace h := if_t cc_1 h
        refine lv_aload_n hx hb dX2_passDawn_38 rfl (lv_at hl 0 rfl) ?_
        obtain ⟨dd_2, dd_3, ee_4, h⟩ := bnd2_s h
        refine cFv (As := []) (rest := []) S0 hK hA hP (va_D_same hD rfl) hS (k_X2_spread l G m0 m1 m2 m3 t0 t1 t2 t3 t4 t5 t6 M_gi M_be M_da M_du M_pl M_de T_br T_fa T_fd T_fp T_st T_kd T_fs T_fl dd_2 dd_3 ee_4) cw_X2_spread 2 0 rfl rfl rfl rfl hl.1 rfl (Nat.le_of_ble_eq_true rfl) dX2_passDawn_39 ⟨Nat.zero_le _, Nat.zero_le _⟩ (fun H locs hP hS => ?_)
        replace hP : va_P G.1 vwCl (W_MT G m0 m1 m2 m3 t0 t1 t2 t3 t4 t5 t6 M_gi M_be M_da dd_2 M_pl dd_3 T_br T_fa T_fd T_fp T_st T_kd T_fs T_fl) H := hP
        refine lv_aload_n hx hb dX2_passDawn_42 rfl (lv_at hl 0 rfl) ?_
        refine lv_dup hx hb dX2_passDawn_43 rfl ?_
        refine va_get (ci := 2) (C := RX2) (T := TX2) (N := 7) hx hb hts inX2 hown hK.1 hP 0 rfl rfl 6 (by decide) fl30 (fun _ h9 => h9) rfl dX2_passDawn_44 ?_
        refine lv_iconst (v := 1) hx hb dX2_passDawn_47 (by decide) ?_
        refine lv_iadd hx hb dX2_passDawn_48 ?_
        refine va_put (ci := 2) (ty := .int) (C := RX2) (T := TX2) (N := 7) hx hb hts inX2 tyX2 tyX2_ok nmX2 hown hK.1 hP (va_D_same hD rfl) hS 0 rfl rfl 6 (by decide) fl30 (fun _ h9 => h9) rfl (by decide +kernel) rfl rfl (Nat.le_of_ble_eq_true rfl) dX2_passDawn_49 (fun H locs hP _ hS => ?_)
        replace hP : va_P G.1 vwCl (W_MT G m0 m1 m2 m3 t0 t1 t2 t3 t4 t5 t6 M_gi M_be (M_da + (1 : Int32)) dd_2 M_pl dd_3 T_br T_fa T_fd T_fp T_st T_kd T_fs T_fl) H := hP
        cases h
        exact W.vret hx hb hr (fun t ht _ => ⟨⟨(), rfl, trivial, by show va_P G.1 vwCl _ t.heap; rw [ht]; exact hP⟩, hS.F ht⟩) hS.2.2 dX2_passDawn_52
      · replace h := if_f cc_1 h
        refine lv_iload_n hx hb dX2_passDawn_18 rfl (lv_at hl 1 rfl) ?_
        refine lv_iload_n hx hb dX2_passDawn_19 rfl (lv_at hl 2 rfl) ?_
        refine lv_ishr hx hb dX2_passDawn_20 ?_
        refine lv_iconst (v := 1) hx hb dX2_passDawn_21 (by decide) ?_
        refine lv_iand hx hb dX2_passDawn_22 ?_
        refine lv_iconst (v := 1) hx hb dX2_passDawn_23 (by decide) ?_
        refine lv_icmp_ne (tgt := 32) hx hb dX2_passDawn_24 (by decide) (fun cc_5 => ?_) (fun cc_5 => ?_)
        · replace h := if_f cc_5 h
          exact J_32 (f_X2_passDawn_7 M_gi M_be M_pl T_br T_fa T_st T_kd T_fs T_fl fu) ih v1 v3 M_da M_du M_de _ _ _ h hP hS (lv_sub hl [0, 1, 2] rfl)
        · replace h := if_t cc_5 h
          refine lv_aload_n hx hb dX2_passDawn_27 rfl (lv_at hl 0 rfl) ?_
          refine lv_iload_n hx hb dX2_passDawn_28 rfl (lv_at hl 2 rfl) ?_
          obtain ⟨dd_6, ee_7, h⟩ := bnd1_s h
          refine cFv (As := [.int v3]) (rest := []) S0 hK hA hP (va_D_same hD rfl) hS (k_X2_work l G m0 m1 m2 m3 t0 t1 t2 t3 t4 t5 t6 M_gi M_be M_da M_du M_pl M_de T_br T_fa T_fd T_fp T_st T_kd T_fs T_fl v3 dd_6 ee_7) cw_X2_work 2 0 rfl rfl rfl rfl hl.1 rfl (Nat.le_of_ble_eq_true rfl) dX2_passDawn_29 ⟨Nat.zero_le _, Nat.zero_le _⟩ (fun H locs hP hS => ?_)
          replace hP : va_P G.1 vwCl (W_MT G m0 m1 m2 m3 t0 t1 t2 t3 t4 t5 t6 M_gi M_be M_da dd_6 M_pl M_de T_br T_fa T_fd T_fp T_st T_kd T_fs T_fl) H := hP
          exact J_32 (f_X2_passDawn_7 M_gi M_be M_pl T_br T_fa T_st T_kd T_fs T_fl fu) ih v1 v3 M_da dd_6 M_de _ _ _ h hP hS (lv_sub hl [0, 1, 2] rfl)
  unfold f_X2_passDawn at h
  refine lv_aload_n hx hb dX2_passDawn_0 rfl (lv_at hl 0 rfl) ?_
  refine lv_iload_n hx hb dX2_passDawn_1 rfl (lv_at hl 2 rfl) ?_
  obtain ⟨dd_8, ee_9, h⟩ := bnd1_s h
  refine cFv (As := [.int u2]) (rest := []) S0 hK hA hP (va_D_same hD rfl) hS (k_X2_comeDown l G m0 m1 m2 m3 t0 t1 t2 t3 t4 t5 t6 M_gi M_be M_da M_du M_pl M_de T_br T_fa T_fd T_fp T_st T_kd T_fs T_fl u2 dd_8 ee_9) cw_X2_comeDown 2 0 rfl rfl rfl rfl hl.1 rfl (Nat.le_of_ble_eq_true rfl) dX2_passDawn_2 ⟨Nat.zero_le _, Nat.zero_le _⟩ (fun H locs hP hS => ?_)
  replace hP : va_P G.1 vwCl (W_MT G m0 m1 m2 m3 t0 t1 t2 t3 t4 t5 t6 M_gi M_be M_da dd_8 M_pl M_de T_br T_fa T_fd T_fp T_st T_kd T_fs T_fl) H := hP
  refine lv_iconst (v := 0) hx hb dX2_passDawn_5 (by decide) ?_
  refine lv_istore_n (lv' := [(3, .int (0 : Int32)), (0, .ref m0), (1, .int u1), (2, .int u2)]) hx hb dX2_passDawn_6 rfl hl (by decide) rfl (fun ls hl => ?_)
  exact J_7  130 u1 (0 : Int32) M_da dd_8 M_de _ _ _ h hP hS (lv_sub hl [1, 2, 0] rfl)
def f_X2_allDust_4 (M_du : Nat → Int32) : Nat → Int32 → Int32 → Option (Int32)
  | 0, _, _ => none
  | fu + 1, v1, v2 => if (8 : Int32) ≤ v2 then (some v1) else (bnd1 (rd M_du 8 v2) (fun zz_2 => f_X2_allDust_4 M_du fu (v1 + zz_2) (v2 + 1)))
def f_X2_allDust (M_du : Nat → Int32) : Option (Int32) := f_X2_allDust_4 M_du  130 (0 : Int32) (0 : Int32)
set_option maxRecDepth 100000 in
set_option maxHeartbeats 4000000 in
theorem k_X2_allDust (l : Launch) (G : Gt) (m0 m1 m2 m3 t0 t1 t2 t3 t4 t5 t6 : Nat) (M_gi : Int32) (M_be : Int32) (M_da : Int32) (M_du : Nat → Int32) (M_pl : Nat → Int32) (M_de : Nat → Int32) (T_br : Int32) (T_fa : Int32) (T_fd : Nat → Int32) (T_fp : Nat → Int32) (T_st : Nat → Int32) (T_kd : Nat → Int32) (T_fs : Nat → Int32) (T_fl : Nat → Int32) (r_ : Int32) (h : f_X2_allDust M_du = some r_) : CT l yX2_allDust wsX2_allDust 0 0 G [.ref m0] (W_MT G m0 m1 m2 m3 t0 t1 t2 t3 t4 t5 t6 M_gi M_be M_da M_du M_pl M_de T_br T_fa T_fd T_fp T_st T_kd T_fs T_fl) (QI G r_ (W_MT G m0 m1 m2 m3 t0 t1 t2 t3 t4 t5 t6 M_gi M_be M_da M_du M_pl M_de T_br T_fa T_fd T_fp T_st T_kd T_fs T_fl)) := by
  refine met_of cX2_allDust 3 (some .int) (by decide) rfl (Nat.le_of_ble_eq_true rfl) ?_
  intro p e s m below meth c A ls hx hb hr hml hts hown hlocks hK hA hD hP hS hl
  replace hown : s.vm.findClass RX2 = some m.cls := hown
  replace hl : lv_has ls 3 [(0, .ref m0)] := hl
  have S0 : CallFix p m c cX2_allDust 3 s _ wsX2_allDust RX2 := ⟨hx, hb, hml, hown, hts⟩
  have fl9 := hts (.fieldLink RX2 9 "DustVote$Moment" "dust" "[I") (by decide +kernel)
  have inX2 := show ∀ w ∈ wsX20, w ∈ wsX2_allDust from by decide +kernel
  have J_4 : ∀ (fu : Nat), ∀ (v1 : Int32) (v2 : Int32) (H : Heap) (locs : List Loc) (ls : Array Slot), f_X2_allDust_4 M_du fu v1 v2 = some r_ → va_P G.1 vwCl (W_MT G m0 m1 m2 m3 t0 t1 t2 t3 t4 t5 t6 M_gi M_be M_da M_du M_pl M_de T_br T_fa T_fd T_fp T_st T_kd T_fs T_fl) H → va_S A s.heap H locs → lv_has ls 3 [(0, .ref m0), (1, .int v1), (2, .int v2)] → W p l e (rmv 0 0) s m (List.toArray [.ref m0]) below meth c H locs 0 0 (MQ below ((QI G r_ (W_MT G m0 m1 m2 m3 t0 t1 t2 t3 t4 t5 t6 M_gi M_be M_da M_du M_pl M_de T_br T_fa T_fd T_fp T_st T_kd T_fs T_fl)) A) (List.toArray [.ref m0]) s 0 0 A) (F0 m 4 ls []) := by
    intro  fu
    induction fu with
    | zero =>
      intro v1 v2 H locs ls h
      cases h
    | succ fu ih =>
      intro v1 v2 H locs ls h hP hS hl
      rw [f_X2_allDust_4] at h
      refine lv_iload_n hx hb dX2_allDust_4 rfl (lv_at hl 2 rfl) ?_
      refine lv_bipush (v := 8) hx hb dX2_allDust_5 (by decide) ?_
      refine lv_icmp_ge (tgt := 25) hx hb dX2_allDust_7 (by decide) (fun cc_1 => ?_) (fun cc_1 => ?_)
      · replace h := if_t cc_1 h
        refine lv_iload_n hx hb dX2_allDust_25 rfl (lv_at hl 1 rfl) ?_
        cases h
        exact W.iret hx hb hr (fun t ht _ => ⟨⟨_, (), rfl, rfl, by show va_P G.1 vwCl _ t.heap; rw [ht]; exact hP⟩, hS.F ht⟩) hS.2.2 dX2_allDust_26
      · replace h := if_f cc_1 h
        refine lv_iload_n hx hb dX2_allDust_10 rfl (lv_at hl 1 rfl) ?_
        refine lv_aload_n hx hb dX2_allDust_11 rfl (lv_at hl 0 rfl) ?_
        refine va_get (ci := 2) (C := RX2) (T := TX2) (N := 7) hx hb hts inX2 hown hK.1 hP 0 rfl rfl 1 (by decide) fl9 (fun _ h9 => h9) rfl dX2_allDust_12 ?_
        refine lv_iload_n hx hb dX2_allDust_15 rfl (lv_at hl 2 rfl) ?_
        obtain ⟨zz_2, ee_3, h⟩ := bnd1_s h
        refine wIald hx hb hK hP 1 rfl ee_3 dX2_allDust_16 ?_
        refine lv_iadd hx hb dX2_allDust_17 ?_
        refine lv_istore_n (lv' := [(1, .int (v1 + zz_2)), (0, .ref m0), (2, .int v2)]) hx hb dX2_allDust_18 rfl hl (by decide) rfl (fun ls hl => ?_)
        refine lv_iinc (v := (v2 + 1)) (lv' := [(2, .int (v2 + 1)), (1, .int (v1 + zz_2)), (0, .ref m0)]) hx hb dX2_allDust_19 hl (k := 2) rfl rfl (by decide) rfl (fun ls hl => ?_)
        refine lv_goto (tgt := 4) hx hb dX2_allDust_22 (by decide) ?_
        exact ih (v1 + zz_2) (v2 + 1) _ _ _ h hP hS (lv_sub hl [2, 1, 0] rfl)
  unfold f_X2_allDust at h
  refine lv_iconst (v := 0) hx hb dX2_allDust_0 (by decide) ?_
  refine lv_istore_n (lv' := [(1, .int (0 : Int32)), (0, .ref m0)]) hx hb dX2_allDust_1 rfl hl (by decide) rfl (fun ls hl => ?_)
  refine lv_iconst (v := 0) hx hb dX2_allDust_2 (by decide) ?_
  refine lv_istore_n (lv' := [(2, .int (0 : Int32)), (1, .int (0 : Int32)), (0, .ref m0)]) hx hb dX2_allDust_3 rfl hl (by decide) rfl (fun ls hl => ?_)
  exact J_4  130 (0 : Int32) (0 : Int32) _ _ _ h hP hS (lv_sub hl [2, 1, 0] rfl)
def f_X5_dawn (T_br : Int32) (T_fa : Int32) (T_st : Nat → Int32) (T_kd : Nat → Int32) (T_fs : Nat → Int32) (T_fl : Nat → Int32) (N_gi : Int32) (N_be : Int32) (N_da : Int32) (N_du : Nat → Int32) (N_pl : Nat → Int32) (N_de : Nat → Int32) (A_fi : Int32) (A_si : Int32) (A_ce : Nat → Int32) : Option (Int32 × Int32 × (Nat → Int32) × (Nat → Int32) × Int32 × Int32 × (Nat → Int32)) := bnd3 (f_X0_push A_fi A_si A_ce N_gi N_be N_da N_du N_pl) (fun dd_1 dd_2 dd_3 => bnd3 (f_X2_passDawn N_gi N_be N_da N_du N_pl N_de T_br T_fa T_st T_kd T_fs T_fl (31 : Int32) (1 : Int32)) (fun dd_5 dd_6 dd_7 => bnd1 (f_X2_allDust dd_6) (fun rr_9 => some (rr_9, dd_5, dd_6, dd_7, dd_1, dd_2, dd_3))))
set_option maxRecDepth 100000 in
set_option maxHeartbeats 4000000 in
theorem k_X5_dawn (l : Launch) (G : Gt) (x0 s0 s1 t0 t1 t2 t3 t4 t5 t6 n0 n1 n2 n3 r0 r1 r2 r3 a0 a1 p0 p1 p2 p3 k0 j0 : Nat) (X_ch : Int64) (S_len : Int32) (S_let : Nat → Int32) (T_br : Int32) (T_fa : Int32) (T_fd : Nat → Int32) (T_fp : Nat → Int32) (T_st : Nat → Int32) (T_kd : Nat → Int32) (T_fs : Nat → Int32) (T_fl : Nat → Int32) (N_gi : Int32) (N_be : Int32) (N_da : Int32) (N_du : Nat → Int32) (N_pl : Nat → Int32) (N_de : Nat → Int32) (R_gi : Int32) (R_be : Int32) (R_da : Int32) (R_du : Nat → Int32) (R_pl : Nat → Int32) (R_de : Nat → Int32) (A_fi : Int32) (A_si : Int32) (A_ce : Nat → Int32) (P_si : Int32) (P_be : Nat → Int32) (P_le : Nat → Int32) (P_go : Nat → Int32) (K_sl : Nat → Int32) (J_fi : Nat → Int32) (r_ : Int32) (o_N_da : Int32) (o_N_du : Nat → Int32) (o_N_de : Nat → Int32) (o_A_fi : Int32) (o_A_si : Int32) (o_A_ce : Nat → Int32) (h : f_X5_dawn T_br T_fa T_st T_kd T_fs T_fl N_gi N_be N_da N_du N_pl N_de A_fi A_si A_ce = some (r_, o_N_da, o_N_du, o_N_de, o_A_fi, o_A_si, o_A_ce)) : CT l yX5_dawn wsX5_dawn 4 90 G [.ref x0] (W_F G x0 s0 s1 t0 t1 t2 t3 t4 t5 t6 n0 n1 n2 n3 r0 r1 r2 r3 a0 a1 p0 p1 p2 p3 k0 j0 X_ch S_len S_let T_br T_fa T_fd T_fp T_st T_kd T_fs T_fl N_gi N_be N_da N_du N_pl N_de R_gi R_be R_da R_du R_pl R_de A_fi A_si A_ce P_si P_be P_le P_go K_sl J_fi) (QI G r_ (W_F G x0 s0 s1 t0 t1 t2 t3 t4 t5 t6 n0 n1 n2 n3 r0 r1 r2 r3 a0 a1 p0 p1 p2 p3 k0 j0 X_ch S_len S_let T_br T_fa T_fd T_fp T_st T_kd T_fs T_fl N_gi N_be o_N_da o_N_du N_pl o_N_de R_gi R_be R_da R_du R_pl R_de o_A_fi o_A_si o_A_ce P_si P_be P_le P_go K_sl J_fi)) := by
  refine met_of cX5_dawn 1 (some .int) (by decide) rfl (Nat.le_of_ble_eq_true rfl) ?_
  intro p e s m below meth c A ls hx hb hr hml hts hown hlocks hK hA hD hP hS hl
  replace hown : s.vm.findClass RX5 = some m.cls := hown
  replace hl : lv_has ls 1 [(0, .ref x0)] := hl
  have S0 : CallFix p m c cX5_dawn 1 s _ wsX5_dawn RX5 := ⟨hx, hb, hml, hown, hts⟩
  have fl38 := hts (.fieldLink RX5 38 "DustVote" "acts" "LDustVote$ActRow;") (by decide +kernel)
  have inX5 := show ∀ w ∈ wsX50, w ∈ wsX5_dawn from by decide +kernel
  have fl28 := hts (.fieldLink RX5 28 "DustVote" "now" "LDustVote$Moment;") (by decide +kernel)
  have cw_X0_push := show CallW (rmv 4 90) s _ RX5 RX0 125 yX0_push cX0_push 2 none wsX0_push (rmv 2 41) 0 0 1 from cwV 1 hts gX5_dawn_X0_push rfl rfl rfl (by decide +kernel) ⟨Nat.le_of_ble_eq_true rfl, Nat.le_of_ble_eq_true rfl⟩
  have cw_X2_passDawn := show CallW (rmv 4 90) s _ RX5 RX2 129 yX2_passDawn cX2_passDawn 4 none wsX2_passDawn (rmv 3 67) 0 0 2 from cwV 2 hts gX5_dawn_X2_passDawn rfl rfl rfl (by decide +kernel) ⟨Nat.le_of_ble_eq_true rfl, Nat.le_of_ble_eq_true rfl⟩
  have cw_X2_allDust := show CallW (rmv 4 90) s _ RX5 RX2 133 yX2_allDust cX2_allDust 3 (some .int) wsX2_allDust (rmv 0 0) 0 0 0 from cwV 0 hts gX5_dawn_X2_allDust rfl rfl rfl (by decide +kernel) ⟨Nat.le_of_ble_eq_true rfl, Nat.le_of_ble_eq_true rfl⟩
  unfold f_X5_dawn at h
  refine lv_aload_n hx hb dX5_dawn_0 rfl (lv_at hl 0 rfl) ?_
  refine va_get (ci := 5) (C := RX5) (T := TX5) (N := 9) hx hb hts inX5 hown hK.1 hP 0 rfl rfl 4 (by decide) fl38 (fun _ h9 => h9) rfl dX5_dawn_1 ?_
  refine lv_aload_n hx hb dX5_dawn_4 rfl (lv_at hl 0 rfl) ?_
  refine va_get (ci := 5) (C := RX5) (T := TX5) (N := 9) hx hb hts inX5 hown hK.1 hP 0 rfl rfl 2 (by decide) fl28 (fun _ h9 => h9) rfl dX5_dawn_5 ?_
  obtain ⟨dd_1, dd_2, dd_3, ee_4, h⟩ := bnd3_s h
  refine cVv (As := [.ref n0]) (rest := []) S0 hK hA hP (va_D_same hD rfl) hS [18, 19, 10, 11, 12, 13] (k_X0_push l G a0 a1 n0 n1 n2 n3 t0 A_fi A_si A_ce N_gi N_be N_da N_du N_pl N_de dd_1 dd_2 dd_3 ee_4) cw_X0_push rfl rfl (Nat.le_of_ble_eq_true rfl) 0 0 rfl rfl rfl rfl hl.1 rfl (Nat.le_of_ble_eq_true rfl) dX5_dawn_8 ⟨Nat.zero_le _, Nat.zero_le _⟩ (fun H locs hP hS => ?_)
  replace hP : va_P G.1 vwCl (W_F G x0 s0 s1 t0 t1 t2 t3 t4 t5 t6 n0 n1 n2 n3 r0 r1 r2 r3 a0 a1 p0 p1 p2 p3 k0 j0 X_ch S_len S_let T_br T_fa T_fd T_fp T_st T_kd T_fs T_fl N_gi N_be N_da N_du N_pl N_de R_gi R_be R_da R_du R_pl R_de dd_1 dd_2 dd_3 P_si P_be P_le P_go K_sl J_fi) H := hP
  refine lv_aload_n hx hb dX5_dawn_11 rfl (lv_at hl 0 rfl) ?_
  refine va_get (ci := 5) (C := RX5) (T := TX5) (N := 9) hx hb hts inX5 hown hK.1 hP 0 rfl rfl 2 (by decide) fl28 (fun _ h9 => h9) rfl dX5_dawn_12 ?_
  refine lv_bipush (v := 31) hx hb dX5_dawn_15 (by decide) ?_
  refine lv_iconst (v := 1) hx hb dX5_dawn_17 (by decide) ?_
  obtain ⟨dd_5, dd_6, dd_7, ee_8, h⟩ := bnd3_s h
  refine cVv (As := [.int (31 : Int32), .int (1 : Int32)]) (rest := []) S0 hK hA hP (va_D_same hD rfl) hS [10, 11, 12, 13, 3, 4, 5, 6, 7, 8, 9] (k_X2_passDawn l G n0 n1 n2 n3 t0 t1 t2 t3 t4 t5 t6 N_gi N_be N_da N_du N_pl N_de T_br T_fa T_fd T_fp T_st T_kd T_fs T_fl (31 : Int32) (1 : Int32) dd_5 dd_6 dd_7 ee_8) cw_X2_passDawn rfl rfl (Nat.le_of_ble_eq_true rfl) 2 0 rfl rfl rfl rfl hl.1 rfl (Nat.le_of_ble_eq_true rfl) dX5_dawn_18 ⟨Nat.zero_le _, Nat.zero_le _⟩ (fun H locs hP hS => ?_)
  replace hP : va_P G.1 vwCl (W_F G x0 s0 s1 t0 t1 t2 t3 t4 t5 t6 n0 n1 n2 n3 r0 r1 r2 r3 a0 a1 p0 p1 p2 p3 k0 j0 X_ch S_len S_let T_br T_fa T_fd T_fp T_st T_kd T_fs T_fl N_gi N_be dd_5 dd_6 N_pl dd_7 R_gi R_be R_da R_du R_pl R_de dd_1 dd_2 dd_3 P_si P_be P_le P_go K_sl J_fi) H := hP
  refine lv_aload_n hx hb dX5_dawn_21 rfl (lv_at hl 0 rfl) ?_
  refine va_get (ci := 5) (C := RX5) (T := TX5) (N := 9) hx hb hts inX5 hown hK.1 hP 0 rfl rfl 2 (by decide) fl28 (fun _ h9 => h9) rfl dX5_dawn_22 ?_
  obtain ⟨rr_9, ee_10, h⟩ := bnd1_s h
  refine cVi (As := []) (rest := []) S0 hK hA hP (va_D_same hD rfl) hS [10, 11, 12, 13, 3, 4, 5, 6, 7, 8, 9] (k_X2_allDust l G n0 n1 n2 n3 t0 t1 t2 t3 t4 t5 t6 N_gi N_be dd_5 dd_6 N_pl dd_7 T_br T_fa T_fd T_fp T_st T_kd T_fs T_fl rr_9 ee_10) cw_X2_allDust rfl rfl (Nat.le_of_ble_eq_true rfl) 2 0 rfl rfl rfl rfl hl.1 rfl (Nat.le_of_ble_eq_true rfl) dX5_dawn_25 ⟨Nat.zero_le _, Nat.zero_le _⟩ (fun H locs hP hS => ?_)
  replace hP : va_P G.1 vwCl (W_F G x0 s0 s1 t0 t1 t2 t3 t4 t5 t6 n0 n1 n2 n3 r0 r1 r2 r3 a0 a1 p0 p1 p2 p3 k0 j0 X_ch S_len S_let T_br T_fa T_fd T_fp T_st T_kd T_fs T_fl N_gi N_be dd_5 dd_6 N_pl dd_7 R_gi R_be R_da R_du R_pl R_de dd_1 dd_2 dd_3 P_si P_be P_le P_go K_sl J_fi) H := hP
  cases h
  exact W.iret hx hb hr (fun t ht _ => ⟨⟨_, (), rfl, rfl, by show va_P G.1 vwCl _ t.heap; rw [ht]; exact hP⟩, hS.F ht⟩) hS.2.2 dX5_dawn_28
def f_X2_goTo (M_pl : Nat → Int32) (T_br : Int32) (u1 : Int32) (u2 : Int32) : Option ((Nat → Int32)) := bnd1 (f_X4_hasBroom T_br u1) (fun rr_1 => if rr_1 = 0 then (some M_pl) else (bnd1 (wr M_pl 5 u1 u2) (fun dd_4 => some dd_4)))
set_option maxRecDepth 100000 in
set_option maxHeartbeats 4000000 in
theorem k_X2_goTo (l : Launch) (G : Gt) (m0 m1 m2 m3 t0 t1 t2 t3 t4 t5 t6 : Nat) (M_gi : Int32) (M_be : Int32) (M_da : Int32) (M_du : Nat → Int32) (M_pl : Nat → Int32) (M_de : Nat → Int32) (T_br : Int32) (T_fa : Int32) (T_fd : Nat → Int32) (T_fp : Nat → Int32) (T_st : Nat → Int32) (T_kd : Nat → Int32) (T_fs : Nat → Int32) (T_fl : Nat → Int32) (u1 : Int32) (u2 : Int32) (o_M_pl : Nat → Int32) (h : f_X2_goTo M_pl T_br u1 u2 = some o_M_pl) : CT l yX2_goTo wsX2_goTo 1 21 G [.ref m0, .int u1, .int u2] (W_MT G m0 m1 m2 m3 t0 t1 t2 t3 t4 t5 t6 M_gi M_be M_da M_du M_pl M_de T_br T_fa T_fd T_fp T_st T_kd T_fs T_fl) (QV G (W_MT G m0 m1 m2 m3 t0 t1 t2 t3 t4 t5 t6 M_gi M_be M_da M_du o_M_pl M_de T_br T_fa T_fd T_fp T_st T_kd T_fs T_fl)) := by
  refine met_of cX2_goTo 3 none (by decide) rfl (Nat.le_of_ble_eq_true rfl) ?_
  intro p e s m below meth c A ls hx hb hr hml hts hown hlocks hK hA hD hP hS hl
  replace hown : s.vm.findClass RX2 = some m.cls := hown
  replace hl : lv_has ls 3 [(0, .ref m0), (1, .int u1), (2, .int u2)] := hl
  have S0 : CallFix p m c cX2_goTo 3 s _ wsX2_goTo RX2 := ⟨hx, hb, hml, hown, hts⟩
  have fl33 := hts (.fieldLink RX2 33 "DustVote$Moment" "told" "LDustVote$Told;") (by decide +kernel)
  have inX2 := show ∀ w ∈ wsX20, w ∈ wsX2_goTo from by decide +kernel
  have cw_X4_hasBroom := show CallW (rmv 1 21) s _ RX2 RX4 55 yX4_hasBroom cX4_hasBroom 2 (some .boolean) wsX4_hasBroom (rmv 0 0) 0 0 1 from cwV 1 hts gX2_goTo_X4_hasBroom rfl rfl rfl (by decide +kernel) ⟨Nat.le_of_ble_eq_true rfl, Nat.le_of_ble_eq_true rfl⟩
  have fl15 := hts (.fieldLink RX2 15 "DustVote$Moment" "place" "[I") (by decide +kernel)
  unfold f_X2_goTo at h
  refine lv_aload_n hx hb dX2_goTo_0 rfl (lv_at hl 0 rfl) ?_
  refine va_get (ci := 2) (C := RX2) (T := TX2) (N := 7) hx hb hts inX2 hown hK.1 hP 0 rfl rfl 0 (by decide) fl33 (fun _ h9 => h9) rfl dX2_goTo_1 ?_
  refine lv_iload_n hx hb dX2_goTo_4 rfl (lv_at hl 1 rfl) ?_
  obtain ⟨rr_1, ee_2, h⟩ := bnd1_s h
  refine cVi (As := [.int u1]) (rest := []) S0 hK hA hP (va_D_same hD rfl) hS [4, 5, 6, 7, 8, 9, 10] (k_X4_hasBroom l G t0 t1 t2 t3 t4 t5 t6 T_br T_fa T_fd T_fp T_st T_kd T_fs T_fl u1 rr_1 ee_2) cw_X4_hasBroom rfl rfl (Nat.le_of_ble_eq_true rfl) 4 0 rfl rfl rfl rfl hl.1 rfl (Nat.le_of_ble_eq_true rfl) dX2_goTo_5 ⟨Nat.zero_le _, Nat.zero_le _⟩ (fun H locs hP hS => ?_)
  replace hP : va_P G.1 vwCl (W_MT G m0 m1 m2 m3 t0 t1 t2 t3 t4 t5 t6 M_gi M_be M_da M_du M_pl M_de T_br T_fa T_fd T_fp T_st T_kd T_fs T_fl) H := hP
  refine lv_if_eq (tgt := 18) hx hb dX2_goTo_8 (by decide) (fun cc_3 => ?_) (fun cc_3 => ?_)
  · replace h := if_t cc_3 h
    cases h
    exact W.vret hx hb hr (fun t ht _ => ⟨⟨(), rfl, trivial, by show va_P G.1 vwCl _ t.heap; rw [ht]; exact hP⟩, hS.F ht⟩) hS.2.2 dX2_goTo_18
  · replace h := if_f cc_3 h
    refine lv_aload_n hx hb dX2_goTo_11 rfl (lv_at hl 0 rfl) ?_
    refine va_get (ci := 2) (C := RX2) (T := TX2) (N := 7) hx hb hts inX2 hown hK.1 hP 0 rfl rfl 2 (by decide) fl15 (fun _ h9 => h9) rfl dX2_goTo_12 ?_
    refine lv_iload_n hx hb dX2_goTo_15 rfl (lv_at hl 1 rfl) ?_
    refine lv_iload_n hx hb dX2_goTo_16 rfl (lv_at hl 2 rfl) ?_
    obtain ⟨dd_4, ee_5, h⟩ := bnd1_s h
    refine wIast hx hb hK hP (va_D_same hD rfl) hS 2 rfl ee_5 dX2_goTo_17 (fun H locs hP hS => ?_)
    replace hP : va_P G.1 vwCl (W_MT G m0 m1 m2 m3 t0 t1 t2 t3 t4 t5 t6 M_gi M_be M_da M_du dd_4 M_de T_br T_fa T_fd T_fp T_st T_kd T_fs T_fl) H := hP
    cases h
    exact W.vret hx hb hr (fun t ht _ => ⟨⟨(), rfl, trivial, by show va_P G.1 vwCl _ t.heap; rw [ht]; exact hP⟩, hS.F ht⟩) hS.2.2 dX2_goTo_18
def f_X2_step (M_pl : Nat → Int32) (T_br : Int32) (u1 : Int32) (u2 : Int32) : Option ((Nat → Int32)) := bnd1 (f_X2_placeOf M_pl T_br u1) (fun rr_1 => if u2 = 0 then (bnd1 (f_X2_leftOf rr_1) (fun rr_8 => bnd1 (f_X2_goTo M_pl T_br u1 rr_8) (fun dd_10 => some dd_10))) else (bnd1 (f_X2_rightOf rr_1) (fun rr_4 => bnd1 (f_X2_goTo M_pl T_br u1 rr_4) (fun dd_6 => some dd_6))))
set_option maxRecDepth 100000 in
set_option maxHeartbeats 4000000 in
theorem k_X2_step (l : Launch) (G : Gt) (m0 m1 m2 m3 t0 t1 t2 t3 t4 t5 t6 : Nat) (M_gi : Int32) (M_be : Int32) (M_da : Int32) (M_du : Nat → Int32) (M_pl : Nat → Int32) (M_de : Nat → Int32) (T_br : Int32) (T_fa : Int32) (T_fd : Nat → Int32) (T_fp : Nat → Int32) (T_st : Nat → Int32) (T_kd : Nat → Int32) (T_fs : Nat → Int32) (T_fl : Nat → Int32) (u1 : Int32) (u2 : Int32) (o_M_pl : Nat → Int32) (h : f_X2_step M_pl T_br u1 u2 = some o_M_pl) : CT l yX2_step wsX2_step 2 43 G [.ref m0, .int u1, .int u2] (W_MT G m0 m1 m2 m3 t0 t1 t2 t3 t4 t5 t6 M_gi M_be M_da M_du M_pl M_de T_br T_fa T_fd T_fp T_st T_kd T_fs T_fl) (QV G (W_MT G m0 m1 m2 m3 t0 t1 t2 t3 t4 t5 t6 M_gi M_be M_da M_du o_M_pl M_de T_br T_fa T_fd T_fp T_st T_kd T_fs T_fl)) := by
  refine met_of cX2_step 4 none (by decide) rfl (Nat.le_of_ble_eq_true rfl) ?_
  intro p e s m below meth c A ls hx hb hr hml hts hown hlocks hK hA hD hP hS hl
  replace hown : s.vm.findClass RX2 = some m.cls := hown
  replace hl : lv_has ls 4 [(0, .ref m0), (1, .int u1), (2, .int u2)] := hl
  have S0 : CallFix p m c cX2_step 4 s _ wsX2_step RX2 := ⟨hx, hb, hml, hown, hts⟩
  have cw_X2_placeOf := show CallW (rmv 2 43) s _ RX2 RX2 68 yX2_placeOf cX2_placeOf 2 (some .int) wsX2_placeOf (rmv 1 21) 0 0 1 from cwV 1 hts gX2_step_X2_placeOf rfl rfl rfl (by decide +kernel) ⟨Nat.le_of_ble_eq_true rfl, Nat.le_of_ble_eq_true rfl⟩
  have cw_X2_rightOf := show CallB (rmv 2 43) s _ RX2 80 yX2_rightOf cX2_rightOf 1 (some .int) wsX2_rightOf (rmv 0 0) 0 0 1 ∧ (Cond.static yX2_rightOf).before _ s = true from va_cwS 1 hts gX2_step_X2_rightOf rfl rfl rfl (by decide +kernel) ⟨Nat.le_of_ble_eq_true rfl, Nat.le_of_ble_eq_true rfl⟩
  have cw_X2_goTo := show CallW (rmv 2 43) s _ RX2 RX2 83 yX2_goTo cX2_goTo 3 none wsX2_goTo (rmv 1 21) 0 0 2 from cwV 2 hts gX2_step_X2_goTo rfl rfl rfl (by decide +kernel) ⟨Nat.le_of_ble_eq_true rfl, Nat.le_of_ble_eq_true rfl⟩
  have cw_X2_leftOf := show CallB (rmv 2 43) s _ RX2 77 yX2_leftOf cX2_leftOf 1 (some .int) wsX2_leftOf (rmv 0 0) 0 0 1 ∧ (Cond.static yX2_leftOf).before _ s = true from va_cwS 1 hts gX2_step_X2_leftOf rfl rfl rfl (by decide +kernel) ⟨Nat.le_of_ble_eq_true rfl, Nat.le_of_ble_eq_true rfl⟩
  unfold f_X2_step at h
  refine lv_aload_n hx hb dX2_step_0 rfl (lv_at hl 0 rfl) ?_
  refine lv_iload_n hx hb dX2_step_1 rfl (lv_at hl 1 rfl) ?_
  obtain ⟨rr_1, ee_2, h⟩ := bnd1_s h
  refine cFi (As := [.int u1]) (rest := []) S0 hK hA hP (va_D_same hD rfl) hS (k_X2_placeOf l G m0 m1 m2 m3 t0 t1 t2 t3 t4 t5 t6 M_gi M_be M_da M_du M_pl M_de T_br T_fa T_fd T_fp T_st T_kd T_fs T_fl u1 rr_1 ee_2) cw_X2_placeOf 2 0 rfl rfl rfl rfl hl.1 rfl (Nat.le_of_ble_eq_true rfl) dX2_step_2 ⟨Nat.zero_le _, Nat.zero_le _⟩ (fun H locs hP hS => ?_)
  replace hP : va_P G.1 vwCl (W_MT G m0 m1 m2 m3 t0 t1 t2 t3 t4 t5 t6 M_gi M_be M_da M_du M_pl M_de T_br T_fa T_fd T_fp T_st T_kd T_fs T_fl) H := hP
  refine lv_istore_n (lv' := [(3, .int rr_1), (0, .ref m0), (1, .int u1), (2, .int u2)]) hx hb dX2_step_5 rfl hl (by decide) rfl (fun ls hl => ?_)
  refine lv_aload_n hx hb dX2_step_6 rfl (lv_at hl 1 rfl) ?_
  refine lv_iload_n hx hb dX2_step_7 rfl (lv_at hl 2 rfl) ?_
  refine lv_iload_n hx hb dX2_step_8 rfl (lv_at hl 3 rfl) ?_
  refine lv_if_ne (tgt := 19) hx hb dX2_step_9 (by decide) (fun cc_3 => ?_) (fun cc_3 => ?_)
  · replace h := if_f cc_3 h
    refine lv_iload_n hx hb dX2_step_19 rfl (lv_at hl 0 rfl) ?_
    obtain ⟨rr_4, ee_5, h⟩ := bnd1_s h
    refine cSi (As := [.int rr_1]) (rest := [.int u1, .ref m0]) S0 hK hA hP (va_D_same hD rfl) hS [] (k_X2_rightOf l G rr_1 rr_4 ee_5) cw_X2_rightOf rfl rfl (Nat.le_of_ble_eq_true rfl) rfl hl.1 rfl (Nat.le_of_ble_eq_true rfl) dX2_step_20 ⟨Nat.zero_le _, Nat.zero_le _⟩ (fun H locs hP hS => ?_)
    replace hP : va_P G.1 vwCl (W_MT G m0 m1 m2 m3 t0 t1 t2 t3 t4 t5 t6 M_gi M_be M_da M_du M_pl M_de T_br T_fa T_fd T_fp T_st T_kd T_fs T_fl) H := hP
    obtain ⟨dd_6, ee_7, h⟩ := bnd1_s h
    refine cFv (As := [.int u1, .int rr_4]) (rest := []) S0 hK hA hP (va_D_same hD rfl) hS (k_X2_goTo l G m0 m1 m2 m3 t0 t1 t2 t3 t4 t5 t6 M_gi M_be M_da M_du M_pl M_de T_br T_fa T_fd T_fp T_st T_kd T_fs T_fl u1 rr_4 dd_6 ee_7) cw_X2_goTo 2 0 rfl rfl rfl rfl hl.1 rfl (Nat.le_of_ble_eq_true rfl) dX2_step_23 ⟨Nat.zero_le _, Nat.zero_le _⟩ (fun H locs hP hS => ?_)
    replace hP : va_P G.1 vwCl (W_MT G m0 m1 m2 m3 t0 t1 t2 t3 t4 t5 t6 M_gi M_be M_da M_du dd_6 M_de T_br T_fa T_fd T_fp T_st T_kd T_fs T_fl) H := hP
    cases h
    exact W.vret hx hb hr (fun t ht _ => ⟨⟨(), rfl, trivial, by show va_P G.1 vwCl _ t.heap; rw [ht]; exact hP⟩, hS.F ht⟩) hS.2.2 dX2_step_26
  · replace h := if_t cc_3 h
    refine lv_iload_n hx hb dX2_step_12 rfl (lv_at hl 0 rfl) ?_
    obtain ⟨rr_8, ee_9, h⟩ := bnd1_s h
    refine cSi (As := [.int rr_1]) (rest := [.int u1, .ref m0]) S0 hK hA hP (va_D_same hD rfl) hS [] (k_X2_leftOf l G rr_1 rr_8 ee_9) cw_X2_leftOf rfl rfl (Nat.le_of_ble_eq_true rfl) rfl hl.1 rfl (Nat.le_of_ble_eq_true rfl) dX2_step_13 ⟨Nat.zero_le _, Nat.zero_le _⟩ (fun H locs hP hS => ?_)
    replace hP : va_P G.1 vwCl (W_MT G m0 m1 m2 m3 t0 t1 t2 t3 t4 t5 t6 M_gi M_be M_da M_du M_pl M_de T_br T_fa T_fd T_fp T_st T_kd T_fs T_fl) H := hP
    refine lv_goto (tgt := 23) hx hb dX2_step_16 (by decide) ?_
    obtain ⟨dd_10, ee_11, h⟩ := bnd1_s h
    refine cFv (As := [.int u1, .int rr_8]) (rest := []) S0 hK hA hP (va_D_same hD rfl) hS (k_X2_goTo l G m0 m1 m2 m3 t0 t1 t2 t3 t4 t5 t6 M_gi M_be M_da M_du M_pl M_de T_br T_fa T_fd T_fp T_st T_kd T_fs T_fl u1 rr_8 dd_10 ee_11) cw_X2_goTo 2 0 rfl rfl rfl rfl hl.1 rfl (Nat.le_of_ble_eq_true rfl) dX2_step_23 ⟨Nat.zero_le _, Nat.zero_le _⟩ (fun H locs hP hS => ?_)
    replace hP : va_P G.1 vwCl (W_MT G m0 m1 m2 m3 t0 t1 t2 t3 t4 t5 t6 M_gi M_be M_da M_du dd_10 M_de T_br T_fa T_fd T_fp T_st T_kd T_fs T_fl) H := hP
    cases h
    exact W.vret hx hb hr (fun t ht _ => ⟨⟨(), rfl, trivial, by show va_P G.1 vwCl _ t.heap; rw [ht]; exact hP⟩, hS.F ht⟩) hS.2.2 dX2_step_26
