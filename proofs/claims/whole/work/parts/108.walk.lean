def f_X2_save_61 (cn : Nat) (M_gi : Int32) (M_be : Int32) (M_da : Int32) (M_du : Nat → Int32) (M_pl : Nat → Int32) (v3 : Int32) (q1 : Int32) (q2 : Int32) (C_ce : Nat → Int32) : Option ((Nat → Int32)) := bnd1 (wr C_ce cn q1 q2) (fun dd_1 => bnd1 (wr dd_1 cn (v3 + (1 : Int32)) M_be) (fun dd_3 => bnd1 (wr dd_3 cn (v3 + (2 : Int32)) M_da) (fun dd_5 => some dd_5)))
def f_X2_save (cn : Nat) (M_gi : Int32) (M_be : Int32) (M_da : Int32) (M_du : Nat → Int32) (M_pl : Nat → Int32) (C_ce : Nat → Int32) (u2 : Int32) : Option ((Nat → Int32)) := if u2 < 0 then (some C_ce) else (if u2 ≤ ((Int32.ofNat cn) - (16 : Int32)) then (bnd1 (cp M_du 8 (0 : Int32) C_ce cn u2 (8 : Int32)) (fun dd_9 => bnd1 (cp M_pl 5 (0 : Int32) dd_9 cn (u2 + (8 : Int32)) (5 : Int32)) (fun dd_11 => if M_gi = 0 then (f_X2_save_61 cn M_gi M_be M_da M_du M_pl  ((u2 + (8 : Int32)) + (5 : Int32)) ((u2 + (8 : Int32)) + (5 : Int32)) (0 : Int32) dd_11) else (f_X2_save_61 cn M_gi M_be M_da M_du M_pl  ((u2 + (8 : Int32)) + (5 : Int32)) ((u2 + (8 : Int32)) + (5 : Int32)) (1 : Int32) dd_11)))) else (some C_ce))
set_option maxRecDepth 100000 in
set_option maxHeartbeats 4000000 in
theorem k_X2_save (l : Launch) (G : Gt) (m0 m1 m2 m3 c0 t0 : Nat) (cn : Nat) (M_gi : Int32) (M_be : Int32) (M_da : Int32) (M_du : Nat → Int32) (M_pl : Nat → Int32) (M_de : Nat → Int32) (C_ce : Nat → Int32) (u2 : Int32) (o_C_ce : Nat → Int32) (h : f_X2_save cn M_gi M_be M_da M_du M_pl C_ce u2 = some o_C_ce) : CT l yX2_save wsX2_save 1 18 G [.ref m0, .ref c0, .int u2] (W_MC G m0 m1 m2 m3 c0 t0 cn M_gi M_be M_da M_du M_pl M_de C_ce) (QV G (W_MC G m0 m1 m2 m3 c0 t0 cn M_gi M_be M_da M_du M_pl M_de o_C_ce)) := by
  refine met_of cX2_save 4 none (by decide) rfl (Nat.le_of_ble_eq_true rfl) ?_
  intro p e s m below meth c A ls hx hb hr hml hts hown hlocks hK hA hD hP hS hl
  replace hown : s.vm.findClass RX2 = some m.cls := hown
  replace hl : lv_has ls 4 [(0, .ref m0), (1, .ref c0), (2, .int u2)] := hl
  have S0 : CallFix p m c cX2_save 4 s _ wsX2_save RX2 := ⟨hx, hb, hml, hown, hts⟩
  have fl26 := hts (.fieldLink RX2 26 "DustVote$Moment" "bent" "I") (by decide +kernel)
  have inX2 := show ∀ w ∈ wsX20, w ∈ wsX2_save from by decide +kernel
  have fl30 := hts (.fieldLink RX2 30 "DustVote$Moment" "dawns" "I") (by decide +kernel)
  have fl9 := hts (.fieldLink RX2 9 "DustVote$Moment" "dust" "[I") (by decide +kernel)
  have sy1 := hts (.methodLink RX2 42 arraycopyName) (by decide +kernel)
  have sy2 := hts (.native arraycopyName) (by decide +kernel)
  have sy3 := hts (.static arraycopyName) (by decide +kernel)
  have sy4 := hts (.initialized "java/lang/System") (by decide +kernel)
  have fl15 := hts (.fieldLink RX2 15 "DustVote$Moment" "place" "[I") (by decide +kernel)
  have fl22 := hts (.fieldLink RX2 22 "DustVote$Moment" "given" "Z") (by decide +kernel)
  have J_61 : ∀ (v3 : Int32) (q1 : Int32) (q2 : Int32) (C_ce : Nat → Int32) (H : Heap) (locs : List Loc) (ls : Array Slot), f_X2_save_61 cn M_gi M_be M_da M_du M_pl v3 q1 q2 C_ce = some o_C_ce → va_P G.1 vwCl (W_MC G m0 m1 m2 m3 c0 t0 cn M_gi M_be M_da M_du M_pl M_de C_ce) H → va_S A s.heap H locs → lv_has ls 4 [(0, .ref m0), (1, .ref c0), (3, .int v3)] → W p l e (rmv 1 18) s m (List.toArray [.ref m0, .ref c0, .int u2]) below meth c H locs 0 0 (MQ below ((QV G (W_MC G m0 m1 m2 m3 c0 t0 cn M_gi M_be M_da M_du M_pl M_de o_C_ce)) A) (List.toArray [.ref m0, .ref c0, .int u2]) s 0 0 A) (F0 m 61 ls [.int q2, .int q1, .ref c0]) := by
    intro v3 q1 q2 C_ce H locs ls h hP hS hl
    unfold f_X2_save_61 at h
    obtain ⟨dd_1, ee_2, h⟩ := bnd1_s h
    refine wIast hx hb hK hP (va_D_same hD rfl) hS 4 rfl ee_2 dX2_save_61 (fun H locs hP hS => ?_)
    replace hP : va_P G.1 vwCl (W_MC G m0 m1 m2 m3 c0 t0 cn M_gi M_be M_da M_du M_pl M_de dd_1) H := hP
    refine lv_aload_n hx hb dX2_save_62 rfl (lv_at hl 1 rfl) ?_
    refine lv_iload_n hx hb dX2_save_63 rfl (lv_at hl 2 rfl) ?_
    refine lv_iconst (v := 1) hx hb dX2_save_64 (by decide) ?_
    refine lv_iadd hx hb dX2_save_65 ?_
    refine lv_aload_n hx hb dX2_save_66 rfl (lv_at hl 0 rfl) ?_
    refine va_get (ci := 2) (C := RX2) (T := TX2) (N := 7) hx hb hts inX2 hown hK.1 hP 0 rfl rfl 5 (by decide) fl26 (fun _ h9 => h9) rfl dX2_save_67 ?_
    obtain ⟨dd_3, ee_4, h⟩ := bnd1_s h
    refine wIast hx hb hK hP (va_D_same hD rfl) hS 4 rfl ee_4 dX2_save_70 (fun H locs hP hS => ?_)
    replace hP : va_P G.1 vwCl (W_MC G m0 m1 m2 m3 c0 t0 cn M_gi M_be M_da M_du M_pl M_de dd_3) H := hP
    refine lv_aload_n hx hb dX2_save_71 rfl (lv_at hl 1 rfl) ?_
    refine lv_iload_n hx hb dX2_save_72 rfl (lv_at hl 2 rfl) ?_
    refine lv_iconst (v := 2) hx hb dX2_save_73 (by decide) ?_
    refine lv_iadd hx hb dX2_save_74 ?_
    refine lv_aload_n hx hb dX2_save_75 rfl (lv_at hl 0 rfl) ?_
    refine va_get (ci := 2) (C := RX2) (T := TX2) (N := 7) hx hb hts inX2 hown hK.1 hP 0 rfl rfl 6 (by decide) fl30 (fun _ h9 => h9) rfl dX2_save_76 ?_
    obtain ⟨dd_5, ee_6, h⟩ := bnd1_s h
    refine wIast hx hb hK hP (va_D_same hD rfl) hS 4 rfl ee_6 dX2_save_79 (fun H locs hP hS => ?_)
    replace hP : va_P G.1 vwCl (W_MC G m0 m1 m2 m3 c0 t0 cn M_gi M_be M_da M_du M_pl M_de dd_5) H := hP
    cases h
    exact W.vret hx hb hr (fun t ht _ => ⟨⟨(), rfl, trivial, by show va_P G.1 vwCl _ t.heap; rw [ht]; exact hP⟩, hS.F ht⟩) hS.2.2 dX2_save_80
  unfold f_X2_save at h
  refine lv_iload_n hx hb dX2_save_0 rfl (lv_at hl 2 rfl) ?_
  refine lv_if_lt (tgt := 13) hx hb dX2_save_1 (by decide) (fun cc_7 => ?_) (fun cc_7 => ?_)
  · replace h := if_t cc_7 h
    cases h
    exact W.vret hx hb hr (fun t ht _ => ⟨⟨(), rfl, trivial, by show va_P G.1 vwCl _ t.heap; rw [ht]; exact hP⟩, hS.F ht⟩) hS.2.2 dX2_save_13
  · replace h := if_f cc_7 h
    refine lv_iload_n hx hb dX2_save_4 rfl (lv_at hl 2 rfl) ?_
    refine lv_aload_n hx hb dX2_save_5 rfl (lv_at hl 1 rfl) ?_
    refine va_alen (v := (Int32.ofNat cn)) hx hb hK.1 hP 4 0 rfl rfl rfl dX2_save_6 ?_
    refine lv_bipush (v := 16) hx hb dX2_save_7 (by decide) ?_
    refine lv_isub hx hb dX2_save_9 ?_
    refine lv_icmp_le (tgt := 14) hx hb dX2_save_10 (by decide) (fun cc_8 => ?_) (fun cc_8 => ?_)
    · replace h := if_t cc_8 h
      refine lv_aload_n hx hb dX2_save_14 rfl (lv_at hl 0 rfl) ?_
      refine va_get (ci := 2) (C := RX2) (T := TX2) (N := 7) hx hb hts inX2 hown hK.1 hP 0 rfl rfl 1 (by decide) fl9 (fun _ h9 => h9) rfl dX2_save_15 ?_
      refine lv_iconst (v := 0) hx hb dX2_save_18 (by decide) ?_
      refine lv_aload_n hx hb dX2_save_19 rfl (lv_at hl 1 rfl) ?_
      refine lv_iload_n hx hb dX2_save_20 rfl (lv_at hl 2 rfl) ?_
      refine lv_bipush (v := 8) hx hb dX2_save_21 (by decide) ?_
      obtain ⟨dd_9, ee_10, h⟩ := bnd1_s h
      refine wCopy hx hb (hml.trans hl.1.symm) hown sy1 sy2 sy3 sy4 hK hP (va_D_same hD rfl) hS 1 4 rfl rfl ee_10 (Nat.le_of_ble_eq_true rfl) (Nat.le_of_ble_eq_true rfl) dX2_save_23 (fun H locs hP hS => ?_)
      replace hP : va_P G.1 vwCl (W_MC G m0 m1 m2 m3 c0 t0 cn M_gi M_be M_da M_du M_pl M_de dd_9) H := hP
      refine lv_aload_n hx hb dX2_save_26 rfl (lv_at hl 0 rfl) ?_
      refine va_get (ci := 2) (C := RX2) (T := TX2) (N := 7) hx hb hts inX2 hown hK.1 hP 0 rfl rfl 2 (by decide) fl15 (fun _ h9 => h9) rfl dX2_save_27 ?_
      refine lv_iconst (v := 0) hx hb dX2_save_30 (by decide) ?_
      refine lv_aload_n hx hb dX2_save_31 rfl (lv_at hl 1 rfl) ?_
      refine lv_iload_n hx hb dX2_save_32 rfl (lv_at hl 2 rfl) ?_
      refine lv_bipush (v := 8) hx hb dX2_save_33 (by decide) ?_
      refine lv_iadd hx hb dX2_save_35 ?_
      refine lv_iconst (v := 5) hx hb dX2_save_36 (by decide) ?_
      obtain ⟨dd_11, ee_12, h⟩ := bnd1_s h
      refine wCopy hx hb (hml.trans hl.1.symm) hown sy1 sy2 sy3 sy4 hK hP (va_D_same hD rfl) hS 2 4 rfl rfl ee_12 (Nat.le_of_ble_eq_true rfl) (Nat.le_of_ble_eq_true rfl) dX2_save_37 (fun H locs hP hS => ?_)
      replace hP : va_P G.1 vwCl (W_MC G m0 m1 m2 m3 c0 t0 cn M_gi M_be M_da M_du M_pl M_de dd_11) H := hP
      refine lv_iload_n hx hb dX2_save_40 rfl (lv_at hl 2 rfl) ?_
      refine lv_bipush (v := 8) hx hb dX2_save_41 (by decide) ?_
      refine lv_iadd hx hb dX2_save_43 ?_
      refine lv_iconst (v := 5) hx hb dX2_save_44 (by decide) ?_
      refine lv_iadd hx hb dX2_save_45 ?_
      refine lv_istore_n (lv' := [(3, .int ((u2 + (8 : Int32)) + (5 : Int32))), (0, .ref m0), (1, .ref c0), (2, .int u2)]) hx hb dX2_save_46 rfl hl (by decide) rfl (fun ls hl => ?_)
      refine lv_aload_n hx hb dX2_save_47 rfl (lv_at hl 2 rfl) ?_
      refine lv_iload_n hx hb dX2_save_48 rfl (lv_at hl 0 rfl) ?_
      refine lv_aload_n hx hb dX2_save_49 rfl (lv_at hl 1 rfl) ?_
      refine va_get (ci := 2) (C := RX2) (T := TX2) (N := 7) hx hb hts inX2 hown hK.1 hP 0 rfl rfl 4 (by decide) fl22 (fun _ h9 => h9) rfl dX2_save_50 ?_
      refine lv_if_eq (tgt := 60) hx hb dX2_save_53 (by decide) (fun cc_13 => ?_) (fun cc_13 => ?_)
      · replace h := if_t cc_13 h
        refine lv_iconst (v := 0) hx hb dX2_save_60 (by decide) ?_
        exact J_61  ((u2 + (8 : Int32)) + (5 : Int32)) ((u2 + (8 : Int32)) + (5 : Int32)) (0 : Int32) dd_11 _ _ _ h hP hS (lv_sub hl [1, 2, 0] rfl)
      · replace h := if_f cc_13 h
        refine lv_iconst (v := 1) hx hb dX2_save_56 (by decide) ?_
        refine lv_goto (tgt := 61) hx hb dX2_save_57 (by decide) ?_
        exact J_61  ((u2 + (8 : Int32)) + (5 : Int32)) ((u2 + (8 : Int32)) + (5 : Int32)) (1 : Int32) dd_11 _ _ _ h hP hS (lv_sub hl [1, 2, 0] rfl)
    · replace h := if_f cc_8 h
      cases h
      exact W.vret hx hb hr (fun t ht _ => ⟨⟨(), rfl, trivial, by show va_P G.1 vwCl _ t.heap; rw [ht]; exact hP⟩, hS.F ht⟩) hS.2.2 dX2_save_13
def f_X0_push (A_fi : Int32) (A_si : Int32) (A_ce : Nat → Int32) (M_gi : Int32) (M_be : Int32) (M_da : Int32) (M_du : Nat → Int32) (M_pl : Nat → Int32) : Option (Int32 × Int32 × (Nat → Int32)) := bnd1 (f_X0_spotOf (A_fi + A_si)) (fun rr_1 => bnd1 (f_X2_save 224 M_gi M_be M_da M_du M_pl A_ce rr_1) (fun dd_3 => if (14 : Int32) ≤ A_si then (nm ((A_fi + (1 : Int32)) - (A_fi + (1 : Int32)) / (14 : Int32) * (14 : Int32)) (fun zz_6 => some (zz_6, A_si, dd_3))) else (some (A_fi, (A_si + (1 : Int32)), dd_3))))
set_option maxRecDepth 100000 in
set_option maxHeartbeats 4000000 in
theorem k_X0_push (l : Launch) (G : Gt) (a0 a1 m0 m1 m2 m3 t0 : Nat) (A_fi : Int32) (A_si : Int32) (A_ce : Nat → Int32) (M_gi : Int32) (M_be : Int32) (M_da : Int32) (M_du : Nat → Int32) (M_pl : Nat → Int32) (M_de : Nat → Int32) (o_A_fi : Int32) (o_A_si : Int32) (o_A_ce : Nat → Int32) (h : f_X0_push A_fi A_si A_ce M_gi M_be M_da M_du M_pl = some (o_A_fi, o_A_si, o_A_ce)) : CT l yX0_push wsX0_push 2 41 G [.ref a0, .ref m0] (W_AM G a0 a1 m0 m1 m2 m3 t0 A_fi A_si A_ce M_gi M_be M_da M_du M_pl M_de) (QV G (W_AM G a0 a1 m0 m1 m2 m3 t0 o_A_fi o_A_si o_A_ce M_gi M_be M_da M_du M_pl M_de)) := by
  refine met_of cX0_push 2 none (by decide) rfl (Nat.le_of_ble_eq_true rfl) ?_
  intro p e s m below meth c A ls hx hb hr hml hts hown hlocks hK hA hD hP hS hl
  replace hown : s.vm.findClass RX0 = some m.cls := hown
  replace hl : lv_has ls 2 [(0, .ref a0), (1, .ref m0)] := hl
  have S0 : CallFix p m c cX0_push 2 s _ wsX0_push RX0 := ⟨hx, hb, hml, hown, hts⟩
  have fl9 := hts (.fieldLink RX0 9 "DustVote$ActRow" "cells" "[I") (by decide +kernel)
  have inX0 := show ∀ w ∈ wsX00, w ∈ wsX0_push from by decide +kernel
  have fl15 := hts (.fieldLink RX0 15 "DustVote$ActRow" "first" "I") (by decide +kernel)
  have fl19 := hts (.fieldLink RX0 19 "DustVote$ActRow" "size" "I") (by decide +kernel)
  have cw_X0_spotOf := show CallB (rmv 2 41) s _ RX0 22 yX0_spotOf cX0_spotOf 1 (some .int) wsX0_spotOf (rmv 0 0) 0 0 1 ∧ (Cond.static yX0_spotOf).before _ s = true from va_cwS 1 hts gX0_push_X0_spotOf rfl rfl rfl (by decide +kernel) ⟨Nat.le_of_ble_eq_true rfl, Nat.le_of_ble_eq_true rfl⟩
  have cw_X2_save := show CallW (rmv 2 41) s _ RX0 RX2 26 yX2_save cX2_save 4 none wsX2_save (rmv 1 18) 0 0 2 from cwV 2 hts gX0_push_X2_save rfl rfl rfl (by decide +kernel) ⟨Nat.le_of_ble_eq_true rfl, Nat.le_of_ble_eq_true rfl⟩
  unfold f_X0_push at h
  refine lv_aload_n hx hb dX0_push_0 rfl (lv_at hl 1 rfl) ?_
  refine lv_aload_n hx hb dX0_push_1 rfl (lv_at hl 0 rfl) ?_
  refine va_get (ci := 0) (C := RX0) (T := TX0) (N := 3) hx hb hts inX0 hown hK.1 hP 0 rfl rfl 0 (by decide) fl9 (fun _ h9 => h9) rfl dX0_push_2 ?_
  refine lv_aload_n hx hb dX0_push_5 rfl (lv_at hl 0 rfl) ?_
  refine va_get (ci := 0) (C := RX0) (T := TX0) (N := 3) hx hb hts inX0 hown hK.1 hP 0 rfl rfl 1 (by decide) fl15 (fun _ h9 => h9) rfl dX0_push_6 ?_
  refine lv_aload_n hx hb dX0_push_9 rfl (lv_at hl 0 rfl) ?_
  refine va_get (ci := 0) (C := RX0) (T := TX0) (N := 3) hx hb hts inX0 hown hK.1 hP 0 rfl rfl 2 (by decide) fl19 (fun _ h9 => h9) rfl dX0_push_10 ?_
  refine lv_iadd hx hb dX0_push_13 ?_
  obtain ⟨rr_1, ee_2, h⟩ := bnd1_s h
  refine cSi (As := [.int (A_fi + A_si)]) (rest := [.ref a1, .ref m0]) S0 hK hA hP (va_D_same hD rfl) hS [] (k_X0_spotOf l G (A_fi + A_si) rr_1 ee_2) cw_X0_spotOf rfl rfl (Nat.le_of_ble_eq_true rfl) rfl hl.1 rfl (Nat.le_of_ble_eq_true rfl) dX0_push_14 ⟨Nat.zero_le _, Nat.zero_le _⟩ (fun H locs hP hS => ?_)
  replace hP : va_P G.1 vwCl (W_AM G a0 a1 m0 m1 m2 m3 t0 A_fi A_si A_ce M_gi M_be M_da M_du M_pl M_de) H := hP
  obtain ⟨dd_3, ee_4, h⟩ := bnd1_s h
  refine cVv (As := [.ref a1, .int rr_1]) (rest := []) S0 hK hA hP (va_D_same hD rfl) hS [2, 3, 4, 5, 1] (k_X2_save l G m0 m1 m2 m3 a1 t0 224 M_gi M_be M_da M_du M_pl M_de A_ce rr_1 dd_3 ee_4) cw_X2_save rfl rfl (Nat.le_of_ble_eq_true rfl) 2 0 rfl rfl rfl rfl hl.1 rfl (Nat.le_of_ble_eq_true rfl) dX0_push_17 ⟨Nat.zero_le _, Nat.zero_le _⟩ (fun H locs hP hS => ?_)
  replace hP : va_P G.1 vwCl (W_AM G a0 a1 m0 m1 m2 m3 t0 A_fi A_si dd_3 M_gi M_be M_da M_du M_pl M_de) H := hP
  refine lv_aload_n hx hb dX0_push_20 rfl (lv_at hl 0 rfl) ?_
  refine va_get (ci := 0) (C := RX0) (T := TX0) (N := 3) hx hb hts inX0 hown hK.1 hP 0 rfl rfl 2 (by decide) fl19 (fun _ h9 => h9) rfl dX0_push_21 ?_
  refine lv_bipush (v := 14) hx hb dX0_push_24 (by decide) ?_
  refine lv_icmp_ge (tgt := 42) hx hb dX0_push_26 (by decide) (fun cc_5 => ?_) (fun cc_5 => ?_)
  · replace h := if_t cc_5 h
    refine lv_aload_n hx hb dX0_push_42 rfl (lv_at hl 0 rfl) ?_
    refine lv_aload_n hx hb dX0_push_43 rfl (lv_at hl 0 rfl) ?_
    refine va_get (ci := 0) (C := RX0) (T := TX0) (N := 3) hx hb hts inX0 hown hK.1 hP 0 rfl rfl 1 (by decide) fl15 (fun _ h9 => h9) rfl dX0_push_44 ?_
    refine lv_iconst (v := 1) hx hb dX0_push_47 (by decide) ?_
    refine lv_iadd hx hb dX0_push_48 ?_
    refine lv_bipush (v := 14) hx hb dX0_push_49 (by decide) ?_
    refine lv_irem hx hb dX0_push_51 (by decide) ?_
    refine lv_topi (fun zz_6 ee_7 => ?_)
    replace h := nm_s ee_7 h
    refine va_put (ci := 0) (ty := .int) (C := RX0) (T := TX0) (N := 3) hx hb hts inX0 tyX0 tyX0_ok nmX0 hown hK.1 hP (va_D_same hD rfl) hS 0 rfl rfl 1 (by decide) fl15 (fun _ h9 => h9) rfl (by decide +kernel) rfl rfl (Nat.le_of_ble_eq_true rfl) dX0_push_52 (fun H locs hP _ hS => ?_)
    replace hP : va_P G.1 vwCl (W_AM G a0 a1 m0 m1 m2 m3 t0 zz_6 A_si dd_3 M_gi M_be M_da M_du M_pl M_de) H := hP
    cases h
    exact W.vret hx hb hr (fun t ht _ => ⟨⟨(), rfl, trivial, by show va_P G.1 vwCl _ t.heap; rw [ht]; exact hP⟩, hS.F ht⟩) hS.2.2 dX0_push_55
  · replace h := if_f cc_5 h
    refine lv_aload_n hx hb dX0_push_29 rfl (lv_at hl 0 rfl) ?_
    refine lv_dup hx hb dX0_push_30 rfl ?_
    refine va_get (ci := 0) (C := RX0) (T := TX0) (N := 3) hx hb hts inX0 hown hK.1 hP 0 rfl rfl 2 (by decide) fl19 (fun _ h9 => h9) rfl dX0_push_31 ?_
    refine lv_iconst (v := 1) hx hb dX0_push_34 (by decide) ?_
    refine lv_iadd hx hb dX0_push_35 ?_
    refine va_put (ci := 0) (ty := .int) (C := RX0) (T := TX0) (N := 3) hx hb hts inX0 tyX0 tyX0_ok nmX0 hown hK.1 hP (va_D_same hD rfl) hS 0 rfl rfl 2 (by decide) fl19 (fun _ h9 => h9) rfl (by decide +kernel) rfl rfl (Nat.le_of_ble_eq_true rfl) dX0_push_36 (fun H locs hP _ hS => ?_)
    replace hP : va_P G.1 vwCl (W_AM G a0 a1 m0 m1 m2 m3 t0 A_fi (A_si + (1 : Int32)) dd_3 M_gi M_be M_da M_du M_pl M_de) H := hP
    refine lv_goto (tgt := 55) hx hb dX0_push_39 (by decide) ?_
    cases h
    exact W.vret hx hb hr (fun t ht _ => ⟨⟨(), rfl, trivial, by show va_P G.1 vwCl _ t.heap; rw [ht]; exact hP⟩, hS.F ht⟩) hS.2.2 dX0_push_55
def f_X2_pour (M_du : Nat → Int32) (u1 : Int32) (u2 : Int32) : Option ((Nat → Int32)) := bnd1 (f_X5_isStreet u1) (fun rr_1 => if rr_1 = 0 then (some M_du) else (bnd1 (rd M_du 8 u1) (fun zz_4 => bnd1 (wr M_du 8 u1 (if (zz_4 + u2) < (99 : Int32) then (zz_4 + u2) else (99 : Int32))) (fun dd_6 => some dd_6))))
set_option maxRecDepth 100000 in
set_option maxHeartbeats 4000000 in
theorem k_X2_pour (l : Launch) (G : Gt) (m0 m1 m2 m3 t0 t1 t2 t3 t4 t5 t6 : Nat) (M_gi : Int32) (M_be : Int32) (M_da : Int32) (M_du : Nat → Int32) (M_pl : Nat → Int32) (M_de : Nat → Int32) (T_br : Int32) (T_fa : Int32) (T_fd : Nat → Int32) (T_fp : Nat → Int32) (T_st : Nat → Int32) (T_kd : Nat → Int32) (T_fs : Nat → Int32) (T_fl : Nat → Int32) (u1 : Int32) (u2 : Int32) (o_M_du : Nat → Int32) (h : f_X2_pour M_du u1 u2 = some o_M_du) : CT l yX2_pour wsX2_pour 1 21 G [.ref m0, .int u1, .int u2] (W_MT G m0 m1 m2 m3 t0 t1 t2 t3 t4 t5 t6 M_gi M_be M_da M_du M_pl M_de T_br T_fa T_fd T_fp T_st T_kd T_fs T_fl) (QV G (W_MT G m0 m1 m2 m3 t0 t1 t2 t3 t4 t5 t6 M_gi M_be M_da o_M_du M_pl M_de T_br T_fa T_fd T_fp T_st T_kd T_fs T_fl)) := by
  refine met_of cX2_pour 3 none (by decide) rfl (Nat.le_of_ble_eq_true rfl) ?_
  intro p e s m below meth c A ls hx hb hr hml hts hown hlocks hK hA hD hP hS hl
  replace hown : s.vm.findClass RX2 = some m.cls := hown
  replace hl : lv_has ls 3 [(0, .ref m0), (1, .int u1), (2, .int u2)] := hl
  have S0 : CallFix p m c cX2_pour 3 s _ wsX2_pour RX2 := ⟨hx, hb, hml, hown, hts⟩
  have cw_X5_isStreet := show va_CN (rmv 1 21) s _ RX2 51 yX5_isStreet "DustVote" cX5_isStreet 1 (some .boolean) wsX5_isStreet (rmv 0 0) 0 0 1 ∧ (Cond.static yX5_isStreet).before _ s = true ∧ True from ⟨va_cnB 1 hts gX2_pour_X5_isStreet_n51 rfl rfl rfl (hK.m (by decide)) (hts (.initialized RX5) (by decide +kernel)) (by decide +kernel) ⟨Nat.le_of_ble_eq_true rfl, Nat.le_of_ble_eq_true rfl⟩, hts (.static yX5_isStreet) (by decide +kernel), trivial⟩
  have fl9 := hts (.fieldLink RX2 9 "DustVote$Moment" "dust" "[I") (by decide +kernel)
  have inX2 := show ∀ w ∈ wsX20, w ∈ wsX2_pour from by decide +kernel
  have jmin1 := hts (.methodLink RX2 119 Lib.Math.min.name) (by decide +kernel)
  have jmin2 := hts (.static Lib.Math.min.name) (by decide +kernel)
  have jmin3 := hts (.initialized "java/lang/Math") (by decide +kernel)
  have jmin4 := hts (.code Lib.Math.min.name Lib.Math.min.code 2 (some .int)) (by decide +kernel)
  unfold f_X2_pour at h
  refine lv_iload_n hx hb dX2_pour_0 rfl (lv_at hl 1 rfl) ?_
  obtain ⟨rr_1, ee_2, h⟩ := bnd1_s h
  refine cNi (As := [.int u1]) (rest := []) S0 hK hA hP (va_D_same hD rfl) hS [] (k_X5_isStreet l G u1 rr_1 ee_2) cw_X5_isStreet rfl rfl (Nat.le_of_ble_eq_true rfl) rfl hl.1 rfl (Nat.le_of_ble_eq_true rfl) dX2_pour_1 ⟨Nat.zero_le _, Nat.zero_le _⟩ (fun H locs hP hS => ?_)
  replace hP : va_P G.1 vwCl (W_MT G m0 m1 m2 m3 t0 t1 t2 t3 t4 t5 t6 M_gi M_be M_da M_du M_pl M_de T_br T_fa T_fd T_fp T_st T_kd T_fs T_fl) H := hP
  refine lv_if_eq (tgt := 26) hx hb dX2_pour_4 (by decide) (fun cc_3 => ?_) (fun cc_3 => ?_)
  · replace h := if_t cc_3 h
    cases h
    exact W.vret hx hb hr (fun t ht _ => ⟨⟨(), rfl, trivial, by show va_P G.1 vwCl _ t.heap; rw [ht]; exact hP⟩, hS.F ht⟩) hS.2.2 dX2_pour_26
  · replace h := if_f cc_3 h
    refine lv_aload_n hx hb dX2_pour_7 rfl (lv_at hl 0 rfl) ?_
    refine va_get (ci := 2) (C := RX2) (T := TX2) (N := 7) hx hb hts inX2 hown hK.1 hP 0 rfl rfl 1 (by decide) fl9 (fun _ h9 => h9) rfl dX2_pour_8 ?_
    refine lv_iload_n hx hb dX2_pour_11 rfl (lv_at hl 1 rfl) ?_
    refine lv_bipush (v := 99) hx hb dX2_pour_12 (by decide) ?_
    refine lv_aload_n hx hb dX2_pour_14 rfl (lv_at hl 0 rfl) ?_
    refine va_get (ci := 2) (C := RX2) (T := TX2) (N := 7) hx hb hts inX2 hown hK.1 hP 0 rfl rfl 1 (by decide) fl9 (fun _ h9 => h9) rfl dX2_pour_15 ?_
    refine lv_iload_n hx hb dX2_pour_18 rfl (lv_at hl 1 rfl) ?_
    obtain ⟨zz_4, ee_5, h⟩ := bnd1_s h
    refine wIald hx hb hK hP 1 rfl ee_5 dX2_pour_19 ?_
    refine lv_iload_n hx hb dX2_pour_20 rfl (lv_at hl 2 rfl) ?_
    refine lv_iadd hx hb dX2_pour_21 ?_
    refine va_mmin hx hb (hml.trans hl.1.symm) hown jmin1 jmin2 jmin3 jmin4 (Nat.le_of_ble_eq_true rfl) (Nat.le_of_ble_eq_true rfl) (Nat.zero_le _) (Nat.zero_le _) dX2_pour_22 ?_
    obtain ⟨dd_6, ee_7, h⟩ := bnd1_s h
    refine wIast hx hb hK hP (va_D_same hD rfl) hS 1 rfl ee_7 dX2_pour_25 (fun H locs hP hS => ?_)
    replace hP : va_P G.1 vwCl (W_MT G m0 m1 m2 m3 t0 t1 t2 t3 t4 t5 t6 M_gi M_be M_da dd_6 M_pl M_de T_br T_fa T_fd T_fp T_st T_kd T_fs T_fl) H := hP
    cases h
    exact W.vret hx hb hr (fun t ht _ => ⟨⟨(), rfl, trivial, by show va_P G.1 vwCl _ t.heap; rw [ht]; exact hP⟩, hS.F ht⟩) hS.2.2 dX2_pour_26
def f_X2_comeDown (M_da : Int32) (M_du : Nat → Int32) (T_fa : Int32) (T_fs : Nat → Int32) (T_fl : Nat → Int32) (u1 : Int32) : Option ((Nat → Int32)) := if T_fa ≤ 0 then (some M_du) else (if (5 : Int32) < T_fa then (some M_du) else (if M_da < 0 then (some M_du) else (if T_fa = 0 then none else (bnd1 (rd T_fs 5 (M_da - M_da / T_fa * T_fa)) (fun zz_5 => bnd1 (rd T_fl 5 (M_da - M_da / T_fa * T_fa)) (fun zz_7 => bnd1 (f_X2_pour M_du zz_5 (zz_7 * u1)) (fun dd_9 => some dd_9)))))))
set_option maxRecDepth 100000 in
set_option maxHeartbeats 4000000 in
theorem k_X2_comeDown (l : Launch) (G : Gt) (m0 m1 m2 m3 t0 t1 t2 t3 t4 t5 t6 : Nat) (M_gi : Int32) (M_be : Int32) (M_da : Int32) (M_du : Nat → Int32) (M_pl : Nat → Int32) (M_de : Nat → Int32) (T_br : Int32) (T_fa : Int32) (T_fd : Nat → Int32) (T_fp : Nat → Int32) (T_st : Nat → Int32) (T_kd : Nat → Int32) (T_fs : Nat → Int32) (T_fl : Nat → Int32) (u1 : Int32) (o_M_du : Nat → Int32) (h : f_X2_comeDown M_da M_du T_fa T_fs T_fl u1 = some o_M_du) : CT l yX2_comeDown wsX2_comeDown 2 43 G [.ref m0, .int u1] (W_MT G m0 m1 m2 m3 t0 t1 t2 t3 t4 t5 t6 M_gi M_be M_da M_du M_pl M_de T_br T_fa T_fd T_fp T_st T_kd T_fs T_fl) (QV G (W_MT G m0 m1 m2 m3 t0 t1 t2 t3 t4 t5 t6 M_gi M_be M_da o_M_du M_pl M_de T_br T_fa T_fd T_fp T_st T_kd T_fs T_fl)) := by
  refine met_of cX2_comeDown 4 none (by decide) rfl (Nat.le_of_ble_eq_true rfl) ?_
  intro p e s m below meth c A ls hx hb hr hml hts hown hlocks hK hA hD hP hS hl
  replace hown : s.vm.findClass RX2 = some m.cls := hown
  replace hl : lv_has ls 4 [(0, .ref m0), (1, .int u1)] := hl
  have S0 : CallFix p m c cX2_comeDown 4 s _ wsX2_comeDown RX2 := ⟨hx, hb, hml, hown, hts⟩
  have fl33 := hts (.fieldLink RX2 33 "DustVote$Moment" "told" "LDustVote$Told;") (by decide +kernel)
  have inX2 := show ∀ w ∈ wsX20, w ∈ wsX2_comeDown from by decide +kernel
  have fl97 := hK.f (args := List.toArray [.ref m0, .int u1]) (show ("DustVote$Moment", 97, "DustVote$Told", "falls", "I", "DustVote") ∈ nestF by decide)
  have inX4 := show ∀ w ∈ wsX40, w ∈ wsX2_comeDown from by decide +kernel
  have fl30 := hts (.fieldLink RX2 30 "DustVote$Moment" "dawns" "I") (by decide +kernel)
  have fl100 := hK.f (args := List.toArray [.ref m0, .int u1]) (show ("DustVote$Moment", 100, "DustVote$Told", "fallStreet", "[I", "DustVote") ∈ nestF by decide)
  have fl103 := hK.f (args := List.toArray [.ref m0, .int u1]) (show ("DustVote$Moment", 103, "DustVote$Told", "fallDust", "[I", "DustVote") ∈ nestF by decide)
  have cw_X2_pour := show CallW (rmv 2 43) s _ RX2 RX2 106 yX2_pour cX2_pour 3 none wsX2_pour (rmv 1 21) 0 0 2 from cwV 2 hts gX2_comeDown_X2_pour rfl rfl rfl (by decide +kernel) ⟨Nat.le_of_ble_eq_true rfl, Nat.le_of_ble_eq_true rfl⟩
  unfold f_X2_comeDown at h
  refine lv_aload_n hx hb dX2_comeDown_0 rfl (lv_at hl 0 rfl) ?_
  refine va_get (ci := 2) (C := RX2) (T := TX2) (N := 7) hx hb hts inX2 hown hK.1 hP 0 rfl rfl 0 (by decide) fl33 (fun _ h9 => h9) rfl dX2_comeDown_1 ?_
  refine va_getN (ci := 4) (C := RX4) (T := TX4) (N := 8) hx hb hts inX4 hown hK.1 hP 4 rfl rfl 7 (by decide) fl97 (fun _ h9 => h9) rfl dX2_comeDown_4 ?_
  refine lv_istore_n (lv' := [(2, .int T_fa), (0, .ref m0), (1, .int u1)]) hx hb dX2_comeDown_7 rfl hl (by decide) rfl (fun ls hl => ?_)
  refine lv_iload_n hx hb dX2_comeDown_8 rfl (lv_at hl 0 rfl) ?_
  refine lv_if_le (tgt := 55) hx hb dX2_comeDown_9 (by decide) (fun cc_1 => ?_) (fun cc_1 => ?_)
  · replace h := if_t cc_1 h
    cases h
    exact W.vret hx hb hr (fun t ht _ => ⟨⟨(), rfl, trivial, by show va_P G.1 vwCl _ t.heap; rw [ht]; exact hP⟩, hS.F ht⟩) hS.2.2 dX2_comeDown_55
  · replace h := if_f cc_1 h
    refine lv_iload_n hx hb dX2_comeDown_12 rfl (lv_at hl 0 rfl) ?_
    refine lv_iconst (v := 5) hx hb dX2_comeDown_13 (by decide) ?_
    refine lv_icmp_gt (tgt := 55) hx hb dX2_comeDown_14 (by decide) (fun cc_2 => ?_) (fun cc_2 => ?_)
    · replace h := if_t cc_2 h
      cases h
      exact W.vret hx hb hr (fun t ht _ => ⟨⟨(), rfl, trivial, by show va_P G.1 vwCl _ t.heap; rw [ht]; exact hP⟩, hS.F ht⟩) hS.2.2 dX2_comeDown_55
    · replace h := if_f cc_2 h
      refine lv_aload_n hx hb dX2_comeDown_17 rfl (lv_at hl 1 rfl) ?_
      refine va_get (ci := 2) (C := RX2) (T := TX2) (N := 7) hx hb hts inX2 hown hK.1 hP 0 rfl rfl 6 (by decide) fl30 (fun _ h9 => h9) rfl dX2_comeDown_18 ?_
      refine lv_if_lt (tgt := 55) hx hb dX2_comeDown_21 (by decide) (fun cc_3 => ?_) (fun cc_3 => ?_)
      · replace h := if_t cc_3 h
        cases h
        exact W.vret hx hb hr (fun t ht _ => ⟨⟨(), rfl, trivial, by show va_P G.1 vwCl _ t.heap; rw [ht]; exact hP⟩, hS.F ht⟩) hS.2.2 dX2_comeDown_55
      · replace h := if_f cc_3 h
        refine lv_aload_n hx hb dX2_comeDown_24 rfl (lv_at hl 1 rfl) ?_
        refine va_get (ci := 2) (C := RX2) (T := TX2) (N := 7) hx hb hts inX2 hown hK.1 hP 0 rfl rfl 6 (by decide) fl30 (fun _ h9 => h9) rfl dX2_comeDown_25 ?_
        refine lv_iload_n hx hb dX2_comeDown_28 rfl (lv_at hl 0 rfl) ?_
        by_cases cc_4 : T_fa = 0
        · cases (if_t cc_4 h)
        replace h := if_f cc_4 h
        refine lv_irem hx hb dX2_comeDown_29 cc_4 ?_
        refine lv_istore_n (lv' := [(3, .int (M_da - M_da / T_fa * T_fa)), (2, .int T_fa), (0, .ref m0), (1, .int u1)]) hx hb dX2_comeDown_30 rfl hl (by decide) rfl (fun ls hl => ?_)
        refine lv_aload_n hx hb dX2_comeDown_31 rfl (lv_at hl 2 rfl) ?_
        refine lv_aload_n hx hb dX2_comeDown_32 rfl (lv_at hl 2 rfl) ?_
        refine va_get (ci := 2) (C := RX2) (T := TX2) (N := 7) hx hb hts inX2 hown hK.1 hP 0 rfl rfl 0 (by decide) fl33 (fun _ h9 => h9) rfl dX2_comeDown_33 ?_
        refine va_getN (ci := 4) (C := RX4) (T := TX4) (N := 8) hx hb hts inX4 hown hK.1 hP 4 rfl rfl 4 (by decide) fl100 (fun _ h9 => h9) rfl dX2_comeDown_36 ?_
        refine lv_iload_n hx hb dX2_comeDown_39 rfl (lv_at hl 0 rfl) ?_
        obtain ⟨zz_5, ee_6, h⟩ := bnd1_s h
        refine wIald hx hb hK hP 9 rfl ee_6 dX2_comeDown_40 ?_
        refine lv_aload_n hx hb dX2_comeDown_41 rfl (lv_at hl 2 rfl) ?_
        refine va_get (ci := 2) (C := RX2) (T := TX2) (N := 7) hx hb hts inX2 hown hK.1 hP 0 rfl rfl 0 (by decide) fl33 (fun _ h9 => h9) rfl dX2_comeDown_42 ?_
        refine va_getN (ci := 4) (C := RX4) (T := TX4) (N := 8) hx hb hts inX4 hown hK.1 hP 4 rfl rfl 5 (by decide) fl103 (fun _ h9 => h9) rfl dX2_comeDown_45 ?_
        refine lv_iload_n hx hb dX2_comeDown_48 rfl (lv_at hl 0 rfl) ?_
        obtain ⟨zz_7, ee_8, h⟩ := bnd1_s h
        refine wIald hx hb hK hP 10 rfl ee_8 dX2_comeDown_49 ?_
        refine lv_iload_n hx hb dX2_comeDown_50 rfl (lv_at hl 3 rfl) ?_
        refine lv_imul hx hb dX2_comeDown_51 ?_
        obtain ⟨dd_9, ee_10, h⟩ := bnd1_s h
        refine cFv (As := [.int zz_5, .int (zz_7 * u1)]) (rest := []) S0 hK hA hP (va_D_same hD rfl) hS (k_X2_pour l G m0 m1 m2 m3 t0 t1 t2 t3 t4 t5 t6 M_gi M_be M_da M_du M_pl M_de T_br T_fa T_fd T_fp T_st T_kd T_fs T_fl zz_5 (zz_7 * u1) dd_9 ee_10) cw_X2_pour 2 0 rfl rfl rfl rfl hl.1 rfl (Nat.le_of_ble_eq_true rfl) dX2_comeDown_52 ⟨Nat.zero_le _, Nat.zero_le _⟩ (fun H locs hP hS => ?_)
        replace hP : va_P G.1 vwCl (W_MT G m0 m1 m2 m3 t0 t1 t2 t3 t4 t5 t6 M_gi M_be M_da dd_9 M_pl M_de T_br T_fa T_fd T_fp T_st T_kd T_fs T_fl) H := hP
        cases h
        exact W.vret hx hb hr (fun t ht _ => ⟨⟨(), rfl, trivial, by show va_P G.1 vwCl _ t.heap; rw [ht]; exact hP⟩, hS.F ht⟩) hS.2.2 dX2_comeDown_55
