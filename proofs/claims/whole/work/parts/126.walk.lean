def f_X5_unheap (P_si : Int32) : Option (Int32 × Int32) := some (P_si, (0 : Int32))
set_option maxRecDepth 100000 in
set_option maxHeartbeats 4000000 in
theorem k_X5_unheap (l : Launch) (G : Gt) (x0 s0 s1 t0 t1 t2 t3 t4 t5 t6 n0 n1 n2 n3 r0 r1 r2 r3 a0 a1 p0 p1 p2 p3 k0 j0 : Nat) (X_ch : Int64) (S_len : Int32) (S_let : Nat → Int32) (T_br : Int32) (T_fa : Int32) (T_fd : Nat → Int32) (T_fp : Nat → Int32) (T_st : Nat → Int32) (T_kd : Nat → Int32) (T_fs : Nat → Int32) (T_fl : Nat → Int32) (N_gi : Int32) (N_be : Int32) (N_da : Int32) (N_du : Nat → Int32) (N_pl : Nat → Int32) (N_de : Nat → Int32) (R_gi : Int32) (R_be : Int32) (R_da : Int32) (R_du : Nat → Int32) (R_pl : Nat → Int32) (R_de : Nat → Int32) (A_fi : Int32) (A_si : Int32) (A_ce : Nat → Int32) (P_si : Int32) (P_be : Nat → Int32) (P_le : Nat → Int32) (P_go : Nat → Int32) (K_sl : Nat → Int32) (J_fi : Nat → Int32) (r_ : Int32) (o_P_si : Int32) (h : f_X5_unheap P_si = some (r_, o_P_si)) : CT l yX5_unheap wsX5_unheap 0 0 G [.ref x0] (W_F G x0 s0 s1 t0 t1 t2 t3 t4 t5 t6 n0 n1 n2 n3 r0 r1 r2 r3 a0 a1 p0 p1 p2 p3 k0 j0 X_ch S_len S_let T_br T_fa T_fd T_fp T_st T_kd T_fs T_fl N_gi N_be N_da N_du N_pl N_de R_gi R_be R_da R_du R_pl R_de A_fi A_si A_ce P_si P_be P_le P_go K_sl J_fi) (QI G r_ (W_F G x0 s0 s1 t0 t1 t2 t3 t4 t5 t6 n0 n1 n2 n3 r0 r1 r2 r3 a0 a1 p0 p1 p2 p3 k0 j0 X_ch S_len S_let T_br T_fa T_fd T_fp T_st T_kd T_fs T_fl N_gi N_be N_da N_du N_pl N_de R_gi R_be R_da R_du R_pl R_de A_fi A_si A_ce o_P_si P_be P_le P_go K_sl J_fi)) := by
  refine met_of cX5_unheap 2 (some .int) (by decide) rfl (Nat.le_of_ble_eq_true rfl) ?_
  intro p e s m below meth c A ls hx hb hr hml hts hown hlocks hK hA hD hP hS hl
  replace hown : s.vm.findClass RX5 = some m.cls := hown
  replace hl : lv_has ls 2 [(0, .ref x0)] := hl
  have S0 : CallFix p m c cX5_unheap 2 s _ wsX5_unheap RX5 := ⟨hx, hb, hml, hown, hts⟩
  have fl45 := hts (.fieldLink RX5 45 "DustVote" "heaps" "LDustVote$Heaps;") (by decide +kernel)
  have inX5 := show ∀ w ∈ wsX50, w ∈ wsX5_unheap from by decide +kernel
  have fl203 := hK.f (args := List.toArray [.ref x0]) (show ("DustVote", 203, "DustVote$Heaps", "size", "I", "DustVote") ∈ nestF by decide)
  have inX1 := show ∀ w ∈ wsX10, w ∈ wsX5_unheap from by decide +kernel
  unfold f_X5_unheap at h
  refine lv_aload_n hx hb dX5_unheap_0 rfl (lv_at hl 0 rfl) ?_
  refine va_get (ci := 5) (C := RX5) (T := TX5) (N := 9) hx hb hts inX5 hown hK.1 hP 0 rfl rfl 5 (by decide) fl45 (fun _ h9 => h9) rfl dX5_unheap_1 ?_
  refine va_getN (ci := 1) (C := RX1) (T := TX1) (N := 4) hx hb hts inX1 hown hK.1 hP 20 rfl rfl 3 (by decide) fl203 (fun _ h9 => h9) rfl dX5_unheap_4 ?_
  refine lv_istore_n (lv' := [(1, .int P_si), (0, .ref x0)]) hx hb dX5_unheap_7 rfl hl (by decide) rfl (fun ls hl => ?_)
  refine lv_aload_n hx hb dX5_unheap_8 rfl (lv_at hl 1 rfl) ?_
  refine va_get (ci := 5) (C := RX5) (T := TX5) (N := 9) hx hb hts inX5 hown hK.1 hP 0 rfl rfl 5 (by decide) fl45 (fun _ h9 => h9) rfl dX5_unheap_9 ?_
  refine lv_iconst (v := 0) hx hb dX5_unheap_12 (by decide) ?_
  refine va_putN (ci := 1) (ty := .int) (C := RX1) (T := TX1) (N := 4) hx hb hts inX1 tyX1 tyX1_ok nmX1 hown hK.1 hP (va_D_same hD rfl) hS 20 rfl rfl 3 (by decide) fl203 (fun _ h9 => h9) rfl (by decide +kernel) rfl rfl (Nat.le_of_ble_eq_true rfl) dX5_unheap_13 (fun H locs hP _ hS => ?_)
  replace hP : va_P G.1 vwCl (W_F G x0 s0 s1 t0 t1 t2 t3 t4 t5 t6 n0 n1 n2 n3 r0 r1 r2 r3 a0 a1 p0 p1 p2 p3 k0 j0 X_ch S_len S_let T_br T_fa T_fd T_fp T_st T_kd T_fs T_fl N_gi N_be N_da N_du N_pl N_de R_gi R_be R_da R_du R_pl R_de A_fi A_si A_ce (0 : Int32) P_be P_le P_go K_sl J_fi) H := hP
  refine lv_iload_n hx hb dX5_unheap_16 rfl (lv_at hl 0 rfl) ?_
  cases h
  exact W.iret hx hb hr (fun t ht _ => ⟨⟨_, (), rfl, rfl, by show va_P G.1 vwCl _ t.heap; rw [ht]; exact hP⟩, hS.F ht⟩) hS.2.2 dX5_unheap_17
def f_X1_fit_39 (P_si : Int32) (P_be : Nat → Int32) (P_le : Nat → Int32) (P_go : Nat → Int32) (kk2 : Int32 → Int32 → Int32 → Option (Int32)) (v1 : Int32) (v2 : Int32) (v3 : Int32) (v4 : Int32) (q0 : Int32) : Option (Int32) := bnd1 (rd P_le 6 v3) (fun zz_1 => bnd1 (rd P_be 6 v3) (fun zz_3 => if zz_1 = (zz_3 - v4) then (bnd1 (rd P_go 6 v3) (fun zz_6 => if zz_6 = q0 then (kk2 v1 v2 (v3 + 1)) else (some (0 : Int32)))) else (some (0 : Int32))))
def f_X1_fit_2 (P_si : Int32) (P_be : Nat → Int32) (P_le : Nat → Int32) (P_go : Nat → Int32) : Nat → Int32 → Int32 → Int32 → Option (Int32)
  | 0, _, _, _ => none
  | fu + 1, v1, v2, v3 => if P_si ≤ v3 then (some (1 : Int32)) else (if (6 : Int32) ≤ v3 then (some (1 : Int32)) else (bnd1 (rd P_be 6 v3) (fun zz_11 => if v1 = (1 : Int32) then (f_X1_fit_39 P_si P_be P_le P_go (f_X1_fit_2 P_si P_be P_le P_go fu) v1 v2 v3 (if zz_11 < v2 then zz_11 else v2) (if zz_11 < v2 then zz_11 else v2)) else (f_X1_fit_39 P_si P_be P_le P_go (f_X1_fit_2 P_si P_be P_le P_go fu) v1 v2 v3 (if zz_11 < v2 then zz_11 else v2) (0 : Int32)))))
def f_X1_fit (P_si : Int32) (P_be : Nat → Int32) (P_le : Nat → Int32) (P_go : Nat → Int32) (u1 : Int32) (u2 : Int32) : Option (Int32) := f_X1_fit_2 P_si P_be P_le P_go  130 u1 u2 (0 : Int32)
set_option maxRecDepth 100000 in
set_option maxHeartbeats 4000000 in
theorem k_X1_fit (l : Launch) (G : Gt) (p0 p1 p2 p3 : Nat) (P_si : Int32) (P_be : Nat → Int32) (P_le : Nat → Int32) (P_go : Nat → Int32) (u1 : Int32) (u2 : Int32) (r_ : Int32) (h : f_X1_fit P_si P_be P_le P_go u1 u2 = some r_) : CT l yX1_fit wsX1_fit 1 21 G [.ref p0, .int u1, .int u2] (W_P G p0 p1 p2 p3 P_si P_be P_le P_go) (QI G r_ (W_P G p0 p1 p2 p3 P_si P_be P_le P_go)) := by
  refine met_of cX1_fit 6 (some .boolean) (by decide) rfl (Nat.le_of_ble_eq_true rfl) ?_
  intro p e s m below meth c A ls hx hb hr hml hts hown hlocks hK hA hD hP hS hl
  replace hown : s.vm.findClass RX1 = some m.cls := hown
  replace hl : lv_has ls 6 [(0, .ref p0), (1, .int u1), (2, .int u2)] := hl
  have S0 : CallFix p m c cX1_fit 6 s _ wsX1_fit RX1 := ⟨hx, hb, hml, hown, hts⟩
  have fl15 := hts (.fieldLink RX1 15 "DustVote$Heaps" "left" "[I") (by decide +kernel)
  have inX1 := show ∀ w ∈ wsX10, w ∈ wsX1_fit from by decide +kernel
  have fl9 := hts (.fieldLink RX1 9 "DustVote$Heaps" "before" "[I") (by decide +kernel)
  have fl18 := hts (.fieldLink RX1 18 "DustVote$Heaps" "gone" "[I") (by decide +kernel)
  have fl21 := hts (.fieldLink RX1 21 "DustVote$Heaps" "size" "I") (by decide +kernel)
  have jmin1 := hts (.methodLink RX1 25 Lib.Math.min.name) (by decide +kernel)
  have jmin2 := hts (.static Lib.Math.min.name) (by decide +kernel)
  have jmin3 := hts (.initialized "java/lang/Math") (by decide +kernel)
  have jmin4 := hts (.code Lib.Math.min.name Lib.Math.min.code 2 (some .int)) (by decide +kernel)
  have J_39 : ∀ (kk2 : Int32 → Int32 → Int32 → Option (Int32)) (hk2 : ∀ (v1 : Int32) (v2 : Int32) (v3 : Int32) (H : Heap) (locs : List Loc) (ls : Array Slot), kk2 v1 v2 v3 = some r_ → va_P G.1 vwCl (W_P G p0 p1 p2 p3 P_si P_be P_le P_go) H → va_S A s.heap H locs → lv_has ls 6 [(0, .ref p0), (1, .int v1), (2, .int v2), (3, .int v3)] → W p l e (rmv 1 21) s m (List.toArray [.ref p0, .int u1, .int u2]) below meth c H locs 0 0 (MQ below ((QI G r_ (W_P G p0 p1 p2 p3 P_si P_be P_le P_go)) A) (List.toArray [.ref p0, .int u1, .int u2]) s 0 0 A) (F0 m 2 ls [])), ∀ (v1 : Int32) (v2 : Int32) (v3 : Int32) (v4 : Int32) (q0 : Int32) (H : Heap) (locs : List Loc) (ls : Array Slot), f_X1_fit_39 P_si P_be P_le P_go kk2 v1 v2 v3 v4 q0 = some r_ → va_P G.1 vwCl (W_P G p0 p1 p2 p3 P_si P_be P_le P_go) H → va_S A s.heap H locs → lv_has ls 6 [(0, .ref p0), (1, .int v1), (2, .int v2), (3, .int v3), (4, .int v4)] → W p l e (rmv 1 21) s m (List.toArray [.ref p0, .int u1, .int u2]) below meth c H locs 0 0 (MQ below ((QI G r_ (W_P G p0 p1 p2 p3 P_si P_be P_le P_go)) A) (List.toArray [.ref p0, .int u1, .int u2]) s 0 0 A) (F0 m 39 ls [.int q0]) := by
    intro kk2 hk2 v1 v2 v3 v4 q0 H locs ls h hP hS hl
    unfold f_X1_fit_39 at h
    refine lv_istore (lv' := [(5, .int q0), (0, .ref p0), (1, .int v1), (2, .int v2), (3, .int v3), (4, .int v4)]) hx hb dX1_fit_39 hl (by decide) rfl (fun ls hl => ?_)
    refine lv_aload_n hx hb dX1_fit_41 rfl (lv_at hl 1 rfl) ?_
    refine va_get (ci := 1) (C := RX1) (T := TX1) (N := 4) hx hb hts inX1 hown hK.1 hP 0 rfl rfl 1 (by decide) fl15 (fun _ h9 => h9) rfl dX1_fit_42 ?_
    refine lv_iload_n hx hb dX1_fit_45 rfl (lv_at hl 4 rfl) ?_
    obtain ⟨zz_1, ee_2, h⟩ := bnd1_s h
    refine wIald hx hb hK hP 2 rfl ee_2 dX1_fit_46 ?_
    refine lv_aload_n hx hb dX1_fit_47 rfl (lv_at hl 1 rfl) ?_
    refine va_get (ci := 1) (C := RX1) (T := TX1) (N := 4) hx hb hts inX1 hown hK.1 hP 0 rfl rfl 0 (by decide) fl9 (fun _ h9 => h9) rfl dX1_fit_48 ?_
    refine lv_iload_n hx hb dX1_fit_51 rfl (lv_at hl 4 rfl) ?_
    obtain ⟨zz_3, ee_4, h⟩ := bnd1_s h
    refine wIald hx hb hK hP 1 rfl ee_4 dX1_fit_52 ?_
    refine lv_iload hx hb dX1_fit_53 (lv_at hl 5 rfl) ?_
    refine lv_isub hx hb dX1_fit_55 ?_
    refine lv_icmp_ne (tgt := 70) hx hb dX1_fit_56 (by decide) (fun cc_5 => ?_) (fun cc_5 => ?_)
    · replace h := if_f cc_5 h
      refine lv_iconst (v := 0) hx hb dX1_fit_70 (by decide) ?_
      cases h
      exact W.zret (ty := .boolean) hx hb hr (by decide) (fun t ht _ => ⟨⟨_, (), rfl, rfl, by show va_P G.1 vwCl _ t.heap; rw [ht]; exact hP⟩, hS.F ht⟩) hS.2.2 dX1_fit_71
    · replace h := if_t cc_5 h
      refine lv_aload_n hx hb dX1_fit_59 rfl (lv_at hl 1 rfl) ?_
      refine va_get (ci := 1) (C := RX1) (T := TX1) (N := 4) hx hb hts inX1 hown hK.1 hP 0 rfl rfl 2 (by decide) fl18 (fun _ h9 => h9) rfl dX1_fit_60 ?_
      refine lv_iload_n hx hb dX1_fit_63 rfl (lv_at hl 4 rfl) ?_
      obtain ⟨zz_6, ee_7, h⟩ := bnd1_s h
      refine wIald hx hb hK hP 3 rfl ee_7 dX1_fit_64 ?_
      refine lv_iload hx hb dX1_fit_65 (lv_at hl 0 rfl) ?_
      refine lv_icmp_eq (tgt := 72) hx hb dX1_fit_67 (by decide) (fun cc_8 => ?_) (fun cc_8 => ?_)
      · replace h := if_t cc_8 h
        refine lv_iinc (v := (v3 + 1)) (lv' := [(3, .int (v3 + 1)), (5, .int q0), (0, .ref p0), (1, .int v1), (2, .int v2), (4, .int v4)]) hx hb dX1_fit_72 hl (k := 4) rfl rfl (by decide) rfl (fun ls hl => ?_)
        refine lv_goto (tgt := 2) hx hb dX1_fit_75 (by decide) ?_
        exact hk2 v1 v2 (v3 + 1) _ _ _ h hP hS (lv_sub hl [2, 3, 4, 0] rfl)
      · replace h := if_f cc_8 h
        refine lv_iconst (v := 0) hx hb dX1_fit_70 (by decide) ?_
        cases h
        exact W.zret (ty := .boolean) hx hb hr (by decide) (fun t ht _ => ⟨⟨_, (), rfl, rfl, by show va_P G.1 vwCl _ t.heap; rw [ht]; exact hP⟩, hS.F ht⟩) hS.2.2 dX1_fit_71
  have J_2 : ∀ (fu : Nat), ∀ (v1 : Int32) (v2 : Int32) (v3 : Int32) (H : Heap) (locs : List Loc) (ls : Array Slot), f_X1_fit_2 P_si P_be P_le P_go fu v1 v2 v3 = some r_ → va_P G.1 vwCl (W_P G p0 p1 p2 p3 P_si P_be P_le P_go) H → va_S A s.heap H locs → lv_has ls 6 [(0, .ref p0), (1, .int v1), (2, .int v2), (3, .int v3)] → W p l e (rmv 1 21) s m (List.toArray [.ref p0, .int u1, .int u2]) below meth c H locs 0 0 (MQ below ((QI G r_ (W_P G p0 p1 p2 p3 P_si P_be P_le P_go)) A) (List.toArray [.ref p0, .int u1, .int u2]) s 0 0 A) (F0 m 2 ls []) := by
    intro  fu
    induction fu with
    | zero =>
      intro v1 v2 v3 H locs ls h
      cases h
    | succ fu ih =>
      intro v1 v2 v3 H locs ls h hP hS hl
      rw [f_X1_fit_2] at h
      refine lv_iload_n hx hb dX1_fit_2 rfl (lv_at hl 3 rfl) ?_
      refine lv_aload_n hx hb dX1_fit_3 rfl (lv_at hl 0 rfl) ?_
      refine va_get (ci := 1) (C := RX1) (T := TX1) (N := 4) hx hb hts inX1 hown hK.1 hP 0 rfl rfl 3 (by decide) fl21 (fun _ h9 => h9) rfl dX1_fit_4 ?_
      refine lv_icmp_ge (tgt := 78) hx hb dX1_fit_7 (by decide) (fun cc_9 => ?_) (fun cc_9 => ?_)
      · replace h := if_t cc_9 h
        refine lv_iconst (v := 1) hx hb dX1_fit_78 (by decide) ?_
        cases h
        exact W.zret (ty := .boolean) hx hb hr (by decide) (fun t ht _ => ⟨⟨_, (), rfl, rfl, by show va_P G.1 vwCl _ t.heap; rw [ht]; exact hP⟩, hS.F ht⟩) hS.2.2 dX1_fit_79
      · replace h := if_f cc_9 h
        refine lv_iload_n hx hb dX1_fit_10 rfl (lv_at hl 3 rfl) ?_
        refine lv_bipush (v := 6) hx hb dX1_fit_11 (by decide) ?_
        refine lv_icmp_ge (tgt := 78) hx hb dX1_fit_13 (by decide) (fun cc_10 => ?_) (fun cc_10 => ?_)
        · replace h := if_t cc_10 h
          refine lv_iconst (v := 1) hx hb dX1_fit_78 (by decide) ?_
          cases h
          exact W.zret (ty := .boolean) hx hb hr (by decide) (fun t ht _ => ⟨⟨_, (), rfl, rfl, by show va_P G.1 vwCl _ t.heap; rw [ht]; exact hP⟩, hS.F ht⟩) hS.2.2 dX1_fit_79
        · replace h := if_f cc_10 h
          refine lv_iload_n hx hb dX1_fit_16 rfl (lv_at hl 2 rfl) ?_
          refine lv_aload_n hx hb dX1_fit_17 rfl (lv_at hl 0 rfl) ?_
          refine va_get (ci := 1) (C := RX1) (T := TX1) (N := 4) hx hb hts inX1 hown hK.1 hP 0 rfl rfl 0 (by decide) fl9 (fun _ h9 => h9) rfl dX1_fit_18 ?_
          refine lv_iload_n hx hb dX1_fit_21 rfl (lv_at hl 3 rfl) ?_
          obtain ⟨zz_11, ee_12, h⟩ := bnd1_s h
          refine wIald hx hb hK hP 1 rfl ee_12 dX1_fit_22 ?_
          refine va_mmin hx hb (hml.trans hl.1.symm) hown jmin1 jmin2 jmin3 jmin4 (Nat.le_of_ble_eq_true rfl) (Nat.le_of_ble_eq_true rfl) (Nat.zero_le _) (Nat.zero_le _) dX1_fit_23 ?_
          refine lv_istore (lv' := [(4, .int (if zz_11 < v2 then zz_11 else v2)), (0, .ref p0), (1, .int v1), (2, .int v2), (3, .int v3)]) hx hb dX1_fit_26 hl (by decide) rfl (fun ls hl => ?_)
          refine lv_iload_n hx hb dX1_fit_28 rfl (lv_at hl 2 rfl) ?_
          refine lv_iconst (v := 1) hx hb dX1_fit_29 (by decide) ?_
          refine lv_icmp_ne (tgt := 38) hx hb dX1_fit_30 (by decide) (fun cc_13 => ?_) (fun cc_13 => ?_)
          · replace h := if_f cc_13 h
            refine lv_iconst (v := 0) hx hb dX1_fit_38 (by decide) ?_
            exact J_39 (f_X1_fit_2 P_si P_be P_le P_go fu) ih v1 v2 v3 (if zz_11 < v2 then zz_11 else v2) (0 : Int32) _ _ _ h hP hS (lv_sub hl [1, 2, 3, 4, 0] rfl)
          · replace h := if_t cc_13 h
            refine lv_iload hx hb dX1_fit_33 (lv_at hl 0 rfl) ?_
            refine lv_goto (tgt := 39) hx hb dX1_fit_35 (by decide) ?_
            exact J_39 (f_X1_fit_2 P_si P_be P_le P_go fu) ih v1 v2 v3 (if zz_11 < v2 then zz_11 else v2) (if zz_11 < v2 then zz_11 else v2) _ _ _ h hP hS (lv_sub hl [1, 2, 3, 4, 0] rfl)
  unfold f_X1_fit at h
  refine lv_iconst (v := 0) hx hb dX1_fit_0 (by decide) ?_
  refine lv_istore_n (lv' := [(3, .int (0 : Int32)), (0, .ref p0), (1, .int u1), (2, .int u2)]) hx hb dX1_fit_1 rfl hl (by decide) rfl (fun ls hl => ?_)
  exact J_2  130 u1 u2 (0 : Int32) _ _ _ h hP hS (lv_sub hl [1, 2, 3, 0] rfl)
