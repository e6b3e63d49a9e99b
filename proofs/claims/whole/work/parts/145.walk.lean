def f_X6_isBroom (Y_br : Int32) (u1 : Int32) : Option (Int32) := bnd1 (f_X6_in (u1.toInt64) (0 : Int64) ((Y_br - (1 : Int32)).toInt64)) (fun rr_1 => bnd1 (zr rr_1) (fun zz_3 => some zz_3))
set_option maxRecDepth 100000 in
set_option maxHeartbeats 4000000 in
theorem k_X6_isBroom (l : Launch) (G : Gt) (y0 y1 y2 y3 y4 y5 y6 y7 y8 y9 y10 y11 y12 y13 y14 y15 : Nat) (Y_br : Int32) (Y_fa : Int32) (Y_rbs : Int32) (Y_rfs : Int32) (Y_len : Int32) (Y_at : Int32) (Y_fau : Int32) (Y_wk : Int32) (Y_ac : Int32) (Y_nx : Int32) (Y_hs : Int32) (Y_sd : Int64) (Y_st : Nat → Int32) (Y_kd : Nat → Int32) (Y_fs : Nat → Int32) (Y_fl : Nat → Int32) (Y_now : Nat → Int32) (Y_rd : Nat → Int32) (Y_rb : Nat → Int32) (Y_rf : Nat → Int32) (Y_tx : Nat → Int32) (Y_row : Nat → Int32) (Y_hh : Nat → Int32) (Y_hl : Nat → Int32) (Y_hw : Nat → Int32) (Y_ik : Nat → Int32) (Y_kp : Nat → Int32) (u1 : Int32) (r_ : Int32) (h : f_X6_isBroom Y_br u1 = some r_) : CT l yX6_isBroom wsX6_isBroom 1 25 G [.ref y0, .int u1] (W_Y G y0 y1 y2 y3 y4 y5 y6 y7 y8 y9 y10 y11 y12 y13 y14 y15 Y_br Y_fa Y_rbs Y_rfs Y_len Y_at Y_fau Y_wk Y_ac Y_nx Y_hs Y_sd Y_st Y_kd Y_fs Y_fl Y_now Y_rd Y_rb Y_rf Y_tx Y_row Y_hh Y_hl Y_hw Y_ik Y_kp) (QI G r_ (W_Y G y0 y1 y2 y3 y4 y5 y6 y7 y8 y9 y10 y11 y12 y13 y14 y15 Y_br Y_fa Y_rbs Y_rfs Y_len Y_at Y_fau Y_wk Y_ac Y_nx Y_hs Y_sd Y_st Y_kd Y_fs Y_fl Y_now Y_rd Y_rb Y_rf Y_tx Y_row Y_hh Y_hl Y_hw Y_ik Y_kp)) := by
  refine met_of cX6_isBroom 2 (some .boolean) (by decide) rfl (Nat.le_of_ble_eq_true rfl) ?_
  intro p e s m below meth c A ls hx hb hr hml hts hown hlocks hK hA hD hP hS hl
  replace hown : s.vm.findClass RX6 = some m.cls := hown
  replace hl : lv_has ls 2 [(0, .ref y0), (1, .int u1)] := hl
  have S0 : CallFix p m c cX6_isBroom 2 s _ wsX6_isBroom RX6 := ⟨hx, hb, hml, hown, hts⟩
  have fl93 := hts (.fieldLink RX6 93 "DustVoteModel" "brooms" "I") (by decide +kernel)
  have inX6 := show ∀ w ∈ wsX60, w ∈ wsX6_isBroom from by decide +kernel
  have cw_X6_in := show CallB (rmv 1 25) s _ RX6 62 yX6_in cX6_in 6 (some .boolean) wsX6_in (rmv 0 0) 0 0 3 ∧ (Cond.static yX6_in).before _ s = true from va_cwS 3 hts gX6_isBroom_X6_in rfl rfl rfl (by decide +kernel) ⟨Nat.le_of_ble_eq_true rfl, Nat.le_of_ble_eq_true rfl⟩
  unfold f_X6_isBroom at h
  refine lv_iload_n hx hb dX6_isBroom_0 rfl (lv_at hl 1 rfl) ?_
  refine lv_i2l (v := u1.toInt64) hx hb dX6_isBroom_1 rfl ?_
  refine lv_lconst (v := 0) hx hb dX6_isBroom_2 (by decide) ?_
  refine lv_aload_n hx hb dX6_isBroom_3 rfl (lv_at hl 0 rfl) ?_
  refine va_get (ci := 6) (C := RX6) (T := TX6) (N := 27) hx hb hts inX6 hown hK.1 hP 0 rfl rfl 0 (by decide) fl93 (fun _ h9 => h9) rfl dX6_isBroom_4 ?_
  refine lv_iconst (v := 1) hx hb dX6_isBroom_7 (by decide) ?_
  refine lv_isub hx hb dX6_isBroom_8 ?_
  refine lv_i2l (v := (Y_br - (1 : Int32)).toInt64) hx hb dX6_isBroom_9 rfl ?_
  obtain ⟨rr_1, ee_2, h⟩ := bnd1_s h
  refine cSi (As := [.long (u1.toInt64), .long (0 : Int64), .long ((Y_br - (1 : Int32)).toInt64)]) (rest := []) S0 hK hA hP (va_D_same hD rfl) hS [] (k_X6_in l G (u1.toInt64) (0 : Int64) ((Y_br - (1 : Int32)).toInt64) rr_1 ee_2) cw_X6_in rfl rfl (Nat.le_of_ble_eq_true rfl) rfl hl.1 rfl (Nat.le_of_ble_eq_true rfl) dX6_isBroom_10 ⟨Nat.zero_le _, Nat.zero_le _⟩ (fun H locs hP hS => ?_)
  replace hP : va_P G.1 vwCl (W_Y G y0 y1 y2 y3 y4 y5 y6 y7 y8 y9 y10 y11 y12 y13 y14 y15 Y_br Y_fa Y_rbs Y_rfs Y_len Y_at Y_fau Y_wk Y_ac Y_nx Y_hs Y_sd Y_st Y_kd Y_fs Y_fl Y_now Y_rd Y_rb Y_rf Y_tx Y_row Y_hh Y_hl Y_hw Y_ik Y_kp) H := hP
  obtain ⟨zz_3, ee_4, h⟩ := bnd1_s h
  obtain ⟨rfl, gee_4, -⟩ := zr_s ee_4
  cases h
  exact W.zret (ty := .boolean) hx hb hr gee_4 (fun t ht _ => ⟨⟨_, (), rfl, rfl, by show va_P G.1 vwCl _ t.heap; rw [ht]; exact hP⟩, hS.F ht⟩) hS.2.2 dX6_isBroom_13
def f_X6_isStreet (u1 : Int32) : Option (Int32) := bnd1 (f_X6_in (u1.toInt64) (0 : Int64) (7 : Int64)) (fun rr_1 => bnd1 (zr rr_1) (fun zz_3 => some zz_3))
set_option maxRecDepth 100000 in
set_option maxHeartbeats 4000000 in
theorem k_X6_isStreet (l : Launch) (G : Gt) (u1 : Int32) (r_ : Int32) (h : f_X6_isStreet u1 = some r_) : CT l yX6_isStreet wsX6_isStreet 1 25 G [.int u1] (W_0 G) (QI G r_ (W_0 G)) := by
  refine met_of cX6_isStreet 1 (some .boolean) (by decide) rfl (Nat.le_of_ble_eq_true rfl) ?_
  intro p e s m below meth c A ls hx hb hr hml hts hown hlocks hK hA hD hP hS hl
  replace hown : s.vm.findClass RX6 = some m.cls := hown
  replace hl : lv_has ls 1 [(0, .int u1)] := hl
  have S0 : CallFix p m c cX6_isStreet 1 s _ wsX6_isStreet RX6 := ⟨hx, hb, hml, hown, hts⟩
  have cl102 := hts (.constantLong RX6 102 (7)) (by decide +kernel)
  have cw_X6_in := show CallB (rmv 1 25) s _ RX6 62 yX6_in cX6_in 6 (some .boolean) wsX6_in (rmv 0 0) 0 0 3 ∧ (Cond.static yX6_in).before _ s = true from va_cwS 3 hts gX6_isStreet_X6_in rfl rfl rfl (by decide +kernel) ⟨Nat.le_of_ble_eq_true rfl, Nat.le_of_ble_eq_true rfl⟩
  unfold f_X6_isStreet at h
  refine lv_iload_n hx hb dX6_isStreet_0 rfl (lv_at hl 0 rfl) ?_
  refine lv_i2l (v := u1.toInt64) hx hb dX6_isStreet_1 rfl ?_
  refine lv_lconst (v := 0) hx hb dX6_isStreet_2 (by decide) ?_
  refine lv_ldc2 (v := 7) hx hb hown cl102 dX6_isStreet_3 ?_
  obtain ⟨rr_1, ee_2, h⟩ := bnd1_s h
  refine cSi (As := [.long (u1.toInt64), .long (0 : Int64), .long (7 : Int64)]) (rest := []) S0 hK hA hP (va_D_same hD rfl) hS [] (k_X6_in l G (u1.toInt64) (0 : Int64) (7 : Int64) rr_1 ee_2) cw_X6_in rfl rfl (Nat.le_of_ble_eq_true rfl) rfl hl.1 rfl (Nat.le_of_ble_eq_true rfl) dX6_isStreet_6 ⟨Nat.zero_le _, Nat.zero_le _⟩ (fun H locs hP hS => ?_)
  replace hP : va_P G.1 vwCl (W_0 G) H := hP
  obtain ⟨zz_3, ee_4, h⟩ := bnd1_s h
  obtain ⟨rfl, gee_4, -⟩ := zr_s ee_4
  cases h
  exact W.zret (ty := .boolean) hx hb hr gee_4 (fun t ht _ => ⟨⟨_, (), rfl, rfl, by show va_P G.1 vwCl _ t.heap; rw [ht]; exact hP⟩, hS.F ht⟩) hS.2.2 dX6_isStreet_9
def f_X6_worksAs_40 (Y_kd : Nat → Int32) (Y_now : Nat → Int32) (v2 : Int32) (q0 : Int32) : Option (Int32) := bnd1 (rd Y_kd 5 v2) (fun zz_1 => if zz_1 = (2 : Int32) then (some (2 : Int32)) else (if q0 = 0 then (bnd1 (rd Y_kd 5 v2) (fun zz_5 => if zz_5 = 0 then (some (0 : Int32)) else (bnd1 (rd Y_kd 5 v2) (fun zz_8 => some zz_8)))) else (some (0 : Int32))))
def f_X6_worksAs_35 (Y_kd : Nat → Int32) (Y_now : Nat → Int32) (v2 : Int32) : Option (Int32) := f_X6_worksAs_40 Y_kd Y_now  v2 (1 : Int32)
def f_X6_worksAs (Y_kd : Nat → Int32) (Y_now : Nat → Int32) (u1 : Int32) (u2 : Int32) : Option (Int32) := bnd1 (rd Y_now 32 (((16 : Int32) * u1) + (13 : Int32))) (fun zz_10 => if zz_10 = (1 : Int32) then (f_X6_worksAs_35 Y_kd Y_now  u2) else (bnd1 (rd Y_now 32 (((16 : Int32) * u1) + (14 : Int32))) (fun zz_13 => bnd1 (f_X6_has zz_13 u2) (fun rr_15 => if rr_15 = 0 then (f_X6_worksAs_40 Y_kd Y_now  u2 (0 : Int32)) else (f_X6_worksAs_35 Y_kd Y_now  u2)))))
set_option maxRecDepth 100000 in
set_option maxHeartbeats 4000000 in
theorem k_X6_worksAs (l : Launch) (G : Gt) (y0 y1 y2 y3 y4 y5 y6 y7 y8 y9 y10 y11 y12 y13 y14 y15 : Nat) (Y_br : Int32) (Y_fa : Int32) (Y_rbs : Int32) (Y_rfs : Int32) (Y_len : Int32) (Y_at : Int32) (Y_fau : Int32) (Y_wk : Int32) (Y_ac : Int32) (Y_nx : Int32) (Y_hs : Int32) (Y_sd : Int64) (Y_st : Nat → Int32) (Y_kd : Nat → Int32) (Y_fs : Nat → Int32) (Y_fl : Nat → Int32) (Y_now : Nat → Int32) (Y_rd : Nat → Int32) (Y_rb : Nat → Int32) (Y_rf : Nat → Int32) (Y_tx : Nat → Int32) (Y_row : Nat → Int32) (Y_hh : Nat → Int32) (Y_hl : Nat → Int32) (Y_hw : Nat → Int32) (Y_ik : Nat → Int32) (Y_kp : Nat → Int32) (u1 : Int32) (u2 : Int32) (r_ : Int32) (h : f_X6_worksAs Y_kd Y_now u1 u2 = some r_) : CT l yX6_worksAs wsX6_worksAs 1 21 G [.ref y0, .int u1, .int u2] (W_Y G y0 y1 y2 y3 y4 y5 y6 y7 y8 y9 y10 y11 y12 y13 y14 y15 Y_br Y_fa Y_rbs Y_rfs Y_len Y_at Y_fau Y_wk Y_ac Y_nx Y_hs Y_sd Y_st Y_kd Y_fs Y_fl Y_now Y_rd Y_rb Y_rf Y_tx Y_row Y_hh Y_hl Y_hw Y_ik Y_kp) (QI G r_ (W_Y G y0 y1 y2 y3 y4 y5 y6 y7 y8 y9 y10 y11 y12 y13 y14 y15 Y_br Y_fa Y_rbs Y_rfs Y_len Y_at Y_fau Y_wk Y_ac Y_nx Y_hs Y_sd Y_st Y_kd Y_fs Y_fl Y_now Y_rd Y_rb Y_rf Y_tx Y_row Y_hh Y_hl Y_hw Y_ik Y_kp)) := by
  refine met_of cX6_worksAs 4 (some .int) (by decide) rfl (Nat.le_of_ble_eq_true rfl) ?_
  intro p e s m below meth c A ls hx hb hr hml hts hown hlocks hK hA hD hP hS hl
  replace hown : s.vm.findClass RX6 = some m.cls := hown
  replace hl : lv_has ls 4 [(0, .ref y0), (1, .int u1), (2, .int u2)] := hl
  have S0 : CallFix p m c cX6_worksAs 4 s _ wsX6_worksAs RX6 := ⟨hx, hb, hml, hown, hts⟩
  have fl13 := hts (.fieldLink RX6 13 "DustVoteModel" "kind" "[I") (by decide +kernel)
  have inX6 := show ∀ w ∈ wsX60, w ∈ wsX6_worksAs from by decide +kernel
  have fl22 := hts (.fieldLink RX6 22 "DustVoteModel" "now" "[I") (by decide +kernel)
  have cw_X6_has := show CallB (rmv 1 21) s _ RX6 104 yX6_has cX6_has 2 (some .boolean) wsX6_has (rmv 0 0) 0 0 2 ∧ (Cond.static yX6_has).before _ s = true from va_cwS 2 hts gX6_worksAs_X6_has rfl rfl rfl (by decide +kernel) ⟨Nat.le_of_ble_eq_true rfl, Nat.le_of_ble_eq_true rfl⟩
  have J_40 : ∀ (v2 : Int32) (q0 : Int32) (H : Heap) (locs : List Loc) (ls : Array Slot), f_X6_worksAs_40 Y_kd Y_now v2 q0 = some r_ → va_P G.1 vwCl (W_Y G y0 y1 y2 y3 y4 y5 y6 y7 y8 y9 y10 y11 y12 y13 y14 y15 Y_br Y_fa Y_rbs Y_rfs Y_len Y_at Y_fau Y_wk Y_ac Y_nx Y_hs Y_sd Y_st Y_kd Y_fs Y_fl Y_now Y_rd Y_rb Y_rf Y_tx Y_row Y_hh Y_hl Y_hw Y_ik Y_kp) H → va_S A s.heap H locs → lv_has ls 4 [(0, .ref y0), (2, .int v2)] → W p l e (rmv 1 21) s m (List.toArray [.ref y0, .int u1, .int u2]) below meth c H locs 0 0 (MQ below ((QI G r_ (W_Y G y0 y1 y2 y3 y4 y5 y6 y7 y8 y9 y10 y11 y12 y13 y14 y15 Y_br Y_fa Y_rbs Y_rfs Y_len Y_at Y_fau Y_wk Y_ac Y_nx Y_hs Y_sd Y_st Y_kd Y_fs Y_fl Y_now Y_rd Y_rb Y_rf Y_tx Y_row Y_hh Y_hl Y_hw Y_ik Y_kp)) A) (List.toArray [.ref y0, .int u1, .int u2]) s 0 0 A) (F0 m 40 ls [.int q0]) := by
    intro v2 q0 H locs ls h hP hS hl
    unfold f_X6_worksAs_40 at h
    refine lv_istore_n (lv' := [(3, .int q0), (0, .ref y0), (2, .int v2)]) hx hb dX6_worksAs_40 rfl hl (by decide) rfl (fun ls hl => ?_)
    refine lv_aload_n hx hb dX6_worksAs_41 rfl (lv_at hl 1 rfl) ?_
    refine va_get (ci := 6) (C := RX6) (T := TX6) (N := 27) hx hb hts inX6 hown hK.1 hP 0 rfl rfl 3 (by decide) fl13 (fun _ h9 => h9) rfl dX6_worksAs_42 ?_
    refine lv_iload_n hx hb dX6_worksAs_45 rfl (lv_at hl 2 rfl) ?_
    obtain ⟨zz_1, ee_2, h⟩ := bnd1_s h
    refine wIald hx hb hK hP 2 rfl ee_2 dX6_worksAs_46 ?_
    refine lv_iconst (v := 2) hx hb dX6_worksAs_47 (by decide) ?_
    refine lv_icmp_ne (tgt := 55) hx hb dX6_worksAs_48 (by decide) (fun cc_3 => ?_) (fun cc_3 => ?_)
    · replace h := if_f cc_3 h
      refine lv_iload_n hx hb dX6_worksAs_55 rfl (lv_at hl 0 rfl) ?_
      refine lv_if_ne (tgt := 68) hx hb dX6_worksAs_56 (by decide) (fun cc_4 => ?_) (fun cc_4 => ?_)
      · replace h := if_f cc_4 h
        refine lv_iconst (v := 0) hx hb dX6_worksAs_68 (by decide) ?_
        refine lv_goto (tgt := 78) hx hb dX6_worksAs_69 (by decide) ?_
        cases h
        exact W.iret hx hb hr (fun t ht _ => ⟨⟨_, (), rfl, rfl, by show va_P G.1 vwCl _ t.heap; rw [ht]; exact hP⟩, hS.F ht⟩) hS.2.2 dX6_worksAs_78
      · replace h := if_t cc_4 h
        refine lv_aload_n hx hb dX6_worksAs_59 rfl (lv_at hl 1 rfl) ?_
        refine va_get (ci := 6) (C := RX6) (T := TX6) (N := 27) hx hb hts inX6 hown hK.1 hP 0 rfl rfl 3 (by decide) fl13 (fun _ h9 => h9) rfl dX6_worksAs_60 ?_
        refine lv_iload_n hx hb dX6_worksAs_63 rfl (lv_at hl 2 rfl) ?_
        obtain ⟨zz_5, ee_6, h⟩ := bnd1_s h
        refine wIald hx hb hK hP 2 rfl ee_6 dX6_worksAs_64 ?_
        refine lv_if_ne (tgt := 72) hx hb dX6_worksAs_65 (by decide) (fun cc_7 => ?_) (fun cc_7 => ?_)
        · replace h := if_f cc_7 h
          refine lv_aload_n hx hb dX6_worksAs_72 rfl (lv_at hl 1 rfl) ?_
          refine va_get (ci := 6) (C := RX6) (T := TX6) (N := 27) hx hb hts inX6 hown hK.1 hP 0 rfl rfl 3 (by decide) fl13 (fun _ h9 => h9) rfl dX6_worksAs_73 ?_
          refine lv_iload_n hx hb dX6_worksAs_76 rfl (lv_at hl 2 rfl) ?_
          obtain ⟨zz_8, ee_9, h⟩ := bnd1_s h
          refine wIald hx hb hK hP 2 rfl ee_9 dX6_worksAs_77 ?_
          cases h
          exact W.iret hx hb hr (fun t ht _ => ⟨⟨_, (), rfl, rfl, by show va_P G.1 vwCl _ t.heap; rw [ht]; exact hP⟩, hS.F ht⟩) hS.2.2 dX6_worksAs_78
        · replace h := if_t cc_7 h
          refine lv_iconst (v := 0) hx hb dX6_worksAs_68 (by decide) ?_
          refine lv_goto (tgt := 78) hx hb dX6_worksAs_69 (by decide) ?_
          cases h
          exact W.iret hx hb hr (fun t ht _ => ⟨⟨_, (), rfl, rfl, by show va_P G.1 vwCl _ t.heap; rw [ht]; exact hP⟩, hS.F ht⟩) hS.2.2 dX6_worksAs_78
    · replace h := if_t cc_3 h
      refine lv_iconst (v := 2) hx hb dX6_worksAs_51 (by decide) ?_
      refine lv_goto (tgt := 78) hx hb dX6_worksAs_52 (by decide) ?_
      cases h
      exact W.iret hx hb hr (fun t ht _ => ⟨⟨_, (), rfl, rfl, by show va_P G.1 vwCl _ t.heap; rw [ht]; exact hP⟩, hS.F ht⟩) hS.2.2 dX6_worksAs_78
  have J_35 : ∀ (v2 : Int32) (H : Heap) (locs : List Loc) (ls : Array Slot), f_X6_worksAs_35 Y_kd Y_now v2 = some r_ → va_P G.1 vwCl (W_Y G y0 y1 y2 y3 y4 y5 y6 y7 y8 y9 y10 y11 y12 y13 y14 y15 Y_br Y_fa Y_rbs Y_rfs Y_len Y_at Y_fau Y_wk Y_ac Y_nx Y_hs Y_sd Y_st Y_kd Y_fs Y_fl Y_now Y_rd Y_rb Y_rf Y_tx Y_row Y_hh Y_hl Y_hw Y_ik Y_kp) H → va_S A s.heap H locs → lv_has ls 4 [(0, .ref y0), (2, .int v2)] → W p l e (rmv 1 21) s m (List.toArray [.ref y0, .int u1, .int u2]) below meth c H locs 0 0 (MQ below ((QI G r_ (W_Y G y0 y1 y2 y3 y4 y5 y6 y7 y8 y9 y10 y11 y12 y13 y14 y15 Y_br Y_fa Y_rbs Y_rfs Y_len Y_at Y_fau Y_wk Y_ac Y_nx Y_hs Y_sd Y_st Y_kd Y_fs Y_fl Y_now Y_rd Y_rb Y_rf Y_tx Y_row Y_hh Y_hl Y_hw Y_ik Y_kp)) A) (List.toArray [.ref y0, .int u1, .int u2]) s 0 0 A) (F0 m 35 ls []) := by
    intro v2 H locs ls h hP hS hl
    unfold f_X6_worksAs_35 at h
    refine lv_iconst (v := 1) hx hb dX6_worksAs_35 (by decide) ?_
    refine lv_goto (tgt := 40) hx hb dX6_worksAs_36 (by decide) ?_
    exact J_40  v2 (1 : Int32) _ _ _ h hP hS (lv_sub hl [0, 1] rfl)
  unfold f_X6_worksAs at h
  refine lv_aload_n hx hb dX6_worksAs_0 rfl (lv_at hl 0 rfl) ?_
  refine va_get (ci := 6) (C := RX6) (T := TX6) (N := 27) hx hb hts inX6 hown hK.1 hP 0 rfl rfl 6 (by decide) fl22 (fun _ h9 => h9) rfl dX6_worksAs_1 ?_
  refine lv_bipush (v := 16) hx hb dX6_worksAs_4 (by decide) ?_
  refine lv_iload_n hx hb dX6_worksAs_6 rfl (lv_at hl 1 rfl) ?_
  refine lv_imul hx hb dX6_worksAs_7 ?_
  refine lv_bipush (v := 13) hx hb dX6_worksAs_8 (by decide) ?_
  refine lv_iadd hx hb dX6_worksAs_10 ?_
  obtain ⟨zz_10, ee_11, h⟩ := bnd1_s h
  refine wIald hx hb hK hP 5 rfl ee_11 dX6_worksAs_11 ?_
  refine lv_iconst (v := 1) hx hb dX6_worksAs_12 (by decide) ?_
  refine lv_icmp_eq (tgt := 35) hx hb dX6_worksAs_13 (by decide) (fun cc_12 => ?_) (fun cc_12 => ?_)
  · replace h := if_t cc_12 h
    exact J_35  u2 _ _ _ h hP hS (lv_sub hl [0, 2] rfl)
  · replace h := if_f cc_12 h
    refine lv_aload_n hx hb dX6_worksAs_16 rfl (lv_at hl 0 rfl) ?_
    refine va_get (ci := 6) (C := RX6) (T := TX6) (N := 27) hx hb hts inX6 hown hK.1 hP 0 rfl rfl 6 (by decide) fl22 (fun _ h9 => h9) rfl dX6_worksAs_17 ?_
    refine lv_bipush (v := 16) hx hb dX6_worksAs_20 (by decide) ?_
    refine lv_iload_n hx hb dX6_worksAs_22 rfl (lv_at hl 1 rfl) ?_
    refine lv_imul hx hb dX6_worksAs_23 ?_
    refine lv_bipush (v := 14) hx hb dX6_worksAs_24 (by decide) ?_
    refine lv_iadd hx hb dX6_worksAs_26 ?_
    obtain ⟨zz_13, ee_14, h⟩ := bnd1_s h
    refine wIald hx hb hK hP 5 rfl ee_14 dX6_worksAs_27 ?_
    refine lv_iload_n hx hb dX6_worksAs_28 rfl (lv_at hl 2 rfl) ?_
    obtain ⟨rr_15, ee_16, h⟩ := bnd1_s h
    refine cSi (As := [.int zz_13, .int u2]) (rest := []) S0 hK hA hP (va_D_same hD rfl) hS [] (k_X6_has l G zz_13 u2 rr_15 ee_16) cw_X6_has rfl rfl (Nat.le_of_ble_eq_true rfl) rfl hl.1 rfl (Nat.le_of_ble_eq_true rfl) dX6_worksAs_29 ⟨Nat.zero_le _, Nat.zero_le _⟩ (fun H locs hP hS => ?_)
    replace hP : va_P G.1 vwCl (W_Y G y0 y1 y2 y3 y4 y5 y6 y7 y8 y9 y10 y11 y12 y13 y14 y15 Y_br Y_fa Y_rbs Y_rfs Y_len Y_at Y_fau Y_wk Y_ac Y_nx Y_hs Y_sd Y_st Y_kd Y_fs Y_fl Y_now Y_rd Y_rb Y_rf Y_tx Y_row Y_hh Y_hl Y_hw Y_ik Y_kp) H := hP
    refine lv_if_eq (tgt := 39) hx hb dX6_worksAs_32 (by decide) (fun cc_17 => ?_) (fun cc_17 => ?_)
    · replace h := if_t cc_17 h
      refine lv_iconst (v := 0) hx hb dX6_worksAs_39 (by decide) ?_
      exact J_40  u2 (0 : Int32) _ _ _ h hP hS (lv_sub hl [0, 2] rfl)
    · replace h := if_f cc_17 h
      exact J_35  u2 _ _ _ h hP hS (lv_sub hl [0, 2] rfl)
