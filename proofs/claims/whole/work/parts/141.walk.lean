def f_X6_figureOf_65 (Y_len : Int32) (Y_tx : Nat → Int32) (Y_at : Int32) (Y_fau : Int32) : Option (Int32 × Int32 × Int32) := if Y_fau = ((-9) : Int32) then (some ((0 : Int32), Y_at, Y_at)) else (some ((0 : Int32), Y_at, Y_fau))
def f_X6_figureOf_46 (Y_len : Int32) (Y_tx : Nat → Int32) (v1 : Int32) (v2 : Int32) (v3 : Int32) (q0 : Int32) (Y_at : Int32) (Y_fau : Int32) : Option (Int32 × Int32 × Int32) := if v3 = 0 then (f_X6_figureOf_65 Y_len Y_tx  Y_at Y_fau) else (bnd1 (f_X6_in (q0.toInt64) (v1.toInt64) (v2.toInt64)) (fun rr_3 => if rr_3 = 0 then (f_X6_figureOf_65 Y_len Y_tx  Y_at Y_fau) else (some (q0, (Y_at + (1 : Int32)), Y_fau))))
def f_X6_figureOf_25 (Y_len : Int32) (Y_tx : Nat → Int32) (v1 : Int32) (v2 : Int32) (q0 : Int32) (Y_at : Int32) (Y_fau : Int32) : Option (Int32 × Int32 × Int32) := if q0 = 0 then (f_X6_figureOf_46 Y_len Y_tx  v1 v2 q0 (0 : Int32) Y_at Y_fau) else (bnd1 (rd Y_tx 48 Y_at) (fun zz_7 => f_X6_figureOf_46 Y_len Y_tx  v1 v2 q0 (zz_7 - (48 : Int32)) Y_at Y_fau))
def f_X6_figureOf_24 (Y_len : Int32) (Y_tx : Nat → Int32) (v1 : Int32) (v2 : Int32) (Y_at : Int32) (Y_fau : Int32) : Option (Int32 × Int32 × Int32) := f_X6_figureOf_25 Y_len Y_tx  v1 v2 (0 : Int32) Y_at Y_fau
def f_X6_figureOf (Y_len : Int32) (Y_at : Int32) (Y_fau : Int32) (Y_tx : Nat → Int32) (u1 : Int32) (u2 : Int32) : Option (Int32 × Int32 × Int32) := if Y_fau = ((-9) : Int32) then (if Y_len ≤ Y_at then (f_X6_figureOf_24 Y_len Y_tx  u1 u2 Y_at Y_fau) else (f_X6_figureOf_25 Y_len Y_tx  u1 u2 (1 : Int32) Y_at Y_fau)) else (f_X6_figureOf_24 Y_len Y_tx  u1 u2 Y_at Y_fau)
set_option maxRecDepth 100000 in
set_option maxHeartbeats 4000000 in
theorem k_X6_figureOf (l : Launch) (G : Gt) (y0 y1 y2 y3 y4 y5 y6 y7 y8 y9 y10 y11 y12 y13 y14 y15 : Nat) (Y_br : Int32) (Y_fa : Int32) (Y_rbs : Int32) (Y_rfs : Int32) (Y_len : Int32) (Y_at : Int32) (Y_fau : Int32) (Y_wk : Int32) (Y_ac : Int32) (Y_nx : Int32) (Y_hs : Int32) (Y_sd : Int64) (Y_st : Nat → Int32) (Y_kd : Nat → Int32) (Y_fs : Nat → Int32) (Y_fl : Nat → Int32) (Y_now : Nat → Int32) (Y_rd : Nat → Int32) (Y_rb : Nat → Int32) (Y_rf : Nat → Int32) (Y_tx : Nat → Int32) (Y_row : Nat → Int32) (Y_hh : Nat → Int32) (Y_hl : Nat → Int32) (Y_hw : Nat → Int32) (Y_ik : Nat → Int32) (Y_kp : Nat → Int32) (u1 : Int32) (u2 : Int32) (r_ : Int32) (o_Y_at : Int32) (o_Y_fau : Int32) (h : f_X6_figureOf Y_len Y_at Y_fau Y_tx u1 u2 = some (r_, o_Y_at, o_Y_fau)) : CT l yX6_figureOf wsX6_figureOf 1 25 G [.ref y0, .int u1, .int u2] (W_Y G y0 y1 y2 y3 y4 y5 y6 y7 y8 y9 y10 y11 y12 y13 y14 y15 Y_br Y_fa Y_rbs Y_rfs Y_len Y_at Y_fau Y_wk Y_ac Y_nx Y_hs Y_sd Y_st Y_kd Y_fs Y_fl Y_now Y_rd Y_rb Y_rf Y_tx Y_row Y_hh Y_hl Y_hw Y_ik Y_kp) (QI G r_ (W_Y G y0 y1 y2 y3 y4 y5 y6 y7 y8 y9 y10 y11 y12 y13 y14 y15 Y_br Y_fa Y_rbs Y_rfs Y_len o_Y_at o_Y_fau Y_wk Y_ac Y_nx Y_hs Y_sd Y_st Y_kd Y_fs Y_fl Y_now Y_rd Y_rb Y_rf Y_tx Y_row Y_hh Y_hl Y_hw Y_ik Y_kp)) := by
  refine met_of cX6_figureOf 5 (some .int) (by decide) rfl (Nat.le_of_ble_eq_true rfl) ?_
  intro p e s m below meth c A ls hx hb hr hml hts hown hlocks hK hA hD hP hS hl
  replace hown : s.vm.findClass RX6 = some m.cls := hown
  replace hl : lv_has ls 5 [(0, .ref y0), (1, .int u1), (2, .int u2)] := hl
  have S0 : CallFix p m c cX6_figureOf 5 s _ wsX6_figureOf RX6 := ⟨hx, hb, hml, hown, hts⟩
  have fl69 := hts (.fieldLink RX6 69 "DustVoteModel" "faultAt" "I") (by decide +kernel)
  have inX6 := show ∀ w ∈ wsX60, w ∈ wsX6_figureOf from by decide +kernel
  have fl72 := hts (.fieldLink RX6 72 "DustVoteModel" "at" "I") (by decide +kernel)
  have cw_X6_in := show CallB (rmv 1 25) s _ RX6 62 yX6_in cX6_in 6 (some .boolean) wsX6_in (rmv 0 0) 0 0 3 ∧ (Cond.static yX6_in).before _ s = true from va_cwS 3 hts gX6_figureOf_X6_in rfl rfl rfl (by decide +kernel) ⟨Nat.le_of_ble_eq_true rfl, Nat.le_of_ble_eq_true rfl⟩
  have fl34 := hts (.fieldLink RX6 34 "DustVoteModel" "text" "[I") (by decide +kernel)
  have fl66 := hts (.fieldLink RX6 66 "DustVoteModel" "length" "I") (by decide +kernel)
  have J_65 : ∀ (Y_at : Int32) (Y_fau : Int32) (H : Heap) (locs : List Loc) (ls : Array Slot), f_X6_figureOf_65 Y_len Y_tx Y_at Y_fau = some (r_, o_Y_at, o_Y_fau) → va_P G.1 vwCl (W_Y G y0 y1 y2 y3 y4 y5 y6 y7 y8 y9 y10 y11 y12 y13 y14 y15 Y_br Y_fa Y_rbs Y_rfs Y_len Y_at Y_fau Y_wk Y_ac Y_nx Y_hs Y_sd Y_st Y_kd Y_fs Y_fl Y_now Y_rd Y_rb Y_rf Y_tx Y_row Y_hh Y_hl Y_hw Y_ik Y_kp) H → va_S A s.heap H locs → lv_has ls 5 [(0, .ref y0)] → W p l e (rmv 1 25) s m (List.toArray [.ref y0, .int u1, .int u2]) below meth c H locs 0 0 (MQ below ((QI G r_ (W_Y G y0 y1 y2 y3 y4 y5 y6 y7 y8 y9 y10 y11 y12 y13 y14 y15 Y_br Y_fa Y_rbs Y_rfs Y_len o_Y_at o_Y_fau Y_wk Y_ac Y_nx Y_hs Y_sd Y_st Y_kd Y_fs Y_fl Y_now Y_rd Y_rb Y_rf Y_tx Y_row Y_hh Y_hl Y_hw Y_ik Y_kp)) A) (List.toArray [.ref y0, .int u1, .int u2]) s 0 0 A) (F0 m 65 ls []) := by
    intro Y_at Y_fau H locs ls h hP hS hl
    unfold f_X6_figureOf_65 at h
    refine lv_aload_n hx hb dX6_figureOf_65 rfl (lv_at hl 0 rfl) ?_
    refine lv_aload_n hx hb dX6_figureOf_66 rfl (lv_at hl 0 rfl) ?_
    refine va_get (ci := 6) (C := RX6) (T := TX6) (N := 27) hx hb hts inX6 hown hK.1 hP 0 rfl rfl 15 (by decide) fl69 (fun _ h9 => h9) rfl dX6_figureOf_67 ?_
    refine lv_bipush (v := (-9)) hx hb dX6_figureOf_70 (by decide) ?_
    refine lv_icmp_ne (tgt := 82) hx hb dX6_figureOf_72 (by decide) (fun cc_1 => ?_) (fun cc_1 => ?_)
    · replace h := if_f cc_1 h
      refine lv_aload_n hx hb dX6_figureOf_82 rfl (lv_at hl 0 rfl) ?_
      refine va_get (ci := 6) (C := RX6) (T := TX6) (N := 27) hx hb hts inX6 hown hK.1 hP 0 rfl rfl 15 (by decide) fl69 (fun _ h9 => h9) rfl dX6_figureOf_83 ?_
      refine va_put (ci := 6) (ty := .int) (C := RX6) (T := TX6) (N := 27) hx hb hts inX6 tyX6 tyX6_ok nmX6 hown hK.1 hP (va_D_same hD rfl) hS 0 rfl rfl 15 (by decide) fl69 (fun _ h9 => h9) rfl (by decide +kernel) rfl rfl (Nat.le_of_ble_eq_true rfl) dX6_figureOf_86 (fun H locs hP _ hS => ?_)
      replace hP : va_P G.1 vwCl (W_Y G y0 y1 y2 y3 y4 y5 y6 y7 y8 y9 y10 y11 y12 y13 y14 y15 Y_br Y_fa Y_rbs Y_rfs Y_len Y_at Y_fau Y_wk Y_ac Y_nx Y_hs Y_sd Y_st Y_kd Y_fs Y_fl Y_now Y_rd Y_rb Y_rf Y_tx Y_row Y_hh Y_hl Y_hw Y_ik Y_kp) H := hP
      refine lv_iconst (v := 0) hx hb dX6_figureOf_89 (by decide) ?_
      cases h
      exact W.iret hx hb hr (fun t ht _ => ⟨⟨_, (), rfl, rfl, by show va_P G.1 vwCl _ t.heap; rw [ht]; exact hP⟩, hS.F ht⟩) hS.2.2 dX6_figureOf_90
    · replace h := if_t cc_1 h
      refine lv_aload_n hx hb dX6_figureOf_75 rfl (lv_at hl 0 rfl) ?_
      refine va_get (ci := 6) (C := RX6) (T := TX6) (N := 27) hx hb hts inX6 hown hK.1 hP 0 rfl rfl 14 (by decide) fl72 (fun _ h9 => h9) rfl dX6_figureOf_76 ?_
      refine lv_goto (tgt := 86) hx hb dX6_figureOf_79 (by decide) ?_
      refine va_put (ci := 6) (ty := .int) (C := RX6) (T := TX6) (N := 27) hx hb hts inX6 tyX6 tyX6_ok nmX6 hown hK.1 hP (va_D_same hD rfl) hS 0 rfl rfl 15 (by decide) fl69 (fun _ h9 => h9) rfl (by decide +kernel) rfl rfl (Nat.le_of_ble_eq_true rfl) dX6_figureOf_86 (fun H locs hP _ hS => ?_)
      replace hP : va_P G.1 vwCl (W_Y G y0 y1 y2 y3 y4 y5 y6 y7 y8 y9 y10 y11 y12 y13 y14 y15 Y_br Y_fa Y_rbs Y_rfs Y_len Y_at Y_at Y_wk Y_ac Y_nx Y_hs Y_sd Y_st Y_kd Y_fs Y_fl Y_now Y_rd Y_rb Y_rf Y_tx Y_row Y_hh Y_hl Y_hw Y_ik Y_kp) H := hP
      refine lv_iconst (v := 0) hx hb dX6_figureOf_89 (by decide) ?_
      cases h
      exact W.iret hx hb hr (fun t ht _ => ⟨⟨_, (), rfl, rfl, by show va_P G.1 vwCl _ t.heap; rw [ht]; exact hP⟩, hS.F ht⟩) hS.2.2 dX6_figureOf_90
  have J_46 : ∀ (v1 : Int32) (v2 : Int32) (v3 : Int32) (q0 : Int32) (Y_at : Int32) (Y_fau : Int32) (H : Heap) (locs : List Loc) (ls : Array Slot), f_X6_figureOf_46 Y_len Y_tx v1 v2 v3 q0 Y_at Y_fau = some (r_, o_Y_at, o_Y_fau) → va_P G.1 vwCl (W_Y G y0 y1 y2 y3 y4 y5 y6 y7 y8 y9 y10 y11 y12 y13 y14 y15 Y_br Y_fa Y_rbs Y_rfs Y_len Y_at Y_fau Y_wk Y_ac Y_nx Y_hs Y_sd Y_st Y_kd Y_fs Y_fl Y_now Y_rd Y_rb Y_rf Y_tx Y_row Y_hh Y_hl Y_hw Y_ik Y_kp) H → va_S A s.heap H locs → lv_has ls 5 [(0, .ref y0), (1, .int v1), (2, .int v2), (3, .int v3)] → W p l e (rmv 1 25) s m (List.toArray [.ref y0, .int u1, .int u2]) below meth c H locs 0 0 (MQ below ((QI G r_ (W_Y G y0 y1 y2 y3 y4 y5 y6 y7 y8 y9 y10 y11 y12 y13 y14 y15 Y_br Y_fa Y_rbs Y_rfs Y_len o_Y_at o_Y_fau Y_wk Y_ac Y_nx Y_hs Y_sd Y_st Y_kd Y_fs Y_fl Y_now Y_rd Y_rb Y_rf Y_tx Y_row Y_hh Y_hl Y_hw Y_ik Y_kp)) A) (List.toArray [.ref y0, .int u1, .int u2]) s 0 0 A) (F0 m 46 ls [.int q0]) := by
    intro v1 v2 v3 q0 Y_at Y_fau H locs ls h hP hS hl
    unfold f_X6_figureOf_46 at h
    refine lv_istore (lv' := [(4, .int q0), (0, .ref y0), (1, .int v1), (2, .int v2), (3, .int v3)]) hx hb dX6_figureOf_46 hl (by decide) rfl (fun ls hl => ?_)
    refine lv_iload_n hx hb dX6_figureOf_48 rfl (lv_at hl 4 rfl) ?_
    refine lv_if_eq (tgt := 65) hx hb dX6_figureOf_49 (by decide) (fun cc_2 => ?_) (fun cc_2 => ?_)
    · replace h := if_t cc_2 h
      exact J_65  Y_at Y_fau _ _ _ h hP hS (lv_sub hl [1] rfl)
    · replace h := if_f cc_2 h
      refine lv_iload hx hb dX6_figureOf_52 (lv_at hl 0 rfl) ?_
      refine lv_i2l (v := q0.toInt64) hx hb dX6_figureOf_54 rfl ?_
      refine lv_iload_n hx hb dX6_figureOf_55 rfl (lv_at hl 2 rfl) ?_
      refine lv_i2l (v := v1.toInt64) hx hb dX6_figureOf_56 rfl ?_
      refine lv_iload_n hx hb dX6_figureOf_57 rfl (lv_at hl 3 rfl) ?_
      refine lv_i2l (v := v2.toInt64) hx hb dX6_figureOf_58 rfl ?_
      obtain ⟨rr_3, ee_4, h⟩ := bnd1_s h
      refine cSi (As := [.long (q0.toInt64), .long (v1.toInt64), .long (v2.toInt64)]) (rest := []) S0 hK hA hP (va_D_same hD rfl) hS [] (k_X6_in l G (q0.toInt64) (v1.toInt64) (v2.toInt64) rr_3 ee_4) cw_X6_in rfl rfl (Nat.le_of_ble_eq_true rfl) rfl hl.1 rfl (Nat.le_of_ble_eq_true rfl) dX6_figureOf_59 ⟨Nat.zero_le _, Nat.zero_le _⟩ (fun H locs hP hS => ?_)
      replace hP : va_P G.1 vwCl (W_Y G y0 y1 y2 y3 y4 y5 y6 y7 y8 y9 y10 y11 y12 y13 y14 y15 Y_br Y_fa Y_rbs Y_rfs Y_len Y_at Y_fau Y_wk Y_ac Y_nx Y_hs Y_sd Y_st Y_kd Y_fs Y_fl Y_now Y_rd Y_rb Y_rf Y_tx Y_row Y_hh Y_hl Y_hw Y_ik Y_kp) H := hP
      refine lv_if_ne (tgt := 91) hx hb dX6_figureOf_62 (by decide) (fun cc_5 => ?_) (fun cc_5 => ?_)
      · replace h := if_f cc_5 h
        refine lv_aload_n hx hb dX6_figureOf_91 rfl (lv_at hl 1 rfl) ?_
        refine lv_dup hx hb dX6_figureOf_92 rfl ?_
        refine va_get (ci := 6) (C := RX6) (T := TX6) (N := 27) hx hb hts inX6 hown hK.1 hP 0 rfl rfl 14 (by decide) fl72 (fun _ h9 => h9) rfl dX6_figureOf_93 ?_
        refine lv_iconst (v := 1) hx hb dX6_figureOf_96 (by decide) ?_
        refine lv_iadd hx hb dX6_figureOf_97 ?_
        refine va_put (ci := 6) (ty := .int) (C := RX6) (T := TX6) (N := 27) hx hb hts inX6 tyX6 tyX6_ok nmX6 hown hK.1 hP (va_D_same hD rfl) hS 0 rfl rfl 14 (by decide) fl72 (fun _ h9 => h9) rfl (by decide +kernel) rfl rfl (Nat.le_of_ble_eq_true rfl) dX6_figureOf_98 (fun H locs hP _ hS => ?_)
        replace hP : va_P G.1 vwCl (W_Y G y0 y1 y2 y3 y4 y5 y6 y7 y8 y9 y10 y11 y12 y13 y14 y15 Y_br Y_fa Y_rbs Y_rfs Y_len (Y_at + (1 : Int32)) Y_fau Y_wk Y_ac Y_nx Y_hs Y_sd Y_st Y_kd Y_fs Y_fl Y_now Y_rd Y_rb Y_rf Y_tx Y_row Y_hh Y_hl Y_hw Y_ik Y_kp) H := hP
        refine lv_iload hx hb dX6_figureOf_101 (lv_at hl 0 rfl) ?_
        cases h
        exact W.iret hx hb hr (fun t ht _ => ⟨⟨_, (), rfl, rfl, by show va_P G.1 vwCl _ t.heap; rw [ht]; exact hP⟩, hS.F ht⟩) hS.2.2 dX6_figureOf_103
      · replace h := if_t cc_5 h
        exact J_65  Y_at Y_fau _ _ _ h hP hS (lv_sub hl [1] rfl)
  have J_25 : ∀ (v1 : Int32) (v2 : Int32) (q0 : Int32) (Y_at : Int32) (Y_fau : Int32) (H : Heap) (locs : List Loc) (ls : Array Slot), f_X6_figureOf_25 Y_len Y_tx v1 v2 q0 Y_at Y_fau = some (r_, o_Y_at, o_Y_fau) → va_P G.1 vwCl (W_Y G y0 y1 y2 y3 y4 y5 y6 y7 y8 y9 y10 y11 y12 y13 y14 y15 Y_br Y_fa Y_rbs Y_rfs Y_len Y_at Y_fau Y_wk Y_ac Y_nx Y_hs Y_sd Y_st Y_kd Y_fs Y_fl Y_now Y_rd Y_rb Y_rf Y_tx Y_row Y_hh Y_hl Y_hw Y_ik Y_kp) H → va_S A s.heap H locs → lv_has ls 5 [(0, .ref y0), (1, .int v1), (2, .int v2)] → W p l e (rmv 1 25) s m (List.toArray [.ref y0, .int u1, .int u2]) below meth c H locs 0 0 (MQ below ((QI G r_ (W_Y G y0 y1 y2 y3 y4 y5 y6 y7 y8 y9 y10 y11 y12 y13 y14 y15 Y_br Y_fa Y_rbs Y_rfs Y_len o_Y_at o_Y_fau Y_wk Y_ac Y_nx Y_hs Y_sd Y_st Y_kd Y_fs Y_fl Y_now Y_rd Y_rb Y_rf Y_tx Y_row Y_hh Y_hl Y_hw Y_ik Y_kp)) A) (List.toArray [.ref y0, .int u1, .int u2]) s 0 0 A) (F0 m 25 ls [.int q0]) := by
    intro v1 v2 q0 Y_at Y_fau H locs ls h hP hS hl
    unfold f_X6_figureOf_25 at h
    refine lv_istore_n (lv' := [(3, .int q0), (0, .ref y0), (1, .int v1), (2, .int v2)]) hx hb dX6_figureOf_25 rfl hl (by decide) rfl (fun ls hl => ?_)
    refine lv_iload_n hx hb dX6_figureOf_26 rfl (lv_at hl 0 rfl) ?_
    refine lv_if_eq (tgt := 45) hx hb dX6_figureOf_27 (by decide) (fun cc_6 => ?_) (fun cc_6 => ?_)
    · replace h := if_t cc_6 h
      refine lv_iconst (v := 0) hx hb dX6_figureOf_45 (by decide) ?_
      exact J_46  v1 v2 q0 (0 : Int32) Y_at Y_fau _ _ _ h hP hS (lv_sub hl [1, 2, 3, 0] rfl)
    · replace h := if_f cc_6 h
      refine lv_aload_n hx hb dX6_figureOf_30 rfl (lv_at hl 1 rfl) ?_
      refine va_get (ci := 6) (C := RX6) (T := TX6) (N := 27) hx hb hts inX6 hown hK.1 hP 0 rfl rfl 12 (by decide) fl34 (fun _ h9 => h9) rfl dX6_figureOf_31 ?_
      refine lv_aload_n hx hb dX6_figureOf_34 rfl (lv_at hl 1 rfl) ?_
      refine va_get (ci := 6) (C := RX6) (T := TX6) (N := 27) hx hb hts inX6 hown hK.1 hP 0 rfl rfl 14 (by decide) fl72 (fun _ h9 => h9) rfl dX6_figureOf_35 ?_
      obtain ⟨zz_7, ee_8, h⟩ := bnd1_s h
      refine wIald hx hb hK hP 9 rfl ee_8 dX6_figureOf_38 ?_
      refine lv_bipush (v := 48) hx hb dX6_figureOf_39 (by decide) ?_
      refine lv_isub hx hb dX6_figureOf_41 ?_
      refine lv_goto (tgt := 46) hx hb dX6_figureOf_42 (by decide) ?_
      exact J_46  v1 v2 q0 (zz_7 - (48 : Int32)) Y_at Y_fau _ _ _ h hP hS (lv_sub hl [1, 2, 3, 0] rfl)
  have J_24 : ∀ (v1 : Int32) (v2 : Int32) (Y_at : Int32) (Y_fau : Int32) (H : Heap) (locs : List Loc) (ls : Array Slot), f_X6_figureOf_24 Y_len Y_tx v1 v2 Y_at Y_fau = some (r_, o_Y_at, o_Y_fau) → va_P G.1 vwCl (W_Y G y0 y1 y2 y3 y4 y5 y6 y7 y8 y9 y10 y11 y12 y13 y14 y15 Y_br Y_fa Y_rbs Y_rfs Y_len Y_at Y_fau Y_wk Y_ac Y_nx Y_hs Y_sd Y_st Y_kd Y_fs Y_fl Y_now Y_rd Y_rb Y_rf Y_tx Y_row Y_hh Y_hl Y_hw Y_ik Y_kp) H → va_S A s.heap H locs → lv_has ls 5 [(0, .ref y0), (1, .int v1), (2, .int v2)] → W p l e (rmv 1 25) s m (List.toArray [.ref y0, .int u1, .int u2]) below meth c H locs 0 0 (MQ below ((QI G r_ (W_Y G y0 y1 y2 y3 y4 y5 y6 y7 y8 y9 y10 y11 y12 y13 y14 y15 Y_br Y_fa Y_rbs Y_rfs Y_len o_Y_at o_Y_fau Y_wk Y_ac Y_nx Y_hs Y_sd Y_st Y_kd Y_fs Y_fl Y_now Y_rd Y_rb Y_rf Y_tx Y_row Y_hh Y_hl Y_hw Y_ik Y_kp)) A) (List.toArray [.ref y0, .int u1, .int u2]) s 0 0 A) (F0 m 24 ls []) := by
    intro v1 v2 Y_at Y_fau H locs ls h hP hS hl
    unfold f_X6_figureOf_24 at h
    refine lv_iconst (v := 0) hx hb dX6_figureOf_24 (by decide) ?_
    exact J_25  v1 v2 (0 : Int32) Y_at Y_fau _ _ _ h hP hS (lv_sub hl [0, 1, 2] rfl)
  unfold f_X6_figureOf at h
  refine lv_aload_n hx hb dX6_figureOf_0 rfl (lv_at hl 0 rfl) ?_
  refine va_get (ci := 6) (C := RX6) (T := TX6) (N := 27) hx hb hts inX6 hown hK.1 hP 0 rfl rfl 15 (by decide) fl69 (fun _ h9 => h9) rfl dX6_figureOf_1 ?_
  refine lv_bipush (v := (-9)) hx hb dX6_figureOf_4 (by decide) ?_
  refine lv_icmp_ne (tgt := 24) hx hb dX6_figureOf_6 (by decide) (fun cc_9 => ?_) (fun cc_9 => ?_)
  · replace h := if_f cc_9 h
    exact J_24  u1 u2 Y_at Y_fau _ _ _ h hP hS (lv_sub hl [0, 1, 2] rfl)
  · replace h := if_t cc_9 h
    refine lv_aload_n hx hb dX6_figureOf_9 rfl (lv_at hl 0 rfl) ?_
    refine va_get (ci := 6) (C := RX6) (T := TX6) (N := 27) hx hb hts inX6 hown hK.1 hP 0 rfl rfl 14 (by decide) fl72 (fun _ h9 => h9) rfl dX6_figureOf_10 ?_
    refine lv_aload_n hx hb dX6_figureOf_13 rfl (lv_at hl 0 rfl) ?_
    refine va_get (ci := 6) (C := RX6) (T := TX6) (N := 27) hx hb hts inX6 hown hK.1 hP 0 rfl rfl 13 (by decide) fl66 (fun _ h9 => h9) rfl dX6_figureOf_14 ?_
    refine lv_icmp_ge (tgt := 24) hx hb dX6_figureOf_17 (by decide) (fun cc_10 => ?_) (fun cc_10 => ?_)
    · replace h := if_t cc_10 h
      exact J_24  u1 u2 Y_at Y_fau _ _ _ h hP hS (lv_sub hl [0, 1, 2] rfl)
    · replace h := if_f cc_10 h
      refine lv_iconst (v := 1) hx hb dX6_figureOf_20 (by decide) ?_
      refine lv_goto (tgt := 25) hx hb dX6_figureOf_21 (by decide) ?_
      exact J_25  u1 u2 (1 : Int32) Y_at Y_fau _ _ _ h hP hS (lv_sub hl [0, 1, 2] rfl)
