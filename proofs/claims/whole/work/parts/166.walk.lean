def f_X6_share_84 (Y_br : Int32) (Y_fa : Int32) (Y_st : Nat → Int32) (Y_kd : Nat → Int32) (Y_fs : Nat → Int32) (Y_fl : Nat → Int32) (kk15 : Int32 → Int32 → Int32 → Int32 → Int32 → (Nat → Int32) → Option (Int32 × Int32 × (Nat → Int32))) (v1 : Int32) (v2 : Int32) (v3 : Int32) (v4 : Int32) (Y_wk : Int32) (Y_now : Nat → Int32) : Option (Int32 × Int32 × (Nat → Int32)) := kk15 v1 v2 v3 (v4 + 1) Y_wk Y_now
def f_X6_share_15 (Y_br : Int32) (Y_fa : Int32) (Y_st : Nat → Int32) (Y_kd : Nat → Int32) (Y_fs : Nat → Int32) (Y_fl : Nat → Int32) : Nat → Int32 → Int32 → Int32 → Int32 → Int32 → (Nat → Int32) → Option (Int32 × Int32 × (Nat → Int32))
  | 0, _, _, _, _, _, _ => none
  | fu + 1, v1, v2, v3, v4, Y_wk, Y_now => if ((1 : Int32) <<< (Y_br &&& 31)) ≤ v4 then (bnd1 (f_X6_factorial Y_br) (fun rr_2 => bnd1 (f_X6_common v3 rr_2) (fun rr_4 => if v2 = 0 then (bnd1 (f_X6_factorial Y_br) (fun rr_7 => if rr_4 = 0 then none else (some ((rr_7 / rr_4), Y_wk, Y_now)))) else (if rr_4 = 0 then none else (some ((v3 / rr_4), Y_wk, Y_now)))))) else (bnd1 (f_X6_has v4 v1) (fun rr_11 => if rr_11 = 0 then (bnd1 (f_X6_ones v4) (fun rr_14 => bnd1 (f_X6_factorial rr_14) (fun rr_16 => bnd1 (f_X6_ones v4) (fun rr_18 => bnd1 (f_X6_factorial ((Y_br - (1 : Int32)) - rr_18)) (fun rr_20 => bnd3 (f_X6_dustBy Y_br Y_fa Y_wk Y_st Y_kd Y_fs Y_fl Y_now v4) (fun rr_22 dd_23 dd_24 => bnd3 (f_X6_dustBy Y_br Y_fa dd_23 Y_st Y_kd Y_fs Y_fl dd_24 (v4 ||| ((1 : Int32) <<< (v1 &&& 31)))) (fun rr_26 dd_27 dd_28 => f_X6_share_84 Y_br Y_fa Y_st Y_kd Y_fs Y_fl (f_X6_share_15 Y_br Y_fa Y_st Y_kd Y_fs Y_fl fu) v1 v2 (v3 + ((rr_16 * rr_20) * (rr_22 - rr_26))) v4 dd_27 dd_28))))))) else (f_X6_share_84 Y_br Y_fa Y_st Y_kd Y_fs Y_fl (f_X6_share_15 Y_br Y_fa Y_st Y_kd Y_fs Y_fl fu) v1 v2 v3 v4 Y_wk Y_now)))
def f_X6_share (Y_br : Int32) (Y_fa : Int32) (Y_wk : Int32) (Y_st : Nat → Int32) (Y_kd : Nat → Int32) (Y_fs : Nat → Int32) (Y_fl : Nat → Int32) (Y_now : Nat → Int32) (u1 : Int32) (u2 : Int32) : Option (Int32 × Int32 × (Nat → Int32)) := bnd1 (f_X6_isBroom Y_br u1) (fun rr_30 => if rr_30 = 0 then (some (((-1) : Int32), Y_wk, Y_now)) else (f_X6_share_15 Y_br Y_fa Y_st Y_kd Y_fs Y_fl  130 u1 u2 (0 : Int32) (0 : Int32) Y_wk Y_now))
set_option maxRecDepth 100000 in
set_option maxHeartbeats 4000000 in
theorem k_X6_share (l : Launch) (G : Gt) (y0 y1 y2 y3 y4 y5 y6 y7 y8 y9 y10 y11 y12 y13 y14 y15 : Nat) (Y_br : Int32) (Y_fa : Int32) (Y_rbs : Int32) (Y_rfs : Int32) (Y_len : Int32) (Y_at : Int32) (Y_fau : Int32) (Y_wk : Int32) (Y_ac : Int32) (Y_nx : Int32) (Y_hs : Int32) (Y_sd : Int64) (Y_st : Nat → Int32) (Y_kd : Nat → Int32) (Y_fs : Nat → Int32) (Y_fl : Nat → Int32) (Y_now : Nat → Int32) (Y_rd : Nat → Int32) (Y_rb : Nat → Int32) (Y_rf : Nat → Int32) (Y_tx : Nat → Int32) (Y_row : Nat → Int32) (Y_hh : Nat → Int32) (Y_hl : Nat → Int32) (Y_hw : Nat → Int32) (Y_ik : Nat → Int32) (Y_kp : Nat → Int32) (u1 : Int32) (u2 : Int32) (r_ : Int32) (o_Y_wk : Int32) (o_Y_now : Nat → Int32) (h : f_X6_share Y_br Y_fa Y_wk Y_st Y_kd Y_fs Y_fl Y_now u1 u2 = some (r_, o_Y_wk, o_Y_now)) : CT l yX6_share wsX6_share 6 137 G [.ref y0, .int u1, .int u2] (W_Y G y0 y1 y2 y3 y4 y5 y6 y7 y8 y9 y10 y11 y12 y13 y14 y15 Y_br Y_fa Y_rbs Y_rfs Y_len Y_at Y_fau Y_wk Y_ac Y_nx Y_hs Y_sd Y_st Y_kd Y_fs Y_fl Y_now Y_rd Y_rb Y_rf Y_tx Y_row Y_hh Y_hl Y_hw Y_ik Y_kp) (QI G r_ (W_Y G y0 y1 y2 y3 y4 y5 y6 y7 y8 y9 y10 y11 y12 y13 y14 y15 Y_br Y_fa Y_rbs Y_rfs Y_len Y_at Y_fau o_Y_wk Y_ac Y_nx Y_hs Y_sd Y_st Y_kd Y_fs Y_fl o_Y_now Y_rd Y_rb Y_rf Y_tx Y_row Y_hh Y_hl Y_hw Y_ik Y_kp)) := by
  refine met_of cX6_share 6 (some .int) (by decide) rfl (Nat.le_of_ble_eq_true rfl) ?_
  intro p e s m below meth c A ls hx hb hr hml hts hown hlocks hK hA hD hP hS hl
  replace hown : s.vm.findClass RX6 = some m.cls := hown
  replace hl : lv_has ls 6 [(0, .ref y0), (1, .int u1), (2, .int u2)] := hl
  have S0 : CallFix p m c cX6_share 6 s _ wsX6_share RX6 := ⟨hx, hb, hml, hown, hts⟩
  have fl93 := hts (.fieldLink RX6 93 "DustVoteModel" "brooms" "I") (by decide +kernel)
  have inX6 := show ∀ w ∈ wsX60, w ∈ wsX6_share from by decide +kernel
  have cw_X6_factorial := show CallB (rmv 6 137) s _ RX6 188 yX6_factorial cX6_factorial 3 (some .int) wsX6_factorial (rmv 0 0) 0 0 1 ∧ (Cond.static yX6_factorial).before _ s = true from va_cwS 1 hts gX6_share_X6_factorial rfl rfl rfl (by decide +kernel) ⟨Nat.le_of_ble_eq_true rfl, Nat.le_of_ble_eq_true rfl⟩
  have cw_X6_common := show CallB (rmv 6 137) s _ RX6 194 yX6_common cX6_common 5 (some .int) wsX6_common (rmv 0 0) 0 0 2 ∧ (Cond.static yX6_common).before _ s = true from va_cwS 2 hts gX6_share_X6_common rfl rfl rfl (by decide +kernel) ⟨Nat.le_of_ble_eq_true rfl, Nat.le_of_ble_eq_true rfl⟩
  have cw_X6_has := show CallB (rmv 6 137) s _ RX6 104 yX6_has cX6_has 2 (some .boolean) wsX6_has (rmv 0 0) 0 0 2 ∧ (Cond.static yX6_has).before _ s = true from va_cwS 2 hts gX6_share_X6_has rfl rfl rfl (by decide +kernel) ⟨Nat.le_of_ble_eq_true rfl, Nat.le_of_ble_eq_true rfl⟩
  have cw_X6_ones := show CallB (rmv 6 137) s _ RX6 152 yX6_ones cX6_ones 3 (some .int) wsX6_ones (rmv 0 0) 0 0 1 ∧ (Cond.static yX6_ones).before _ s = true from va_cwS 1 hts gX6_share_X6_ones rfl rfl rfl (by decide +kernel) ⟨Nat.le_of_ble_eq_true rfl, Nat.le_of_ble_eq_true rfl⟩
  have cw_X6_dustBy := show CallW (rmv 6 137) s _ RX6 RX6 191 yX6_dustBy cX6_dustBy 2 (some .int) wsX6_dustBy (rmv 5 116) 0 0 1 from cwV 1 hts gX6_share_X6_dustBy rfl rfl rfl (by decide +kernel) ⟨Nat.le_of_ble_eq_true rfl, Nat.le_of_ble_eq_true rfl⟩
  have cw_X6_isBroom := show CallW (rmv 6 137) s _ RX6 RX6 134 yX6_isBroom cX6_isBroom 2 (some .boolean) wsX6_isBroom (rmv 1 25) 0 0 1 from cwV 1 hts gX6_share_X6_isBroom rfl rfl rfl (by decide +kernel) ⟨Nat.le_of_ble_eq_true rfl, Nat.le_of_ble_eq_true rfl⟩
  have J_84 : ∀ (kk15 : Int32 → Int32 → Int32 → Int32 → Int32 → (Nat → Int32) → Option (Int32 × Int32 × (Nat → Int32))) (hk15 : ∀ (v1 : Int32) (v2 : Int32) (v3 : Int32) (v4 : Int32) (Y_wk : Int32) (Y_now : Nat → Int32) (H : Heap) (locs : List Loc) (ls : Array Slot), kk15 v1 v2 v3 v4 Y_wk Y_now = some (r_, o_Y_wk, o_Y_now) → va_P G.1 vwCl (W_Y G y0 y1 y2 y3 y4 y5 y6 y7 y8 y9 y10 y11 y12 y13 y14 y15 Y_br Y_fa Y_rbs Y_rfs Y_len Y_at Y_fau Y_wk Y_ac Y_nx Y_hs Y_sd Y_st Y_kd Y_fs Y_fl Y_now Y_rd Y_rb Y_rf Y_tx Y_row Y_hh Y_hl Y_hw Y_ik Y_kp) H → va_S A s.heap H locs → lv_has ls 6 [(0, .ref y0), (1, .int v1), (2, .int v2), (3, .int v3), (4, .int v4)] → W p l e (rmv 6 137) s m (List.toArray [.ref y0, .int u1, .int u2]) below meth c H locs 0 0 (MQ below ((QI G r_ (W_Y G y0 y1 y2 y3 y4 y5 y6 y7 y8 y9 y10 y11 y12 y13 y14 y15 Y_br Y_fa Y_rbs Y_rfs Y_len Y_at Y_fau o_Y_wk Y_ac Y_nx Y_hs Y_sd Y_st Y_kd Y_fs Y_fl o_Y_now Y_rd Y_rb Y_rf Y_tx Y_row Y_hh Y_hl Y_hw Y_ik Y_kp)) A) (List.toArray [.ref y0, .int u1, .int u2]) s 0 0 A) (F0 m 15 ls [])), ∀ (v1 : Int32) (v2 : Int32) (v3 : Int32) (v4 : Int32) (Y_wk : Int32) (Y_now : Nat → Int32) (H : Heap) (locs : List Loc) (ls : Array Slot), f_X6_share_84 Y_br Y_fa Y_st Y_kd Y_fs Y_fl kk15 v1 v2 v3 v4 Y_wk Y_now = some (r_, o_Y_wk, o_Y_now) → va_P G.1 vwCl (W_Y G y0 y1 y2 y3 y4 y5 y6 y7 y8 y9 y10 y11 y12 y13 y14 y15 Y_br Y_fa Y_rbs Y_rfs Y_len Y_at Y_fau Y_wk Y_ac Y_nx Y_hs Y_sd Y_st Y_kd Y_fs Y_fl Y_now Y_rd Y_rb Y_rf Y_tx Y_row Y_hh Y_hl Y_hw Y_ik Y_kp) H → va_S A s.heap H locs → lv_has ls 6 [(0, .ref y0), (1, .int v1), (2, .int v2), (3, .int v3), (4, .int v4)] → W p l e (rmv 6 137) s m (List.toArray [.ref y0, .int u1, .int u2]) below meth c H locs 0 0 (MQ below ((QI G r_ (W_Y G y0 y1 y2 y3 y4 y5 y6 y7 y8 y9 y10 y11 y12 y13 y14 y15 Y_br Y_fa Y_rbs Y_rfs Y_len Y_at Y_fau o_Y_wk Y_ac Y_nx Y_hs Y_sd Y_st Y_kd Y_fs Y_fl o_Y_now Y_rd Y_rb Y_rf Y_tx Y_row Y_hh Y_hl Y_hw Y_ik Y_kp)) A) (List.toArray [.ref y0, .int u1, .int u2]) s 0 0 A) (F0 m 84 ls []) := by
    intro kk15 hk15 v1 v2 v3 v4 Y_wk Y_now H locs ls h hP hS hl
    unfold f_X6_share_84 at h
    refine lv_iinc (v := (v4 + 1)) (lv' := [(4, .int (v4 + 1)), (0, .ref y0), (1, .int v1), (2, .int v2), (3, .int v3)]) hx hb dX6_share_84 hl (k := 4) rfl rfl (by decide) rfl (fun ls hl => ?_)
    refine lv_goto (tgt := 15) hx hb dX6_share_87 (by decide) ?_
    exact hk15 v1 v2 v3 (v4 + 1) Y_wk Y_now _ _ _ h hP hS (lv_sub hl [1, 2, 3, 4, 0] rfl)
  have J_15 : ∀ (fu : Nat), ∀ (v1 : Int32) (v2 : Int32) (v3 : Int32) (v4 : Int32) (Y_wk : Int32) (Y_now : Nat → Int32) (H : Heap) (locs : List Loc) (ls : Array Slot), f_X6_share_15 Y_br Y_fa Y_st Y_kd Y_fs Y_fl fu v1 v2 v3 v4 Y_wk Y_now = some (r_, o_Y_wk, o_Y_now) → va_P G.1 vwCl (W_Y G y0 y1 y2 y3 y4 y5 y6 y7 y8 y9 y10 y11 y12 y13 y14 y15 Y_br Y_fa Y_rbs Y_rfs Y_len Y_at Y_fau Y_wk Y_ac Y_nx Y_hs Y_sd Y_st Y_kd Y_fs Y_fl Y_now Y_rd Y_rb Y_rf Y_tx Y_row Y_hh Y_hl Y_hw Y_ik Y_kp) H → va_S A s.heap H locs → lv_has ls 6 [(0, .ref y0), (1, .int v1), (2, .int v2), (3, .int v3), (4, .int v4)] → W p l e (rmv 6 137) s m (List.toArray [.ref y0, .int u1, .int u2]) below meth c H locs 0 0 (MQ below ((QI G r_ (W_Y G y0 y1 y2 y3 y4 y5 y6 y7 y8 y9 y10 y11 y12 y13 y14 y15 Y_br Y_fa Y_rbs Y_rfs Y_len Y_at Y_fau o_Y_wk Y_ac Y_nx Y_hs Y_sd Y_st Y_kd Y_fs Y_fl o_Y_now Y_rd Y_rb Y_rf Y_tx Y_row Y_hh Y_hl Y_hw Y_ik Y_kp)) A) (List.toArray [.ref y0, .int u1, .int u2]) s 0 0 A) (F0 m 15 ls []) := by
    intro  fu
    induction fu with
    | zero =>
      intro v1 v2 v3 v4 Y_wk Y_now H locs ls h
      cases h
    | succ fu ih =>
      intro v1 v2 v3 v4 Y_wk Y_now H locs ls h hP hS hl
      rw [f_X6_share_15] at h
      refine lv_iload hx hb dX6_share_15 (lv_at hl 4 rfl) ?_
      refine lv_iconst (v := 1) hx hb dX6_share_17 (by decide) ?_
      refine lv_aload_n hx hb dX6_share_18 rfl (lv_at hl 0 rfl) ?_
      refine va_get (ci := 6) (C := RX6) (T := TX6) (N := 27) hx hb hts inX6 hown hK.1 hP 0 rfl rfl 0 (by decide) fl93 (fun _ h9 => h9) rfl dX6_share_19 ?_
      refine lv_ishl hx hb dX6_share_22 ?_
      refine lv_icmp_ge (tgt := 90) hx hb dX6_share_23 (by decide) (fun cc_1 => ?_) (fun cc_1 => ?_)
      · replace h := if_t cc_1 h
        refine lv_iload_n hx hb dX6_share_90 rfl (lv_at hl 3 rfl) ?_
        refine lv_aload_n hx hb dX6_share_91 rfl (lv_at hl 0 rfl) ?_
        refine va_get (ci := 6) (C := RX6) (T := TX6) (N := 27) hx hb hts inX6 hown hK.1 hP 0 rfl rfl 0 (by decide) fl93 (fun _ h9 => h9) rfl dX6_share_92 ?_
        obtain ⟨rr_2, ee_3, h⟩ := bnd1_s h
        refine cSi (As := [.int Y_br]) (rest := [.int v3]) S0 hK hA hP (va_D_same hD rfl) hS [] (k_X6_factorial l G Y_br rr_2 ee_3) cw_X6_factorial rfl rfl (Nat.le_of_ble_eq_true rfl) rfl hl.1 rfl (Nat.le_of_ble_eq_true rfl) dX6_share_95 ⟨Nat.zero_le _, Nat.zero_le _⟩ (fun H locs hP hS => ?_)
        replace hP : va_P G.1 vwCl (W_Y G y0 y1 y2 y3 y4 y5 y6 y7 y8 y9 y10 y11 y12 y13 y14 y15 Y_br Y_fa Y_rbs Y_rfs Y_len Y_at Y_fau Y_wk Y_ac Y_nx Y_hs Y_sd Y_st Y_kd Y_fs Y_fl Y_now Y_rd Y_rb Y_rf Y_tx Y_row Y_hh Y_hl Y_hw Y_ik Y_kp) H := hP
        obtain ⟨rr_4, ee_5, h⟩ := bnd1_s h
        refine cSi (As := [.int v3, .int rr_2]) (rest := []) S0 hK hA hP (va_D_same hD rfl) hS [] (k_X6_common l G v3 rr_2 rr_4 ee_5) cw_X6_common rfl rfl (Nat.le_of_ble_eq_true rfl) rfl hl.1 rfl (Nat.le_of_ble_eq_true rfl) dX6_share_98 ⟨Nat.zero_le _, Nat.zero_le _⟩ (fun H locs hP hS => ?_)
        replace hP : va_P G.1 vwCl (W_Y G y0 y1 y2 y3 y4 y5 y6 y7 y8 y9 y10 y11 y12 y13 y14 y15 Y_br Y_fa Y_rbs Y_rfs Y_len Y_at Y_fau Y_wk Y_ac Y_nx Y_hs Y_sd Y_st Y_kd Y_fs Y_fl Y_now Y_rd Y_rb Y_rf Y_tx Y_row Y_hh Y_hl Y_hw Y_ik Y_kp) H := hP
        refine lv_istore (lv' := [(4, .int rr_4), (0, .ref y0), (1, .int v1), (2, .int v2), (3, .int v3)]) hx hb dX6_share_101 hl (by decide) rfl (fun ls hl => ?_)
        refine lv_iload_n hx hb dX6_share_103 rfl (lv_at hl 3 rfl) ?_
        refine lv_if_eq (tgt := 114) hx hb dX6_share_104 (by decide) (fun cc_6 => ?_) (fun cc_6 => ?_)
        · replace h := if_t cc_6 h
          refine lv_aload_n hx hb dX6_share_114 rfl (lv_at hl 1 rfl) ?_
          refine va_get (ci := 6) (C := RX6) (T := TX6) (N := 27) hx hb hts inX6 hown hK.1 hP 0 rfl rfl 0 (by decide) fl93 (fun _ h9 => h9) rfl dX6_share_115 ?_
          obtain ⟨rr_7, ee_8, h⟩ := bnd1_s h
          refine cSi (As := [.int Y_br]) (rest := []) S0 hK hA hP (va_D_same hD rfl) hS [] (k_X6_factorial l G Y_br rr_7 ee_8) cw_X6_factorial rfl rfl (Nat.le_of_ble_eq_true rfl) rfl hl.1 rfl (Nat.le_of_ble_eq_true rfl) dX6_share_118 ⟨Nat.zero_le _, Nat.zero_le _⟩ (fun H locs hP hS => ?_)
          replace hP : va_P G.1 vwCl (W_Y G y0 y1 y2 y3 y4 y5 y6 y7 y8 y9 y10 y11 y12 y13 y14 y15 Y_br Y_fa Y_rbs Y_rfs Y_len Y_at Y_fau Y_wk Y_ac Y_nx Y_hs Y_sd Y_st Y_kd Y_fs Y_fl Y_now Y_rd Y_rb Y_rf Y_tx Y_row Y_hh Y_hl Y_hw Y_ik Y_kp) H := hP
          refine lv_iload hx hb dX6_share_121 (lv_at hl 0 rfl) ?_
          by_cases cc_9 : rr_4 = 0
          · cases (if_t cc_9 h)
          replace h := if_f cc_9 h
          refine lv_idiv hx hb dX6_share_123 cc_9 ?_
          cases h
          exact W.iret hx hb hr (fun t ht _ => ⟨⟨_, (), rfl, rfl, by show va_P G.1 vwCl _ t.heap; rw [ht]; exact hP⟩, hS.F ht⟩) hS.2.2 dX6_share_124
        · replace h := if_f cc_6 h
          refine lv_iload_n hx hb dX6_share_107 rfl (lv_at hl 4 rfl) ?_
          refine lv_iload hx hb dX6_share_108 (lv_at hl 0 rfl) ?_
          by_cases cc_10 : rr_4 = 0
          · cases (if_t cc_10 h)
          replace h := if_f cc_10 h
          refine lv_idiv hx hb dX6_share_110 cc_10 ?_
          refine lv_goto (tgt := 124) hx hb dX6_share_111 (by decide) ?_
          cases h
          exact W.iret hx hb hr (fun t ht _ => ⟨⟨_, (), rfl, rfl, by show va_P G.1 vwCl _ t.heap; rw [ht]; exact hP⟩, hS.F ht⟩) hS.2.2 dX6_share_124
      · replace h := if_f cc_1 h
        refine lv_iload hx hb dX6_share_26 (lv_at hl 4 rfl) ?_
        refine lv_iload_n hx hb dX6_share_28 rfl (lv_at hl 1 rfl) ?_
        obtain ⟨rr_11, ee_12, h⟩ := bnd1_s h
        refine cSi (As := [.int v4, .int v1]) (rest := []) S0 hK hA hP (va_D_same hD rfl) hS [] (k_X6_has l G v4 v1 rr_11 ee_12) cw_X6_has rfl rfl (Nat.le_of_ble_eq_true rfl) rfl hl.1 rfl (Nat.le_of_ble_eq_true rfl) dX6_share_29 ⟨Nat.zero_le _, Nat.zero_le _⟩ (fun H locs hP hS => ?_)
        replace hP : va_P G.1 vwCl (W_Y G y0 y1 y2 y3 y4 y5 y6 y7 y8 y9 y10 y11 y12 y13 y14 y15 Y_br Y_fa Y_rbs Y_rfs Y_len Y_at Y_fau Y_wk Y_ac Y_nx Y_hs Y_sd Y_st Y_kd Y_fs Y_fl Y_now Y_rd Y_rb Y_rf Y_tx Y_row Y_hh Y_hl Y_hw Y_ik Y_kp) H := hP
        refine lv_if_ne (tgt := 84) hx hb dX6_share_32 (by decide) (fun cc_13 => ?_) (fun cc_13 => ?_)
        · replace h := if_f cc_13 h
          exact J_84 (f_X6_share_15 Y_br Y_fa Y_st Y_kd Y_fs Y_fl fu) ih v1 v2 v3 v4 Y_wk Y_now _ _ _ h hP hS (lv_sub hl [0, 1, 2, 3, 4] rfl)
        · replace h := if_t cc_13 h
          refine lv_iload hx hb dX6_share_35 (lv_at hl 4 rfl) ?_
          obtain ⟨rr_14, ee_15, h⟩ := bnd1_s h
          refine cSi (As := [.int v4]) (rest := []) S0 hK hA hP (va_D_same hD rfl) hS [] (k_X6_ones l G v4 rr_14 ee_15) cw_X6_ones rfl rfl (Nat.le_of_ble_eq_true rfl) rfl hl.1 rfl (Nat.le_of_ble_eq_true rfl) dX6_share_37 ⟨Nat.zero_le _, Nat.zero_le _⟩ (fun H locs hP hS => ?_)
          replace hP : va_P G.1 vwCl (W_Y G y0 y1 y2 y3 y4 y5 y6 y7 y8 y9 y10 y11 y12 y13 y14 y15 Y_br Y_fa Y_rbs Y_rfs Y_len Y_at Y_fau Y_wk Y_ac Y_nx Y_hs Y_sd Y_st Y_kd Y_fs Y_fl Y_now Y_rd Y_rb Y_rf Y_tx Y_row Y_hh Y_hl Y_hw Y_ik Y_kp) H := hP
          obtain ⟨rr_16, ee_17, h⟩ := bnd1_s h
          refine cSi (As := [.int rr_14]) (rest := []) S0 hK hA hP (va_D_same hD rfl) hS [] (k_X6_factorial l G rr_14 rr_16 ee_17) cw_X6_factorial rfl rfl (Nat.le_of_ble_eq_true rfl) rfl hl.1 rfl (Nat.le_of_ble_eq_true rfl) dX6_share_40 ⟨Nat.zero_le _, Nat.zero_le _⟩ (fun H locs hP hS => ?_)
          replace hP : va_P G.1 vwCl (W_Y G y0 y1 y2 y3 y4 y5 y6 y7 y8 y9 y10 y11 y12 y13 y14 y15 Y_br Y_fa Y_rbs Y_rfs Y_len Y_at Y_fau Y_wk Y_ac Y_nx Y_hs Y_sd Y_st Y_kd Y_fs Y_fl Y_now Y_rd Y_rb Y_rf Y_tx Y_row Y_hh Y_hl Y_hw Y_ik Y_kp) H := hP
          refine lv_aload_n hx hb dX6_share_43 rfl (lv_at hl 0 rfl) ?_
          refine va_get (ci := 6) (C := RX6) (T := TX6) (N := 27) hx hb hts inX6 hown hK.1 hP 0 rfl rfl 0 (by decide) fl93 (fun _ h9 => h9) rfl dX6_share_44 ?_
          refine lv_iconst (v := 1) hx hb dX6_share_47 (by decide) ?_
          refine lv_isub hx hb dX6_share_48 ?_
          refine lv_iload hx hb dX6_share_49 (lv_at hl 4 rfl) ?_
          obtain ⟨rr_18, ee_19, h⟩ := bnd1_s h
          refine cSi (As := [.int v4]) (rest := [.int (Y_br - (1 : Int32)), .int rr_16]) S0 hK hA hP (va_D_same hD rfl) hS [] (k_X6_ones l G v4 rr_18 ee_19) cw_X6_ones rfl rfl (Nat.le_of_ble_eq_true rfl) rfl hl.1 rfl (Nat.le_of_ble_eq_true rfl) dX6_share_51 ⟨Nat.zero_le _, Nat.zero_le _⟩ (fun H locs hP hS => ?_)
          replace hP : va_P G.1 vwCl (W_Y G y0 y1 y2 y3 y4 y5 y6 y7 y8 y9 y10 y11 y12 y13 y14 y15 Y_br Y_fa Y_rbs Y_rfs Y_len Y_at Y_fau Y_wk Y_ac Y_nx Y_hs Y_sd Y_st Y_kd Y_fs Y_fl Y_now Y_rd Y_rb Y_rf Y_tx Y_row Y_hh Y_hl Y_hw Y_ik Y_kp) H := hP
          refine lv_isub hx hb dX6_share_54 ?_
          obtain ⟨rr_20, ee_21, h⟩ := bnd1_s h
          refine cSi (As := [.int ((Y_br - (1 : Int32)) - rr_18)]) (rest := [.int rr_16]) S0 hK hA hP (va_D_same hD rfl) hS [] (k_X6_factorial l G ((Y_br - (1 : Int32)) - rr_18) rr_20 ee_21) cw_X6_factorial rfl rfl (Nat.le_of_ble_eq_true rfl) rfl hl.1 rfl (Nat.le_of_ble_eq_true rfl) dX6_share_55 ⟨Nat.zero_le _, Nat.zero_le _⟩ (fun H locs hP hS => ?_)
          replace hP : va_P G.1 vwCl (W_Y G y0 y1 y2 y3 y4 y5 y6 y7 y8 y9 y10 y11 y12 y13 y14 y15 Y_br Y_fa Y_rbs Y_rfs Y_len Y_at Y_fau Y_wk Y_ac Y_nx Y_hs Y_sd Y_st Y_kd Y_fs Y_fl Y_now Y_rd Y_rb Y_rf Y_tx Y_row Y_hh Y_hl Y_hw Y_ik Y_kp) H := hP
          refine lv_imul hx hb dX6_share_58 ?_
          refine lv_istore (lv' := [(5, .int (rr_16 * rr_20)), (0, .ref y0), (1, .int v1), (2, .int v2), (3, .int v3), (4, .int v4)]) hx hb dX6_share_59 hl (by decide) rfl (fun ls hl => ?_)
          refine lv_iload_n hx hb dX6_share_61 rfl (lv_at hl 4 rfl) ?_
          refine lv_iload hx hb dX6_share_62 (lv_at hl 0 rfl) ?_
          refine lv_aload_n hx hb dX6_share_64 rfl (lv_at hl 1 rfl) ?_
          refine lv_iload hx hb dX6_share_65 (lv_at hl 5 rfl) ?_
          obtain ⟨rr_22, dd_23, dd_24, ee_25, h⟩ := bnd3_s h
          refine cFi (As := [.int v4]) (rest := [.int (rr_16 * rr_20), .int v3]) S0 hK hA hP (va_D_same hD rfl) hS (k_X6_dustBy l G y0 y1 y2 y3 y4 y5 y6 y7 y8 y9 y10 y11 y12 y13 y14 y15 Y_br Y_fa Y_rbs Y_rfs Y_len Y_at Y_fau Y_wk Y_ac Y_nx Y_hs Y_sd Y_st Y_kd Y_fs Y_fl Y_now Y_rd Y_rb Y_rf Y_tx Y_row Y_hh Y_hl Y_hw Y_ik Y_kp v4 rr_22 dd_23 dd_24 ee_25) cw_X6_dustBy 6 0 rfl rfl rfl rfl hl.1 rfl (Nat.le_of_ble_eq_true rfl) dX6_share_67 ⟨Nat.zero_le _, Nat.zero_le _⟩ (fun H locs hP hS => ?_)
          replace hP : va_P G.1 vwCl (W_Y G y0 y1 y2 y3 y4 y5 y6 y7 y8 y9 y10 y11 y12 y13 y14 y15 Y_br Y_fa Y_rbs Y_rfs Y_len Y_at Y_fau dd_23 Y_ac Y_nx Y_hs Y_sd Y_st Y_kd Y_fs Y_fl dd_24 Y_rd Y_rb Y_rf Y_tx Y_row Y_hh Y_hl Y_hw Y_ik Y_kp) H := hP
          refine lv_aload_n hx hb dX6_share_70 rfl (lv_at hl 1 rfl) ?_
          refine lv_iload hx hb dX6_share_71 (lv_at hl 5 rfl) ?_
          refine lv_iconst (v := 1) hx hb dX6_share_73 (by decide) ?_
          refine lv_iload_n hx hb dX6_share_74 rfl (lv_at hl 2 rfl) ?_
          refine lv_ishl hx hb dX6_share_75 ?_
          refine lv_ior hx hb dX6_share_76 ?_
          obtain ⟨rr_26, dd_27, dd_28, ee_29, h⟩ := bnd3_s h
          refine cFi (As := [.int (v4 ||| ((1 : Int32) <<< (v1 &&& 31)))]) (rest := [.int rr_22, .int (rr_16 * rr_20), .int v3]) S0 hK hA hP (va_D_same hD rfl) hS (k_X6_dustBy l G y0 y1 y2 y3 y4 y5 y6 y7 y8 y9 y10 y11 y12 y13 y14 y15 Y_br Y_fa Y_rbs Y_rfs Y_len Y_at Y_fau dd_23 Y_ac Y_nx Y_hs Y_sd Y_st Y_kd Y_fs Y_fl dd_24 Y_rd Y_rb Y_rf Y_tx Y_row Y_hh Y_hl Y_hw Y_ik Y_kp (v4 ||| ((1 : Int32) <<< (v1 &&& 31))) rr_26 dd_27 dd_28 ee_29) cw_X6_dustBy 6 0 rfl rfl rfl rfl hl.1 rfl (Nat.le_of_ble_eq_true rfl) dX6_share_77 ⟨Nat.zero_le _, Nat.zero_le _⟩ (fun H locs hP hS => ?_)
          replace hP : va_P G.1 vwCl (W_Y G y0 y1 y2 y3 y4 y5 y6 y7 y8 y9 y10 y11 y12 y13 y14 y15 Y_br Y_fa Y_rbs Y_rfs Y_len Y_at Y_fau dd_27 Y_ac Y_nx Y_hs Y_sd Y_st Y_kd Y_fs Y_fl dd_28 Y_rd Y_rb Y_rf Y_tx Y_row Y_hh Y_hl Y_hw Y_ik Y_kp) H := hP
          refine lv_isub hx hb dX6_share_80 ?_
          refine lv_imul hx hb dX6_share_81 ?_
          refine lv_iadd hx hb dX6_share_82 ?_
          refine lv_istore_n (lv' := [(3, .int (v3 + ((rr_16 * rr_20) * (rr_22 - rr_26)))), (5, .int (rr_16 * rr_20)), (0, .ref y0), (1, .int v1), (2, .int v2), (4, .int v4)]) hx hb dX6_share_83 rfl hl (by decide) rfl (fun ls hl => ?_)
          exact J_84 (f_X6_share_15 Y_br Y_fa Y_st Y_kd Y_fs Y_fl fu) ih v1 v2 (v3 + ((rr_16 * rr_20) * (rr_22 - rr_26))) v4 dd_27 dd_28 _ _ _ h hP hS (lv_sub hl [2, 3, 4, 0, 5] rfl)
  unfold f_X6_share at h
  refine lv_aload_n hx hb dX6_share_0 rfl (lv_at hl 0 rfl) ?_
  refine lv_iload_n hx hb dX6_share_1 rfl (lv_at hl 1 rfl) ?_
  obtain ⟨rr_30, ee_31, h⟩ := bnd1_s h
  refine cFi (As := [.int u1]) (rest := []) S0 hK hA hP (va_D_same hD rfl) hS (k_X6_isBroom l G y0 y1 y2 y3 y4 y5 y6 y7 y8 y9 y10 y11 y12 y13 y14 y15 Y_br Y_fa Y_rbs Y_rfs Y_len Y_at Y_fau Y_wk Y_ac Y_nx Y_hs Y_sd Y_st Y_kd Y_fs Y_fl Y_now Y_rd Y_rb Y_rf Y_tx Y_row Y_hh Y_hl Y_hw Y_ik Y_kp u1 rr_30 ee_31) cw_X6_isBroom 6 0 rfl rfl rfl rfl hl.1 rfl (Nat.le_of_ble_eq_true rfl) dX6_share_2 ⟨Nat.zero_le _, Nat.zero_le _⟩ (fun H locs hP hS => ?_)
  replace hP : va_P G.1 vwCl (W_Y G y0 y1 y2 y3 y4 y5 y6 y7 y8 y9 y10 y11 y12 y13 y14 y15 Y_br Y_fa Y_rbs Y_rfs Y_len Y_at Y_fau Y_wk Y_ac Y_nx Y_hs Y_sd Y_st Y_kd Y_fs Y_fl Y_now Y_rd Y_rb Y_rf Y_tx Y_row Y_hh Y_hl Y_hw Y_ik Y_kp) H := hP
  refine lv_if_ne (tgt := 10) hx hb dX6_share_5 (by decide) (fun cc_32 => ?_) (fun cc_32 => ?_)
  · replace h := if_f cc_32 h
    refine lv_iconst (v := 0) hx hb dX6_share_10 (by decide) ?_
    refine lv_istore_n (lv' := [(3, .int (0 : Int32)), (0, .ref y0), (1, .int u1), (2, .int u2)]) hx hb dX6_share_11 rfl hl (by decide) rfl (fun ls hl => ?_)
    refine lv_iconst (v := 0) hx hb dX6_share_12 (by decide) ?_
    refine lv_istore (lv' := [(4, .int (0 : Int32)), (3, .int (0 : Int32)), (0, .ref y0), (1, .int u1), (2, .int u2)]) hx hb dX6_share_13 hl (by decide) rfl (fun ls hl => ?_)
    exact J_15  130 u1 u2 (0 : Int32) (0 : Int32) Y_wk Y_now _ _ _ h hP hS (lv_sub hl [2, 3, 4, 1, 0] rfl)
  · replace h := if_t cc_32 h
    refine lv_iconst (v := (-1)) hx hb dX6_share_8 (by decide) ?_
    cases h
    exact W.iret hx hb hr (fun t ht _ => ⟨⟨_, (), rfl, rfl, by show va_P G.1 vwCl _ t.heap; rw [ht]; exact hP⟩, hS.F ht⟩) hS.2.2 dX6_share_9
