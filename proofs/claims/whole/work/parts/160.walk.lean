def f_X6_bends_85 (Y_br : Int32) (Y_fa : Int32) (Y_wk : Int32) (Y_st : Nat → Int32) (Y_kd : Nat → Int32) (Y_fs : Nat → Int32) (Y_fl : Nat → Int32) (kk20 : Int32 → Int32 → Int32 → (Nat → Int32) → Option (Int32 × (Nat → Int32))) (v1 : Int32) (v3 : Int32) (q0 : Int32) (Y_now : Nat → Int32) : Option (Int32 × (Nat → Int32)) := kk20 v1 q0 (v3 + 1) Y_now
def f_X6_bends_84 (Y_br : Int32) (Y_fa : Int32) (Y_wk : Int32) (Y_st : Nat → Int32) (Y_kd : Nat → Int32) (Y_fs : Nat → Int32) (Y_fl : Nat → Int32) (kk20 : Int32 → Int32 → Int32 → (Nat → Int32) → Option (Int32 × (Nat → Int32))) (v1 : Int32) (v2 : Int32) (v3 : Int32) (Y_now : Nat → Int32) : Option (Int32 × (Nat → Int32)) := f_X6_bends_85 Y_br Y_fa Y_wk Y_st Y_kd Y_fs Y_fl kk20 v1 v3 v2 Y_now
def f_X6_bends_52 (Y_br : Int32) (Y_fa : Int32) (Y_wk : Int32) (Y_st : Nat → Int32) (Y_kd : Nat → Int32) (Y_fs : Nat → Int32) (Y_fl : Nat → Int32) (kk20 : Int32 → Int32 → Int32 → (Nat → Int32) → Option (Int32 × (Nat → Int32))) (v1 : Int32) (v2 : Int32) (v3 : Int32) (q0 : Int32) (Y_now : Nat → Int32) : Option (Int32 × (Nat → Int32)) := if q0 = 0 then (f_X6_bends_84 Y_br Y_fa Y_wk Y_st Y_kd Y_fs Y_fl kk20 v1 v2 v3 Y_now) else (bnd1 (rd Y_now 32 (14 : Int32)) (fun zz_2 => if (v3 &&& zz_2) = 0 then (bnd2 (f_X6_keepsBelow Y_br Y_fa Y_wk Y_st Y_kd Y_fs Y_fl Y_now v3 v1) (fun rr_5 dd_6 => if rr_5 = 0 then (f_X6_bends_84 Y_br Y_fa Y_wk Y_st Y_kd Y_fs Y_fl kk20 v1 v2 v3 dd_6) else (f_X6_bends_85 Y_br Y_fa Y_wk Y_st Y_kd Y_fs Y_fl kk20 v1 v3 v3 dd_6))) else (f_X6_bends_84 Y_br Y_fa Y_wk Y_st Y_kd Y_fs Y_fl kk20 v1 v2 v3 Y_now)))
def f_X6_bends_47 (Y_br : Int32) (Y_fa : Int32) (Y_wk : Int32) (Y_st : Nat → Int32) (Y_kd : Nat → Int32) (Y_fs : Nat → Int32) (Y_fl : Nat → Int32) (kk20 : Int32 → Int32 → Int32 → (Nat → Int32) → Option (Int32 × (Nat → Int32))) (v1 : Int32) (v2 : Int32) (v3 : Int32) (Y_now : Nat → Int32) : Option (Int32 × (Nat → Int32)) := f_X6_bends_52 Y_br Y_fa Y_wk Y_st Y_kd Y_fs Y_fl kk20 v1 v2 v3 (1 : Int32) Y_now
def f_X6_bends_20 (Y_br : Int32) (Y_fa : Int32) (Y_wk : Int32) (Y_st : Nat → Int32) (Y_kd : Nat → Int32) (Y_fs : Nat → Int32) (Y_fl : Nat → Int32) : Nat → Int32 → Int32 → Int32 → (Nat → Int32) → Option (Int32 × (Nat → Int32))
  | 0, _, _, _, _ => none
  | fu + 1, v1, v2, v3, Y_now => if ((1 : Int32) <<< (Y_br &&& 31)) ≤ v3 then (some (v2, Y_now)) else (if v2 = ((-9) : Int32) then (f_X6_bends_47 Y_br Y_fa Y_wk Y_st Y_kd Y_fs Y_fl (f_X6_bends_20 Y_br Y_fa Y_wk Y_st Y_kd Y_fs Y_fl fu) v1 v2 v3 Y_now) else (bnd1 (f_X6_ones v3) (fun rr_11 => bnd1 (f_X6_ones v2) (fun rr_13 => if rr_13 ≤ rr_11 then (f_X6_bends_52 Y_br Y_fa Y_wk Y_st Y_kd Y_fs Y_fl (f_X6_bends_20 Y_br Y_fa Y_wk Y_st Y_kd Y_fs Y_fl fu) v1 v2 v3 (0 : Int32) Y_now) else (f_X6_bends_47 Y_br Y_fa Y_wk Y_st Y_kd Y_fs Y_fl (f_X6_bends_20 Y_br Y_fa Y_wk Y_st Y_kd Y_fs Y_fl fu) v1 v2 v3 Y_now)))))
def f_X6_bends (Y_br : Int32) (Y_fa : Int32) (Y_wk : Int32) (Y_st : Nat → Int32) (Y_kd : Nat → Int32) (Y_fs : Nat → Int32) (Y_fl : Nat → Int32) (Y_now : Nat → Int32) (u1 : Int32) : Option (Int32 × (Nat → Int32)) := bnd1 (f_X6_in (u1.toInt64) (1 : Int64) (9 : Int64)) (fun rr_16 => if rr_16 = 0 then (some (((-2) : Int32), Y_now)) else (f_X6_bends_20 Y_br Y_fa Y_wk Y_st Y_kd Y_fs Y_fl  130 u1 ((-9) : Int32) (0 : Int32) Y_now))
set_option maxRecDepth 100000 in
set_option maxHeartbeats 4000000 in
theorem k_X6_bends (l : Launch) (G : Gt) (y0 y1 y2 y3 y4 y5 y6 y7 y8 y9 y10 y11 y12 y13 y14 y15 : Nat) (Y_br : Int32) (Y_fa : Int32) (Y_rbs : Int32) (Y_rfs : Int32) (Y_len : Int32) (Y_at : Int32) (Y_fau : Int32) (Y_wk : Int32) (Y_ac : Int32) (Y_nx : Int32) (Y_hs : Int32) (Y_sd : Int64) (Y_st : Nat → Int32) (Y_kd : Nat → Int32) (Y_fs : Nat → Int32) (Y_fl : Nat → Int32) (Y_now : Nat → Int32) (Y_rd : Nat → Int32) (Y_rb : Nat → Int32) (Y_rf : Nat → Int32) (Y_tx : Nat → Int32) (Y_row : Nat → Int32) (Y_hh : Nat → Int32) (Y_hl : Nat → Int32) (Y_hw : Nat → Int32) (Y_ik : Nat → Int32) (Y_kp : Nat → Int32) (u1 : Int32) (r_ : Int32) (o_Y_now : Nat → Int32) (h : f_X6_bends Y_br Y_fa Y_wk Y_st Y_kd Y_fs Y_fl Y_now u1 = some (r_, o_Y_now)) : CT l yX6_bends wsX6_bends 5 117 G [.ref y0, .int u1] (W_Y G y0 y1 y2 y3 y4 y5 y6 y7 y8 y9 y10 y11 y12 y13 y14 y15 Y_br Y_fa Y_rbs Y_rfs Y_len Y_at Y_fau Y_wk Y_ac Y_nx Y_hs Y_sd Y_st Y_kd Y_fs Y_fl Y_now Y_rd Y_rb Y_rf Y_tx Y_row Y_hh Y_hl Y_hw Y_ik Y_kp) (QI G r_ (W_Y G y0 y1 y2 y3 y4 y5 y6 y7 y8 y9 y10 y11 y12 y13 y14 y15 Y_br Y_fa Y_rbs Y_rfs Y_len Y_at Y_fau Y_wk Y_ac Y_nx Y_hs Y_sd Y_st Y_kd Y_fs Y_fl o_Y_now Y_rd Y_rb Y_rf Y_tx Y_row Y_hh Y_hl Y_hw Y_ik Y_kp)) := by
  refine met_of cX6_bends 5 (some .int) (by decide) rfl (Nat.le_of_ble_eq_true rfl) ?_
  intro p e s m below meth c A ls hx hb hr hml hts hown hlocks hK hA hD hP hS hl
  replace hown : s.vm.findClass RX6 = some m.cls := hown
  replace hl : lv_has ls 5 [(0, .ref y0), (1, .int u1)] := hl
  have S0 : CallFix p m c cX6_bends 5 s _ wsX6_bends RX6 := ⟨hx, hb, hml, hown, hts⟩
  have fl22 := hts (.fieldLink RX6 22 "DustVoteModel" "now" "[I") (by decide +kernel)
  have inX6 := show ∀ w ∈ wsX60, w ∈ wsX6_bends from by decide +kernel
  have cw_X6_keepsBelow := show CallW (rmv 5 117) s _ RX6 RX6 168 yX6_keepsBelow cX6_keepsBelow 4 (some .boolean) wsX6_keepsBelow (rmv 4 94) 0 0 2 from cwV 2 hts gX6_bends_X6_keepsBelow rfl rfl rfl (by decide +kernel) ⟨Nat.le_of_ble_eq_true rfl, Nat.le_of_ble_eq_true rfl⟩
  have fl93 := hts (.fieldLink RX6 93 "DustVoteModel" "brooms" "I") (by decide +kernel)
  have cw_X6_ones := show CallB (rmv 5 117) s _ RX6 152 yX6_ones cX6_ones 3 (some .int) wsX6_ones (rmv 0 0) 0 0 1 ∧ (Cond.static yX6_ones).before _ s = true from va_cwS 1 hts gX6_bends_X6_ones rfl rfl rfl (by decide +kernel) ⟨Nat.le_of_ble_eq_true rfl, Nat.le_of_ble_eq_true rfl⟩
  have cl166 := hts (.constantLong RX6 166 (9)) (by decide +kernel)
  have cw_X6_in := show CallB (rmv 5 117) s _ RX6 62 yX6_in cX6_in 6 (some .boolean) wsX6_in (rmv 0 0) 0 0 3 ∧ (Cond.static yX6_in).before _ s = true from va_cwS 3 hts gX6_bends_X6_in rfl rfl rfl (by decide +kernel) ⟨Nat.le_of_ble_eq_true rfl, Nat.le_of_ble_eq_true rfl⟩
  have J_85 : ∀ (kk20 : Int32 → Int32 → Int32 → (Nat → Int32) → Option (Int32 × (Nat → Int32))) (hk20 : ∀ (v1 : Int32) (v2 : Int32) (v3 : Int32) (Y_now : Nat → Int32) (H : Heap) (locs : List Loc) (ls : Array Slot), kk20 v1 v2 v3 Y_now = some (r_, o_Y_now) → va_P G.1 vwCl (W_Y G y0 y1 y2 y3 y4 y5 y6 y7 y8 y9 y10 y11 y12 y13 y14 y15 Y_br Y_fa Y_rbs Y_rfs Y_len Y_at Y_fau Y_wk Y_ac Y_nx Y_hs Y_sd Y_st Y_kd Y_fs Y_fl Y_now Y_rd Y_rb Y_rf Y_tx Y_row Y_hh Y_hl Y_hw Y_ik Y_kp) H → va_S A s.heap H locs → lv_has ls 5 [(0, .ref y0), (1, .int v1), (2, .int v2), (3, .int v3)] → W p l e (rmv 5 117) s m (List.toArray [.ref y0, .int u1]) below meth c H locs 0 0 (MQ below ((QI G r_ (W_Y G y0 y1 y2 y3 y4 y5 y6 y7 y8 y9 y10 y11 y12 y13 y14 y15 Y_br Y_fa Y_rbs Y_rfs Y_len Y_at Y_fau Y_wk Y_ac Y_nx Y_hs Y_sd Y_st Y_kd Y_fs Y_fl o_Y_now Y_rd Y_rb Y_rf Y_tx Y_row Y_hh Y_hl Y_hw Y_ik Y_kp)) A) (List.toArray [.ref y0, .int u1]) s 0 0 A) (F0 m 20 ls [])), ∀ (v1 : Int32) (v3 : Int32) (q0 : Int32) (Y_now : Nat → Int32) (H : Heap) (locs : List Loc) (ls : Array Slot), f_X6_bends_85 Y_br Y_fa Y_wk Y_st Y_kd Y_fs Y_fl kk20 v1 v3 q0 Y_now = some (r_, o_Y_now) → va_P G.1 vwCl (W_Y G y0 y1 y2 y3 y4 y5 y6 y7 y8 y9 y10 y11 y12 y13 y14 y15 Y_br Y_fa Y_rbs Y_rfs Y_len Y_at Y_fau Y_wk Y_ac Y_nx Y_hs Y_sd Y_st Y_kd Y_fs Y_fl Y_now Y_rd Y_rb Y_rf Y_tx Y_row Y_hh Y_hl Y_hw Y_ik Y_kp) H → va_S A s.heap H locs → lv_has ls 5 [(0, .ref y0), (1, .int v1), (3, .int v3)] → W p l e (rmv 5 117) s m (List.toArray [.ref y0, .int u1]) below meth c H locs 0 0 (MQ below ((QI G r_ (W_Y G y0 y1 y2 y3 y4 y5 y6 y7 y8 y9 y10 y11 y12 y13 y14 y15 Y_br Y_fa Y_rbs Y_rfs Y_len Y_at Y_fau Y_wk Y_ac Y_nx Y_hs Y_sd Y_st Y_kd Y_fs Y_fl o_Y_now Y_rd Y_rb Y_rf Y_tx Y_row Y_hh Y_hl Y_hw Y_ik Y_kp)) A) (List.toArray [.ref y0, .int u1]) s 0 0 A) (F0 m 85 ls [.int q0]) := by
    intro kk20 hk20 v1 v3 q0 Y_now H locs ls h hP hS hl
    unfold f_X6_bends_85 at h
    refine lv_istore_n (lv' := [(2, .int q0), (0, .ref y0), (1, .int v1), (3, .int v3)]) hx hb dX6_bends_85 rfl hl (by decide) rfl (fun ls hl => ?_)
    refine lv_iinc (v := (v3 + 1)) (lv' := [(3, .int (v3 + 1)), (2, .int q0), (0, .ref y0), (1, .int v1)]) hx hb dX6_bends_86 hl (k := 3) rfl rfl (by decide) rfl (fun ls hl => ?_)
    refine lv_goto (tgt := 20) hx hb dX6_bends_89 (by decide) ?_
    exact hk20 v1 q0 (v3 + 1) Y_now _ _ _ h hP hS (lv_sub hl [2, 3, 1, 0] rfl)
  have J_84 : ∀ (kk20 : Int32 → Int32 → Int32 → (Nat → Int32) → Option (Int32 × (Nat → Int32))) (hk20 : ∀ (v1 : Int32) (v2 : Int32) (v3 : Int32) (Y_now : Nat → Int32) (H : Heap) (locs : List Loc) (ls : Array Slot), kk20 v1 v2 v3 Y_now = some (r_, o_Y_now) → va_P G.1 vwCl (W_Y G y0 y1 y2 y3 y4 y5 y6 y7 y8 y9 y10 y11 y12 y13 y14 y15 Y_br Y_fa Y_rbs Y_rfs Y_len Y_at Y_fau Y_wk Y_ac Y_nx Y_hs Y_sd Y_st Y_kd Y_fs Y_fl Y_now Y_rd Y_rb Y_rf Y_tx Y_row Y_hh Y_hl Y_hw Y_ik Y_kp) H → va_S A s.heap H locs → lv_has ls 5 [(0, .ref y0), (1, .int v1), (2, .int v2), (3, .int v3)] → W p l e (rmv 5 117) s m (List.toArray [.ref y0, .int u1]) below meth c H locs 0 0 (MQ below ((QI G r_ (W_Y G y0 y1 y2 y3 y4 y5 y6 y7 y8 y9 y10 y11 y12 y13 y14 y15 Y_br Y_fa Y_rbs Y_rfs Y_len Y_at Y_fau Y_wk Y_ac Y_nx Y_hs Y_sd Y_st Y_kd Y_fs Y_fl o_Y_now Y_rd Y_rb Y_rf Y_tx Y_row Y_hh Y_hl Y_hw Y_ik Y_kp)) A) (List.toArray [.ref y0, .int u1]) s 0 0 A) (F0 m 20 ls [])), ∀ (v1 : Int32) (v2 : Int32) (v3 : Int32) (Y_now : Nat → Int32) (H : Heap) (locs : List Loc) (ls : Array Slot), f_X6_bends_84 Y_br Y_fa Y_wk Y_st Y_kd Y_fs Y_fl kk20 v1 v2 v3 Y_now = some (r_, o_Y_now) → va_P G.1 vwCl (W_Y G y0 y1 y2 y3 y4 y5 y6 y7 y8 y9 y10 y11 y12 y13 y14 y15 Y_br Y_fa Y_rbs Y_rfs Y_len Y_at Y_fau Y_wk Y_ac Y_nx Y_hs Y_sd Y_st Y_kd Y_fs Y_fl Y_now Y_rd Y_rb Y_rf Y_tx Y_row Y_hh Y_hl Y_hw Y_ik Y_kp) H → va_S A s.heap H locs → lv_has ls 5 [(0, .ref y0), (1, .int v1), (2, .int v2), (3, .int v3)] → W p l e (rmv 5 117) s m (List.toArray [.ref y0, .int u1]) below meth c H locs 0 0 (MQ below ((QI G r_ (W_Y G y0 y1 y2 y3 y4 y5 y6 y7 y8 y9 y10 y11 y12 y13 y14 y15 Y_br Y_fa Y_rbs Y_rfs Y_len Y_at Y_fau Y_wk Y_ac Y_nx Y_hs Y_sd Y_st Y_kd Y_fs Y_fl o_Y_now Y_rd Y_rb Y_rf Y_tx Y_row Y_hh Y_hl Y_hw Y_ik Y_kp)) A) (List.toArray [.ref y0, .int u1]) s 0 0 A) (F0 m 84 ls []) := by
    intro kk20 hk20 v1 v2 v3 Y_now H locs ls h hP hS hl
    unfold f_X6_bends_84 at h
    refine lv_iload_n hx hb dX6_bends_84 rfl (lv_at hl 2 rfl) ?_
    exact J_85 kk20 hk20 v1 v3 v2 Y_now _ _ _ h hP hS (lv_sub hl [0, 1, 3] rfl)
  have J_52 : ∀ (kk20 : Int32 → Int32 → Int32 → (Nat → Int32) → Option (Int32 × (Nat → Int32))) (hk20 : ∀ (v1 : Int32) (v2 : Int32) (v3 : Int32) (Y_now : Nat → Int32) (H : Heap) (locs : List Loc) (ls : Array Slot), kk20 v1 v2 v3 Y_now = some (r_, o_Y_now) → va_P G.1 vwCl (W_Y G y0 y1 y2 y3 y4 y5 y6 y7 y8 y9 y10 y11 y12 y13 y14 y15 Y_br Y_fa Y_rbs Y_rfs Y_len Y_at Y_fau Y_wk Y_ac Y_nx Y_hs Y_sd Y_st Y_kd Y_fs Y_fl Y_now Y_rd Y_rb Y_rf Y_tx Y_row Y_hh Y_hl Y_hw Y_ik Y_kp) H → va_S A s.heap H locs → lv_has ls 5 [(0, .ref y0), (1, .int v1), (2, .int v2), (3, .int v3)] → W p l e (rmv 5 117) s m (List.toArray [.ref y0, .int u1]) below meth c H locs 0 0 (MQ below ((QI G r_ (W_Y G y0 y1 y2 y3 y4 y5 y6 y7 y8 y9 y10 y11 y12 y13 y14 y15 Y_br Y_fa Y_rbs Y_rfs Y_len Y_at Y_fau Y_wk Y_ac Y_nx Y_hs Y_sd Y_st Y_kd Y_fs Y_fl o_Y_now Y_rd Y_rb Y_rf Y_tx Y_row Y_hh Y_hl Y_hw Y_ik Y_kp)) A) (List.toArray [.ref y0, .int u1]) s 0 0 A) (F0 m 20 ls [])), ∀ (v1 : Int32) (v2 : Int32) (v3 : Int32) (q0 : Int32) (Y_now : Nat → Int32) (H : Heap) (locs : List Loc) (ls : Array Slot), f_X6_bends_52 Y_br Y_fa Y_wk Y_st Y_kd Y_fs Y_fl kk20 v1 v2 v3 q0 Y_now = some (r_, o_Y_now) → va_P G.1 vwCl (W_Y G y0 y1 y2 y3 y4 y5 y6 y7 y8 y9 y10 y11 y12 y13 y14 y15 Y_br Y_fa Y_rbs Y_rfs Y_len Y_at Y_fau Y_wk Y_ac Y_nx Y_hs Y_sd Y_st Y_kd Y_fs Y_fl Y_now Y_rd Y_rb Y_rf Y_tx Y_row Y_hh Y_hl Y_hw Y_ik Y_kp) H → va_S A s.heap H locs → lv_has ls 5 [(0, .ref y0), (1, .int v1), (2, .int v2), (3, .int v3)] → W p l e (rmv 5 117) s m (List.toArray [.ref y0, .int u1]) below meth c H locs 0 0 (MQ below ((QI G r_ (W_Y G y0 y1 y2 y3 y4 y5 y6 y7 y8 y9 y10 y11 y12 y13 y14 y15 Y_br Y_fa Y_rbs Y_rfs Y_len Y_at Y_fau Y_wk Y_ac Y_nx Y_hs Y_sd Y_st Y_kd Y_fs Y_fl o_Y_now Y_rd Y_rb Y_rf Y_tx Y_row Y_hh Y_hl Y_hw Y_ik Y_kp)) A) (List.toArray [.ref y0, .int u1]) s 0 0 A) (F0 m 52 ls [.int q0]) := by
    intro kk20 hk20 v1 v2 v3 q0 Y_now H locs ls h hP hS hl
    unfold f_X6_bends_52 at h
    refine lv_istore (lv' := [(4, .int q0), (0, .ref y0), (1, .int v1), (2, .int v2), (3, .int v3)]) hx hb dX6_bends_52 hl (by decide) rfl (fun ls hl => ?_)
    refine lv_iload hx hb dX6_bends_54 (lv_at hl 0 rfl) ?_
    refine lv_if_eq (tgt := 84) hx hb dX6_bends_56 (by decide) (fun cc_1 => ?_) (fun cc_1 => ?_)
    · replace h := if_t cc_1 h
      exact J_84 kk20 hk20 v1 v2 v3 Y_now _ _ _ h hP hS (lv_sub hl [1, 2, 3, 4] rfl)
    · replace h := if_f cc_1 h
      refine lv_iload_n hx hb dX6_bends_59 rfl (lv_at hl 4 rfl) ?_
      refine lv_aload_n hx hb dX6_bends_60 rfl (lv_at hl 1 rfl) ?_
      refine va_get (ci := 6) (C := RX6) (T := TX6) (N := 27) hx hb hts inX6 hown hK.1 hP 0 rfl rfl 6 (by decide) fl22 (fun _ h9 => h9) rfl dX6_bends_61 ?_
      refine lv_bipush (v := 14) hx hb dX6_bends_64 (by decide) ?_
      obtain ⟨zz_2, ee_3, h⟩ := bnd1_s h
      refine wIald hx hb hK hP 5 rfl ee_3 dX6_bends_66 ?_
      refine lv_iand hx hb dX6_bends_67 ?_
      refine lv_if_ne (tgt := 84) hx hb dX6_bends_68 (by decide) (fun cc_4 => ?_) (fun cc_4 => ?_)
      · replace h := if_f cc_4 h
        exact J_84 kk20 hk20 v1 v2 v3 Y_now _ _ _ h hP hS (lv_sub hl [1, 2, 3, 4] rfl)
      · replace h := if_t cc_4 h
        refine lv_aload_n hx hb dX6_bends_71 rfl (lv_at hl 1 rfl) ?_
        refine lv_iload_n hx hb dX6_bends_72 rfl (lv_at hl 4 rfl) ?_
        refine lv_iload_n hx hb dX6_bends_73 rfl (lv_at hl 2 rfl) ?_
        obtain ⟨rr_5, dd_6, ee_7, h⟩ := bnd2_s h
        refine cFi (As := [.int v3, .int v1]) (rest := []) S0 hK hA hP (va_D_same hD rfl) hS (k_X6_keepsBelow l G y0 y1 y2 y3 y4 y5 y6 y7 y8 y9 y10 y11 y12 y13 y14 y15 Y_br Y_fa Y_rbs Y_rfs Y_len Y_at Y_fau Y_wk Y_ac Y_nx Y_hs Y_sd Y_st Y_kd Y_fs Y_fl Y_now Y_rd Y_rb Y_rf Y_tx Y_row Y_hh Y_hl Y_hw Y_ik Y_kp v3 v1 rr_5 dd_6 ee_7) cw_X6_keepsBelow 6 0 rfl rfl rfl rfl hl.1 rfl (Nat.le_of_ble_eq_true rfl) dX6_bends_74 ⟨Nat.zero_le _, Nat.zero_le _⟩ (fun H locs hP hS => ?_)
        replace hP : va_P G.1 vwCl (W_Y G y0 y1 y2 y3 y4 y5 y6 y7 y8 y9 y10 y11 y12 y13 y14 y15 Y_br Y_fa Y_rbs Y_rfs Y_len Y_at Y_fau Y_wk Y_ac Y_nx Y_hs Y_sd Y_st Y_kd Y_fs Y_fl dd_6 Y_rd Y_rb Y_rf Y_tx Y_row Y_hh Y_hl Y_hw Y_ik Y_kp) H := hP
        refine lv_if_eq (tgt := 84) hx hb dX6_bends_77 (by decide) (fun cc_8 => ?_) (fun cc_8 => ?_)
        · replace h := if_t cc_8 h
          exact J_84 kk20 hk20 v1 v2 v3 dd_6 _ _ _ h hP hS (lv_sub hl [1, 2, 3, 4] rfl)
        · replace h := if_f cc_8 h
          refine lv_iload_n hx hb dX6_bends_80 rfl (lv_at hl 4 rfl) ?_
          refine lv_goto (tgt := 85) hx hb dX6_bends_81 (by decide) ?_
          exact J_85 kk20 hk20 v1 v3 v3 dd_6 _ _ _ h hP hS (lv_sub hl [1, 2, 4] rfl)
  have J_47 : ∀ (kk20 : Int32 → Int32 → Int32 → (Nat → Int32) → Option (Int32 × (Nat → Int32))) (hk20 : ∀ (v1 : Int32) (v2 : Int32) (v3 : Int32) (Y_now : Nat → Int32) (H : Heap) (locs : List Loc) (ls : Array Slot), kk20 v1 v2 v3 Y_now = some (r_, o_Y_now) → va_P G.1 vwCl (W_Y G y0 y1 y2 y3 y4 y5 y6 y7 y8 y9 y10 y11 y12 y13 y14 y15 Y_br Y_fa Y_rbs Y_rfs Y_len Y_at Y_fau Y_wk Y_ac Y_nx Y_hs Y_sd Y_st Y_kd Y_fs Y_fl Y_now Y_rd Y_rb Y_rf Y_tx Y_row Y_hh Y_hl Y_hw Y_ik Y_kp) H → va_S A s.heap H locs → lv_has ls 5 [(0, .ref y0), (1, .int v1), (2, .int v2), (3, .int v3)] → W p l e (rmv 5 117) s m (List.toArray [.ref y0, .int u1]) below meth c H locs 0 0 (MQ below ((QI G r_ (W_Y G y0 y1 y2 y3 y4 y5 y6 y7 y8 y9 y10 y11 y12 y13 y14 y15 Y_br Y_fa Y_rbs Y_rfs Y_len Y_at Y_fau Y_wk Y_ac Y_nx Y_hs Y_sd Y_st Y_kd Y_fs Y_fl o_Y_now Y_rd Y_rb Y_rf Y_tx Y_row Y_hh Y_hl Y_hw Y_ik Y_kp)) A) (List.toArray [.ref y0, .int u1]) s 0 0 A) (F0 m 20 ls [])), ∀ (v1 : Int32) (v2 : Int32) (v3 : Int32) (Y_now : Nat → Int32) (H : Heap) (locs : List Loc) (ls : Array Slot), f_X6_bends_47 Y_br Y_fa Y_wk Y_st Y_kd Y_fs Y_fl kk20 v1 v2 v3 Y_now = some (r_, o_Y_now) → va_P G.1 vwCl (W_Y G y0 y1 y2 y3 y4 y5 y6 y7 y8 y9 y10 y11 y12 y13 y14 y15 Y_br Y_fa Y_rbs Y_rfs Y_len Y_at Y_fau Y_wk Y_ac Y_nx Y_hs Y_sd Y_st Y_kd Y_fs Y_fl Y_now Y_rd Y_rb Y_rf Y_tx Y_row Y_hh Y_hl Y_hw Y_ik Y_kp) H → va_S A s.heap H locs → lv_has ls 5 [(0, .ref y0), (1, .int v1), (2, .int v2), (3, .int v3)] → W p l e (rmv 5 117) s m (List.toArray [.ref y0, .int u1]) below meth c H locs 0 0 (MQ below ((QI G r_ (W_Y G y0 y1 y2 y3 y4 y5 y6 y7 y8 y9 y10 y11 y12 y13 y14 y15 Y_br Y_fa Y_rbs Y_rfs Y_len Y_at Y_fau Y_wk Y_ac Y_nx Y_hs Y_sd Y_st Y_kd Y_fs Y_fl o_Y_now Y_rd Y_rb Y_rf Y_tx Y_row Y_hh Y_hl Y_hw Y_ik Y_kp)) A) (List.toArray [.ref y0, .int u1]) s 0 0 A) (F0 m 47 ls []) := by
    intro kk20 hk20 v1 v2 v3 Y_now H locs ls h hP hS hl
    unfold f_X6_bends_47 at h
    refine lv_iconst (v := 1) hx hb dX6_bends_47 (by decide) ?_
    refine lv_goto (tgt := 52) hx hb dX6_bends_48 (by decide) ?_
    exact J_52 kk20 hk20 v1 v2 v3 (1 : Int32) Y_now _ _ _ h hP hS (lv_sub hl [0, 1, 2, 3] rfl)
  have J_20 : ∀ (fu : Nat), ∀ (v1 : Int32) (v2 : Int32) (v3 : Int32) (Y_now : Nat → Int32) (H : Heap) (locs : List Loc) (ls : Array Slot), f_X6_bends_20 Y_br Y_fa Y_wk Y_st Y_kd Y_fs Y_fl fu v1 v2 v3 Y_now = some (r_, o_Y_now) → va_P G.1 vwCl (W_Y G y0 y1 y2 y3 y4 y5 y6 y7 y8 y9 y10 y11 y12 y13 y14 y15 Y_br Y_fa Y_rbs Y_rfs Y_len Y_at Y_fau Y_wk Y_ac Y_nx Y_hs Y_sd Y_st Y_kd Y_fs Y_fl Y_now Y_rd Y_rb Y_rf Y_tx Y_row Y_hh Y_hl Y_hw Y_ik Y_kp) H → va_S A s.heap H locs → lv_has ls 5 [(0, .ref y0), (1, .int v1), (2, .int v2), (3, .int v3)] → W p l e (rmv 5 117) s m (List.toArray [.ref y0, .int u1]) below meth c H locs 0 0 (MQ below ((QI G r_ (W_Y G y0 y1 y2 y3 y4 y5 y6 y7 y8 y9 y10 y11 y12 y13 y14 y15 Y_br Y_fa Y_rbs Y_rfs Y_len Y_at Y_fau Y_wk Y_ac Y_nx Y_hs Y_sd Y_st Y_kd Y_fs Y_fl o_Y_now Y_rd Y_rb Y_rf Y_tx Y_row Y_hh Y_hl Y_hw Y_ik Y_kp)) A) (List.toArray [.ref y0, .int u1]) s 0 0 A) (F0 m 20 ls []) := by
    intro  fu
    induction fu with
    | zero =>
      intro v1 v2 v3 Y_now H locs ls h
      cases h
    | succ fu ih =>
      intro v1 v2 v3 Y_now H locs ls h hP hS hl
      rw [f_X6_bends_20] at h
      refine lv_iload_n hx hb dX6_bends_20 rfl (lv_at hl 3 rfl) ?_
      refine lv_iconst (v := 1) hx hb dX6_bends_21 (by decide) ?_
      refine lv_aload_n hx hb dX6_bends_22 rfl (lv_at hl 0 rfl) ?_
      refine va_get (ci := 6) (C := RX6) (T := TX6) (N := 27) hx hb hts inX6 hown hK.1 hP 0 rfl rfl 0 (by decide) fl93 (fun _ h9 => h9) rfl dX6_bends_23 ?_
      refine lv_ishl hx hb dX6_bends_26 ?_
      refine lv_icmp_ge (tgt := 92) hx hb dX6_bends_27 (by decide) (fun cc_9 => ?_) (fun cc_9 => ?_)
      · replace h := if_t cc_9 h
        refine lv_iload_n hx hb dX6_bends_92 rfl (lv_at hl 2 rfl) ?_
        cases h
        exact W.iret hx hb hr (fun t ht _ => ⟨⟨_, (), rfl, rfl, by show va_P G.1 vwCl _ t.heap; rw [ht]; exact hP⟩, hS.F ht⟩) hS.2.2 dX6_bends_93
      · replace h := if_f cc_9 h
        refine lv_iload_n hx hb dX6_bends_30 rfl (lv_at hl 2 rfl) ?_
        refine lv_bipush (v := (-9)) hx hb dX6_bends_31 (by decide) ?_
        refine lv_icmp_eq (tgt := 47) hx hb dX6_bends_33 (by decide) (fun cc_10 => ?_) (fun cc_10 => ?_)
        · replace h := if_t cc_10 h
          exact J_47 (f_X6_bends_20 Y_br Y_fa Y_wk Y_st Y_kd Y_fs Y_fl fu) ih v1 v2 v3 Y_now _ _ _ h hP hS (lv_sub hl [0, 1, 2, 3] rfl)
        · replace h := if_f cc_10 h
          refine lv_iload_n hx hb dX6_bends_36 rfl (lv_at hl 3 rfl) ?_
          obtain ⟨rr_11, ee_12, h⟩ := bnd1_s h
          refine cSi (As := [.int v3]) (rest := []) S0 hK hA hP (va_D_same hD rfl) hS [] (k_X6_ones l G v3 rr_11 ee_12) cw_X6_ones rfl rfl (Nat.le_of_ble_eq_true rfl) rfl hl.1 rfl (Nat.le_of_ble_eq_true rfl) dX6_bends_37 ⟨Nat.zero_le _, Nat.zero_le _⟩ (fun H locs hP hS => ?_)
          replace hP : va_P G.1 vwCl (W_Y G y0 y1 y2 y3 y4 y5 y6 y7 y8 y9 y10 y11 y12 y13 y14 y15 Y_br Y_fa Y_rbs Y_rfs Y_len Y_at Y_fau Y_wk Y_ac Y_nx Y_hs Y_sd Y_st Y_kd Y_fs Y_fl Y_now Y_rd Y_rb Y_rf Y_tx Y_row Y_hh Y_hl Y_hw Y_ik Y_kp) H := hP
          refine lv_iload_n hx hb dX6_bends_40 rfl (lv_at hl 2 rfl) ?_
          obtain ⟨rr_13, ee_14, h⟩ := bnd1_s h
          refine cSi (As := [.int v2]) (rest := [.int rr_11]) S0 hK hA hP (va_D_same hD rfl) hS [] (k_X6_ones l G v2 rr_13 ee_14) cw_X6_ones rfl rfl (Nat.le_of_ble_eq_true rfl) rfl hl.1 rfl (Nat.le_of_ble_eq_true rfl) dX6_bends_41 ⟨Nat.zero_le _, Nat.zero_le _⟩ (fun H locs hP hS => ?_)
          replace hP : va_P G.1 vwCl (W_Y G y0 y1 y2 y3 y4 y5 y6 y7 y8 y9 y10 y11 y12 y13 y14 y15 Y_br Y_fa Y_rbs Y_rfs Y_len Y_at Y_fau Y_wk Y_ac Y_nx Y_hs Y_sd Y_st Y_kd Y_fs Y_fl Y_now Y_rd Y_rb Y_rf Y_tx Y_row Y_hh Y_hl Y_hw Y_ik Y_kp) H := hP
          refine lv_icmp_ge (tgt := 51) hx hb dX6_bends_44 (by decide) (fun cc_15 => ?_) (fun cc_15 => ?_)
          · replace h := if_t cc_15 h
            refine lv_iconst (v := 0) hx hb dX6_bends_51 (by decide) ?_
            exact J_52 (f_X6_bends_20 Y_br Y_fa Y_wk Y_st Y_kd Y_fs Y_fl fu) ih v1 v2 v3 (0 : Int32) Y_now _ _ _ h hP hS (lv_sub hl [0, 1, 2, 3] rfl)
          · replace h := if_f cc_15 h
            exact J_47 (f_X6_bends_20 Y_br Y_fa Y_wk Y_st Y_kd Y_fs Y_fl fu) ih v1 v2 v3 Y_now _ _ _ h hP hS (lv_sub hl [0, 1, 2, 3] rfl)
  unfold f_X6_bends at h
  refine lv_iload_n hx hb dX6_bends_0 rfl (lv_at hl 1 rfl) ?_
  refine lv_i2l (v := u1.toInt64) hx hb dX6_bends_1 rfl ?_
  refine lv_lconst (v := 1) hx hb dX6_bends_2 (by decide) ?_
  refine lv_ldc2 (v := 9) hx hb hown cl166 dX6_bends_3 ?_
  obtain ⟨rr_16, ee_17, h⟩ := bnd1_s h
  refine cSi (As := [.long (u1.toInt64), .long (1 : Int64), .long (9 : Int64)]) (rest := []) S0 hK hA hP (va_D_same hD rfl) hS [] (k_X6_in l G (u1.toInt64) (1 : Int64) (9 : Int64) rr_16 ee_17) cw_X6_in rfl rfl (Nat.le_of_ble_eq_true rfl) rfl hl.1 rfl (Nat.le_of_ble_eq_true rfl) dX6_bends_6 ⟨Nat.zero_le _, Nat.zero_le _⟩ (fun H locs hP hS => ?_)
  replace hP : va_P G.1 vwCl (W_Y G y0 y1 y2 y3 y4 y5 y6 y7 y8 y9 y10 y11 y12 y13 y14 y15 Y_br Y_fa Y_rbs Y_rfs Y_len Y_at Y_fau Y_wk Y_ac Y_nx Y_hs Y_sd Y_st Y_kd Y_fs Y_fl Y_now Y_rd Y_rb Y_rf Y_tx Y_row Y_hh Y_hl Y_hw Y_ik Y_kp) H := hP
  refine lv_if_ne (tgt := 15) hx hb dX6_bends_9 (by decide) (fun cc_18 => ?_) (fun cc_18 => ?_)
  · replace h := if_f cc_18 h
    refine lv_bipush (v := (-9)) hx hb dX6_bends_15 (by decide) ?_
    refine lv_istore_n (lv' := [(2, .int ((-9) : Int32)), (0, .ref y0), (1, .int u1)]) hx hb dX6_bends_17 rfl hl (by decide) rfl (fun ls hl => ?_)
    refine lv_iconst (v := 0) hx hb dX6_bends_18 (by decide) ?_
    refine lv_istore_n (lv' := [(3, .int (0 : Int32)), (2, .int ((-9) : Int32)), (0, .ref y0), (1, .int u1)]) hx hb dX6_bends_19 rfl hl (by decide) rfl (fun ls hl => ?_)
    exact J_20  130 u1 ((-9) : Int32) (0 : Int32) Y_now _ _ _ h hP hS (lv_sub hl [2, 3, 1, 0] rfl)
  · replace h := if_t cc_18 h
    refine lv_bipush (v := (-2)) hx hb dX6_bends_12 (by decide) ?_
    cases h
    exact W.iret hx hb hr (fun t ht _ => ⟨⟨_, (), rfl, rfl, by show va_P G.1 vwCl _ t.heap; rw [ht]; exact hP⟩, hS.F ht⟩) hS.2.2 dX6_bends_14
