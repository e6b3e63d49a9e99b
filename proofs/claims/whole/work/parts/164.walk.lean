def f_X6_whose_175 (Y_hs : Int32) (Y_hh : Nat → Int32) (Y_hl : Nat → Int32) (Y_hw : Nat → Int32) (kk21 : Int32 → Int32 → Int32 → Int32 → Option (Int32)) (v1 : Int32) (v3 : Int32) (v4 : Int32) (q0 : Int32) (q1 : Int32) : Option (Int32) := kk21 v1 (q0 + q1) v3 (v4 + 1)
def f_X6_whose_163 (Y_hs : Int32) (Y_hh : Nat → Int32) (Y_hl : Nat → Int32) (Y_hw : Nat → Int32) (kk21 : Int32 → Int32 → Int32 → Int32 → Option (Int32)) (v1 : Int32) (v2 : Int32) (v4 : Int32) (v6 : Int32) (q0 : Int32) : Option (Int32) := if v6 = 0 then (f_X6_whose_175 Y_hs Y_hh Y_hl Y_hw kk21 v1 q0 v4 v2 (0 : Int32)) else (f_X6_whose_175 Y_hs Y_hh Y_hl Y_hw kk21 v1 q0 v4 v2 (1 : Int32))
def f_X6_whose_162 (Y_hs : Int32) (Y_hh : Nat → Int32) (Y_hl : Nat → Int32) (Y_hw : Nat → Int32) (kk21 : Int32 → Int32 → Int32 → Int32 → Option (Int32)) (v1 : Int32) (v2 : Int32) (v3 : Int32) (v4 : Int32) (v6 : Int32) : Option (Int32) := f_X6_whose_163 Y_hs Y_hh Y_hl Y_hw kk21 v1 v2 v4 v6 v3
def f_X6_whose_131 (Y_hs : Int32) (Y_hh : Nat → Int32) (Y_hl : Nat → Int32) (Y_hw : Nat → Int32) (kk21 : Int32 → Int32 → Int32 → Int32 → Option (Int32)) (kk43 : Int32 → Int32 → Int32 → Int32 → Int32 → Int32 → Int32 → Option (Int32)) (v1 : Int32) (v2 : Int32) (v3 : Int32) (v4 : Int32) (v5 : Int32) (v7 : Int32) (q0 : Int32) : Option (Int32) := kk43 v1 v2 v3 v4 v5 q0 (v7 + 1)
def f_X6_whose_130 (Y_hs : Int32) (Y_hh : Nat → Int32) (Y_hl : Nat → Int32) (Y_hw : Nat → Int32) (kk21 : Int32 → Int32 → Int32 → Int32 → Option (Int32)) (kk43 : Int32 → Int32 → Int32 → Int32 → Int32 → Int32 → Int32 → Option (Int32)) (v1 : Int32) (v2 : Int32) (v3 : Int32) (v4 : Int32) (v5 : Int32) (v7 : Int32) : Option (Int32) := f_X6_whose_131 Y_hs Y_hh Y_hl Y_hw kk21 kk43 v1 v2 v3 v4 v5 v7 (0 : Int32)
def f_X6_whose_123 (Y_hs : Int32) (Y_hh : Nat → Int32) (Y_hl : Nat → Int32) (Y_hw : Nat → Int32) (kk21 : Int32 → Int32 → Int32 → Int32 → Option (Int32)) (kk43 : Int32 → Int32 → Int32 → Int32 → Int32 → Int32 → Int32 → Option (Int32)) (v1 : Int32) (v2 : Int32) (v3 : Int32) (v4 : Int32) (v5 : Int32) (v7 : Int32) (q0 : Int32) (q1 : Int32) : Option (Int32) := if q0 = q1 then (f_X6_whose_131 Y_hs Y_hh Y_hl Y_hw kk21 kk43 v1 v2 v3 v4 v5 v7 (1 : Int32)) else (f_X6_whose_130 Y_hs Y_hh Y_hl Y_hw kk21 kk43 v1 v2 v3 v4 v5 v7)
def f_X6_whose_76 (Y_hs : Int32) (Y_hh : Nat → Int32) (Y_hl : Nat → Int32) (Y_hw : Nat → Int32) (kk21 : Int32 → Int32 → Int32 → Int32 → Option (Int32)) (kk43 : Int32 → Int32 → Int32 → Int32 → Int32 → Int32 → Int32 → Option (Int32)) (v1 : Int32) (v2 : Int32) (v3 : Int32) (v4 : Int32) (v5 : Int32) (v6 : Int32) (v7 : Int32) (q0 : Int32) : Option (Int32) := if v6 = 0 then (f_X6_whose_130 Y_hs Y_hh Y_hl Y_hw kk21 kk43 v1 v2 v3 v4 v5 v7) else (bnd1 (rd Y_hl 6 v7) (fun zz_4 => bnd1 (rd Y_hh 6 v7) (fun zz_6 => if zz_4 = (zz_6 - q0) then (bnd1 (rd Y_hw 6 v7) (fun zz_9 => if (9 : Int32) ≤ v4 then (f_X6_whose_123 Y_hs Y_hh Y_hl Y_hw kk21 kk43 v1 v2 v3 v4 v5 v7 zz_9 q0) else (f_X6_whose_123 Y_hs Y_hh Y_hl Y_hw kk21 kk43 v1 v2 v3 v4 v5 v7 zz_9 (0 : Int32)))) else (f_X6_whose_130 Y_hs Y_hh Y_hl Y_hw kk21 kk43 v1 v2 v3 v4 v5 v7))))
def f_X6_whose_43 (Y_hs : Int32) (Y_hh : Nat → Int32) (Y_hl : Nat → Int32) (Y_hw : Nat → Int32) (kk21 : Int32 → Int32 → Int32 → Int32 → Option (Int32)) : Nat → Int32 → Int32 → Int32 → Int32 → Int32 → Int32 → Int32 → Option (Int32)
  | 0, _, _, _, _, _, _, _ => none
  | fu + 1, v1, v2, v3, v4, v5, v6, v7 => if Y_hs ≤ v7 then (if v6 = 0 then (f_X6_whose_162 Y_hs Y_hh Y_hl Y_hw kk21 v1 v2 v3 v4 v6) else (if v2 = 0 then (f_X6_whose_163 Y_hs Y_hh Y_hl Y_hw kk21 v1 v2 v4 v6 (((10 : Int32) * (v4 / (9 : Int32))) + v5)) else (f_X6_whose_162 Y_hs Y_hh Y_hl Y_hw kk21 v1 v2 v3 v4 v6))) else (bnd1 (rd Y_hh 6 v7) (fun zz_15 => if v5 ≤ zz_15 then (f_X6_whose_76 Y_hs Y_hh Y_hl Y_hw kk21 (f_X6_whose_43 Y_hs Y_hh Y_hl Y_hw kk21 fu) v1 v2 v3 v4 v5 v6 v7 v5) else (bnd1 (rd Y_hh 6 v7) (fun zz_18 => f_X6_whose_76 Y_hs Y_hh Y_hl Y_hw kk21 (f_X6_whose_43 Y_hs Y_hh Y_hl Y_hw kk21 fu) v1 v2 v3 v4 v5 v6 v7 zz_18))))
def f_X6_whose_21 (Y_hs : Int32) (Y_hh : Nat → Int32) (Y_hl : Nat → Int32) (Y_hw : Nat → Int32) : Nat → Int32 → Int32 → Int32 → Int32 → Option (Int32)
  | 0, _, _, _, _ => none
  | fu + 1, v1, v2, v3, v4 => if (18 : Int32) ≤ v4 then (if v1 = 0 then (some v2) else (some v3)) else (f_X6_whose_43 Y_hs Y_hh Y_hl Y_hw (f_X6_whose_21 Y_hs Y_hh Y_hl Y_hw fu) 130 v1 v2 v3 v4 ((1 : Int32) + (v4 - v4 / (9 : Int32) * (9 : Int32))) (1 : Int32) (0 : Int32))
def f_X6_whose (Y_hs : Int32) (Y_hh : Nat → Int32) (Y_hl : Nat → Int32) (Y_hw : Nat → Int32) (u1 : Int32) : Option (Int32) := bnd1 (f_X6_in (u1.toInt64) (0 : Int64) (1 : Int64)) (fun rr_22 => if rr_22 = 0 then (some ((-2) : Int32)) else (f_X6_whose_21 Y_hs Y_hh Y_hl Y_hw  130 u1 (0 : Int32) ((-9) : Int32) (0 : Int32)))
set_option maxRecDepth 100000 in
set_option maxHeartbeats 4000000 in
theorem k_X6_whose (l : Launch) (G : Gt) (y0 y1 y2 y3 y4 y5 y6 y7 y8 y9 y10 y11 y12 y13 y14 y15 : Nat) (Y_br : Int32) (Y_fa : Int32) (Y_rbs : Int32) (Y_rfs : Int32) (Y_len : Int32) (Y_at : Int32) (Y_fau : Int32) (Y_wk : Int32) (Y_ac : Int32) (Y_nx : Int32) (Y_hs : Int32) (Y_sd : Int64) (Y_st : Nat → Int32) (Y_kd : Nat → Int32) (Y_fs : Nat → Int32) (Y_fl : Nat → Int32) (Y_now : Nat → Int32) (Y_rd : Nat → Int32) (Y_rb : Nat → Int32) (Y_rf : Nat → Int32) (Y_tx : Nat → Int32) (Y_row : Nat → Int32) (Y_hh : Nat → Int32) (Y_hl : Nat → Int32) (Y_hw : Nat → Int32) (Y_ik : Nat → Int32) (Y_kp : Nat → Int32) (u1 : Int32) (r_ : Int32) (h : f_X6_whose Y_hs Y_hh Y_hl Y_hw u1 = some r_) : CT l yX6_whose wsX6_whose 1 25 G [.ref y0, .int u1] (W_Y G y0 y1 y2 y3 y4 y5 y6 y7 y8 y9 y10 y11 y12 y13 y14 y15 Y_br Y_fa Y_rbs Y_rfs Y_len Y_at Y_fau Y_wk Y_ac Y_nx Y_hs Y_sd Y_st Y_kd Y_fs Y_fl Y_now Y_rd Y_rb Y_rf Y_tx Y_row Y_hh Y_hl Y_hw Y_ik Y_kp) (QI G r_ (W_Y G y0 y1 y2 y3 y4 y5 y6 y7 y8 y9 y10 y11 y12 y13 y14 y15 Y_br Y_fa Y_rbs Y_rfs Y_len Y_at Y_fau Y_wk Y_ac Y_nx Y_hs Y_sd Y_st Y_kd Y_fs Y_fl Y_now Y_rd Y_rb Y_rf Y_tx Y_row Y_hh Y_hl Y_hw Y_ik Y_kp)) := by
  refine met_of cX6_whose 9 (some .int) (by decide) rfl (Nat.le_of_ble_eq_true rfl) ?_
  intro p e s m below meth c A ls hx hb hr hml hts hown hlocks hK hA hD hP hS hl
  replace hown : s.vm.findClass RX6 = some m.cls := hown
  replace hl : lv_has ls 9 [(0, .ref y0), (1, .int u1)] := hl
  have S0 : CallFix p m c cX6_whose 9 s _ wsX6_whose RX6 := ⟨hx, hb, hml, hown, hts⟩
  have fl47 := hts (.fieldLink RX6 47 "DustVoteModel" "heapLeft" "[I") (by decide +kernel)
  have inX6 := show ∀ w ∈ wsX60, w ∈ wsX6_whose from by decide +kernel
  have fl44 := hts (.fieldLink RX6 44 "DustVoteModel" "heapHad" "[I") (by decide +kernel)
  have fl50 := hts (.fieldLink RX6 50 "DustVoteModel" "heapWent" "[I") (by decide +kernel)
  have fl185 := hts (.fieldLink RX6 185 "DustVoteModel" "heaps" "I") (by decide +kernel)
  have cw_X6_in := show CallB (rmv 1 25) s _ RX6 62 yX6_in cX6_in 6 (some .boolean) wsX6_in (rmv 0 0) 0 0 3 ∧ (Cond.static yX6_in).before _ s = true from va_cwS 3 hts gX6_whose_X6_in rfl rfl rfl (by decide +kernel) ⟨Nat.le_of_ble_eq_true rfl, Nat.le_of_ble_eq_true rfl⟩
  have J_175 : ∀ (kk21 : Int32 → Int32 → Int32 → Int32 → Option (Int32)) (hk21 : ∀ (v1 : Int32) (v2 : Int32) (v3 : Int32) (v4 : Int32) (H : Heap) (locs : List Loc) (ls : Array Slot), kk21 v1 v2 v3 v4 = some r_ → va_P G.1 vwCl (W_Y G y0 y1 y2 y3 y4 y5 y6 y7 y8 y9 y10 y11 y12 y13 y14 y15 Y_br Y_fa Y_rbs Y_rfs Y_len Y_at Y_fau Y_wk Y_ac Y_nx Y_hs Y_sd Y_st Y_kd Y_fs Y_fl Y_now Y_rd Y_rb Y_rf Y_tx Y_row Y_hh Y_hl Y_hw Y_ik Y_kp) H → va_S A s.heap H locs → lv_has ls 9 [(0, .ref y0), (1, .int v1), (2, .int v2), (3, .int v3), (4, .int v4)] → W p l e (rmv 1 25) s m (List.toArray [.ref y0, .int u1]) below meth c H locs 0 0 (MQ below ((QI G r_ (W_Y G y0 y1 y2 y3 y4 y5 y6 y7 y8 y9 y10 y11 y12 y13 y14 y15 Y_br Y_fa Y_rbs Y_rfs Y_len Y_at Y_fau Y_wk Y_ac Y_nx Y_hs Y_sd Y_st Y_kd Y_fs Y_fl Y_now Y_rd Y_rb Y_rf Y_tx Y_row Y_hh Y_hl Y_hw Y_ik Y_kp)) A) (List.toArray [.ref y0, .int u1]) s 0 0 A) (F0 m 21 ls [])), ∀ (v1 : Int32) (v3 : Int32) (v4 : Int32) (q0 : Int32) (q1 : Int32) (H : Heap) (locs : List Loc) (ls : Array Slot), f_X6_whose_175 Y_hs Y_hh Y_hl Y_hw kk21 v1 v3 v4 q0 q1 = some r_ → va_P G.1 vwCl (W_Y G y0 y1 y2 y3 y4 y5 y6 y7 y8 y9 y10 y11 y12 y13 y14 y15 Y_br Y_fa Y_rbs Y_rfs Y_len Y_at Y_fau Y_wk Y_ac Y_nx Y_hs Y_sd Y_st Y_kd Y_fs Y_fl Y_now Y_rd Y_rb Y_rf Y_tx Y_row Y_hh Y_hl Y_hw Y_ik Y_kp) H → va_S A s.heap H locs → lv_has ls 9 [(0, .ref y0), (1, .int v1), (3, .int v3), (4, .int v4)] → W p l e (rmv 1 25) s m (List.toArray [.ref y0, .int u1]) below meth c H locs 0 0 (MQ below ((QI G r_ (W_Y G y0 y1 y2 y3 y4 y5 y6 y7 y8 y9 y10 y11 y12 y13 y14 y15 Y_br Y_fa Y_rbs Y_rfs Y_len Y_at Y_fau Y_wk Y_ac Y_nx Y_hs Y_sd Y_st Y_kd Y_fs Y_fl Y_now Y_rd Y_rb Y_rf Y_tx Y_row Y_hh Y_hl Y_hw Y_ik Y_kp)) A) (List.toArray [.ref y0, .int u1]) s 0 0 A) (F0 m 175 ls [.int q1, .int q0]) := by
    intro kk21 hk21 v1 v3 v4 q0 q1 H locs ls h hP hS hl
    unfold f_X6_whose_175 at h
    refine lv_iadd hx hb dX6_whose_175 ?_
    refine lv_istore_n (lv' := [(2, .int (q0 + q1)), (0, .ref y0), (1, .int v1), (3, .int v3), (4, .int v4)]) hx hb dX6_whose_176 rfl hl (by decide) rfl (fun ls hl => ?_)
    refine lv_iinc (v := (v4 + 1)) (lv' := [(4, .int (v4 + 1)), (2, .int (q0 + q1)), (0, .ref y0), (1, .int v1), (3, .int v3)]) hx hb dX6_whose_177 hl (k := 4) rfl rfl (by decide) rfl (fun ls hl => ?_)
    refine lv_goto (tgt := 21) hx hb dX6_whose_180 (by decide) ?_
    exact hk21 v1 (q0 + q1) v3 (v4 + 1) _ _ _ h hP hS (lv_sub hl [2, 3, 1, 4, 0] rfl)
  have J_163 : ∀ (kk21 : Int32 → Int32 → Int32 → Int32 → Option (Int32)) (hk21 : ∀ (v1 : Int32) (v2 : Int32) (v3 : Int32) (v4 : Int32) (H : Heap) (locs : List Loc) (ls : Array Slot), kk21 v1 v2 v3 v4 = some r_ → va_P G.1 vwCl (W_Y G y0 y1 y2 y3 y4 y5 y6 y7 y8 y9 y10 y11 y12 y13 y14 y15 Y_br Y_fa Y_rbs Y_rfs Y_len Y_at Y_fau Y_wk Y_ac Y_nx Y_hs Y_sd Y_st Y_kd Y_fs Y_fl Y_now Y_rd Y_rb Y_rf Y_tx Y_row Y_hh Y_hl Y_hw Y_ik Y_kp) H → va_S A s.heap H locs → lv_has ls 9 [(0, .ref y0), (1, .int v1), (2, .int v2), (3, .int v3), (4, .int v4)] → W p l e (rmv 1 25) s m (List.toArray [.ref y0, .int u1]) below meth c H locs 0 0 (MQ below ((QI G r_ (W_Y G y0 y1 y2 y3 y4 y5 y6 y7 y8 y9 y10 y11 y12 y13 y14 y15 Y_br Y_fa Y_rbs Y_rfs Y_len Y_at Y_fau Y_wk Y_ac Y_nx Y_hs Y_sd Y_st Y_kd Y_fs Y_fl Y_now Y_rd Y_rb Y_rf Y_tx Y_row Y_hh Y_hl Y_hw Y_ik Y_kp)) A) (List.toArray [.ref y0, .int u1]) s 0 0 A) (F0 m 21 ls [])), ∀ (v1 : Int32) (v2 : Int32) (v4 : Int32) (v6 : Int32) (q0 : Int32) (H : Heap) (locs : List Loc) (ls : Array Slot), f_X6_whose_163 Y_hs Y_hh Y_hl Y_hw kk21 v1 v2 v4 v6 q0 = some r_ → va_P G.1 vwCl (W_Y G y0 y1 y2 y3 y4 y5 y6 y7 y8 y9 y10 y11 y12 y13 y14 y15 Y_br Y_fa Y_rbs Y_rfs Y_len Y_at Y_fau Y_wk Y_ac Y_nx Y_hs Y_sd Y_st Y_kd Y_fs Y_fl Y_now Y_rd Y_rb Y_rf Y_tx Y_row Y_hh Y_hl Y_hw Y_ik Y_kp) H → va_S A s.heap H locs → lv_has ls 9 [(0, .ref y0), (1, .int v1), (2, .int v2), (4, .int v4), (6, .int v6)] → W p l e (rmv 1 25) s m (List.toArray [.ref y0, .int u1]) below meth c H locs 0 0 (MQ below ((QI G r_ (W_Y G y0 y1 y2 y3 y4 y5 y6 y7 y8 y9 y10 y11 y12 y13 y14 y15 Y_br Y_fa Y_rbs Y_rfs Y_len Y_at Y_fau Y_wk Y_ac Y_nx Y_hs Y_sd Y_st Y_kd Y_fs Y_fl Y_now Y_rd Y_rb Y_rf Y_tx Y_row Y_hh Y_hl Y_hw Y_ik Y_kp)) A) (List.toArray [.ref y0, .int u1]) s 0 0 A) (F0 m 163 ls [.int q0]) := by
    intro kk21 hk21 v1 v2 v4 v6 q0 H locs ls h hP hS hl
    unfold f_X6_whose_163 at h
    refine lv_istore_n (lv' := [(3, .int q0), (0, .ref y0), (1, .int v1), (2, .int v2), (4, .int v4), (6, .int v6)]) hx hb dX6_whose_163 rfl hl (by decide) rfl (fun ls hl => ?_)
    refine lv_iload_n hx hb dX6_whose_164 rfl (lv_at hl 3 rfl) ?_
    refine lv_iload hx hb dX6_whose_165 (lv_at hl 5 rfl) ?_
    refine lv_if_eq (tgt := 174) hx hb dX6_whose_167 (by decide) (fun cc_1 => ?_) (fun cc_1 => ?_)
    · replace h := if_t cc_1 h
      refine lv_iconst (v := 0) hx hb dX6_whose_174 (by decide) ?_
      exact J_175 kk21 hk21 v1 q0 v4 v2 (0 : Int32) _ _ _ h hP hS (lv_sub hl [1, 2, 0, 4] rfl)
    · replace h := if_f cc_1 h
      refine lv_iconst (v := 1) hx hb dX6_whose_170 (by decide) ?_
      refine lv_goto (tgt := 175) hx hb dX6_whose_171 (by decide) ?_
      exact J_175 kk21 hk21 v1 q0 v4 v2 (1 : Int32) _ _ _ h hP hS (lv_sub hl [1, 2, 0, 4] rfl)
  have J_162 : ∀ (kk21 : Int32 → Int32 → Int32 → Int32 → Option (Int32)) (hk21 : ∀ (v1 : Int32) (v2 : Int32) (v3 : Int32) (v4 : Int32) (H : Heap) (locs : List Loc) (ls : Array Slot), kk21 v1 v2 v3 v4 = some r_ → va_P G.1 vwCl (W_Y G y0 y1 y2 y3 y4 y5 y6 y7 y8 y9 y10 y11 y12 y13 y14 y15 Y_br Y_fa Y_rbs Y_rfs Y_len Y_at Y_fau Y_wk Y_ac Y_nx Y_hs Y_sd Y_st Y_kd Y_fs Y_fl Y_now Y_rd Y_rb Y_rf Y_tx Y_row Y_hh Y_hl Y_hw Y_ik Y_kp) H → va_S A s.heap H locs → lv_has ls 9 [(0, .ref y0), (1, .int v1), (2, .int v2), (3, .int v3), (4, .int v4)] → W p l e (rmv 1 25) s m (List.toArray [.ref y0, .int u1]) below meth c H locs 0 0 (MQ below ((QI G r_ (W_Y G y0 y1 y2 y3 y4 y5 y6 y7 y8 y9 y10 y11 y12 y13 y14 y15 Y_br Y_fa Y_rbs Y_rfs Y_len Y_at Y_fau Y_wk Y_ac Y_nx Y_hs Y_sd Y_st Y_kd Y_fs Y_fl Y_now Y_rd Y_rb Y_rf Y_tx Y_row Y_hh Y_hl Y_hw Y_ik Y_kp)) A) (List.toArray [.ref y0, .int u1]) s 0 0 A) (F0 m 21 ls [])), ∀ (v1 : Int32) (v2 : Int32) (v3 : Int32) (v4 : Int32) (v6 : Int32) (H : Heap) (locs : List Loc) (ls : Array Slot), f_X6_whose_162 Y_hs Y_hh Y_hl Y_hw kk21 v1 v2 v3 v4 v6 = some r_ → va_P G.1 vwCl (W_Y G y0 y1 y2 y3 y4 y5 y6 y7 y8 y9 y10 y11 y12 y13 y14 y15 Y_br Y_fa Y_rbs Y_rfs Y_len Y_at Y_fau Y_wk Y_ac Y_nx Y_hs Y_sd Y_st Y_kd Y_fs Y_fl Y_now Y_rd Y_rb Y_rf Y_tx Y_row Y_hh Y_hl Y_hw Y_ik Y_kp) H → va_S A s.heap H locs → lv_has ls 9 [(0, .ref y0), (1, .int v1), (2, .int v2), (3, .int v3), (4, .int v4), (6, .int v6)] → W p l e (rmv 1 25) s m (List.toArray [.ref y0, .int u1]) below meth c H locs 0 0 (MQ below ((QI G r_ (W_Y G y0 y1 y2 y3 y4 y5 y6 y7 y8 y9 y10 y11 y12 y13 y14 y15 Y_br Y_fa Y_rbs Y_rfs Y_len Y_at Y_fau Y_wk Y_ac Y_nx Y_hs Y_sd Y_st Y_kd Y_fs Y_fl Y_now Y_rd Y_rb Y_rf Y_tx Y_row Y_hh Y_hl Y_hw Y_ik Y_kp)) A) (List.toArray [.ref y0, .int u1]) s 0 0 A) (F0 m 162 ls []) := by
    intro kk21 hk21 v1 v2 v3 v4 v6 H locs ls h hP hS hl
    unfold f_X6_whose_162 at h
    refine lv_iload_n hx hb dX6_whose_162 rfl (lv_at hl 3 rfl) ?_
    exact J_163 kk21 hk21 v1 v2 v4 v6 v3 _ _ _ h hP hS (lv_sub hl [0, 1, 2, 4, 5] rfl)
  have J_131 : ∀ (kk21 : Int32 → Int32 → Int32 → Int32 → Option (Int32)) (hk21 : ∀ (v1 : Int32) (v2 : Int32) (v3 : Int32) (v4 : Int32) (H : Heap) (locs : List Loc) (ls : Array Slot), kk21 v1 v2 v3 v4 = some r_ → va_P G.1 vwCl (W_Y G y0 y1 y2 y3 y4 y5 y6 y7 y8 y9 y10 y11 y12 y13 y14 y15 Y_br Y_fa Y_rbs Y_rfs Y_len Y_at Y_fau Y_wk Y_ac Y_nx Y_hs Y_sd Y_st Y_kd Y_fs Y_fl Y_now Y_rd Y_rb Y_rf Y_tx Y_row Y_hh Y_hl Y_hw Y_ik Y_kp) H → va_S A s.heap H locs → lv_has ls 9 [(0, .ref y0), (1, .int v1), (2, .int v2), (3, .int v3), (4, .int v4)] → W p l e (rmv 1 25) s m (List.toArray [.ref y0, .int u1]) below meth c H locs 0 0 (MQ below ((QI G r_ (W_Y G y0 y1 y2 y3 y4 y5 y6 y7 y8 y9 y10 y11 y12 y13 y14 y15 Y_br Y_fa Y_rbs Y_rfs Y_len Y_at Y_fau Y_wk Y_ac Y_nx Y_hs Y_sd Y_st Y_kd Y_fs Y_fl Y_now Y_rd Y_rb Y_rf Y_tx Y_row Y_hh Y_hl Y_hw Y_ik Y_kp)) A) (List.toArray [.ref y0, .int u1]) s 0 0 A) (F0 m 21 ls [])) (kk43 : Int32 → Int32 → Int32 → Int32 → Int32 → Int32 → Int32 → Option (Int32)) (hk43 : ∀ (v1 : Int32) (v2 : Int32) (v3 : Int32) (v4 : Int32) (v5 : Int32) (v6 : Int32) (v7 : Int32) (H : Heap) (locs : List Loc) (ls : Array Slot), kk43 v1 v2 v3 v4 v5 v6 v7 = some r_ → va_P G.1 vwCl (W_Y G y0 y1 y2 y3 y4 y5 y6 y7 y8 y9 y10 y11 y12 y13 y14 y15 Y_br Y_fa Y_rbs Y_rfs Y_len Y_at Y_fau Y_wk Y_ac Y_nx Y_hs Y_sd Y_st Y_kd Y_fs Y_fl Y_now Y_rd Y_rb Y_rf Y_tx Y_row Y_hh Y_hl Y_hw Y_ik Y_kp) H → va_S A s.heap H locs → lv_has ls 9 [(0, .ref y0), (1, .int v1), (2, .int v2), (3, .int v3), (4, .int v4), (5, .int v5), (6, .int v6), (7, .int v7)] → W p l e (rmv 1 25) s m (List.toArray [.ref y0, .int u1]) below meth c H locs 0 0 (MQ below ((QI G r_ (W_Y G y0 y1 y2 y3 y4 y5 y6 y7 y8 y9 y10 y11 y12 y13 y14 y15 Y_br Y_fa Y_rbs Y_rfs Y_len Y_at Y_fau Y_wk Y_ac Y_nx Y_hs Y_sd Y_st Y_kd Y_fs Y_fl Y_now Y_rd Y_rb Y_rf Y_tx Y_row Y_hh Y_hl Y_hw Y_ik Y_kp)) A) (List.toArray [.ref y0, .int u1]) s 0 0 A) (F0 m 43 ls [])), ∀ (v1 : Int32) (v2 : Int32) (v3 : Int32) (v4 : Int32) (v5 : Int32) (v7 : Int32) (q0 : Int32) (H : Heap) (locs : List Loc) (ls : Array Slot), f_X6_whose_131 Y_hs Y_hh Y_hl Y_hw kk21 kk43 v1 v2 v3 v4 v5 v7 q0 = some r_ → va_P G.1 vwCl (W_Y G y0 y1 y2 y3 y4 y5 y6 y7 y8 y9 y10 y11 y12 y13 y14 y15 Y_br Y_fa Y_rbs Y_rfs Y_len Y_at Y_fau Y_wk Y_ac Y_nx Y_hs Y_sd Y_st Y_kd Y_fs Y_fl Y_now Y_rd Y_rb Y_rf Y_tx Y_row Y_hh Y_hl Y_hw Y_ik Y_kp) H → va_S A s.heap H locs → lv_has ls 9 [(0, .ref y0), (1, .int v1), (2, .int v2), (3, .int v3), (4, .int v4), (5, .int v5), (7, .int v7)] → W p l e (rmv 1 25) s m (List.toArray [.ref y0, .int u1]) below meth c H locs 0 0 (MQ below ((QI G r_ (W_Y G y0 y1 y2 y3 y4 y5 y6 y7 y8 y9 y10 y11 y12 y13 y14 y15 Y_br Y_fa Y_rbs Y_rfs Y_len Y_at Y_fau Y_wk Y_ac Y_nx Y_hs Y_sd Y_st Y_kd Y_fs Y_fl Y_now Y_rd Y_rb Y_rf Y_tx Y_row Y_hh Y_hl Y_hw Y_ik Y_kp)) A) (List.toArray [.ref y0, .int u1]) s 0 0 A) (F0 m 131 ls [.int q0]) := by
    intro kk21 hk21 kk43 hk43 v1 v2 v3 v4 v5 v7 q0 H locs ls h hP hS hl
    unfold f_X6_whose_131 at h
    refine lv_istore (lv' := [(6, .int q0), (0, .ref y0), (1, .int v1), (2, .int v2), (3, .int v3), (4, .int v4), (5, .int v5), (7, .int v7)]) hx hb dX6_whose_131 hl (by decide) rfl (fun ls hl => ?_)
    refine lv_iinc (v := (v7 + 1)) (lv' := [(7, .int (v7 + 1)), (6, .int q0), (0, .ref y0), (1, .int v1), (2, .int v2), (3, .int v3), (4, .int v4), (5, .int v5)]) hx hb dX6_whose_133 hl (k := 7) rfl rfl (by decide) rfl (fun ls hl => ?_)
    refine lv_goto (tgt := 43) hx hb dX6_whose_136 (by decide) ?_
    exact hk43 v1 v2 v3 v4 v5 q0 (v7 + 1) _ _ _ h hP hS (lv_sub hl [2, 3, 4, 5, 6, 7, 1, 0] rfl)
  have J_130 : ∀ (kk21 : Int32 → Int32 → Int32 → Int32 → Option (Int32)) (hk21 : ∀ (v1 : Int32) (v2 : Int32) (v3 : Int32) (v4 : Int32) (H : Heap) (locs : List Loc) (ls : Array Slot), kk21 v1 v2 v3 v4 = some r_ → va_P G.1 vwCl (W_Y G y0 y1 y2 y3 y4 y5 y6 y7 y8 y9 y10 y11 y12 y13 y14 y15 Y_br Y_fa Y_rbs Y_rfs Y_len Y_at Y_fau Y_wk Y_ac Y_nx Y_hs Y_sd Y_st Y_kd Y_fs Y_fl Y_now Y_rd Y_rb Y_rf Y_tx Y_row Y_hh Y_hl Y_hw Y_ik Y_kp) H → va_S A s.heap H locs → lv_has ls 9 [(0, .ref y0), (1, .int v1), (2, .int v2), (3, .int v3), (4, .int v4)] → W p l e (rmv 1 25) s m (List.toArray [.ref y0, .int u1]) below meth c H locs 0 0 (MQ below ((QI G r_ (W_Y G y0 y1 y2 y3 y4 y5 y6 y7 y8 y9 y10 y11 y12 y13 y14 y15 Y_br Y_fa Y_rbs Y_rfs Y_len Y_at Y_fau Y_wk Y_ac Y_nx Y_hs Y_sd Y_st Y_kd Y_fs Y_fl Y_now Y_rd Y_rb Y_rf Y_tx Y_row Y_hh Y_hl Y_hw Y_ik Y_kp)) A) (List.toArray [.ref y0, .int u1]) s 0 0 A) (F0 m 21 ls [])) (kk43 : Int32 → Int32 → Int32 → Int32 → Int32 → Int32 → Int32 → Option (Int32)) (hk43 : ∀ (v1 : Int32) (v2 : Int32) (v3 : Int32) (v4 : Int32) (v5 : Int32) (v6 : Int32) (v7 : Int32) (H : Heap) (locs : List Loc) (ls : Array Slot), kk43 v1 v2 v3 v4 v5 v6 v7 = some r_ → va_P G.1 vwCl (W_Y G y0 y1 y2 y3 y4 y5 y6 y7 y8 y9 y10 y11 y12 y13 y14 y15 Y_br Y_fa Y_rbs Y_rfs Y_len Y_at Y_fau Y_wk Y_ac Y_nx Y_hs Y_sd Y_st Y_kd Y_fs Y_fl Y_now Y_rd Y_rb Y_rf Y_tx Y_row Y_hh Y_hl Y_hw Y_ik Y_kp) H → va_S A s.heap H locs → lv_has ls 9 [(0, .ref y0), (1, .int v1), (2, .int v2), (3, .int v3), (4, .int v4), (5, .int v5), (6, .int v6), (7, .int v7)] → W p l e (rmv 1 25) s m (List.toArray [.ref y0, .int u1]) below meth c H locs 0 0 (MQ below ((QI G r_ (W_Y G y0 y1 y2 y3 y4 y5 y6 y7 y8 y9 y10 y11 y12 y13 y14 y15 Y_br Y_fa Y_rbs Y_rfs Y_len Y_at Y_fau Y_wk Y_ac Y_nx Y_hs Y_sd Y_st Y_kd Y_fs Y_fl Y_now Y_rd Y_rb Y_rf Y_tx Y_row Y_hh Y_hl Y_hw Y_ik Y_kp)) A) (List.toArray [.ref y0, .int u1]) s 0 0 A) (F0 m 43 ls [])), ∀ (v1 : Int32) (v2 : Int32) (v3 : Int32) (v4 : Int32) (v5 : Int32) (v7 : Int32) (H : Heap) (locs : List Loc) (ls : Array Slot), f_X6_whose_130 Y_hs Y_hh Y_hl Y_hw kk21 kk43 v1 v2 v3 v4 v5 v7 = some r_ → va_P G.1 vwCl (W_Y G y0 y1 y2 y3 y4 y5 y6 y7 y8 y9 y10 y11 y12 y13 y14 y15 Y_br Y_fa Y_rbs Y_rfs Y_len Y_at Y_fau Y_wk Y_ac Y_nx Y_hs Y_sd Y_st Y_kd Y_fs Y_fl Y_now Y_rd Y_rb Y_rf Y_tx Y_row Y_hh Y_hl Y_hw Y_ik Y_kp) H → va_S A s.heap H locs → lv_has ls 9 [(0, .ref y0), (1, .int v1), (2, .int v2), (3, .int v3), (4, .int v4), (5, .int v5), (7, .int v7)] → W p l e (rmv 1 25) s m (List.toArray [.ref y0, .int u1]) below meth c H locs 0 0 (MQ below ((QI G r_ (W_Y G y0 y1 y2 y3 y4 y5 y6 y7 y8 y9 y10 y11 y12 y13 y14 y15 Y_br Y_fa Y_rbs Y_rfs Y_len Y_at Y_fau Y_wk Y_ac Y_nx Y_hs Y_sd Y_st Y_kd Y_fs Y_fl Y_now Y_rd Y_rb Y_rf Y_tx Y_row Y_hh Y_hl Y_hw Y_ik Y_kp)) A) (List.toArray [.ref y0, .int u1]) s 0 0 A) (F0 m 130 ls []) := by
    intro kk21 hk21 kk43 hk43 v1 v2 v3 v4 v5 v7 H locs ls h hP hS hl
    unfold f_X6_whose_130 at h
    refine lv_iconst (v := 0) hx hb dX6_whose_130 (by decide) ?_
    exact J_131 kk21 hk21 kk43 hk43 v1 v2 v3 v4 v5 v7 (0 : Int32) _ _ _ h hP hS (lv_sub hl [0, 1, 2, 3, 4, 5, 6] rfl)
  have J_123 : ∀ (kk21 : Int32 → Int32 → Int32 → Int32 → Option (Int32)) (hk21 : ∀ (v1 : Int32) (v2 : Int32) (v3 : Int32) (v4 : Int32) (H : Heap) (locs : List Loc) (ls : Array Slot), kk21 v1 v2 v3 v4 = some r_ → va_P G.1 vwCl (W_Y G y0 y1 y2 y3 y4 y5 y6 y7 y8 y9 y10 y11 y12 y13 y14 y15 Y_br Y_fa Y_rbs Y_rfs Y_len Y_at Y_fau Y_wk Y_ac Y_nx Y_hs Y_sd Y_st Y_kd Y_fs Y_fl Y_now Y_rd Y_rb Y_rf Y_tx Y_row Y_hh Y_hl Y_hw Y_ik Y_kp) H → va_S A s.heap H locs → lv_has ls 9 [(0, .ref y0), (1, .int v1), (2, .int v2), (3, .int v3), (4, .int v4)] → W p l e (rmv 1 25) s m (List.toArray [.ref y0, .int u1]) below meth c H locs 0 0 (MQ below ((QI G r_ (W_Y G y0 y1 y2 y3 y4 y5 y6 y7 y8 y9 y10 y11 y12 y13 y14 y15 Y_br Y_fa Y_rbs Y_rfs Y_len Y_at Y_fau Y_wk Y_ac Y_nx Y_hs Y_sd Y_st Y_kd Y_fs Y_fl Y_now Y_rd Y_rb Y_rf Y_tx Y_row Y_hh Y_hl Y_hw Y_ik Y_kp)) A) (List.toArray [.ref y0, .int u1]) s 0 0 A) (F0 m 21 ls [])) (kk43 : Int32 → Int32 → Int32 → Int32 → Int32 → Int32 → Int32 → Option (Int32)) (hk43 : ∀ (v1 : Int32) (v2 : Int32) (v3 : Int32) (v4 : Int32) (v5 : Int32) (v6 : Int32) (v7 : Int32) (H : Heap) (locs : List Loc) (ls : Array Slot), kk43 v1 v2 v3 v4 v5 v6 v7 = some r_ → va_P G.1 vwCl (W_Y G y0 y1 y2 y3 y4 y5 y6 y7 y8 y9 y10 y11 y12 y13 y14 y15 Y_br Y_fa Y_rbs Y_rfs Y_len Y_at Y_fau Y_wk Y_ac Y_nx Y_hs Y_sd Y_st Y_kd Y_fs Y_fl Y_now Y_rd Y_rb Y_rf Y_tx Y_row Y_hh Y_hl Y_hw Y_ik Y_kp) H → va_S A s.heap H locs → lv_has ls 9 [(0, .ref y0), (1, .int v1), (2, .int v2), (3, .int v3), (4, .int v4), (5, .int v5), (6, .int v6), (7, .int v7)] → W p l e (rmv 1 25) s m (List.toArray [.ref y0, .int u1]) below meth c H locs 0 0 (MQ below ((QI G r_ (W_Y G y0 y1 y2 y3 y4 y5 y6 y7 y8 y9 y10 y11 y12 y13 y14 y15 Y_br Y_fa Y_rbs Y_rfs Y_len Y_at Y_fau Y_wk Y_ac Y_nx Y_hs Y_sd Y_st Y_kd Y_fs Y_fl Y_now Y_rd Y_rb Y_rf Y_tx Y_row Y_hh Y_hl Y_hw Y_ik Y_kp)) A) (List.toArray [.ref y0, .int u1]) s 0 0 A) (F0 m 43 ls [])), ∀ (v1 : Int32) (v2 : Int32) (v3 : Int32) (v4 : Int32) (v5 : Int32) (v7 : Int32) (q0 : Int32) (q1 : Int32) (H : Heap) (locs : List Loc) (ls : Array Slot), f_X6_whose_123 Y_hs Y_hh Y_hl Y_hw kk21 kk43 v1 v2 v3 v4 v5 v7 q0 q1 = some r_ → va_P G.1 vwCl (W_Y G y0 y1 y2 y3 y4 y5 y6 y7 y8 y9 y10 y11 y12 y13 y14 y15 Y_br Y_fa Y_rbs Y_rfs Y_len Y_at Y_fau Y_wk Y_ac Y_nx Y_hs Y_sd Y_st Y_kd Y_fs Y_fl Y_now Y_rd Y_rb Y_rf Y_tx Y_row Y_hh Y_hl Y_hw Y_ik Y_kp) H → va_S A s.heap H locs → lv_has ls 9 [(0, .ref y0), (1, .int v1), (2, .int v2), (3, .int v3), (4, .int v4), (5, .int v5), (7, .int v7)] → W p l e (rmv 1 25) s m (List.toArray [.ref y0, .int u1]) below meth c H locs 0 0 (MQ below ((QI G r_ (W_Y G y0 y1 y2 y3 y4 y5 y6 y7 y8 y9 y10 y11 y12 y13 y14 y15 Y_br Y_fa Y_rbs Y_rfs Y_len Y_at Y_fau Y_wk Y_ac Y_nx Y_hs Y_sd Y_st Y_kd Y_fs Y_fl Y_now Y_rd Y_rb Y_rf Y_tx Y_row Y_hh Y_hl Y_hw Y_ik Y_kp)) A) (List.toArray [.ref y0, .int u1]) s 0 0 A) (F0 m 123 ls [.int q1, .int q0]) := by
    intro kk21 hk21 kk43 hk43 v1 v2 v3 v4 v5 v7 q0 q1 H locs ls h hP hS hl
    unfold f_X6_whose_123 at h
    refine lv_icmp_ne (tgt := 130) hx hb dX6_whose_123 (by decide) (fun cc_2 => ?_) (fun cc_2 => ?_)
    · replace h := if_f cc_2 h
      exact J_130 kk21 hk21 kk43 hk43 v1 v2 v3 v4 v5 v7 _ _ _ h hP hS (lv_sub hl [0, 1, 2, 3, 4, 5, 6] rfl)
    · replace h := if_t cc_2 h
      refine lv_iconst (v := 1) hx hb dX6_whose_126 (by decide) ?_
      refine lv_goto (tgt := 131) hx hb dX6_whose_127 (by decide) ?_
      exact J_131 kk21 hk21 kk43 hk43 v1 v2 v3 v4 v5 v7 (1 : Int32) _ _ _ h hP hS (lv_sub hl [0, 1, 2, 3, 4, 5, 6] rfl)
  have J_76 : ∀ (kk21 : Int32 → Int32 → Int32 → Int32 → Option (Int32)) (hk21 : ∀ (v1 : Int32) (v2 : Int32) (v3 : Int32) (v4 : Int32) (H : Heap) (locs : List Loc) (ls : Array Slot), kk21 v1 v2 v3 v4 = some r_ → va_P G.1 vwCl (W_Y G y0 y1 y2 y3 y4 y5 y6 y7 y8 y9 y10 y11 y12 y13 y14 y15 Y_br Y_fa Y_rbs Y_rfs Y_len Y_at Y_fau Y_wk Y_ac Y_nx Y_hs Y_sd Y_st Y_kd Y_fs Y_fl Y_now Y_rd Y_rb Y_rf Y_tx Y_row Y_hh Y_hl Y_hw Y_ik Y_kp) H → va_S A s.heap H locs → lv_has ls 9 [(0, .ref y0), (1, .int v1), (2, .int v2), (3, .int v3), (4, .int v4)] → W p l e (rmv 1 25) s m (List.toArray [.ref y0, .int u1]) below meth c H locs 0 0 (MQ below ((QI G r_ (W_Y G y0 y1 y2 y3 y4 y5 y6 y7 y8 y9 y10 y11 y12 y13 y14 y15 Y_br Y_fa Y_rbs Y_rfs Y_len Y_at Y_fau Y_wk Y_ac Y_nx Y_hs Y_sd Y_st Y_kd Y_fs Y_fl Y_now Y_rd Y_rb Y_rf Y_tx Y_row Y_hh Y_hl Y_hw Y_ik Y_kp)) A) (List.toArray [.ref y0, .int u1]) s 0 0 A) (F0 m 21 ls [])) (kk43 : Int32 → Int32 → Int32 → Int32 → Int32 → Int32 → Int32 → Option (Int32)) (hk43 : ∀ (v1 : Int32) (v2 : Int32) (v3 : Int32) (v4 : Int32) (v5 : Int32) (v6 : Int32) (v7 : Int32) (H : Heap) (locs : List Loc) (ls : Array Slot), kk43 v1 v2 v3 v4 v5 v6 v7 = some r_ → va_P G.1 vwCl (W_Y G y0 y1 y2 y3 y4 y5 y6 y7 y8 y9 y10 y11 y12 y13 y14 y15 Y_br Y_fa Y_rbs Y_rfs Y_len Y_at Y_fau Y_wk Y_ac Y_nx Y_hs Y_sd Y_st Y_kd Y_fs Y_fl Y_now Y_rd Y_rb Y_rf Y_tx Y_row Y_hh Y_hl Y_hw Y_ik Y_kp) H → va_S A s.heap H locs → lv_has ls 9 [(0, .ref y0), (1, .int v1), (2, .int v2), (3, .int v3), (4, .int v4), (5, .int v5), (6, .int v6), (7, .int v7)] → W p l e (rmv 1 25) s m (List.toArray [.ref y0, .int u1]) below meth c H locs 0 0 (MQ below ((QI G r_ (W_Y G y0 y1 y2 y3 y4 y5 y6 y7 y8 y9 y10 y11 y12 y13 y14 y15 Y_br Y_fa Y_rbs Y_rfs Y_len Y_at Y_fau Y_wk Y_ac Y_nx Y_hs Y_sd Y_st Y_kd Y_fs Y_fl Y_now Y_rd Y_rb Y_rf Y_tx Y_row Y_hh Y_hl Y_hw Y_ik Y_kp)) A) (List.toArray [.ref y0, .int u1]) s 0 0 A) (F0 m 43 ls [])), ∀ (v1 : Int32) (v2 : Int32) (v3 : Int32) (v4 : Int32) (v5 : Int32) (v6 : Int32) (v7 : Int32) (q0 : Int32) (H : Heap) (locs : List Loc) (ls : Array Slot), f_X6_whose_76 Y_hs Y_hh Y_hl Y_hw kk21 kk43 v1 v2 v3 v4 v5 v6 v7 q0 = some r_ → va_P G.1 vwCl (W_Y G y0 y1 y2 y3 y4 y5 y6 y7 y8 y9 y10 y11 y12 y13 y14 y15 Y_br Y_fa Y_rbs Y_rfs Y_len Y_at Y_fau Y_wk Y_ac Y_nx Y_hs Y_sd Y_st Y_kd Y_fs Y_fl Y_now Y_rd Y_rb Y_rf Y_tx Y_row Y_hh Y_hl Y_hw Y_ik Y_kp) H → va_S A s.heap H locs → lv_has ls 9 [(0, .ref y0), (1, .int v1), (2, .int v2), (3, .int v3), (4, .int v4), (5, .int v5), (6, .int v6), (7, .int v7)] → W p l e (rmv 1 25) s m (List.toArray [.ref y0, .int u1]) below meth c H locs 0 0 (MQ below ((QI G r_ (W_Y G y0 y1 y2 y3 y4 y5 y6 y7 y8 y9 y10 y11 y12 y13 y14 y15 Y_br Y_fa Y_rbs Y_rfs Y_len Y_at Y_fau Y_wk Y_ac Y_nx Y_hs Y_sd Y_st Y_kd Y_fs Y_fl Y_now Y_rd Y_rb Y_rf Y_tx Y_row Y_hh Y_hl Y_hw Y_ik Y_kp)) A) (List.toArray [.ref y0, .int u1]) s 0 0 A) (F0 m 76 ls [.int q0]) := by
    intro kk21 hk21 kk43 hk43 v1 v2 v3 v4 v5 v6 v7 q0 H locs ls h hP hS hl
    unfold f_X6_whose_76 at h
    refine lv_istore (lv' := [(8, .int q0), (0, .ref y0), (1, .int v1), (2, .int v2), (3, .int v3), (4, .int v4), (5, .int v5), (6, .int v6), (7, .int v7)]) hx hb dX6_whose_76 hl (by decide) rfl (fun ls hl => ?_)
    refine lv_iload hx hb dX6_whose_78 (lv_at hl 7 rfl) ?_
    refine lv_if_eq (tgt := 130) hx hb dX6_whose_80 (by decide) (fun cc_3 => ?_) (fun cc_3 => ?_)
    · replace h := if_t cc_3 h
      exact J_130 kk21 hk21 kk43 hk43 v1 v2 v3 v4 v5 v7 _ _ _ h hP hS (lv_sub hl [1, 2, 3, 4, 5, 6, 8] rfl)
    · replace h := if_f cc_3 h
      refine lv_aload_n hx hb dX6_whose_83 rfl (lv_at hl 1 rfl) ?_
      refine va_get (ci := 6) (C := RX6) (T := TX6) (N := 27) hx hb hts inX6 hown hK.1 hP 0 rfl rfl 22 (by decide) fl47 (fun _ h9 => h9) rfl dX6_whose_84 ?_
      refine lv_iload hx hb dX6_whose_87 (lv_at hl 8 rfl) ?_
      obtain ⟨zz_4, ee_5, h⟩ := bnd1_s h
      refine wIald hx hb hK hP 12 rfl ee_5 dX6_whose_89 ?_
      refine lv_aload_n hx hb dX6_whose_90 rfl (lv_at hl 1 rfl) ?_
      refine va_get (ci := 6) (C := RX6) (T := TX6) (N := 27) hx hb hts inX6 hown hK.1 hP 0 rfl rfl 21 (by decide) fl44 (fun _ h9 => h9) rfl dX6_whose_91 ?_
      refine lv_iload hx hb dX6_whose_94 (lv_at hl 8 rfl) ?_
      obtain ⟨zz_6, ee_7, h⟩ := bnd1_s h
      refine wIald hx hb hK hP 11 rfl ee_7 dX6_whose_96 ?_
      refine lv_iload hx hb dX6_whose_97 (lv_at hl 0 rfl) ?_
      refine lv_isub hx hb dX6_whose_99 ?_
      refine lv_icmp_ne (tgt := 130) hx hb dX6_whose_100 (by decide) (fun cc_8 => ?_) (fun cc_8 => ?_)
      · replace h := if_f cc_8 h
        exact J_130 kk21 hk21 kk43 hk43 v1 v2 v3 v4 v5 v7 _ _ _ h hP hS (lv_sub hl [1, 2, 3, 4, 5, 6, 8] rfl)
      · replace h := if_t cc_8 h
        refine lv_aload_n hx hb dX6_whose_103 rfl (lv_at hl 1 rfl) ?_
        refine va_get (ci := 6) (C := RX6) (T := TX6) (N := 27) hx hb hts inX6 hown hK.1 hP 0 rfl rfl 23 (by decide) fl50 (fun _ h9 => h9) rfl dX6_whose_104 ?_
        refine lv_iload hx hb dX6_whose_107 (lv_at hl 8 rfl) ?_
        obtain ⟨zz_9, ee_10, h⟩ := bnd1_s h
        refine wIald hx hb hK hP 13 rfl ee_10 dX6_whose_109 ?_
        refine lv_iload hx hb dX6_whose_110 (lv_at hl 5 rfl) ?_
        refine lv_bipush (v := 9) hx hb dX6_whose_112 (by decide) ?_
        refine lv_icmp_ge (tgt := 121) hx hb dX6_whose_114 (by decide) (fun cc_11 => ?_) (fun cc_11 => ?_)
        · replace h := if_t cc_11 h
          refine lv_iload hx hb dX6_whose_121 (lv_at hl 0 rfl) ?_
          exact J_123 kk21 hk21 kk43 hk43 v1 v2 v3 v4 v5 v7 zz_9 q0 _ _ _ h hP hS (lv_sub hl [1, 2, 3, 4, 5, 6, 8] rfl)
        · replace h := if_f cc_11 h
          refine lv_iconst (v := 0) hx hb dX6_whose_117 (by decide) ?_
          refine lv_goto (tgt := 123) hx hb dX6_whose_118 (by decide) ?_
          exact J_123 kk21 hk21 kk43 hk43 v1 v2 v3 v4 v5 v7 zz_9 (0 : Int32) _ _ _ h hP hS (lv_sub hl [1, 2, 3, 4, 5, 6, 8] rfl)
  have J_43 : ∀ (kk21 : Int32 → Int32 → Int32 → Int32 → Option (Int32)) (hk21 : ∀ (v1 : Int32) (v2 : Int32) (v3 : Int32) (v4 : Int32) (H : Heap) (locs : List Loc) (ls : Array Slot), kk21 v1 v2 v3 v4 = some r_ → va_P G.1 vwCl (W_Y G y0 y1 y2 y3 y4 y5 y6 y7 y8 y9 y10 y11 y12 y13 y14 y15 Y_br Y_fa Y_rbs Y_rfs Y_len Y_at Y_fau Y_wk Y_ac Y_nx Y_hs Y_sd Y_st Y_kd Y_fs Y_fl Y_now Y_rd Y_rb Y_rf Y_tx Y_row Y_hh Y_hl Y_hw Y_ik Y_kp) H → va_S A s.heap H locs → lv_has ls 9 [(0, .ref y0), (1, .int v1), (2, .int v2), (3, .int v3), (4, .int v4)] → W p l e (rmv 1 25) s m (List.toArray [.ref y0, .int u1]) below meth c H locs 0 0 (MQ below ((QI G r_ (W_Y G y0 y1 y2 y3 y4 y5 y6 y7 y8 y9 y10 y11 y12 y13 y14 y15 Y_br Y_fa Y_rbs Y_rfs Y_len Y_at Y_fau Y_wk Y_ac Y_nx Y_hs Y_sd Y_st Y_kd Y_fs Y_fl Y_now Y_rd Y_rb Y_rf Y_tx Y_row Y_hh Y_hl Y_hw Y_ik Y_kp)) A) (List.toArray [.ref y0, .int u1]) s 0 0 A) (F0 m 21 ls [])) (fu : Nat), ∀ (v1 : Int32) (v2 : Int32) (v3 : Int32) (v4 : Int32) (v5 : Int32) (v6 : Int32) (v7 : Int32) (H : Heap) (locs : List Loc) (ls : Array Slot), f_X6_whose_43 Y_hs Y_hh Y_hl Y_hw kk21 fu v1 v2 v3 v4 v5 v6 v7 = some r_ → va_P G.1 vwCl (W_Y G y0 y1 y2 y3 y4 y5 y6 y7 y8 y9 y10 y11 y12 y13 y14 y15 Y_br Y_fa Y_rbs Y_rfs Y_len Y_at Y_fau Y_wk Y_ac Y_nx Y_hs Y_sd Y_st Y_kd Y_fs Y_fl Y_now Y_rd Y_rb Y_rf Y_tx Y_row Y_hh Y_hl Y_hw Y_ik Y_kp) H → va_S A s.heap H locs → lv_has ls 9 [(0, .ref y0), (1, .int v1), (2, .int v2), (3, .int v3), (4, .int v4), (5, .int v5), (6, .int v6), (7, .int v7)] → W p l e (rmv 1 25) s m (List.toArray [.ref y0, .int u1]) below meth c H locs 0 0 (MQ below ((QI G r_ (W_Y G y0 y1 y2 y3 y4 y5 y6 y7 y8 y9 y10 y11 y12 y13 y14 y15 Y_br Y_fa Y_rbs Y_rfs Y_len Y_at Y_fau Y_wk Y_ac Y_nx Y_hs Y_sd Y_st Y_kd Y_fs Y_fl Y_now Y_rd Y_rb Y_rf Y_tx Y_row Y_hh Y_hl Y_hw Y_ik Y_kp)) A) (List.toArray [.ref y0, .int u1]) s 0 0 A) (F0 m 43 ls []) := by
    intro kk21 hk21 fu
    induction fu with
    | zero =>
      intro v1 v2 v3 v4 v5 v6 v7 H locs ls h
      cases h
    | succ fu ih =>
      intro v1 v2 v3 v4 v5 v6 v7 H locs ls h hP hS hl
      rw [f_X6_whose_43] at h
      refine lv_iload hx hb dX6_whose_43 (lv_at hl 7 rfl) ?_
      refine lv_aload_n hx hb dX6_whose_45 rfl (lv_at hl 0 rfl) ?_
      refine va_get (ci := 6) (C := RX6) (T := TX6) (N := 27) hx hb hts inX6 hown hK.1 hP 0 rfl rfl 20 (by decide) fl185 (fun _ h9 => h9) rfl dX6_whose_46 ?_
      refine lv_icmp_ge (tgt := 139) hx hb dX6_whose_49 (by decide) (fun cc_12 => ?_) (fun cc_12 => ?_)
      · replace h := if_t cc_12 h
        refine lv_iload hx hb dX6_whose_139 (lv_at hl 6 rfl) ?_
        refine lv_if_eq (tgt := 162) hx hb dX6_whose_141 (by decide) (fun cc_13 => ?_) (fun cc_13 => ?_)
        · replace h := if_t cc_13 h
          exact J_162 kk21 hk21 v1 v2 v3 v4 v6 _ _ _ h hP hS (lv_sub hl [0, 1, 2, 3, 4, 6] rfl)
        · replace h := if_f cc_13 h
          refine lv_iload_n hx hb dX6_whose_144 rfl (lv_at hl 2 rfl) ?_
          refine lv_if_ne (tgt := 162) hx hb dX6_whose_145 (by decide) (fun cc_14 => ?_) (fun cc_14 => ?_)
          · replace h := if_f cc_14 h
            exact J_162 kk21 hk21 v1 v2 v3 v4 v6 _ _ _ h hP hS (lv_sub hl [0, 1, 2, 3, 4, 6] rfl)
          · replace h := if_t cc_14 h
            refine lv_bipush (v := 10) hx hb dX6_whose_148 (by decide) ?_
            refine lv_iload hx hb dX6_whose_150 (lv_at hl 4 rfl) ?_
            refine lv_bipush (v := 9) hx hb dX6_whose_152 (by decide) ?_
            refine lv_idiv hx hb dX6_whose_154 (by decide) ?_
            refine lv_imul hx hb dX6_whose_155 ?_
            refine lv_iload hx hb dX6_whose_156 (lv_at hl 5 rfl) ?_
            refine lv_iadd hx hb dX6_whose_158 ?_
            refine lv_goto (tgt := 163) hx hb dX6_whose_159 (by decide) ?_
            exact J_163 kk21 hk21 v1 v2 v4 v6 (((10 : Int32) * (v4 / (9 : Int32))) + v5) _ _ _ h hP hS (lv_sub hl [0, 1, 2, 4, 6] rfl)
      · replace h := if_f cc_12 h
        refine lv_aload_n hx hb dX6_whose_52 rfl (lv_at hl 0 rfl) ?_
        refine va_get (ci := 6) (C := RX6) (T := TX6) (N := 27) hx hb hts inX6 hown hK.1 hP 0 rfl rfl 21 (by decide) fl44 (fun _ h9 => h9) rfl dX6_whose_53 ?_
        refine lv_iload hx hb dX6_whose_56 (lv_at hl 7 rfl) ?_
        obtain ⟨zz_15, ee_16, h⟩ := bnd1_s h
        refine wIald hx hb hK hP 11 rfl ee_16 dX6_whose_58 ?_
        refine lv_iload hx hb dX6_whose_59 (lv_at hl 5 rfl) ?_
        refine lv_icmp_ge (tgt := 74) hx hb dX6_whose_61 (by decide) (fun cc_17 => ?_) (fun cc_17 => ?_)
        · replace h := if_t cc_17 h
          refine lv_iload hx hb dX6_whose_74 (lv_at hl 5 rfl) ?_
          exact J_76 kk21 hk21 (f_X6_whose_43 Y_hs Y_hh Y_hl Y_hw kk21 fu) ih v1 v2 v3 v4 v5 v6 v7 v5 _ _ _ h hP hS (lv_sub hl [0, 1, 2, 3, 4, 5, 6, 7] rfl)
        · replace h := if_f cc_17 h
          refine lv_aload_n hx hb dX6_whose_64 rfl (lv_at hl 0 rfl) ?_
          refine va_get (ci := 6) (C := RX6) (T := TX6) (N := 27) hx hb hts inX6 hown hK.1 hP 0 rfl rfl 21 (by decide) fl44 (fun _ h9 => h9) rfl dX6_whose_65 ?_
          refine lv_iload hx hb dX6_whose_68 (lv_at hl 7 rfl) ?_
          obtain ⟨zz_18, ee_19, h⟩ := bnd1_s h
          refine wIald hx hb hK hP 11 rfl ee_19 dX6_whose_70 ?_
          refine lv_goto (tgt := 76) hx hb dX6_whose_71 (by decide) ?_
          exact J_76 kk21 hk21 (f_X6_whose_43 Y_hs Y_hh Y_hl Y_hw kk21 fu) ih v1 v2 v3 v4 v5 v6 v7 zz_18 _ _ _ h hP hS (lv_sub hl [0, 1, 2, 3, 4, 5, 6, 7] rfl)
  have J_21 : ∀ (fu : Nat), ∀ (v1 : Int32) (v2 : Int32) (v3 : Int32) (v4 : Int32) (H : Heap) (locs : List Loc) (ls : Array Slot), f_X6_whose_21 Y_hs Y_hh Y_hl Y_hw fu v1 v2 v3 v4 = some r_ → va_P G.1 vwCl (W_Y G y0 y1 y2 y3 y4 y5 y6 y7 y8 y9 y10 y11 y12 y13 y14 y15 Y_br Y_fa Y_rbs Y_rfs Y_len Y_at Y_fau Y_wk Y_ac Y_nx Y_hs Y_sd Y_st Y_kd Y_fs Y_fl Y_now Y_rd Y_rb Y_rf Y_tx Y_row Y_hh Y_hl Y_hw Y_ik Y_kp) H → va_S A s.heap H locs → lv_has ls 9 [(0, .ref y0), (1, .int v1), (2, .int v2), (3, .int v3), (4, .int v4)] → W p l e (rmv 1 25) s m (List.toArray [.ref y0, .int u1]) below meth c H locs 0 0 (MQ below ((QI G r_ (W_Y G y0 y1 y2 y3 y4 y5 y6 y7 y8 y9 y10 y11 y12 y13 y14 y15 Y_br Y_fa Y_rbs Y_rfs Y_len Y_at Y_fau Y_wk Y_ac Y_nx Y_hs Y_sd Y_st Y_kd Y_fs Y_fl Y_now Y_rd Y_rb Y_rf Y_tx Y_row Y_hh Y_hl Y_hw Y_ik Y_kp)) A) (List.toArray [.ref y0, .int u1]) s 0 0 A) (F0 m 21 ls []) := by
    intro  fu
    induction fu with
    | zero =>
      intro v1 v2 v3 v4 H locs ls h
      cases h
    | succ fu ih =>
      intro v1 v2 v3 v4 H locs ls h hP hS hl
      rw [f_X6_whose_21] at h
      refine lv_iload hx hb dX6_whose_21 (lv_at hl 4 rfl) ?_
      refine lv_bipush (v := 18) hx hb dX6_whose_23 (by decide) ?_
      refine lv_icmp_ge (tgt := 183) hx hb dX6_whose_25 (by decide) (fun cc_20 => ?_) (fun cc_20 => ?_)
      · replace h := if_t cc_20 h
        refine lv_iload_n hx hb dX6_whose_183 rfl (lv_at hl 1 rfl) ?_
        refine lv_if_ne (tgt := 191) hx hb dX6_whose_184 (by decide) (fun cc_21 => ?_) (fun cc_21 => ?_)
        · replace h := if_f cc_21 h
          refine lv_iload_n hx hb dX6_whose_191 rfl (lv_at hl 3 rfl) ?_
          cases h
          exact W.iret hx hb hr (fun t ht _ => ⟨⟨_, (), rfl, rfl, by show va_P G.1 vwCl _ t.heap; rw [ht]; exact hP⟩, hS.F ht⟩) hS.2.2 dX6_whose_192
        · replace h := if_t cc_21 h
          refine lv_iload_n hx hb dX6_whose_187 rfl (lv_at hl 2 rfl) ?_
          refine lv_goto (tgt := 192) hx hb dX6_whose_188 (by decide) ?_
          cases h
          exact W.iret hx hb hr (fun t ht _ => ⟨⟨_, (), rfl, rfl, by show va_P G.1 vwCl _ t.heap; rw [ht]; exact hP⟩, hS.F ht⟩) hS.2.2 dX6_whose_192
      · replace h := if_f cc_20 h
        refine lv_iconst (v := 1) hx hb dX6_whose_28 (by decide) ?_
        refine lv_iload hx hb dX6_whose_29 (lv_at hl 4 rfl) ?_
        refine lv_bipush (v := 9) hx hb dX6_whose_31 (by decide) ?_
        refine lv_irem hx hb dX6_whose_33 (by decide) ?_
        refine lv_iadd hx hb dX6_whose_34 ?_
        refine lv_istore (lv' := [(5, .int ((1 : Int32) + (v4 - v4 / (9 : Int32) * (9 : Int32)))), (0, .ref y0), (1, .int v1), (2, .int v2), (3, .int v3), (4, .int v4)]) hx hb dX6_whose_35 hl (by decide) rfl (fun ls hl => ?_)
        refine lv_iconst (v := 1) hx hb dX6_whose_37 (by decide) ?_
        refine lv_istore (lv' := [(6, .int (1 : Int32)), (5, .int ((1 : Int32) + (v4 - v4 / (9 : Int32) * (9 : Int32)))), (0, .ref y0), (1, .int v1), (2, .int v2), (3, .int v3), (4, .int v4)]) hx hb dX6_whose_38 hl (by decide) rfl (fun ls hl => ?_)
        refine lv_iconst (v := 0) hx hb dX6_whose_40 (by decide) ?_
        refine lv_istore (lv' := [(7, .int (0 : Int32)), (6, .int (1 : Int32)), (5, .int ((1 : Int32) + (v4 - v4 / (9 : Int32) * (9 : Int32)))), (0, .ref y0), (1, .int v1), (2, .int v2), (3, .int v3), (4, .int v4)]) hx hb dX6_whose_41 hl (by decide) rfl (fun ls hl => ?_)
        exact J_43 (f_X6_whose_21 Y_hs Y_hh Y_hl Y_hw fu) ih 130 v1 v2 v3 v4 ((1 : Int32) + (v4 - v4 / (9 : Int32) * (9 : Int32))) (1 : Int32) (0 : Int32) _ _ _ h hP hS (lv_sub hl [3, 4, 5, 6, 7, 2, 1, 0] rfl)
  unfold f_X6_whose at h
  refine lv_iload_n hx hb dX6_whose_0 rfl (lv_at hl 1 rfl) ?_
  refine lv_i2l (v := u1.toInt64) hx hb dX6_whose_1 rfl ?_
  refine lv_lconst (v := 0) hx hb dX6_whose_2 (by decide) ?_
  refine lv_lconst (v := 1) hx hb dX6_whose_3 (by decide) ?_
  obtain ⟨rr_22, ee_23, h⟩ := bnd1_s h
  refine cSi (As := [.long (u1.toInt64), .long (0 : Int64), .long (1 : Int64)]) (rest := []) S0 hK hA hP (va_D_same hD rfl) hS [] (k_X6_in l G (u1.toInt64) (0 : Int64) (1 : Int64) rr_22 ee_23) cw_X6_in rfl rfl (Nat.le_of_ble_eq_true rfl) rfl hl.1 rfl (Nat.le_of_ble_eq_true rfl) dX6_whose_4 ⟨Nat.zero_le _, Nat.zero_le _⟩ (fun H locs hP hS => ?_)
  replace hP : va_P G.1 vwCl (W_Y G y0 y1 y2 y3 y4 y5 y6 y7 y8 y9 y10 y11 y12 y13 y14 y15 Y_br Y_fa Y_rbs Y_rfs Y_len Y_at Y_fau Y_wk Y_ac Y_nx Y_hs Y_sd Y_st Y_kd Y_fs Y_fl Y_now Y_rd Y_rb Y_rf Y_tx Y_row Y_hh Y_hl Y_hw Y_ik Y_kp) H := hP
  refine lv_if_ne (tgt := 13) hx hb dX6_whose_7 (by decide) (fun cc_24 => ?_) (fun cc_24 => ?_)
  · replace h := if_f cc_24 h
    refine lv_iconst (v := 0) hx hb dX6_whose_13 (by decide) ?_
    refine lv_istore_n (lv' := [(2, .int (0 : Int32)), (0, .ref y0), (1, .int u1)]) hx hb dX6_whose_14 rfl hl (by decide) rfl (fun ls hl => ?_)
    refine lv_bipush (v := (-9)) hx hb dX6_whose_15 (by decide) ?_
    refine lv_istore_n (lv' := [(3, .int ((-9) : Int32)), (2, .int (0 : Int32)), (0, .ref y0), (1, .int u1)]) hx hb dX6_whose_17 rfl hl (by decide) rfl (fun ls hl => ?_)
    refine lv_iconst (v := 0) hx hb dX6_whose_18 (by decide) ?_
    refine lv_istore (lv' := [(4, .int (0 : Int32)), (3, .int ((-9) : Int32)), (2, .int (0 : Int32)), (0, .ref y0), (1, .int u1)]) hx hb dX6_whose_19 hl (by decide) rfl (fun ls hl => ?_)
    exact J_21  130 u1 (0 : Int32) ((-9) : Int32) (0 : Int32) _ _ _ h hP hS (lv_sub hl [3, 4, 2, 1, 0] rfl)
  · replace h := if_t cc_24 h
    refine lv_bipush (v := (-2)) hx hb dX6_whose_10 (by decide) ?_
    cases h
    exact W.iret hx hb hr (fun t ht _ => ⟨⟨_, (), rfl, rfl, by show va_P G.1 vwCl _ t.heap; rw [ht]; exact hP⟩, hS.F ht⟩) hS.2.2 dX6_whose_12
