def f_X6_twice_147 (Y_br : Int32) (Y_fa : Int32) (Y_wk : Int32) (Y_st : Nat → Int32) (Y_kd : Nat → Int32) (Y_fs : Nat → Int32) (Y_fl : Nat → Int32) (kk45 : Int32 → Int32 → Int32 → Int32 → Int32 → Int32 → Int32 → (Nat → Int32) → Option (Int32 × (Nat → Int32))) (v1 : Int32) (v2 : Int32) (v3 : Int32) (v4 : Int32) (v6 : Int32) (v7 : Int32) (q0 : Int32) (q1 : Int32) (Y_now : Nat → Int32) : Option (Int32 × (Nat → Int32)) := kk45 v1 v2 v3 v4 (q0 + q1) v6 (v7 + 1) Y_now
def f_X6_twice_109 (Y_br : Int32) (Y_fa : Int32) (Y_wk : Int32) (Y_st : Nat → Int32) (Y_kd : Nat → Int32) (Y_fs : Nat → Int32) (Y_fl : Nat → Int32) (kk45 : Int32 → Int32 → Int32 → Int32 → Int32 → Int32 → Int32 → (Nat → Int32) → Option (Int32 × (Nat → Int32))) (kk63 : Int32 → Int32 → Int32 → Int32 → Int32 → Int32 → Int32 → Int32 → Int32 → (Nat → Int32) → Option (Int32 × (Nat → Int32))) (v1 : Int32) (v2 : Int32) (v3 : Int32) (v4 : Int32) (v5 : Int32) (v6 : Int32) (v7 : Int32) (v8 : Int32) (v9 : Int32) (q1 : Int32) (q2 : Int32) (Y_now : Nat → Int32) : Option (Int32 × (Nat → Int32)) := bnd1 (f_X6_passOn Y_br Y_fa Y_wk Y_st Y_kd Y_fs Y_fl Y_now q1 q2) (fun dd_1 => kk63 v1 v2 v3 v4 v5 v6 v7 v8 (v9 + 1) dd_1)
def f_X6_twice_89 (Y_br : Int32) (Y_fa : Int32) (Y_wk : Int32) (Y_st : Nat → Int32) (Y_kd : Nat → Int32) (Y_fs : Nat → Int32) (Y_fl : Nat → Int32) (kk45 : Int32 → Int32 → Int32 → Int32 → Int32 → Int32 → Int32 → (Nat → Int32) → Option (Int32 × (Nat → Int32))) (kk63 : Int32 → Int32 → Int32 → Int32 → Int32 → Int32 → Int32 → Int32 → Int32 → (Nat → Int32) → Option (Int32 × (Nat → Int32))) (v1 : Int32) (v2 : Int32) (v3 : Int32) (v4 : Int32) (v5 : Int32) (v6 : Int32) (v7 : Int32) (v9 : Int32) (q0 : Int32) (q1 : Int32) (Y_now : Nat → Int32) : Option (Int32 × (Nat → Int32)) := bnd1 (f_X6_has v7 v9) (fun rr_3 => if rr_3 = 0 then (f_X6_twice_109 Y_br Y_fa Y_wk Y_st Y_kd Y_fs Y_fl kk45 kk63 v1 v2 v3 v4 v5 v6 v7 (q0 * q1) v9 (1 : Int32) (1 : Int32) Y_now) else (f_X6_twice_109 Y_br Y_fa Y_wk Y_st Y_kd Y_fs Y_fl kk45 kk63 v1 v2 v3 v4 v5 v6 v7 (q0 * q1) v9 (1 : Int32) (2 : Int32) Y_now))
def f_X6_twice_63 (Y_br : Int32) (Y_fa : Int32) (Y_wk : Int32) (Y_st : Nat → Int32) (Y_kd : Nat → Int32) (Y_fs : Nat → Int32) (Y_fl : Nat → Int32) (kk45 : Int32 → Int32 → Int32 → Int32 → Int32 → Int32 → Int32 → (Nat → Int32) → Option (Int32 × (Nat → Int32))) : Nat → Int32 → Int32 → Int32 → Int32 → Int32 → Int32 → Int32 → Int32 → Int32 → (Nat → Int32) → Option (Int32 × (Nat → Int32))
  | 0, _, _, _, _, _, _, _, _, _, _ => none
  | fu + 1, v1, v2, v3, v4, v5, v6, v7, v8, v9, Y_now => if v2 ≤ v9 then (bnd1 (rd Y_now 32 ((16 : Int32) + v1)) (fun zz_7 => if zz_7 < (10 : Int32) then (f_X6_twice_147 Y_br Y_fa Y_wk Y_st Y_kd Y_fs Y_fl kk45 v1 v2 v3 v4 (v6 + v8) v7 v5 (0 : Int32) Y_now) else (f_X6_twice_147 Y_br Y_fa Y_wk Y_st Y_kd Y_fs Y_fl kk45 v1 v2 v3 v4 (v6 + v8) v7 v5 v8 Y_now))) else (bnd1 (f_X6_has v7 v9) (fun rr_10 => if rr_10 = 0 then (f_X6_twice_89 Y_br Y_fa Y_wk Y_st Y_kd Y_fs Y_fl kk45 (f_X6_twice_63 Y_br Y_fa Y_wk Y_st Y_kd Y_fs Y_fl kk45 fu) v1 v2 v3 v4 v5 v6 v7 v9 v8 ((10 : Int32) - v3) Y_now) else (f_X6_twice_89 Y_br Y_fa Y_wk Y_st Y_kd Y_fs Y_fl kk45 (f_X6_twice_63 Y_br Y_fa Y_wk Y_st Y_kd Y_fs Y_fl kk45 fu) v1 v2 v3 v4 v5 v6 v7 v9 v8 v3 Y_now)))
def f_X6_twice_45 (Y_br : Int32) (Y_fa : Int32) (Y_wk : Int32) (Y_st : Nat → Int32) (Y_kd : Nat → Int32) (Y_fs : Nat → Int32) (Y_fl : Nat → Int32) : Nat → Int32 → Int32 → Int32 → Int32 → Int32 → Int32 → Int32 → (Nat → Int32) → Option (Int32 × (Nat → Int32))
  | 0, _, _, _, _, _, _, _, _ => none
  | fu + 1, v1, v2, v3, v4, v5, v6, v7, Y_now => if ((1 : Int32) <<< (v2 &&& 31)) ≤ v7 then (bnd1 (f_X6_common v5 v6) (fun rr_14 => if v4 = 0 then (if rr_14 = 0 then none else (some ((v6 / rr_14), Y_now))) else (if rr_14 = 0 then none else (some ((v5 / rr_14), Y_now))))) else (bnd1 (f_X6_layTrial Y_now) (fun dd_19 => f_X6_twice_63 Y_br Y_fa Y_wk Y_st Y_kd Y_fs Y_fl (f_X6_twice_45 Y_br Y_fa Y_wk Y_st Y_kd Y_fs Y_fl fu) 130 v1 v2 v3 v4 v5 v6 v7 (1 : Int32) (0 : Int32) dd_19))
def f_X6_twice (Y_br : Int32) (Y_fa : Int32) (Y_wk : Int32) (Y_st : Nat → Int32) (Y_kd : Nat → Int32) (Y_fs : Nat → Int32) (Y_fl : Nat → Int32) (Y_now : Nat → Int32) (u1 : Int32) (u2 : Int32) (u3 : Int32) (u4 : Int32) : Option (Int32 × (Nat → Int32)) := bnd1 (f_X6_isStreet u1) (fun rr_21 => if rr_21 = 0 then (some (((-1) : Int32), Y_now)) else (bnd1 (f_X6_in (u2.toInt64) (1 : Int64) (6 : Int64)) (fun rr_24 => if rr_24 = 0 then (some (((-2) : Int32), Y_now)) else (bnd1 (f_X6_in (u3.toInt64) (0 : Int64) (10 : Int64)) (fun rr_27 => if rr_27 = 0 then (some (((-2) : Int32), Y_now)) else (f_X6_twice_45 Y_br Y_fa Y_wk Y_st Y_kd Y_fs Y_fl  130 u1 u2 u3 u4 (0 : Int32) (0 : Int32) (0 : Int32) Y_now))))))
set_option maxRecDepth 100000 in
set_option maxHeartbeats 4000000 in
theorem k_X6_twice (l : Launch) (G : Gt) (y0 y1 y2 y3 y4 y5 y6 y7 y8 y9 y10 y11 y12 y13 y14 y15 : Nat) (Y_br : Int32) (Y_fa : Int32) (Y_rbs : Int32) (Y_rfs : Int32) (Y_len : Int32) (Y_at : Int32) (Y_fau : Int32) (Y_wk : Int32) (Y_ac : Int32) (Y_nx : Int32) (Y_hs : Int32) (Y_sd : Int64) (Y_st : Nat → Int32) (Y_kd : Nat → Int32) (Y_fs : Nat → Int32) (Y_fl : Nat → Int32) (Y_now : Nat → Int32) (Y_rd : Nat → Int32) (Y_rb : Nat → Int32) (Y_rf : Nat → Int32) (Y_tx : Nat → Int32) (Y_row : Nat → Int32) (Y_hh : Nat → Int32) (Y_hl : Nat → Int32) (Y_hw : Nat → Int32) (Y_ik : Nat → Int32) (Y_kp : Nat → Int32) (u1 : Int32) (u2 : Int32) (u3 : Int32) (u4 : Int32) (r_ : Int32) (o_Y_now : Nat → Int32) (h : f_X6_twice Y_br Y_fa Y_wk Y_st Y_kd Y_fs Y_fl Y_now u1 u2 u3 u4 = some (r_, o_Y_now)) : CT l yX6_twice wsX6_twice 4 94 G [.ref y0, .int u1, .int u2, .int u3, .int u4] (W_Y G y0 y1 y2 y3 y4 y5 y6 y7 y8 y9 y10 y11 y12 y13 y14 y15 Y_br Y_fa Y_rbs Y_rfs Y_len Y_at Y_fau Y_wk Y_ac Y_nx Y_hs Y_sd Y_st Y_kd Y_fs Y_fl Y_now Y_rd Y_rb Y_rf Y_tx Y_row Y_hh Y_hl Y_hw Y_ik Y_kp) (QI G r_ (W_Y G y0 y1 y2 y3 y4 y5 y6 y7 y8 y9 y10 y11 y12 y13 y14 y15 Y_br Y_fa Y_rbs Y_rfs Y_len Y_at Y_fau Y_wk Y_ac Y_nx Y_hs Y_sd Y_st Y_kd Y_fs Y_fl o_Y_now Y_rd Y_rb Y_rf Y_tx Y_row Y_hh Y_hl Y_hw Y_ik Y_kp)) := by
  refine met_of cX6_twice 10 (some .int) (by decide) rfl (Nat.le_of_ble_eq_true rfl) ?_
  intro p e s m below meth c A ls hx hb hr hml hts hown hlocks hK hA hD hP hS hl
  replace hown : s.vm.findClass RX6 = some m.cls := hown
  replace hl : lv_has ls 10 [(0, .ref y0), (1, .int u1), (2, .int u2), (3, .int u3), (4, .int u4)] := hl
  have S0 : CallFix p m c cX6_twice 10 s _ wsX6_twice RX6 := ⟨hx, hb, hml, hown, hts⟩
  have cw_X6_passOn := show CallW (rmv 4 94) s _ RX6 RX6 143 yX6_passOn cX6_passOn 6 none wsX6_passOn (rmv 3 69) 0 0 2 from cwV 2 hts gX6_twice_X6_passOn rfl rfl rfl (by decide +kernel) ⟨Nat.le_of_ble_eq_true rfl, Nat.le_of_ble_eq_true rfl⟩
  have cw_X6_has := show CallB (rmv 4 94) s _ RX6 104 yX6_has cX6_has 2 (some .boolean) wsX6_has (rmv 0 0) 0 0 2 ∧ (Cond.static yX6_has).before _ s = true from va_cwS 2 hts gX6_twice_X6_has rfl rfl rfl (by decide +kernel) ⟨Nat.le_of_ble_eq_true rfl, Nat.le_of_ble_eq_true rfl⟩
  have fl22 := hts (.fieldLink RX6 22 "DustVoteModel" "now" "[I") (by decide +kernel)
  have inX6 := show ∀ w ∈ wsX60, w ∈ wsX6_twice from by decide +kernel
  have cw_X6_common := show CallB (rmv 4 94) s _ RX6 194 yX6_common cX6_common 5 (some .int) wsX6_common (rmv 0 0) 0 0 2 ∧ (Cond.static yX6_common).before _ s = true from va_cwS 2 hts gX6_twice_X6_common rfl rfl rfl (by decide +kernel) ⟨Nat.le_of_ble_eq_true rfl, Nat.le_of_ble_eq_true rfl⟩
  have cw_X6_layTrial := show CallW (rmv 4 94) s _ RX6 RX6 157 yX6_layTrial cX6_layTrial 2 none wsX6_layTrial (rmv 0 0) 0 0 0 from cwV 0 hts gX6_twice_X6_layTrial rfl rfl rfl (by decide +kernel) ⟨Nat.le_of_ble_eq_true rfl, Nat.le_of_ble_eq_true rfl⟩
  have cw_X6_isStreet := show CallB (rmv 4 94) s _ RX6 127 yX6_isStreet cX6_isStreet 1 (some .boolean) wsX6_isStreet (rmv 1 25) 0 0 1 ∧ (Cond.static yX6_isStreet).before _ s = true from va_cwS 1 hts gX6_twice_X6_isStreet rfl rfl rfl (by decide +kernel) ⟨Nat.le_of_ble_eq_true rfl, Nat.le_of_ble_eq_true rfl⟩
  have cl205 := hts (.constantLong RX6 205 (6)) (by decide +kernel)
  have cw_X6_in := show CallB (rmv 4 94) s _ RX6 62 yX6_in cX6_in 6 (some .boolean) wsX6_in (rmv 0 0) 0 0 3 ∧ (Cond.static yX6_in).before _ s = true from va_cwS 3 hts gX6_twice_X6_in rfl rfl rfl (by decide +kernel) ⟨Nat.le_of_ble_eq_true rfl, Nat.le_of_ble_eq_true rfl⟩
  have cl207 := hts (.constantLong RX6 207 (10)) (by decide +kernel)
  have J_147 : ∀ (kk45 : Int32 → Int32 → Int32 → Int32 → Int32 → Int32 → Int32 → (Nat → Int32) → Option (Int32 × (Nat → Int32))) (hk45 : ∀ (v1 : Int32) (v2 : Int32) (v3 : Int32) (v4 : Int32) (v5 : Int32) (v6 : Int32) (v7 : Int32) (Y_now : Nat → Int32) (H : Heap) (locs : List Loc) (ls : Array Slot), kk45 v1 v2 v3 v4 v5 v6 v7 Y_now = some (r_, o_Y_now) → va_P G.1 vwCl (W_Y G y0 y1 y2 y3 y4 y5 y6 y7 y8 y9 y10 y11 y12 y13 y14 y15 Y_br Y_fa Y_rbs Y_rfs Y_len Y_at Y_fau Y_wk Y_ac Y_nx Y_hs Y_sd Y_st Y_kd Y_fs Y_fl Y_now Y_rd Y_rb Y_rf Y_tx Y_row Y_hh Y_hl Y_hw Y_ik Y_kp) H → va_S A s.heap H locs → lv_has ls 10 [(0, .ref y0), (1, .int v1), (2, .int v2), (3, .int v3), (4, .int v4), (5, .int v5), (6, .int v6), (7, .int v7)] → W p l e (rmv 4 94) s m (List.toArray [.ref y0, .int u1, .int u2, .int u3, .int u4]) below meth c H locs 0 0 (MQ below ((QI G r_ (W_Y G y0 y1 y2 y3 y4 y5 y6 y7 y8 y9 y10 y11 y12 y13 y14 y15 Y_br Y_fa Y_rbs Y_rfs Y_len Y_at Y_fau Y_wk Y_ac Y_nx Y_hs Y_sd Y_st Y_kd Y_fs Y_fl o_Y_now Y_rd Y_rb Y_rf Y_tx Y_row Y_hh Y_hl Y_hw Y_ik Y_kp)) A) (List.toArray [.ref y0, .int u1, .int u2, .int u3, .int u4]) s 0 0 A) (F0 m 45 ls [])), ∀ (v1 : Int32) (v2 : Int32) (v3 : Int32) (v4 : Int32) (v6 : Int32) (v7 : Int32) (q0 : Int32) (q1 : Int32) (Y_now : Nat → Int32) (H : Heap) (locs : List Loc) (ls : Array Slot), f_X6_twice_147 Y_br Y_fa Y_wk Y_st Y_kd Y_fs Y_fl kk45 v1 v2 v3 v4 v6 v7 q0 q1 Y_now = some (r_, o_Y_now) → va_P G.1 vwCl (W_Y G y0 y1 y2 y3 y4 y5 y6 y7 y8 y9 y10 y11 y12 y13 y14 y15 Y_br Y_fa Y_rbs Y_rfs Y_len Y_at Y_fau Y_wk Y_ac Y_nx Y_hs Y_sd Y_st Y_kd Y_fs Y_fl Y_now Y_rd Y_rb Y_rf Y_tx Y_row Y_hh Y_hl Y_hw Y_ik Y_kp) H → va_S A s.heap H locs → lv_has ls 10 [(0, .ref y0), (1, .int v1), (2, .int v2), (3, .int v3), (4, .int v4), (6, .int v6), (7, .int v7)] → W p l e (rmv 4 94) s m (List.toArray [.ref y0, .int u1, .int u2, .int u3, .int u4]) below meth c H locs 0 0 (MQ below ((QI G r_ (W_Y G y0 y1 y2 y3 y4 y5 y6 y7 y8 y9 y10 y11 y12 y13 y14 y15 Y_br Y_fa Y_rbs Y_rfs Y_len Y_at Y_fau Y_wk Y_ac Y_nx Y_hs Y_sd Y_st Y_kd Y_fs Y_fl o_Y_now Y_rd Y_rb Y_rf Y_tx Y_row Y_hh Y_hl Y_hw Y_ik Y_kp)) A) (List.toArray [.ref y0, .int u1, .int u2, .int u3, .int u4]) s 0 0 A) (F0 m 147 ls [.int q1, .int q0]) := by
    intro kk45 hk45 v1 v2 v3 v4 v6 v7 q0 q1 Y_now H locs ls h hP hS hl
    unfold f_X6_twice_147 at h
    refine lv_iadd hx hb dX6_twice_147 ?_
    refine lv_istore (lv' := [(5, .int (q0 + q1)), (0, .ref y0), (1, .int v1), (2, .int v2), (3, .int v3), (4, .int v4), (6, .int v6), (7, .int v7)]) hx hb dX6_twice_148 hl (by decide) rfl (fun ls hl => ?_)
    refine lv_iinc (v := (v7 + 1)) (lv' := [(7, .int (v7 + 1)), (5, .int (q0 + q1)), (0, .ref y0), (1, .int v1), (2, .int v2), (3, .int v3), (4, .int v4), (6, .int v6)]) hx hb dX6_twice_150 hl (k := 7) rfl rfl (by decide) rfl (fun ls hl => ?_)
    refine lv_goto (tgt := 45) hx hb dX6_twice_153 (by decide) ?_
    exact hk45 v1 v2 v3 v4 (q0 + q1) v6 (v7 + 1) Y_now _ _ _ h hP hS (lv_sub hl [2, 3, 4, 5, 6, 1, 7, 0] rfl)
  have J_109 : ∀ (kk45 : Int32 → Int32 → Int32 → Int32 → Int32 → Int32 → Int32 → (Nat → Int32) → Option (Int32 × (Nat → Int32))) (hk45 : ∀ (v1 : Int32) (v2 : Int32) (v3 : Int32) (v4 : Int32) (v5 : Int32) (v6 : Int32) (v7 : Int32) (Y_now : Nat → Int32) (H : Heap) (locs : List Loc) (ls : Array Slot), kk45 v1 v2 v3 v4 v5 v6 v7 Y_now = some (r_, o_Y_now) → va_P G.1 vwCl (W_Y G y0 y1 y2 y3 y4 y5 y6 y7 y8 y9 y10 y11 y12 y13 y14 y15 Y_br Y_fa Y_rbs Y_rfs Y_len Y_at Y_fau Y_wk Y_ac Y_nx Y_hs Y_sd Y_st Y_kd Y_fs Y_fl Y_now Y_rd Y_rb Y_rf Y_tx Y_row Y_hh Y_hl Y_hw Y_ik Y_kp) H → va_S A s.heap H locs → lv_has ls 10 [(0, .ref y0), (1, .int v1), (2, .int v2), (3, .int v3), (4, .int v4), (5, .int v5), (6, .int v6), (7, .int v7)] → W p l e (rmv 4 94) s m (List.toArray [.ref y0, .int u1, .int u2, .int u3, .int u4]) below meth c H locs 0 0 (MQ below ((QI G r_ (W_Y G y0 y1 y2 y3 y4 y5 y6 y7 y8 y9 y10 y11 y12 y13 y14 y15 Y_br Y_fa Y_rbs Y_rfs Y_len Y_at Y_fau Y_wk Y_ac Y_nx Y_hs Y_sd Y_st Y_kd Y_fs Y_fl o_Y_now Y_rd Y_rb Y_rf Y_tx Y_row Y_hh Y_hl Y_hw Y_ik Y_kp)) A) (List.toArray [.ref y0, .int u1, .int u2, .int u3, .int u4]) s 0 0 A) (F0 m 45 ls [])) (kk63 : Int32 → Int32 → Int32 → Int32 → Int32 → Int32 → Int32 → Int32 → Int32 → (Nat → Int32) → Option (Int32 × (Nat → Int32))) (hk63 : ∀ (v1 : Int32) (v2 : Int32) (v3 : Int32) (v4 : Int32) (v5 : Int32) (v6 : Int32) (v7 : Int32) (v8 : Int32) (v9 : Int32) (Y_now : Nat → Int32) (H : Heap) (locs : List Loc) (ls : Array Slot), kk63 v1 v2 v3 v4 v5 v6 v7 v8 v9 Y_now = some (r_, o_Y_now) → va_P G.1 vwCl (W_Y G y0 y1 y2 y3 y4 y5 y6 y7 y8 y9 y10 y11 y12 y13 y14 y15 Y_br Y_fa Y_rbs Y_rfs Y_len Y_at Y_fau Y_wk Y_ac Y_nx Y_hs Y_sd Y_st Y_kd Y_fs Y_fl Y_now Y_rd Y_rb Y_rf Y_tx Y_row Y_hh Y_hl Y_hw Y_ik Y_kp) H → va_S A s.heap H locs → lv_has ls 10 [(0, .ref y0), (1, .int v1), (2, .int v2), (3, .int v3), (4, .int v4), (5, .int v5), (6, .int v6), (7, .int v7), (8, .int v8), (9, .int v9)] → W p l e (rmv 4 94) s m (List.toArray [.ref y0, .int u1, .int u2, .int u3, .int u4]) below meth c H locs 0 0 (MQ below ((QI G r_ (W_Y G y0 y1 y2 y3 y4 y5 y6 y7 y8 y9 y10 y11 y12 y13 y14 y15 Y_br Y_fa Y_rbs Y_rfs Y_len Y_at Y_fau Y_wk Y_ac Y_nx Y_hs Y_sd Y_st Y_kd Y_fs Y_fl o_Y_now Y_rd Y_rb Y_rf Y_tx Y_row Y_hh Y_hl Y_hw Y_ik Y_kp)) A) (List.toArray [.ref y0, .int u1, .int u2, .int u3, .int u4]) s 0 0 A) (F0 m 63 ls [])), ∀ (v1 : Int32) (v2 : Int32) (v3 : Int32) (v4 : Int32) (v5 : Int32) (v6 : Int32) (v7 : Int32) (v8 : Int32) (v9 : Int32) (q1 : Int32) (q2 : Int32) (Y_now : Nat → Int32) (H : Heap) (locs : List Loc) (ls : Array Slot), f_X6_twice_109 Y_br Y_fa Y_wk Y_st Y_kd Y_fs Y_fl kk45 kk63 v1 v2 v3 v4 v5 v6 v7 v8 v9 q1 q2 Y_now = some (r_, o_Y_now) → va_P G.1 vwCl (W_Y G y0 y1 y2 y3 y4 y5 y6 y7 y8 y9 y10 y11 y12 y13 y14 y15 Y_br Y_fa Y_rbs Y_rfs Y_len Y_at Y_fau Y_wk Y_ac Y_nx Y_hs Y_sd Y_st Y_kd Y_fs Y_fl Y_now Y_rd Y_rb Y_rf Y_tx Y_row Y_hh Y_hl Y_hw Y_ik Y_kp) H → va_S A s.heap H locs → lv_has ls 10 [(0, .ref y0), (1, .int v1), (2, .int v2), (3, .int v3), (4, .int v4), (5, .int v5), (6, .int v6), (7, .int v7), (8, .int v8), (9, .int v9)] → W p l e (rmv 4 94) s m (List.toArray [.ref y0, .int u1, .int u2, .int u3, .int u4]) below meth c H locs 0 0 (MQ below ((QI G r_ (W_Y G y0 y1 y2 y3 y4 y5 y6 y7 y8 y9 y10 y11 y12 y13 y14 y15 Y_br Y_fa Y_rbs Y_rfs Y_len Y_at Y_fau Y_wk Y_ac Y_nx Y_hs Y_sd Y_st Y_kd Y_fs Y_fl o_Y_now Y_rd Y_rb Y_rf Y_tx Y_row Y_hh Y_hl Y_hw Y_ik Y_kp)) A) (List.toArray [.ref y0, .int u1, .int u2, .int u3, .int u4]) s 0 0 A) (F0 m 109 ls [.int q2, .int q1, .ref y0]) := by
    intro kk45 hk45 kk63 hk63 v1 v2 v3 v4 v5 v6 v7 v8 v9 q1 q2 Y_now H locs ls h hP hS hl
    unfold f_X6_twice_109 at h
    obtain ⟨dd_1, ee_2, h⟩ := bnd1_s h
    refine cFv (As := [.int q1, .int q2]) (rest := []) S0 hK hA hP (va_D_same hD rfl) hS (k_X6_passOn l G y0 y1 y2 y3 y4 y5 y6 y7 y8 y9 y10 y11 y12 y13 y14 y15 Y_br Y_fa Y_rbs Y_rfs Y_len Y_at Y_fau Y_wk Y_ac Y_nx Y_hs Y_sd Y_st Y_kd Y_fs Y_fl Y_now Y_rd Y_rb Y_rf Y_tx Y_row Y_hh Y_hl Y_hw Y_ik Y_kp q1 q2 dd_1 ee_2) cw_X6_passOn 6 0 rfl rfl rfl rfl hl.1 rfl (Nat.le_of_ble_eq_true rfl) dX6_twice_109 ⟨Nat.zero_le _, Nat.zero_le _⟩ (fun H locs hP hS => ?_)
    replace hP : va_P G.1 vwCl (W_Y G y0 y1 y2 y3 y4 y5 y6 y7 y8 y9 y10 y11 y12 y13 y14 y15 Y_br Y_fa Y_rbs Y_rfs Y_len Y_at Y_fau Y_wk Y_ac Y_nx Y_hs Y_sd Y_st Y_kd Y_fs Y_fl dd_1 Y_rd Y_rb Y_rf Y_tx Y_row Y_hh Y_hl Y_hw Y_ik Y_kp) H := hP
    refine lv_iinc (v := (v9 + 1)) (lv' := [(9, .int (v9 + 1)), (0, .ref y0), (1, .int v1), (2, .int v2), (3, .int v3), (4, .int v4), (5, .int v5), (6, .int v6), (7, .int v7), (8, .int v8)]) hx hb dX6_twice_112 hl (k := 9) rfl rfl (by decide) rfl (fun ls hl => ?_)
    refine lv_goto (tgt := 63) hx hb dX6_twice_115 (by decide) ?_
    exact hk63 v1 v2 v3 v4 v5 v6 v7 v8 (v9 + 1) dd_1 _ _ _ h hP hS (lv_sub hl [1, 2, 3, 4, 5, 6, 7, 8, 9, 0] rfl)
  have J_89 : ∀ (kk45 : Int32 → Int32 → Int32 → Int32 → Int32 → Int32 → Int32 → (Nat → Int32) → Option (Int32 × (Nat → Int32))) (hk45 : ∀ (v1 : Int32) (v2 : Int32) (v3 : Int32) (v4 : Int32) (v5 : Int32) (v6 : Int32) (v7 : Int32) (Y_now : Nat → Int32) (H : Heap) (locs : List Loc) (ls : Array Slot), kk45 v1 v2 v3 v4 v5 v6 v7 Y_now = some (r_, o_Y_now) → va_P G.1 vwCl (W_Y G y0 y1 y2 y3 y4 y5 y6 y7 y8 y9 y10 y11 y12 y13 y14 y15 Y_br Y_fa Y_rbs Y_rfs Y_len Y_at Y_fau Y_wk Y_ac Y_nx Y_hs Y_sd Y_st Y_kd Y_fs Y_fl Y_now Y_rd Y_rb Y_rf Y_tx Y_row Y_hh Y_hl Y_hw Y_ik Y_kp) H → va_S A s.heap H locs → lv_has ls 10 [(0, .ref y0), (1, .int v1), (2, .int v2), (3, .int v3), (4, .int v4), (5, .int v5), (6, .int v6), (7, .int v7)] → W p l e (rmv 4 94) s m (List.toArray [.ref y0, .int u1, .int u2, .int u3, .int u4]) below meth c H locs 0 0 (MQ below ((QI G r_ (W_Y G y0 y1 y2 y3 y4 y5 y6 y7 y8 y9 y10 y11 y12 y13 y14 y15 Y_br Y_fa Y_rbs Y_rfs Y_len Y_at Y_fau Y_wk Y_ac Y_nx Y_hs Y_sd Y_st Y_kd Y_fs Y_fl o_Y_now Y_rd Y_rb Y_rf Y_tx Y_row Y_hh Y_hl Y_hw Y_ik Y_kp)) A) (List.toArray [.ref y0, .int u1, .int u2, .int u3, .int u4]) s 0 0 A) (F0 m 45 ls [])) (kk63 : Int32 → Int32 → Int32 → Int32 → Int32 → Int32 → Int32 → Int32 → Int32 → (Nat → Int32) → Option (Int32 × (Nat → Int32))) (hk63 : ∀ (v1 : Int32) (v2 : Int32) (v3 : Int32) (v4 : Int32) (v5 : Int32) (v6 : Int32) (v7 : Int32) (v8 : Int32) (v9 : Int32) (Y_now : Nat → Int32) (H : Heap) (locs : List Loc) (ls : Array Slot), kk63 v1 v2 v3 v4 v5 v6 v7 v8 v9 Y_now = some (r_, o_Y_now) → va_P G.1 vwCl (W_Y G y0 y1 y2 y3 y4 y5 y6 y7 y8 y9 y10 y11 y12 y13 y14 y15 Y_br Y_fa Y_rbs Y_rfs Y_len Y_at Y_fau Y_wk Y_ac Y_nx Y_hs Y_sd Y_st Y_kd Y_fs Y_fl Y_now Y_rd Y_rb Y_rf Y_tx Y_row Y_hh Y_hl Y_hw Y_ik Y_kp) H → va_S A s.heap H locs → lv_has ls 10 [(0, .ref y0), (1, .int v1), (2, .int v2), (3, .int v3), (4, .int v4), (5, .int v5), (6, .int v6), (7, .int v7), (8, .int v8), (9, .int v9)] → W p l e (rmv 4 94) s m (List.toArray [.ref y0, .int u1, .int u2, .int u3, .int u4]) below meth c H locs 0 0 (MQ below ((QI G r_ (W_Y G y0 y1 y2 y3 y4 y5 y6 y7 y8 y9 y10 y11 y12 y13 y14 y15 Y_br Y_fa Y_rbs Y_rfs Y_len Y_at Y_fau Y_wk Y_ac Y_nx Y_hs Y_sd Y_st Y_kd Y_fs Y_fl o_Y_now Y_rd Y_rb Y_rf Y_tx Y_row Y_hh Y_hl Y_hw Y_ik Y_kp)) A) (List.toArray [.ref y0, .int u1, .int u2, .int u3, .int u4]) s 0 0 A) (F0 m 63 ls [])), ∀ (v1 : Int32) (v2 : Int32) (v3 : Int32) (v4 : Int32) (v5 : Int32) (v6 : Int32) (v7 : Int32) (v9 : Int32) (q0 : Int32) (q1 : Int32) (Y_now : Nat → Int32) (H : Heap) (locs : List Loc) (ls : Array Slot), f_X6_twice_89 Y_br Y_fa Y_wk Y_st Y_kd Y_fs Y_fl kk45 kk63 v1 v2 v3 v4 v5 v6 v7 v9 q0 q1 Y_now = some (r_, o_Y_now) → va_P G.1 vwCl (W_Y G y0 y1 y2 y3 y4 y5 y6 y7 y8 y9 y10 y11 y12 y13 y14 y15 Y_br Y_fa Y_rbs Y_rfs Y_len Y_at Y_fau Y_wk Y_ac Y_nx Y_hs Y_sd Y_st Y_kd Y_fs Y_fl Y_now Y_rd Y_rb Y_rf Y_tx Y_row Y_hh Y_hl Y_hw Y_ik Y_kp) H → va_S A s.heap H locs → lv_has ls 10 [(0, .ref y0), (1, .int v1), (2, .int v2), (3, .int v3), (4, .int v4), (5, .int v5), (6, .int v6), (7, .int v7), (9, .int v9)] → W p l e (rmv 4 94) s m (List.toArray [.ref y0, .int u1, .int u2, .int u3, .int u4]) below meth c H locs 0 0 (MQ below ((QI G r_ (W_Y G y0 y1 y2 y3 y4 y5 y6 y7 y8 y9 y10 y11 y12 y13 y14 y15 Y_br Y_fa Y_rbs Y_rfs Y_len Y_at Y_fau Y_wk Y_ac Y_nx Y_hs Y_sd Y_st Y_kd Y_fs Y_fl o_Y_now Y_rd Y_rb Y_rf Y_tx Y_row Y_hh Y_hl Y_hw Y_ik Y_kp)) A) (List.toArray [.ref y0, .int u1, .int u2, .int u3, .int u4]) s 0 0 A) (F0 m 89 ls [.int q1, .int q0]) := by
    intro kk45 hk45 kk63 hk63 v1 v2 v3 v4 v5 v6 v7 v9 q0 q1 Y_now H locs ls h hP hS hl
    unfold f_X6_twice_89 at h
    refine lv_imul hx hb dX6_twice_89 ?_
    refine lv_istore (lv' := [(8, .int (q0 * q1)), (0, .ref y0), (1, .int v1), (2, .int v2), (3, .int v3), (4, .int v4), (5, .int v5), (6, .int v6), (7, .int v7), (9, .int v9)]) hx hb dX6_twice_90 hl (by decide) rfl (fun ls hl => ?_)
    refine lv_aload_n hx hb dX6_twice_92 rfl (lv_at hl 1 rfl) ?_
    refine lv_iconst (v := 1) hx hb dX6_twice_93 (by decide) ?_
    refine lv_iload hx hb dX6_twice_94 (lv_at hl 8 rfl) ?_
    refine lv_iload hx hb dX6_twice_96 (lv_at hl 9 rfl) ?_
    obtain ⟨rr_3, ee_4, h⟩ := bnd1_s h
    refine cSi (As := [.int v7, .int v9]) (rest := [.int (1 : Int32), .ref y0]) S0 hK hA hP (va_D_same hD rfl) hS [] (k_X6_has l G v7 v9 rr_3 ee_4) cw_X6_has rfl rfl (Nat.le_of_ble_eq_true rfl) rfl hl.1 rfl (Nat.le_of_ble_eq_true rfl) dX6_twice_98 ⟨Nat.zero_le _, Nat.zero_le _⟩ (fun H locs hP hS => ?_)
    replace hP : va_P G.1 vwCl (W_Y G y0 y1 y2 y3 y4 y5 y6 y7 y8 y9 y10 y11 y12 y13 y14 y15 Y_br Y_fa Y_rbs Y_rfs Y_len Y_at Y_fau Y_wk Y_ac Y_nx Y_hs Y_sd Y_st Y_kd Y_fs Y_fl Y_now Y_rd Y_rb Y_rf Y_tx Y_row Y_hh Y_hl Y_hw Y_ik Y_kp) H := hP
    refine lv_if_eq (tgt := 108) hx hb dX6_twice_101 (by decide) (fun cc_5 => ?_) (fun cc_5 => ?_)
    · replace h := if_t cc_5 h
      refine lv_iconst (v := 1) hx hb dX6_twice_108 (by decide) ?_
      exact J_109 kk45 hk45 kk63 hk63 v1 v2 v3 v4 v5 v6 v7 (q0 * q1) v9 (1 : Int32) (1 : Int32) Y_now _ _ _ h hP hS (lv_sub hl [1, 2, 3, 4, 5, 6, 7, 8, 0, 9] rfl)
    · replace h := if_f cc_5 h
      refine lv_iconst (v := 2) hx hb dX6_twice_104 (by decide) ?_
      refine lv_goto (tgt := 109) hx hb dX6_twice_105 (by decide) ?_
      exact J_109 kk45 hk45 kk63 hk63 v1 v2 v3 v4 v5 v6 v7 (q0 * q1) v9 (1 : Int32) (2 : Int32) Y_now _ _ _ h hP hS (lv_sub hl [1, 2, 3, 4, 5, 6, 7, 8, 0, 9] rfl)
  have J_63 : ∀ (kk45 : Int32 → Int32 → Int32 → Int32 → Int32 → Int32 → Int32 → (Nat → Int32) → Option (Int32 × (Nat → Int32))) (hk45 : ∀ (v1 : Int32) (v2 : Int32) (v3 : Int32) (v4 : Int32) (v5 : Int32) (v6 : Int32) (v7 : Int32) (Y_now : Nat → Int32) (H : Heap) (locs : List Loc) (ls : Array Slot), kk45 v1 v2 v3 v4 v5 v6 v7 Y_now = some (r_, o_Y_now) → va_P G.1 vwCl (W_Y G y0 y1 y2 y3 y4 y5 y6 y7 y8 y9 y10 y11 y12 y13 y14 y15 Y_br Y_fa Y_rbs Y_rfs Y_len Y_at Y_fau Y_wk Y_ac Y_nx Y_hs Y_sd Y_st Y_kd Y_fs Y_fl Y_now Y_rd Y_rb Y_rf Y_tx Y_row Y_hh Y_hl Y_hw Y_ik Y_kp) H → va_S A s.heap H locs → lv_has ls 10 [(0, .ref y0), (1, .int v1), (2, .int v2), (3, .int v3), (4, .int v4), (5, .int v5), (6, .int v6), (7, .int v7)] → W p l e (rmv 4 94) s m (List.toArray [.ref y0, .int u1, .int u2, .int u3, .int u4]) below meth c H locs 0 0 (MQ below ((QI G r_ (W_Y G y0 y1 y2 y3 y4 y5 y6 y7 y8 y9 y10 y11 y12 y13 y14 y15 Y_br Y_fa Y_rbs Y_rfs Y_len Y_at Y_fau Y_wk Y_ac Y_nx Y_hs Y_sd Y_st Y_kd Y_fs Y_fl o_Y_now Y_rd Y_rb Y_rf Y_tx Y_row Y_hh Y_hl Y_hw Y_ik Y_kp)) A) (List.toArray [.ref y0, .int u1, .int u2, .int u3, .int u4]) s 0 0 A) (F0 m 45 ls [])) (fu : Nat), ∀ (v1 : Int32) (v2 : Int32) (v3 : Int32) (v4 : Int32) (v5 : Int32) (v6 : Int32) (v7 : Int32) (v8 : Int32) (v9 : Int32) (Y_now : Nat → Int32) (H : Heap) (locs : List Loc) (ls : Array Slot), f_X6_twice_63 Y_br Y_fa Y_wk Y_st Y_kd Y_fs Y_fl kk45 fu v1 v2 v3 v4 v5 v6 v7 v8 v9 Y_now = some (r_, o_Y_now) → va_P G.1 vwCl (W_Y G y0 y1 y2 y3 y4 y5 y6 y7 y8 y9 y10 y11 y12 y13 y14 y15 Y_br Y_fa Y_rbs Y_rfs Y_len Y_at Y_fau Y_wk Y_ac Y_nx Y_hs Y_sd Y_st Y_kd Y_fs Y_fl Y_now Y_rd Y_rb Y_rf Y_tx Y_row Y_hh Y_hl Y_hw Y_ik Y_kp) H → va_S A s.heap H locs → lv_has ls 10 [(0, .ref y0), (1, .int v1), (2, .int v2), (3, .int v3), (4, .int v4), (5, .int v5), (6, .int v6), (7, .int v7), (8, .int v8), (9, .int v9)] → W p l e (rmv 4 94) s m (List.toArray [.ref y0, .int u1, .int u2, .int u3, .int u4]) below meth c H locs 0 0 (MQ below ((QI G r_ (W_Y G y0 y1 y2 y3 y4 y5 y6 y7 y8 y9 y10 y11 y12 y13 y14 y15 Y_br Y_fa Y_rbs Y_rfs Y_len Y_at Y_fau Y_wk Y_ac Y_nx Y_hs Y_sd Y_st Y_kd Y_fs Y_fl o_Y_now Y_rd Y_rb Y_rf Y_tx Y_row Y_hh Y_hl Y_hw Y_ik Y_kp)) A) (List.toArray [.ref y0, .int u1, .int u2, .int u3, .int u4]) s 0 0 A) (F0 m 63 ls []) := by
    intro kk45 hk45 fu
    induction fu with
    | zero =>
      intro v1 v2 v3 v4 v5 v6 v7 v8 v9 Y_now H locs ls h
      cases h
    | succ fu ih =>
      intro v1 v2 v3 v4 v5 v6 v7 v8 v9 Y_now H locs ls h hP hS hl
      rw [f_X6_twice_63] at h
      refine lv_iload hx hb dX6_twice_63 (lv_at hl 9 rfl) ?_
      refine lv_iload_n hx hb dX6_twice_65 rfl (lv_at hl 2 rfl) ?_
      refine lv_icmp_ge (tgt := 118) hx hb dX6_twice_66 (by decide) (fun cc_6 => ?_) (fun cc_6 => ?_)
      · replace h := if_t cc_6 h
        refine lv_iload hx hb dX6_twice_118 (lv_at hl 6 rfl) ?_
        refine lv_iload hx hb dX6_twice_120 (lv_at hl 8 rfl) ?_
        refine lv_iadd hx hb dX6_twice_122 ?_
        refine lv_istore (lv' := [(6, .int (v6 + v8)), (0, .ref y0), (1, .int v1), (2, .int v2), (3, .int v3), (4, .int v4), (5, .int v5), (7, .int v7), (8, .int v8), (9, .int v9)]) hx hb dX6_twice_123 hl (by decide) rfl (fun ls hl => ?_)
        refine lv_iload hx hb dX6_twice_125 (lv_at hl 6 rfl) ?_
        refine lv_aload_n hx hb dX6_twice_127 rfl (lv_at hl 1 rfl) ?_
        refine va_get (ci := 6) (C := RX6) (T := TX6) (N := 27) hx hb hts inX6 hown hK.1 hP 0 rfl rfl 6 (by decide) fl22 (fun _ h9 => h9) rfl dX6_twice_128 ?_
        refine lv_bipush (v := 16) hx hb dX6_twice_131 (by decide) ?_
        refine lv_iload_n hx hb dX6_twice_133 rfl (lv_at hl 2 rfl) ?_
        refine lv_iadd hx hb dX6_twice_134 ?_
        obtain ⟨zz_7, ee_8, h⟩ := bnd1_s h
        refine wIald hx hb hK hP 5 rfl ee_8 dX6_twice_135 ?_
        refine lv_bipush (v := 10) hx hb dX6_twice_136 (by decide) ?_
        refine lv_icmp_lt (tgt := 146) hx hb dX6_twice_138 (by decide) (fun cc_9 => ?_) (fun cc_9 => ?_)
        · replace h := if_t cc_9 h
          refine lv_iconst (v := 0) hx hb dX6_twice_146 (by decide) ?_
          exact J_147 kk45 hk45 v1 v2 v3 v4 (v6 + v8) v7 v5 (0 : Int32) Y_now _ _ _ h hP hS (lv_sub hl [1, 2, 3, 4, 5, 0, 7] rfl)
        · replace h := if_f cc_9 h
          refine lv_iload hx hb dX6_twice_141 (lv_at hl 8 rfl) ?_
          refine lv_goto (tgt := 147) hx hb dX6_twice_143 (by decide) ?_
          exact J_147 kk45 hk45 v1 v2 v3 v4 (v6 + v8) v7 v5 v8 Y_now _ _ _ h hP hS (lv_sub hl [1, 2, 3, 4, 5, 0, 7] rfl)
      · replace h := if_f cc_6 h
        refine lv_iload hx hb dX6_twice_69 (lv_at hl 8 rfl) ?_
        refine lv_iload hx hb dX6_twice_71 (lv_at hl 7 rfl) ?_
        refine lv_iload hx hb dX6_twice_73 (lv_at hl 9 rfl) ?_
        obtain ⟨rr_10, ee_11, h⟩ := bnd1_s h
        refine cSi (As := [.int v7, .int v9]) (rest := [.int v8]) S0 hK hA hP (va_D_same hD rfl) hS [] (k_X6_has l G v7 v9 rr_10 ee_11) cw_X6_has rfl rfl (Nat.le_of_ble_eq_true rfl) rfl hl.1 rfl (Nat.le_of_ble_eq_true rfl) dX6_twice_75 ⟨Nat.zero_le _, Nat.zero_le _⟩ (fun H locs hP hS => ?_)
        replace hP : va_P G.1 vwCl (W_Y G y0 y1 y2 y3 y4 y5 y6 y7 y8 y9 y10 y11 y12 y13 y14 y15 Y_br Y_fa Y_rbs Y_rfs Y_len Y_at Y_fau Y_wk Y_ac Y_nx Y_hs Y_sd Y_st Y_kd Y_fs Y_fl Y_now Y_rd Y_rb Y_rf Y_tx Y_row Y_hh Y_hl Y_hw Y_ik Y_kp) H := hP
        refine lv_if_eq (tgt := 85) hx hb dX6_twice_78 (by decide) (fun cc_12 => ?_) (fun cc_12 => ?_)
        · replace h := if_t cc_12 h
          refine lv_bipush (v := 10) hx hb dX6_twice_85 (by decide) ?_
          refine lv_iload_n hx hb dX6_twice_87 rfl (lv_at hl 3 rfl) ?_
          refine lv_isub hx hb dX6_twice_88 ?_
          exact J_89 kk45 hk45 (f_X6_twice_63 Y_br Y_fa Y_wk Y_st Y_kd Y_fs Y_fl kk45 fu) ih v1 v2 v3 v4 v5 v6 v7 v9 v8 ((10 : Int32) - v3) Y_now _ _ _ h hP hS (lv_sub hl [0, 1, 2, 3, 4, 5, 6, 7, 9] rfl)
        · replace h := if_f cc_12 h
          refine lv_iload_n hx hb dX6_twice_81 rfl (lv_at hl 3 rfl) ?_
          refine lv_goto (tgt := 89) hx hb dX6_twice_82 (by decide) ?_
          exact J_89 kk45 hk45 (f_X6_twice_63 Y_br Y_fa Y_wk Y_st Y_kd Y_fs Y_fl kk45 fu) ih v1 v2 v3 v4 v5 v6 v7 v9 v8 v3 Y_now _ _ _ h hP hS (lv_sub hl [0, 1, 2, 3, 4, 5, 6, 7, 9] rfl)
  have J_45 : ∀ (fu : Nat), ∀ (v1 : Int32) (v2 : Int32) (v3 : Int32) (v4 : Int32) (v5 : Int32) (v6 : Int32) (v7 : Int32) (Y_now : Nat → Int32) (H : Heap) (locs : List Loc) (ls : Array Slot), f_X6_twice_45 Y_br Y_fa Y_wk Y_st Y_kd Y_fs Y_fl fu v1 v2 v3 v4 v5 v6 v7 Y_now = some (r_, o_Y_now) → va_P G.1 vwCl (W_Y G y0 y1 y2 y3 y4 y5 y6 y7 y8 y9 y10 y11 y12 y13 y14 y15 Y_br Y_fa Y_rbs Y_rfs Y_len Y_at Y_fau Y_wk Y_ac Y_nx Y_hs Y_sd Y_st Y_kd Y_fs Y_fl Y_now Y_rd Y_rb Y_rf Y_tx Y_row Y_hh Y_hl Y_hw Y_ik Y_kp) H → va_S A s.heap H locs → lv_has ls 10 [(0, .ref y0), (1, .int v1), (2, .int v2), (3, .int v3), (4, .int v4), (5, .int v5), (6, .int v6), (7, .int v7)] → W p l e (rmv 4 94) s m (List.toArray [.ref y0, .int u1, .int u2, .int u3, .int u4]) below meth c H locs 0 0 (MQ below ((QI G r_ (W_Y G y0 y1 y2 y3 y4 y5 y6 y7 y8 y9 y10 y11 y12 y13 y14 y15 Y_br Y_fa Y_rbs Y_rfs Y_len Y_at Y_fau Y_wk Y_ac Y_nx Y_hs Y_sd Y_st Y_kd Y_fs Y_fl o_Y_now Y_rd Y_rb Y_rf Y_tx Y_row Y_hh Y_hl Y_hw Y_ik Y_kp)) A) (List.toArray [.ref y0, .int u1, .int u2, .int u3, .int u4]) s 0 0 A) (F0 m 45 ls []) := by
    intro  fu
    induction fu with
    | zero =>
      intro v1 v2 v3 v4 v5 v6 v7 Y_now H locs ls h
      cases h
    | succ fu ih =>
      intro v1 v2 v3 v4 v5 v6 v7 Y_now H locs ls h hP hS hl
      rw [f_X6_twice_45] at h
      refine lv_iload hx hb dX6_twice_45 (lv_at hl 7 rfl) ?_
      refine lv_iconst (v := 1) hx hb dX6_twice_47 (by decide) ?_
      refine lv_iload_n hx hb dX6_twice_48 rfl (lv_at hl 2 rfl) ?_
      refine lv_ishl hx hb dX6_twice_49 ?_
      refine lv_icmp_ge (tgt := 156) hx hb dX6_twice_50 (by decide) (fun cc_13 => ?_) (fun cc_13 => ?_)
      · replace h := if_t cc_13 h
        refine lv_iload hx hb dX6_twice_156 (lv_at hl 5 rfl) ?_
        refine lv_iload hx hb dX6_twice_158 (lv_at hl 6 rfl) ?_
        obtain ⟨rr_14, ee_15, h⟩ := bnd1_s h
        refine cSi (As := [.int v5, .int v6]) (rest := []) S0 hK hA hP (va_D_same hD rfl) hS [] (k_X6_common l G v5 v6 rr_14 ee_15) cw_X6_common rfl rfl (Nat.le_of_ble_eq_true rfl) rfl hl.1 rfl (Nat.le_of_ble_eq_true rfl) dX6_twice_160 ⟨Nat.zero_le _, Nat.zero_le _⟩ (fun H locs hP hS => ?_)
        replace hP : va_P G.1 vwCl (W_Y G y0 y1 y2 y3 y4 y5 y6 y7 y8 y9 y10 y11 y12 y13 y14 y15 Y_br Y_fa Y_rbs Y_rfs Y_len Y_at Y_fau Y_wk Y_ac Y_nx Y_hs Y_sd Y_st Y_kd Y_fs Y_fl Y_now Y_rd Y_rb Y_rf Y_tx Y_row Y_hh Y_hl Y_hw Y_ik Y_kp) H := hP
        refine lv_istore (lv' := [(7, .int rr_14), (0, .ref y0), (1, .int v1), (2, .int v2), (3, .int v3), (4, .int v4), (5, .int v5), (6, .int v6)]) hx hb dX6_twice_163 hl (by decide) rfl (fun ls hl => ?_)
        refine lv_iload hx hb dX6_twice_165 (lv_at hl 5 rfl) ?_
        refine lv_if_eq (tgt := 178) hx hb dX6_twice_167 (by decide) (fun cc_16 => ?_) (fun cc_16 => ?_)
        · replace h := if_t cc_16 h
          refine lv_iload hx hb dX6_twice_178 (lv_at hl 7 rfl) ?_
          refine lv_iload hx hb dX6_twice_180 (lv_at hl 0 rfl) ?_
          by_cases cc_17 : rr_14 = 0
          · cases (if_t cc_17 h)
          replace h := if_f cc_17 h
          refine lv_idiv hx hb dX6_twice_182 cc_17 ?_
          cases h
          exact W.iret hx hb hr (fun t ht _ => ⟨⟨_, (), rfl, rfl, by show va_P G.1 vwCl _ t.heap; rw [ht]; exact hP⟩, hS.F ht⟩) hS.2.2 dX6_twice_183
        · replace h := if_f cc_16 h
          refine lv_iload hx hb dX6_twice_170 (lv_at hl 6 rfl) ?_
          refine lv_iload hx hb dX6_twice_172 (lv_at hl 0 rfl) ?_
          by_cases cc_18 : rr_14 = 0
          · cases (if_t cc_18 h)
          replace h := if_f cc_18 h
          refine lv_idiv hx hb dX6_twice_174 cc_18 ?_
          refine lv_goto (tgt := 183) hx hb dX6_twice_175 (by decide) ?_
          cases h
          exact W.iret hx hb hr (fun t ht _ => ⟨⟨_, (), rfl, rfl, by show va_P G.1 vwCl _ t.heap; rw [ht]; exact hP⟩, hS.F ht⟩) hS.2.2 dX6_twice_183
      · replace h := if_f cc_13 h
        refine lv_iconst (v := 1) hx hb dX6_twice_53 (by decide) ?_
        refine lv_istore (lv' := [(8, .int (1 : Int32)), (0, .ref y0), (1, .int v1), (2, .int v2), (3, .int v3), (4, .int v4), (5, .int v5), (6, .int v6), (7, .int v7)]) hx hb dX6_twice_54 hl (by decide) rfl (fun ls hl => ?_)
        refine lv_aload_n hx hb dX6_twice_56 rfl (lv_at hl 1 rfl) ?_
        obtain ⟨dd_19, ee_20, h⟩ := bnd1_s h
        refine cFv (As := []) (rest := []) S0 hK hA hP (va_D_same hD rfl) hS (k_X6_layTrial l G y0 y1 y2 y3 y4 y5 y6 y7 y8 y9 y10 y11 y12 y13 y14 y15 Y_br Y_fa Y_rbs Y_rfs Y_len Y_at Y_fau Y_wk Y_ac Y_nx Y_hs Y_sd Y_st Y_kd Y_fs Y_fl Y_now Y_rd Y_rb Y_rf Y_tx Y_row Y_hh Y_hl Y_hw Y_ik Y_kp dd_19 ee_20) cw_X6_layTrial 6 0 rfl rfl rfl rfl hl.1 rfl (Nat.le_of_ble_eq_true rfl) dX6_twice_57 ⟨Nat.zero_le _, Nat.zero_le _⟩ (fun H locs hP hS => ?_)
        replace hP : va_P G.1 vwCl (W_Y G y0 y1 y2 y3 y4 y5 y6 y7 y8 y9 y10 y11 y12 y13 y14 y15 Y_br Y_fa Y_rbs Y_rfs Y_len Y_at Y_fau Y_wk Y_ac Y_nx Y_hs Y_sd Y_st Y_kd Y_fs Y_fl dd_19 Y_rd Y_rb Y_rf Y_tx Y_row Y_hh Y_hl Y_hw Y_ik Y_kp) H := hP
        refine lv_iconst (v := 0) hx hb dX6_twice_60 (by decide) ?_
        refine lv_istore (lv' := [(9, .int (0 : Int32)), (8, .int (1 : Int32)), (0, .ref y0), (1, .int v1), (2, .int v2), (3, .int v3), (4, .int v4), (5, .int v5), (6, .int v6), (7, .int v7)]) hx hb dX6_twice_61 hl (by decide) rfl (fun ls hl => ?_)
        exact J_63 (f_X6_twice_45 Y_br Y_fa Y_wk Y_st Y_kd Y_fs Y_fl fu) ih 130 v1 v2 v3 v4 v5 v6 v7 (1 : Int32) (0 : Int32) dd_19 _ _ _ h hP hS (lv_sub hl [2, 3, 4, 5, 6, 7, 8, 9, 1, 0] rfl)
  unfold f_X6_twice at h
  refine lv_iload_n hx hb dX6_twice_0 rfl (lv_at hl 1 rfl) ?_
  obtain ⟨rr_21, ee_22, h⟩ := bnd1_s h
  refine cSi (As := [.int u1]) (rest := []) S0 hK hA hP (va_D_same hD rfl) hS [] (k_X6_isStreet l G u1 rr_21 ee_22) cw_X6_isStreet rfl rfl (Nat.le_of_ble_eq_true rfl) rfl hl.1 rfl (Nat.le_of_ble_eq_true rfl) dX6_twice_1 ⟨Nat.zero_le _, Nat.zero_le _⟩ (fun H locs hP hS => ?_)
  replace hP : va_P G.1 vwCl (W_Y G y0 y1 y2 y3 y4 y5 y6 y7 y8 y9 y10 y11 y12 y13 y14 y15 Y_br Y_fa Y_rbs Y_rfs Y_len Y_at Y_fau Y_wk Y_ac Y_nx Y_hs Y_sd Y_st Y_kd Y_fs Y_fl Y_now Y_rd Y_rb Y_rf Y_tx Y_row Y_hh Y_hl Y_hw Y_ik Y_kp) H := hP
  refine lv_if_ne (tgt := 9) hx hb dX6_twice_4 (by decide) (fun cc_23 => ?_) (fun cc_23 => ?_)
  · replace h := if_f cc_23 h
    refine lv_iload_n hx hb dX6_twice_9 rfl (lv_at hl 2 rfl) ?_
    refine lv_i2l (v := u2.toInt64) hx hb dX6_twice_10 rfl ?_
    refine lv_lconst (v := 1) hx hb dX6_twice_11 (by decide) ?_
    refine lv_ldc2 (v := 6) hx hb hown cl205 dX6_twice_12 ?_
    obtain ⟨rr_24, ee_25, h⟩ := bnd1_s h
    refine cSi (As := [.long (u2.toInt64), .long (1 : Int64), .long (6 : Int64)]) (rest := []) S0 hK hA hP (va_D_same hD rfl) hS [] (k_X6_in l G (u2.toInt64) (1 : Int64) (6 : Int64) rr_24 ee_25) cw_X6_in rfl rfl (Nat.le_of_ble_eq_true rfl) rfl hl.1 rfl (Nat.le_of_ble_eq_true rfl) dX6_twice_15 ⟨Nat.zero_le _, Nat.zero_le _⟩ (fun H locs hP hS => ?_)
    replace hP : va_P G.1 vwCl (W_Y G y0 y1 y2 y3 y4 y5 y6 y7 y8 y9 y10 y11 y12 y13 y14 y15 Y_br Y_fa Y_rbs Y_rfs Y_len Y_at Y_fau Y_wk Y_ac Y_nx Y_hs Y_sd Y_st Y_kd Y_fs Y_fl Y_now Y_rd Y_rb Y_rf Y_tx Y_row Y_hh Y_hl Y_hw Y_ik Y_kp) H := hP
    refine lv_if_eq (tgt := 33) hx hb dX6_twice_18 (by decide) (fun cc_26 => ?_) (fun cc_26 => ?_)
    · replace h := if_t cc_26 h
      refine lv_bipush (v := (-2)) hx hb dX6_twice_33 (by decide) ?_
      cases h
      exact W.iret hx hb hr (fun t ht _ => ⟨⟨_, (), rfl, rfl, by show va_P G.1 vwCl _ t.heap; rw [ht]; exact hP⟩, hS.F ht⟩) hS.2.2 dX6_twice_35
    · replace h := if_f cc_26 h
      refine lv_iload_n hx hb dX6_twice_21 rfl (lv_at hl 3 rfl) ?_
      refine lv_i2l (v := u3.toInt64) hx hb dX6_twice_22 rfl ?_
      refine lv_lconst (v := 0) hx hb dX6_twice_23 (by decide) ?_
      refine lv_ldc2 (v := 10) hx hb hown cl207 dX6_twice_24 ?_
      obtain ⟨rr_27, ee_28, h⟩ := bnd1_s h
      refine cSi (As := [.long (u3.toInt64), .long (0 : Int64), .long (10 : Int64)]) (rest := []) S0 hK hA hP (va_D_same hD rfl) hS [] (k_X6_in l G (u3.toInt64) (0 : Int64) (10 : Int64) rr_27 ee_28) cw_X6_in rfl rfl (Nat.le_of_ble_eq_true rfl) rfl hl.1 rfl (Nat.le_of_ble_eq_true rfl) dX6_twice_27 ⟨Nat.zero_le _, Nat.zero_le _⟩ (fun H locs hP hS => ?_)
      replace hP : va_P G.1 vwCl (W_Y G y0 y1 y2 y3 y4 y5 y6 y7 y8 y9 y10 y11 y12 y13 y14 y15 Y_br Y_fa Y_rbs Y_rfs Y_len Y_at Y_fau Y_wk Y_ac Y_nx Y_hs Y_sd Y_st Y_kd Y_fs Y_fl Y_now Y_rd Y_rb Y_rf Y_tx Y_row Y_hh Y_hl Y_hw Y_ik Y_kp) H := hP
      refine lv_if_ne (tgt := 36) hx hb dX6_twice_30 (by decide) (fun cc_29 => ?_) (fun cc_29 => ?_)
      · replace h := if_f cc_29 h
        refine lv_iconst (v := 0) hx hb dX6_twice_36 (by decide) ?_
        refine lv_istore (lv' := [(5, .int (0 : Int32)), (0, .ref y0), (1, .int u1), (2, .int u2), (3, .int u3), (4, .int u4)]) hx hb dX6_twice_37 hl (by decide) rfl (fun ls hl => ?_)
        refine lv_iconst (v := 0) hx hb dX6_twice_39 (by decide) ?_
        refine lv_istore (lv' := [(6, .int (0 : Int32)), (5, .int (0 : Int32)), (0, .ref y0), (1, .int u1), (2, .int u2), (3, .int u3), (4, .int u4)]) hx hb dX6_twice_40 hl (by decide) rfl (fun ls hl => ?_)
        refine lv_iconst (v := 0) hx hb dX6_twice_42 (by decide) ?_
        refine lv_istore (lv' := [(7, .int (0 : Int32)), (6, .int (0 : Int32)), (5, .int (0 : Int32)), (0, .ref y0), (1, .int u1), (2, .int u2), (3, .int u3), (4, .int u4)]) hx hb dX6_twice_43 hl (by decide) rfl (fun ls hl => ?_)
        exact J_45  130 u1 u2 u3 u4 (0 : Int32) (0 : Int32) (0 : Int32) Y_now _ _ _ h hP hS (lv_sub hl [3, 4, 5, 6, 7, 2, 1, 0] rfl)
      · replace h := if_t cc_29 h
        refine lv_bipush (v := (-2)) hx hb dX6_twice_33 (by decide) ?_
        cases h
        exact W.iret hx hb hr (fun t ht _ => ⟨⟨_, (), rfl, rfl, by show va_P G.1 vwCl _ t.heap; rw [ht]; exact hP⟩, hS.F ht⟩) hS.2.2 dX6_twice_35
  · replace h := if_t cc_23 h
    refine lv_iconst (v := (-1)) hx hb dX6_twice_7 (by decide) ?_
    cases h
    exact W.iret hx hb hr (fun t ht _ => ⟨⟨_, (), rfl, rfl, by show va_P G.1 vwCl _ t.heap; rw [ht]; exact hP⟩, hS.F ht⟩) hS.2.2 dX6_twice_8
