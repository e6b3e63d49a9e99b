def f_X6_best_111 (Y_br : Int32) (Y_fa : Int32) (Y_wk : Int32) (Y_st : Nat → Int32) (Y_kd : Nat → Int32) (Y_fs : Nat → Int32) (Y_fl : Nat → Int32) (kk47 : Int32 → Int32 → Int32 → Int32 → Int32 → Int32 → (Nat → Int32) → Option (Int32 × (Nat → Int32))) (v1 : Int32) (v2 : Int32) (v3 : Int32) (v4 : Int32) (v6 : Int32) (q0 : Int32) (Y_now : Nat → Int32) : Option (Int32 × (Nat → Int32)) := kk47 v1 v2 v3 v4 q0 (v6 + 1) Y_now
def f_X6_best_95 (Y_br : Int32) (Y_fa : Int32) (Y_wk : Int32) (Y_st : Nat → Int32) (Y_kd : Nat → Int32) (Y_fs : Nat → Int32) (Y_fl : Nat → Int32) (kk47 : Int32 → Int32 → Int32 → Int32 → Int32 → Int32 → (Nat → Int32) → Option (Int32 × (Nat → Int32))) (v1 : Int32) (v2 : Int32) (v3 : Int32) (v5 : Int32) (v6 : Int32) (v7 : Int32) (q0 : Int32) (Y_now : Nat → Int32) : Option (Int32 × (Nat → Int32)) := if v5 ≤ v7 then (f_X6_best_111 Y_br Y_fa Y_wk Y_st Y_kd Y_fs Y_fl kk47 v1 v2 v3 q0 v6 v5 Y_now) else (f_X6_best_111 Y_br Y_fa Y_wk Y_st Y_kd Y_fs Y_fl kk47 v1 v2 v3 q0 v6 v7 Y_now)
def f_X6_best_47 (Y_br : Int32) (Y_fa : Int32) (Y_wk : Int32) (Y_st : Nat → Int32) (Y_kd : Nat → Int32) (Y_fs : Nat → Int32) (Y_fl : Nat → Int32) : Nat → Int32 → Int32 → Int32 → Int32 → Int32 → Int32 → (Nat → Int32) → Option (Int32 × (Nat → Int32))
  | 0, _, _, _, _, _, _, _ => none
  | fu + 1, v1, v2, v3, v4, v5, v6, Y_now => if (8 : Int32) ≤ v6 then (if v3 = 0 then (some (v4, Y_now)) else (some (v5, Y_now))) else (bnd1 (f_X6_layTrial Y_now) (fun dd_4 => bnd1 (wr dd_4 32 ((24 : Int32) + v1) v6) (fun dd_6 => bnd1 (f_X6_goOn Y_br Y_fa Y_wk Y_st Y_kd Y_fs Y_fl dd_6 v2) (fun dd_8 => bnd1 (f_X6_dustOn dd_8 (1 : Int32)) (fun rr_10 => if v5 ≤ rr_10 then (f_X6_best_95 Y_br Y_fa Y_wk Y_st Y_kd Y_fs Y_fl (f_X6_best_47 Y_br Y_fa Y_wk Y_st Y_kd Y_fs Y_fl fu) v1 v2 v3 v5 v6 rr_10 v4 dd_8) else (f_X6_best_95 Y_br Y_fa Y_wk Y_st Y_kd Y_fs Y_fl (f_X6_best_47 Y_br Y_fa Y_wk Y_st Y_kd Y_fs Y_fl fu) v1 v2 v3 v5 v6 rr_10 v6 dd_8))))))
def f_X6_best (Y_br : Int32) (Y_fa : Int32) (Y_wk : Int32) (Y_st : Nat → Int32) (Y_kd : Nat → Int32) (Y_fs : Nat → Int32) (Y_fl : Nat → Int32) (Y_now : Nat → Int32) (u1 : Int32) (u2 : Int32) (u3 : Int32) : Option (Int32 × (Nat → Int32)) := bnd1 (f_X6_isBroom Y_br u1) (fun rr_13 => if rr_13 = 0 then (some (((-1) : Int32), Y_now)) else (bnd1 (f_X6_in (u2.toInt64) (1 : Int64) (9 : Int64)) (fun rr_16 => if rr_16 = 0 then (some (((-2) : Int32), Y_now)) else (bnd1 (f_X6_in (u3.toInt64) (0 : Int64) (1 : Int64)) (fun rr_19 => if rr_19 = 0 then (some (((-2) : Int32), Y_now)) else (f_X6_best_47 Y_br Y_fa Y_wk Y_st Y_kd Y_fs Y_fl  130 u1 u2 u3 ((-9) : Int32) (9999 : Int32) (0 : Int32) Y_now))))))
set_option maxRecDepth 100000 in
set_option maxHeartbeats 4000000 in
theorem k_X6_best (l : Launch) (G : Gt) (y0 y1 y2 y3 y4 y5 y6 y7 y8 y9 y10 y11 y12 y13 y14 y15 : Nat) (Y_br : Int32) (Y_fa : Int32) (Y_rbs : Int32) (Y_rfs : Int32) (Y_len : Int32) (Y_at : Int32) (Y_fau : Int32) (Y_wk : Int32) (Y_ac : Int32) (Y_nx : Int32) (Y_hs : Int32) (Y_sd : Int64) (Y_st : Nat → Int32) (Y_kd : Nat → Int32) (Y_fs : Nat → Int32) (Y_fl : Nat → Int32) (Y_now : Nat → Int32) (Y_rd : Nat → Int32) (Y_rb : Nat → Int32) (Y_rf : Nat → Int32) (Y_tx : Nat → Int32) (Y_row : Nat → Int32) (Y_hh : Nat → Int32) (Y_hl : Nat → Int32) (Y_hw : Nat → Int32) (Y_ik : Nat → Int32) (Y_kp : Nat → Int32) (u1 : Int32) (u2 : Int32) (u3 : Int32) (r_ : Int32) (o_Y_now : Nat → Int32) (h : f_X6_best Y_br Y_fa Y_wk Y_st Y_kd Y_fs Y_fl Y_now u1 u2 u3 = some (r_, o_Y_now)) : CT l yX6_best wsX6_best 5 116 G [.ref y0, .int u1, .int u2, .int u3] (W_Y G y0 y1 y2 y3 y4 y5 y6 y7 y8 y9 y10 y11 y12 y13 y14 y15 Y_br Y_fa Y_rbs Y_rfs Y_len Y_at Y_fau Y_wk Y_ac Y_nx Y_hs Y_sd Y_st Y_kd Y_fs Y_fl Y_now Y_rd Y_rb Y_rf Y_tx Y_row Y_hh Y_hl Y_hw Y_ik Y_kp) (QI G r_ (W_Y G y0 y1 y2 y3 y4 y5 y6 y7 y8 y9 y10 y11 y12 y13 y14 y15 Y_br Y_fa Y_rbs Y_rfs Y_len Y_at Y_fau Y_wk Y_ac Y_nx Y_hs Y_sd Y_st Y_kd Y_fs Y_fl o_Y_now Y_rd Y_rb Y_rf Y_tx Y_row Y_hh Y_hl Y_hw Y_ik Y_kp)) := by
  refine met_of cX6_best 8 (some .int) (by decide) rfl (Nat.le_of_ble_eq_true rfl) ?_
  intro p e s m below meth c A ls hx hb hr hml hts hown hlocks hK hA hD hP hS hl
  replace hown : s.vm.findClass RX6 = some m.cls := hown
  replace hl : lv_has ls 8 [(0, .ref y0), (1, .int u1), (2, .int u2), (3, .int u3)] := hl
  have S0 : CallFix p m c cX6_best 8 s _ wsX6_best RX6 := ⟨hx, hb, hml, hown, hts⟩
  have cw_X6_layTrial := show CallW (rmv 5 116) s _ RX6 RX6 157 yX6_layTrial cX6_layTrial 2 none wsX6_layTrial (rmv 0 0) 0 0 0 from cwV 0 hts gX6_best_X6_layTrial rfl rfl rfl (by decide +kernel) ⟨Nat.le_of_ble_eq_true rfl, Nat.le_of_ble_eq_true rfl⟩
  have fl22 := hts (.fieldLink RX6 22 "DustVoteModel" "now" "[I") (by decide +kernel)
  have inX6 := show ∀ w ∈ wsX60, w ∈ wsX6_best from by decide +kernel
  have cw_X6_goOn := show CallW (rmv 5 116) s _ RX6 RX6 160 yX6_goOn cX6_goOn 3 none wsX6_goOn (rmv 4 94) 0 0 1 from cwV 1 hts gX6_best_X6_goOn rfl rfl rfl (by decide +kernel) ⟨Nat.le_of_ble_eq_true rfl, Nat.le_of_ble_eq_true rfl⟩
  have cw_X6_dustOn := show CallW (rmv 5 116) s _ RX6 RX6 146 yX6_dustOn cX6_dustOn 4 (some .int) wsX6_dustOn (rmv 0 0) 0 0 1 from cwV 1 hts gX6_best_X6_dustOn rfl rfl rfl (by decide +kernel) ⟨Nat.le_of_ble_eq_true rfl, Nat.le_of_ble_eq_true rfl⟩
  have cw_X6_isBroom := show CallW (rmv 5 116) s _ RX6 RX6 134 yX6_isBroom cX6_isBroom 2 (some .boolean) wsX6_isBroom (rmv 1 25) 0 0 1 from cwV 1 hts gX6_best_X6_isBroom rfl rfl rfl (by decide +kernel) ⟨Nat.le_of_ble_eq_true rfl, Nat.le_of_ble_eq_true rfl⟩
  have cl166 := hts (.constantLong RX6 166 (9)) (by decide +kernel)
  have cw_X6_in := show CallB (rmv 5 116) s _ RX6 62 yX6_in cX6_in 6 (some .boolean) wsX6_in (rmv 0 0) 0 0 3 ∧ (Cond.static yX6_in).before _ s = true from va_cwS 3 hts gX6_best_X6_in rfl rfl rfl (by decide +kernel) ⟨Nat.le_of_ble_eq_true rfl, Nat.le_of_ble_eq_true rfl⟩
  have J_111 : ∀ (kk47 : Int32 → Int32 → Int32 → Int32 → Int32 → Int32 → (Nat → Int32) → Option (Int32 × (Nat → Int32))) (hk47 : ∀ (v1 : Int32) (v2 : Int32) (v3 : Int32) (v4 : Int32) (v5 : Int32) (v6 : Int32) (Y_now : Nat → Int32) (H : Heap) (locs : List Loc) (ls : Array Slot), kk47 v1 v2 v3 v4 v5 v6 Y_now = some (r_, o_Y_now) → va_P G.1 vwCl (W_Y G y0 y1 y2 y3 y4 y5 y6 y7 y8 y9 y10 y11 y12 y13 y14 y15 Y_br Y_fa Y_rbs Y_rfs Y_len Y_at Y_fau Y_wk Y_ac Y_nx Y_hs Y_sd Y_st Y_kd Y_fs Y_fl Y_now Y_rd Y_rb Y_rf Y_tx Y_row Y_hh Y_hl Y_hw Y_ik Y_kp) H → va_S A s.heap H locs → lv_has ls 8 [(0, .ref y0), (1, .int v1), (2, .int v2), (3, .int v3), (4, .int v4), (5, .int v5), (6, .int v6)] → W p l e (rmv 5 116) s m (List.toArray [.ref y0, .int u1, .int u2, .int u3]) below meth c H locs 0 0 (MQ below ((QI G r_ (W_Y G y0 y1 y2 y3 y4 y5 y6 y7 y8 y9 y10 y11 y12 y13 y14 y15 Y_br Y_fa Y_rbs Y_rfs Y_len Y_at Y_fau Y_wk Y_ac Y_nx Y_hs Y_sd Y_st Y_kd Y_fs Y_fl o_Y_now Y_rd Y_rb Y_rf Y_tx Y_row Y_hh Y_hl Y_hw Y_ik Y_kp)) A) (List.toArray [.ref y0, .int u1, .int u2, .int u3]) s 0 0 A) (F0 m 47 ls [])), ∀ (v1 : Int32) (v2 : Int32) (v3 : Int32) (v4 : Int32) (v6 : Int32) (q0 : Int32) (Y_now : Nat → Int32) (H : Heap) (locs : List Loc) (ls : Array Slot), f_X6_best_111 Y_br Y_fa Y_wk Y_st Y_kd Y_fs Y_fl kk47 v1 v2 v3 v4 v6 q0 Y_now = some (r_, o_Y_now) → va_P G.1 vwCl (W_Y G y0 y1 y2 y3 y4 y5 y6 y7 y8 y9 y10 y11 y12 y13 y14 y15 Y_br Y_fa Y_rbs Y_rfs Y_len Y_at Y_fau Y_wk Y_ac Y_nx Y_hs Y_sd Y_st Y_kd Y_fs Y_fl Y_now Y_rd Y_rb Y_rf Y_tx Y_row Y_hh Y_hl Y_hw Y_ik Y_kp) H → va_S A s.heap H locs → lv_has ls 8 [(0, .ref y0), (1, .int v1), (2, .int v2), (3, .int v3), (4, .int v4), (6, .int v6)] → W p l e (rmv 5 116) s m (List.toArray [.ref y0, .int u1, .int u2, .int u3]) below meth c H locs 0 0 (MQ below ((QI G r_ (W_Y G y0 y1 y2 y3 y4 y5 y6 y7 y8 y9 y10 y11 y12 y13 y14 y15 Y_br Y_fa Y_rbs Y_rfs Y_len Y_at Y_fau Y_wk Y_ac Y_nx Y_hs Y_sd Y_st Y_kd Y_fs Y_fl o_Y_now Y_rd Y_rb Y_rf Y_tx Y_row Y_hh Y_hl Y_hw Y_ik Y_kp)) A) (List.toArray [.ref y0, .int u1, .int u2, .int u3]) s 0 0 A) (F0 m 111 ls [.int q0]) := by
    intro kk47 hk47 v1 v2 v3 v4 v6 q0 Y_now H locs ls h hP hS hl
    unfold f_X6_best_111 at h
    refine lv_istore (lv' := [(5, .int q0), (0, .ref y0), (1, .int v1), (2, .int v2), (3, .int v3), (4, .int v4), (6, .int v6)]) hx hb dX6_best_111 hl (by decide) rfl (fun ls hl => ?_)
    refine lv_iinc (v := (v6 + 1)) (lv' := [(6, .int (v6 + 1)), (5, .int q0), (0, .ref y0), (1, .int v1), (2, .int v2), (3, .int v3), (4, .int v4)]) hx hb dX6_best_113 hl (k := 6) rfl rfl (by decide) rfl (fun ls hl => ?_)
    refine lv_goto (tgt := 47) hx hb dX6_best_116 (by decide) ?_
    exact hk47 v1 v2 v3 v4 q0 (v6 + 1) Y_now _ _ _ h hP hS (lv_sub hl [2, 3, 4, 5, 6, 1, 0] rfl)
  have J_95 : ∀ (kk47 : Int32 → Int32 → Int32 → Int32 → Int32 → Int32 → (Nat → Int32) → Option (Int32 × (Nat → Int32))) (hk47 : ∀ (v1 : Int32) (v2 : Int32) (v3 : Int32) (v4 : Int32) (v5 : Int32) (v6 : Int32) (Y_now : Nat → Int32) (H : Heap) (locs : List Loc) (ls : Array Slot), kk47 v1 v2 v3 v4 v5 v6 Y_now = some (r_, o_Y_now) → va_P G.1 vwCl (W_Y G y0 y1 y2 y3 y4 y5 y6 y7 y8 y9 y10 y11 y12 y13 y14 y15 Y_br Y_fa Y_rbs Y_rfs Y_len Y_at Y_fau Y_wk Y_ac Y_nx Y_hs Y_sd Y_st Y_kd Y_fs Y_fl Y_now Y_rd Y_rb Y_rf Y_tx Y_row Y_hh Y_hl Y_hw Y_ik Y_kp) H → va_S A s.heap H locs → lv_has ls 8 [(0, .ref y0), (1, .int v1), (2, .int v2), (3, .int v3), (4, .int v4), (5, .int v5), (6, .int v6)] → W p l e (rmv 5 116) s m (List.toArray [.ref y0, .int u1, .int u2, .int u3]) below meth c H locs 0 0 (MQ below ((QI G r_ (W_Y G y0 y1 y2 y3 y4 y5 y6 y7 y8 y9 y10 y11 y12 y13 y14 y15 Y_br Y_fa Y_rbs Y_rfs Y_len Y_at Y_fau Y_wk Y_ac Y_nx Y_hs Y_sd Y_st Y_kd Y_fs Y_fl o_Y_now Y_rd Y_rb Y_rf Y_tx Y_row Y_hh Y_hl Y_hw Y_ik Y_kp)) A) (List.toArray [.ref y0, .int u1, .int u2, .int u3]) s 0 0 A) (F0 m 47 ls [])), ∀ (v1 : Int32) (v2 : Int32) (v3 : Int32) (v5 : Int32) (v6 : Int32) (v7 : Int32) (q0 : Int32) (Y_now : Nat → Int32) (H : Heap) (locs : List Loc) (ls : Array Slot), f_X6_best_95 Y_br Y_fa Y_wk Y_st Y_kd Y_fs Y_fl kk47 v1 v2 v3 v5 v6 v7 q0 Y_now = some (r_, o_Y_now) → va_P G.1 vwCl (W_Y G y0 y1 y2 y3 y4 y5 y6 y7 y8 y9 y10 y11 y12 y13 y14 y15 Y_br Y_fa Y_rbs Y_rfs Y_len Y_at Y_fau Y_wk Y_ac Y_nx Y_hs Y_sd Y_st Y_kd Y_fs Y_fl Y_now Y_rd Y_rb Y_rf Y_tx Y_row Y_hh Y_hl Y_hw Y_ik Y_kp) H → va_S A s.heap H locs → lv_has ls 8 [(0, .ref y0), (1, .int v1), (2, .int v2), (3, .int v3), (5, .int v5), (6, .int v6), (7, .int v7)] → W p l e (rmv 5 116) s m (List.toArray [.ref y0, .int u1, .int u2, .int u3]) below meth c H locs 0 0 (MQ below ((QI G r_ (W_Y G y0 y1 y2 y3 y4 y5 y6 y7 y8 y9 y10 y11 y12 y13 y14 y15 Y_br Y_fa Y_rbs Y_rfs Y_len Y_at Y_fau Y_wk Y_ac Y_nx Y_hs Y_sd Y_st Y_kd Y_fs Y_fl o_Y_now Y_rd Y_rb Y_rf Y_tx Y_row Y_hh Y_hl Y_hw Y_ik Y_kp)) A) (List.toArray [.ref y0, .int u1, .int u2, .int u3]) s 0 0 A) (F0 m 95 ls [.int q0]) := by
    intro kk47 hk47 v1 v2 v3 v5 v6 v7 q0 Y_now H locs ls h hP hS hl
    unfold f_X6_best_95 at h
    refine lv_istore (lv' := [(4, .int q0), (0, .ref y0), (1, .int v1), (2, .int v2), (3, .int v3), (5, .int v5), (6, .int v6), (7, .int v7)]) hx hb dX6_best_95 hl (by decide) rfl (fun ls hl => ?_)
    refine lv_iload hx hb dX6_best_97 (lv_at hl 7 rfl) ?_
    refine lv_iload hx hb dX6_best_99 (lv_at hl 5 rfl) ?_
    refine lv_icmp_ge (tgt := 109) hx hb dX6_best_101 (by decide) (fun cc_1 => ?_) (fun cc_1 => ?_)
    · replace h := if_t cc_1 h
      refine lv_iload hx hb dX6_best_109 (lv_at hl 5 rfl) ?_
      exact J_111 kk47 hk47 v1 v2 v3 q0 v6 v5 Y_now _ _ _ h hP hS (lv_sub hl [1, 2, 3, 4, 0, 6] rfl)
    · replace h := if_f cc_1 h
      refine lv_iload hx hb dX6_best_104 (lv_at hl 7 rfl) ?_
      refine lv_goto (tgt := 111) hx hb dX6_best_106 (by decide) ?_
      exact J_111 kk47 hk47 v1 v2 v3 q0 v6 v7 Y_now _ _ _ h hP hS (lv_sub hl [1, 2, 3, 4, 0, 6] rfl)
  have J_47 : ∀ (fu : Nat), ∀ (v1 : Int32) (v2 : Int32) (v3 : Int32) (v4 : Int32) (v5 : Int32) (v6 : Int32) (Y_now : Nat → Int32) (H : Heap) (locs : List Loc) (ls : Array Slot), f_X6_best_47 Y_br Y_fa Y_wk Y_st Y_kd Y_fs Y_fl fu v1 v2 v3 v4 v5 v6 Y_now = some (r_, o_Y_now) → va_P G.1 vwCl (W_Y G y0 y1 y2 y3 y4 y5 y6 y7 y8 y9 y10 y11 y12 y13 y14 y15 Y_br Y_fa Y_rbs Y_rfs Y_len Y_at Y_fau Y_wk Y_ac Y_nx Y_hs Y_sd Y_st Y_kd Y_fs Y_fl Y_now Y_rd Y_rb Y_rf Y_tx Y_row Y_hh Y_hl Y_hw Y_ik Y_kp) H → va_S A s.heap H locs → lv_has ls 8 [(0, .ref y0), (1, .int v1), (2, .int v2), (3, .int v3), (4, .int v4), (5, .int v5), (6, .int v6)] → W p l e (rmv 5 116) s m (List.toArray [.ref y0, .int u1, .int u2, .int u3]) below meth c H locs 0 0 (MQ below ((QI G r_ (W_Y G y0 y1 y2 y3 y4 y5 y6 y7 y8 y9 y10 y11 y12 y13 y14 y15 Y_br Y_fa Y_rbs Y_rfs Y_len Y_at Y_fau Y_wk Y_ac Y_nx Y_hs Y_sd Y_st Y_kd Y_fs Y_fl o_Y_now Y_rd Y_rb Y_rf Y_tx Y_row Y_hh Y_hl Y_hw Y_ik Y_kp)) A) (List.toArray [.ref y0, .int u1, .int u2, .int u3]) s 0 0 A) (F0 m 47 ls []) := by
    intro  fu
    induction fu with
    | zero =>
      intro v1 v2 v3 v4 v5 v6 Y_now H locs ls h
      cases h
    | succ fu ih =>
      intro v1 v2 v3 v4 v5 v6 Y_now H locs ls h hP hS hl
      rw [f_X6_best_47] at h
      refine lv_iload hx hb dX6_best_47 (lv_at hl 6 rfl) ?_
      refine lv_bipush (v := 8) hx hb dX6_best_49 (by decide) ?_
      refine lv_icmp_ge (tgt := 119) hx hb dX6_best_51 (by decide) (fun cc_2 => ?_) (fun cc_2 => ?_)
      · replace h := if_t cc_2 h
        refine lv_iload_n hx hb dX6_best_119 rfl (lv_at hl 3 rfl) ?_
        refine lv_if_ne (tgt := 128) hx hb dX6_best_120 (by decide) (fun cc_3 => ?_) (fun cc_3 => ?_)
        · replace h := if_f cc_3 h
          refine lv_iload hx hb dX6_best_128 (lv_at hl 5 rfl) ?_
          cases h
          exact W.iret hx hb hr (fun t ht _ => ⟨⟨_, (), rfl, rfl, by show va_P G.1 vwCl _ t.heap; rw [ht]; exact hP⟩, hS.F ht⟩) hS.2.2 dX6_best_130
        · replace h := if_t cc_3 h
          refine lv_iload hx hb dX6_best_123 (lv_at hl 4 rfl) ?_
          refine lv_goto (tgt := 130) hx hb dX6_best_125 (by decide) ?_
          cases h
          exact W.iret hx hb hr (fun t ht _ => ⟨⟨_, (), rfl, rfl, by show va_P G.1 vwCl _ t.heap; rw [ht]; exact hP⟩, hS.F ht⟩) hS.2.2 dX6_best_130
      · replace h := if_f cc_2 h
        refine lv_aload_n hx hb dX6_best_54 rfl (lv_at hl 0 rfl) ?_
        obtain ⟨dd_4, ee_5, h⟩ := bnd1_s h
        refine cFv (As := []) (rest := []) S0 hK hA hP (va_D_same hD rfl) hS (k_X6_layTrial l G y0 y1 y2 y3 y4 y5 y6 y7 y8 y9 y10 y11 y12 y13 y14 y15 Y_br Y_fa Y_rbs Y_rfs Y_len Y_at Y_fau Y_wk Y_ac Y_nx Y_hs Y_sd Y_st Y_kd Y_fs Y_fl Y_now Y_rd Y_rb Y_rf Y_tx Y_row Y_hh Y_hl Y_hw Y_ik Y_kp dd_4 ee_5) cw_X6_layTrial 6 0 rfl rfl rfl rfl hl.1 rfl (Nat.le_of_ble_eq_true rfl) dX6_best_55 ⟨Nat.zero_le _, Nat.zero_le _⟩ (fun H locs hP hS => ?_)
        replace hP : va_P G.1 vwCl (W_Y G y0 y1 y2 y3 y4 y5 y6 y7 y8 y9 y10 y11 y12 y13 y14 y15 Y_br Y_fa Y_rbs Y_rfs Y_len Y_at Y_fau Y_wk Y_ac Y_nx Y_hs Y_sd Y_st Y_kd Y_fs Y_fl dd_4 Y_rd Y_rb Y_rf Y_tx Y_row Y_hh Y_hl Y_hw Y_ik Y_kp) H := hP
        refine lv_aload_n hx hb dX6_best_58 rfl (lv_at hl 0 rfl) ?_
        refine va_get (ci := 6) (C := RX6) (T := TX6) (N := 27) hx hb hts inX6 hown hK.1 hP 0 rfl rfl 6 (by decide) fl22 (fun _ h9 => h9) rfl dX6_best_59 ?_
        refine lv_bipush (v := 24) hx hb dX6_best_62 (by decide) ?_
        refine lv_iload_n hx hb dX6_best_64 rfl (lv_at hl 1 rfl) ?_
        refine lv_iadd hx hb dX6_best_65 ?_
        refine lv_iload hx hb dX6_best_66 (lv_at hl 6 rfl) ?_
        obtain ⟨dd_6, ee_7, h⟩ := bnd1_s h
        refine wIast hx hb hK hP (va_D_same hD rfl) hS 5 rfl ee_7 dX6_best_68 (fun H locs hP hS => ?_)
        replace hP : va_P G.1 vwCl (W_Y G y0 y1 y2 y3 y4 y5 y6 y7 y8 y9 y10 y11 y12 y13 y14 y15 Y_br Y_fa Y_rbs Y_rfs Y_len Y_at Y_fau Y_wk Y_ac Y_nx Y_hs Y_sd Y_st Y_kd Y_fs Y_fl dd_6 Y_rd Y_rb Y_rf Y_tx Y_row Y_hh Y_hl Y_hw Y_ik Y_kp) H := hP
        refine lv_aload_n hx hb dX6_best_69 rfl (lv_at hl 0 rfl) ?_
        refine lv_iload_n hx hb dX6_best_70 rfl (lv_at hl 2 rfl) ?_
        obtain ⟨dd_8, ee_9, h⟩ := bnd1_s h
        refine cFv (As := [.int v2]) (rest := []) S0 hK hA hP (va_D_same hD rfl) hS (k_X6_goOn l G y0 y1 y2 y3 y4 y5 y6 y7 y8 y9 y10 y11 y12 y13 y14 y15 Y_br Y_fa Y_rbs Y_rfs Y_len Y_at Y_fau Y_wk Y_ac Y_nx Y_hs Y_sd Y_st Y_kd Y_fs Y_fl dd_6 Y_rd Y_rb Y_rf Y_tx Y_row Y_hh Y_hl Y_hw Y_ik Y_kp v2 dd_8 ee_9) cw_X6_goOn 6 0 rfl rfl rfl rfl hl.1 rfl (Nat.le_of_ble_eq_true rfl) dX6_best_71 ⟨Nat.zero_le _, Nat.zero_le _⟩ (fun H locs hP hS => ?_)
        replace hP : va_P G.1 vwCl (W_Y G y0 y1 y2 y3 y4 y5 y6 y7 y8 y9 y10 y11 y12 y13 y14 y15 Y_br Y_fa Y_rbs Y_rfs Y_len Y_at Y_fau Y_wk Y_ac Y_nx Y_hs Y_sd Y_st Y_kd Y_fs Y_fl dd_8 Y_rd Y_rb Y_rf Y_tx Y_row Y_hh Y_hl Y_hw Y_ik Y_kp) H := hP
        refine lv_aload_n hx hb dX6_best_74 rfl (lv_at hl 0 rfl) ?_
        refine lv_iconst (v := 1) hx hb dX6_best_75 (by decide) ?_
        obtain ⟨rr_10, ee_11, h⟩ := bnd1_s h
        refine cFi (As := [.int (1 : Int32)]) (rest := []) S0 hK hA hP (va_D_same hD rfl) hS (k_X6_dustOn l G y0 y1 y2 y3 y4 y5 y6 y7 y8 y9 y10 y11 y12 y13 y14 y15 Y_br Y_fa Y_rbs Y_rfs Y_len Y_at Y_fau Y_wk Y_ac Y_nx Y_hs Y_sd Y_st Y_kd Y_fs Y_fl dd_8 Y_rd Y_rb Y_rf Y_tx Y_row Y_hh Y_hl Y_hw Y_ik Y_kp (1 : Int32) rr_10 ee_11) cw_X6_dustOn 6 0 rfl rfl rfl rfl hl.1 rfl (Nat.le_of_ble_eq_true rfl) dX6_best_76 ⟨Nat.zero_le _, Nat.zero_le _⟩ (fun H locs hP hS => ?_)
        replace hP : va_P G.1 vwCl (W_Y G y0 y1 y2 y3 y4 y5 y6 y7 y8 y9 y10 y11 y12 y13 y14 y15 Y_br Y_fa Y_rbs Y_rfs Y_len Y_at Y_fau Y_wk Y_ac Y_nx Y_hs Y_sd Y_st Y_kd Y_fs Y_fl dd_8 Y_rd Y_rb Y_rf Y_tx Y_row Y_hh Y_hl Y_hw Y_ik Y_kp) H := hP
        refine lv_istore (lv' := [(7, .int rr_10), (0, .ref y0), (1, .int v1), (2, .int v2), (3, .int v3), (4, .int v4), (5, .int v5), (6, .int v6)]) hx hb dX6_best_79 hl (by decide) rfl (fun ls hl => ?_)
        refine lv_iload hx hb dX6_best_81 (lv_at hl 0 rfl) ?_
        refine lv_iload hx hb dX6_best_83 (lv_at hl 6 rfl) ?_
        refine lv_icmp_ge (tgt := 93) hx hb dX6_best_85 (by decide) (fun cc_12 => ?_) (fun cc_12 => ?_)
        · replace h := if_t cc_12 h
          refine lv_iload hx hb dX6_best_93 (lv_at hl 5 rfl) ?_
          exact J_95 (f_X6_best_47 Y_br Y_fa Y_wk Y_st Y_kd Y_fs Y_fl fu) ih v1 v2 v3 v5 v6 rr_10 v4 dd_8 _ _ _ h hP hS (lv_sub hl [1, 2, 3, 4, 6, 7, 0] rfl)
        · replace h := if_f cc_12 h
          refine lv_iload hx hb dX6_best_88 (lv_at hl 7 rfl) ?_
          refine lv_goto (tgt := 95) hx hb dX6_best_90 (by decide) ?_
          exact J_95 (f_X6_best_47 Y_br Y_fa Y_wk Y_st Y_kd Y_fs Y_fl fu) ih v1 v2 v3 v5 v6 rr_10 v6 dd_8 _ _ _ h hP hS (lv_sub hl [1, 2, 3, 4, 6, 7, 0] rfl)
  unfold f_X6_best at h
  refine lv_aload_n hx hb dX6_best_0 rfl (lv_at hl 0 rfl) ?_
  refine lv_iload_n hx hb dX6_best_1 rfl (lv_at hl 1 rfl) ?_
  obtain ⟨rr_13, ee_14, h⟩ := bnd1_s h
  refine cFi (As := [.int u1]) (rest := []) S0 hK hA hP (va_D_same hD rfl) hS (k_X6_isBroom l G y0 y1 y2 y3 y4 y5 y6 y7 y8 y9 y10 y11 y12 y13 y14 y15 Y_br Y_fa Y_rbs Y_rfs Y_len Y_at Y_fau Y_wk Y_ac Y_nx Y_hs Y_sd Y_st Y_kd Y_fs Y_fl Y_now Y_rd Y_rb Y_rf Y_tx Y_row Y_hh Y_hl Y_hw Y_ik Y_kp u1 rr_13 ee_14) cw_X6_isBroom 6 0 rfl rfl rfl rfl hl.1 rfl (Nat.le_of_ble_eq_true rfl) dX6_best_2 ⟨Nat.zero_le _, Nat.zero_le _⟩ (fun H locs hP hS => ?_)
  replace hP : va_P G.1 vwCl (W_Y G y0 y1 y2 y3 y4 y5 y6 y7 y8 y9 y10 y11 y12 y13 y14 y15 Y_br Y_fa Y_rbs Y_rfs Y_len Y_at Y_fau Y_wk Y_ac Y_nx Y_hs Y_sd Y_st Y_kd Y_fs Y_fl Y_now Y_rd Y_rb Y_rf Y_tx Y_row Y_hh Y_hl Y_hw Y_ik Y_kp) H := hP
  refine lv_if_ne (tgt := 10) hx hb dX6_best_5 (by decide) (fun cc_15 => ?_) (fun cc_15 => ?_)
  · replace h := if_f cc_15 h
    refine lv_iload_n hx hb dX6_best_10 rfl (lv_at hl 2 rfl) ?_
    refine lv_i2l (v := u2.toInt64) hx hb dX6_best_11 rfl ?_
    refine lv_lconst (v := 1) hx hb dX6_best_12 (by decide) ?_
    refine lv_ldc2 (v := 9) hx hb hown cl166 dX6_best_13 ?_
    obtain ⟨rr_16, ee_17, h⟩ := bnd1_s h
    refine cSi (As := [.long (u2.toInt64), .long (1 : Int64), .long (9 : Int64)]) (rest := []) S0 hK hA hP (va_D_same hD rfl) hS [] (k_X6_in l G (u2.toInt64) (1 : Int64) (9 : Int64) rr_16 ee_17) cw_X6_in rfl rfl (Nat.le_of_ble_eq_true rfl) rfl hl.1 rfl (Nat.le_of_ble_eq_true rfl) dX6_best_16 ⟨Nat.zero_le _, Nat.zero_le _⟩ (fun H locs hP hS => ?_)
    replace hP : va_P G.1 vwCl (W_Y G y0 y1 y2 y3 y4 y5 y6 y7 y8 y9 y10 y11 y12 y13 y14 y15 Y_br Y_fa Y_rbs Y_rfs Y_len Y_at Y_fau Y_wk Y_ac Y_nx Y_hs Y_sd Y_st Y_kd Y_fs Y_fl Y_now Y_rd Y_rb Y_rf Y_tx Y_row Y_hh Y_hl Y_hw Y_ik Y_kp) H := hP
    refine lv_if_eq (tgt := 32) hx hb dX6_best_19 (by decide) (fun cc_18 => ?_) (fun cc_18 => ?_)
    · replace h := if_t cc_18 h
      refine lv_bipush (v := (-2)) hx hb dX6_best_32 (by decide) ?_
      cases h
      exact W.iret hx hb hr (fun t ht _ => ⟨⟨_, (), rfl, rfl, by show va_P G.1 vwCl _ t.heap; rw [ht]; exact hP⟩, hS.F ht⟩) hS.2.2 dX6_best_34
    · replace h := if_f cc_18 h
      refine lv_iload_n hx hb dX6_best_22 rfl (lv_at hl 3 rfl) ?_
      refine lv_i2l (v := u3.toInt64) hx hb dX6_best_23 rfl ?_
      refine lv_lconst (v := 0) hx hb dX6_best_24 (by decide) ?_
      refine lv_lconst (v := 1) hx hb dX6_best_25 (by decide) ?_
      obtain ⟨rr_19, ee_20, h⟩ := bnd1_s h
      refine cSi (As := [.long (u3.toInt64), .long (0 : Int64), .long (1 : Int64)]) (rest := []) S0 hK hA hP (va_D_same hD rfl) hS [] (k_X6_in l G (u3.toInt64) (0 : Int64) (1 : Int64) rr_19 ee_20) cw_X6_in rfl rfl (Nat.le_of_ble_eq_true rfl) rfl hl.1 rfl (Nat.le_of_ble_eq_true rfl) dX6_best_26 ⟨Nat.zero_le _, Nat.zero_le _⟩ (fun H locs hP hS => ?_)
      replace hP : va_P G.1 vwCl (W_Y G y0 y1 y2 y3 y4 y5 y6 y7 y8 y9 y10 y11 y12 y13 y14 y15 Y_br Y_fa Y_rbs Y_rfs Y_len Y_at Y_fau Y_wk Y_ac Y_nx Y_hs Y_sd Y_st Y_kd Y_fs Y_fl Y_now Y_rd Y_rb Y_rf Y_tx Y_row Y_hh Y_hl Y_hw Y_ik Y_kp) H := hP
      refine lv_if_ne (tgt := 35) hx hb dX6_best_29 (by decide) (fun cc_21 => ?_) (fun cc_21 => ?_)
      · replace h := if_f cc_21 h
        refine lv_bipush (v := (-9)) hx hb dX6_best_35 (by decide) ?_
        refine lv_istore (lv' := [(4, .int ((-9) : Int32)), (0, .ref y0), (1, .int u1), (2, .int u2), (3, .int u3)]) hx hb dX6_best_37 hl (by decide) rfl (fun ls hl => ?_)
        refine lv_sipush (v := 9999) hx hb dX6_best_39 (by decide) ?_
        refine lv_istore (lv' := [(5, .int (9999 : Int32)), (4, .int ((-9) : Int32)), (0, .ref y0), (1, .int u1), (2, .int u2), (3, .int u3)]) hx hb dX6_best_42 hl (by decide) rfl (fun ls hl => ?_)
        refine lv_iconst (v := 0) hx hb dX6_best_44 (by decide) ?_
        refine lv_istore (lv' := [(6, .int (0 : Int32)), (5, .int (9999 : Int32)), (4, .int ((-9) : Int32)), (0, .ref y0), (1, .int u1), (2, .int u2), (3, .int u3)]) hx hb dX6_best_45 hl (by decide) rfl (fun ls hl => ?_)
        exact J_47  130 u1 u2 u3 ((-9) : Int32) (9999 : Int32) (0 : Int32) Y_now _ _ _ h hP hS (lv_sub hl [3, 4, 5, 6, 2, 1, 0] rfl)
      · replace h := if_t cc_21 h
        refine lv_bipush (v := (-2)) hx hb dX6_best_32 (by decide) ?_
        cases h
        exact W.iret hx hb hr (fun t ht _ => ⟨⟨_, (), rfl, rfl, by show va_P G.1 vwCl _ t.heap; rw [ht]; exact hP⟩, hS.F ht⟩) hS.2.2 dX6_best_34
  · replace h := if_t cc_15 h
    refine lv_iconst (v := (-1)) hx hb dX6_best_8 (by decide) ?_
    cases h
    exact W.iret hx hb hr (fun t ht _ => ⟨⟨_, (), rfl, rfl, by show va_P G.1 vwCl _ t.heap; rw [ht]; exact hP⟩, hS.F ht⟩) hS.2.2 dX6_best_9
