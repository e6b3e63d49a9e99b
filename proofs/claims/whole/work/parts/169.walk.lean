def f_X6_rests_96 (Y_br : Int32) (Y_fa : Int32) (Y_st : Nat → Int32) (Y_kd : Nat → Int32) (Y_fs : Nat → Int32) (Y_fl : Nat → Int32) (kk46 : Int32 → Int32 → Int32 → Int32 → Int32 → Int32 → Int32 → (Nat → Int32) → Option (Int32 × Int32 × (Nat → Int32))) (v1 : Int32) (v2 : Int32) (v3 : Int32) (v4 : Int32) (v5 : Int32) (v6 : Int32) (Y_wk : Int32) (Y_now : Nat → Int32) : Option (Int32 × Int32 × (Nat → Int32)) := kk46 v1 v2 v3 v4 v5 (v6 + 1) Y_wk Y_now
def f_X6_rests_91 (Y_br : Int32) (Y_fa : Int32) (Y_st : Nat → Int32) (Y_kd : Nat → Int32) (Y_fs : Nat → Int32) (Y_fl : Nat → Int32) (kk46 : Int32 → Int32 → Int32 → Int32 → Int32 → Int32 → Int32 → (Nat → Int32) → Option (Int32 × Int32 × (Nat → Int32))) (v1 : Int32) (v2 : Int32) (v3 : Int32) (v4 : Int32) (v6 : Int32) (q0 : Int32) (Y_wk : Int32) (Y_now : Nat → Int32) : Option (Int32 × Int32 × (Nat → Int32)) := f_X6_rests_96 Y_br Y_fa Y_st Y_kd Y_fs Y_fl kk46 v1 v2 v3 (v4 + 1) q0 v6 Y_wk Y_now
def f_X6_rests_46 (Y_br : Int32) (Y_fa : Int32) (Y_st : Nat → Int32) (Y_kd : Nat → Int32) (Y_fs : Nat → Int32) (Y_fl : Nat → Int32) : Nat → Int32 → Int32 → Int32 → Int32 → Int32 → Int32 → Int32 → (Nat → Int32) → Option (Int32 × Int32 × (Nat → Int32))
  | 0, _, _, _, _, _, _, _, _ => none
  | fu + 1, v1, v2, v3, v4, v5, v6, Y_wk, Y_now => if (4 : Int32) ≤ v6 then (if v3 = 0 then (some (v4, Y_wk, Y_now)) else (some (v5, Y_wk, Y_now))) else (bnd3 (f_X6_isRest Y_br Y_fa Y_wk Y_st Y_kd Y_fs Y_fl Y_now v1 v2 (v6 / (2 : Int32)) (v6 - v6 / (2 : Int32) * (2 : Int32))) (fun rr_3 dd_4 dd_5 => if rr_3 = 0 then (f_X6_rests_96 Y_br Y_fa Y_st Y_kd Y_fs Y_fl (f_X6_rests_46 Y_br Y_fa Y_st Y_kd Y_fs Y_fl fu) v1 v2 v3 v4 v5 v6 dd_4 dd_5) else (if v4 = 0 then (f_X6_rests_91 Y_br Y_fa Y_st Y_kd Y_fs Y_fl (f_X6_rests_46 Y_br Y_fa Y_st Y_kd Y_fs Y_fl fu) v1 v2 v3 v4 v6 (((10 : Int32) * (v6 / (2 : Int32))) + (v6 - v6 / (2 : Int32) * (2 : Int32))) dd_4 dd_5) else (f_X6_rests_91 Y_br Y_fa Y_st Y_kd Y_fs Y_fl (f_X6_rests_46 Y_br Y_fa Y_st Y_kd Y_fs Y_fl fu) v1 v2 v3 v4 v6 v5 dd_4 dd_5))))
def f_X6_rests (Y_br : Int32) (Y_fa : Int32) (Y_wk : Int32) (Y_st : Nat → Int32) (Y_kd : Nat → Int32) (Y_fs : Nat → Int32) (Y_fl : Nat → Int32) (Y_now : Nat → Int32) (u1 : Int32) (u2 : Int32) (u3 : Int32) : Option (Int32 × Int32 × (Nat → Int32)) := bnd1 (f_X6_isBroom Y_br u1) (fun rr_9 => if rr_9 = 0 then (some (((-1) : Int32), Y_wk, Y_now)) else (bnd1 (f_X6_isBroom Y_br u2) (fun rr_12 => if rr_12 = 0 then (some (((-1) : Int32), Y_wk, Y_now)) else (if u1 = u2 then (some (((-2) : Int32), Y_wk, Y_now)) else (bnd1 (f_X6_in (u3.toInt64) (0 : Int64) (1 : Int64)) (fun rr_16 => if rr_16 = 0 then (some (((-2) : Int32), Y_wk, Y_now)) else (f_X6_rests_46 Y_br Y_fa Y_st Y_kd Y_fs Y_fl  130 u1 u2 u3 (0 : Int32) ((-9) : Int32) (0 : Int32) Y_wk Y_now)))))))
set_option maxRecDepth 100000 in
set_option maxHeartbeats 4000000 in
theorem k_X6_rests (l : Launch) (G : Gt) (y0 y1 y2 y3 y4 y5 y6 y7 y8 y9 y10 y11 y12 y13 y14 y15 : Nat) (Y_br : Int32) (Y_fa : Int32) (Y_rbs : Int32) (Y_rfs : Int32) (Y_len : Int32) (Y_at : Int32) (Y_fau : Int32) (Y_wk : Int32) (Y_ac : Int32) (Y_nx : Int32) (Y_hs : Int32) (Y_sd : Int64) (Y_st : Nat → Int32) (Y_kd : Nat → Int32) (Y_fs : Nat → Int32) (Y_fl : Nat → Int32) (Y_now : Nat → Int32) (Y_rd : Nat → Int32) (Y_rb : Nat → Int32) (Y_rf : Nat → Int32) (Y_tx : Nat → Int32) (Y_row : Nat → Int32) (Y_hh : Nat → Int32) (Y_hl : Nat → Int32) (Y_hw : Nat → Int32) (Y_ik : Nat → Int32) (Y_kp : Nat → Int32) (u1 : Int32) (u2 : Int32) (u3 : Int32) (r_ : Int32) (o_Y_wk : Int32) (o_Y_now : Nat → Int32) (h : f_X6_rests Y_br Y_fa Y_wk Y_st Y_kd Y_fs Y_fl Y_now u1 u2 u3 = some (r_, o_Y_wk, o_Y_now)) : CT l yX6_rests wsX6_rests 7 164 G [.ref y0, .int u1, .int u2, .int u3] (W_Y G y0 y1 y2 y3 y4 y5 y6 y7 y8 y9 y10 y11 y12 y13 y14 y15 Y_br Y_fa Y_rbs Y_rfs Y_len Y_at Y_fau Y_wk Y_ac Y_nx Y_hs Y_sd Y_st Y_kd Y_fs Y_fl Y_now Y_rd Y_rb Y_rf Y_tx Y_row Y_hh Y_hl Y_hw Y_ik Y_kp) (QI G r_ (W_Y G y0 y1 y2 y3 y4 y5 y6 y7 y8 y9 y10 y11 y12 y13 y14 y15 Y_br Y_fa Y_rbs Y_rfs Y_len Y_at Y_fau o_Y_wk Y_ac Y_nx Y_hs Y_sd Y_st Y_kd Y_fs Y_fl o_Y_now Y_rd Y_rb Y_rf Y_tx Y_row Y_hh Y_hl Y_hw Y_ik Y_kp)) := by
  refine met_of cX6_rests 7 (some .int) (by decide) rfl (Nat.le_of_ble_eq_true rfl) ?_
  intro p e s m below meth c A ls hx hb hr hml hts hown hlocks hK hA hD hP hS hl
  replace hown : s.vm.findClass RX6 = some m.cls := hown
  replace hl : lv_has ls 7 [(0, .ref y0), (1, .int u1), (2, .int u2), (3, .int u3)] := hl
  have S0 : CallFix p m c cX6_rests 7 s _ wsX6_rests RX6 := ⟨hx, hb, hml, hown, hts⟩
  have cw_X6_isRest := show CallW (rmv 7 164) s _ RX6 RX6 201 yX6_isRest cX6_isRest 5 (some .boolean) wsX6_isRest (rmv 6 140) 0 0 4 from cwV 4 hts gX6_rests_X6_isRest rfl rfl rfl (by decide +kernel) ⟨Nat.le_of_ble_eq_true rfl, Nat.le_of_ble_eq_true rfl⟩
  have cw_X6_isBroom := show CallW (rmv 7 164) s _ RX6 RX6 134 yX6_isBroom cX6_isBroom 2 (some .boolean) wsX6_isBroom (rmv 1 25) 0 0 1 from cwV 1 hts gX6_rests_X6_isBroom rfl rfl rfl (by decide +kernel) ⟨Nat.le_of_ble_eq_true rfl, Nat.le_of_ble_eq_true rfl⟩
  have cw_X6_in := show CallB (rmv 7 164) s _ RX6 62 yX6_in cX6_in 6 (some .boolean) wsX6_in (rmv 0 0) 0 0 3 ∧ (Cond.static yX6_in).before _ s = true from va_cwS 3 hts gX6_rests_X6_in rfl rfl rfl (by decide +kernel) ⟨Nat.le_of_ble_eq_true rfl, Nat.le_of_ble_eq_true rfl⟩
  have J_96 : ∀ (kk46 : Int32 → Int32 → Int32 → Int32 → Int32 → Int32 → Int32 → (Nat → Int32) → Option (Int32 × Int32 × (Nat → Int32))) (hk46 : ∀ (v1 : Int32) (v2 : Int32) (v3 : Int32) (v4 : Int32) (v5 : Int32) (v6 : Int32) (Y_wk : Int32) (Y_now : Nat → Int32) (H : Heap) (locs : List Loc) (ls : Array Slot), kk46 v1 v2 v3 v4 v5 v6 Y_wk Y_now = some (r_, o_Y_wk, o_Y_now) → va_P G.1 vwCl (W_Y G y0 y1 y2 y3 y4 y5 y6 y7 y8 y9 y10 y11 y12 y13 y14 y15 Y_br Y_fa Y_rbs Y_rfs Y_len Y_at Y_fau Y_wk Y_ac Y_nx Y_hs Y_sd Y_st Y_kd Y_fs Y_fl Y_now Y_rd Y_rb Y_rf Y_tx Y_row Y_hh Y_hl Y_hw Y_ik Y_kp) H → va_S A s.heap H locs → lv_has ls 7 [(0, .ref y0), (1, .int v1), (2, .int v2), (3, .int v3), (4, .int v4), (5, .int v5), (6, .int v6)] → W p l e (rmv 7 164) s m (List.toArray [.ref y0, .int u1, .int u2, .int u3]) below meth c H locs 0 0 (MQ below ((QI G r_ (W_Y G y0 y1 y2 y3 y4 y5 y6 y7 y8 y9 y10 y11 y12 y13 y14 y15 Y_br Y_fa Y_rbs Y_rfs Y_len Y_at Y_fau o_Y_wk Y_ac Y_nx Y_hs Y_sd Y_st Y_kd Y_fs Y_fl o_Y_now Y_rd Y_rb Y_rf Y_tx Y_row Y_hh Y_hl Y_hw Y_ik Y_kp)) A) (List.toArray [.ref y0, .int u1, .int u2, .int u3]) s 0 0 A) (F0 m 46 ls [])), ∀ (v1 : Int32) (v2 : Int32) (v3 : Int32) (v4 : Int32) (v5 : Int32) (v6 : Int32) (Y_wk : Int32) (Y_now : Nat → Int32) (H : Heap) (locs : List Loc) (ls : Array Slot), f_X6_rests_96 Y_br Y_fa Y_st Y_kd Y_fs Y_fl kk46 v1 v2 v3 v4 v5 v6 Y_wk Y_now = some (r_, o_Y_wk, o_Y_now) → va_P G.1 vwCl (W_Y G y0 y1 y2 y3 y4 y5 y6 y7 y8 y9 y10 y11 y12 y13 y14 y15 Y_br Y_fa Y_rbs Y_rfs Y_len Y_at Y_fau Y_wk Y_ac Y_nx Y_hs Y_sd Y_st Y_kd Y_fs Y_fl Y_now Y_rd Y_rb Y_rf Y_tx Y_row Y_hh Y_hl Y_hw Y_ik Y_kp) H → va_S A s.heap H locs → lv_has ls 7 [(0, .ref y0), (1, .int v1), (2, .int v2), (3, .int v3), (4, .int v4), (5, .int v5), (6, .int v6)] → W p l e (rmv 7 164) s m (List.toArray [.ref y0, .int u1, .int u2, .int u3]) below meth c H locs 0 0 (MQ below ((QI G r_ (W_Y G y0 y1 y2 y3 y4 y5 y6 y7 y8 y9 y10 y11 y12 y13 y14 y15 Y_br Y_fa Y_rbs Y_rfs Y_len Y_at Y_fau o_Y_wk Y_ac Y_nx Y_hs Y_sd Y_st Y_kd Y_fs Y_fl o_Y_now Y_rd Y_rb Y_rf Y_tx Y_row Y_hh Y_hl Y_hw Y_ik Y_kp)) A) (List.toArray [.ref y0, .int u1, .int u2, .int u3]) s 0 0 A) (F0 m 96 ls []) := by
    intro kk46 hk46 v1 v2 v3 v4 v5 v6 Y_wk Y_now H locs ls h hP hS hl
    unfold f_X6_rests_96 at h
    refine lv_iinc (v := (v6 + 1)) (lv' := [(6, .int (v6 + 1)), (0, .ref y0), (1, .int v1), (2, .int v2), (3, .int v3), (4, .int v4), (5, .int v5)]) hx hb dX6_rests_96 hl (k := 6) rfl rfl (by decide) rfl (fun ls hl => ?_)
    refine lv_goto (tgt := 46) hx hb dX6_rests_99 (by decide) ?_
    exact hk46 v1 v2 v3 v4 v5 (v6 + 1) Y_wk Y_now _ _ _ h hP hS (lv_sub hl [1, 2, 3, 4, 5, 6, 0] rfl)
  have J_91 : ∀ (kk46 : Int32 → Int32 → Int32 → Int32 → Int32 → Int32 → Int32 → (Nat → Int32) → Option (Int32 × Int32 × (Nat → Int32))) (hk46 : ∀ (v1 : Int32) (v2 : Int32) (v3 : Int32) (v4 : Int32) (v5 : Int32) (v6 : Int32) (Y_wk : Int32) (Y_now : Nat → Int32) (H : Heap) (locs : List Loc) (ls : Array Slot), kk46 v1 v2 v3 v4 v5 v6 Y_wk Y_now = some (r_, o_Y_wk, o_Y_now) → va_P G.1 vwCl (W_Y G y0 y1 y2 y3 y4 y5 y6 y7 y8 y9 y10 y11 y12 y13 y14 y15 Y_br Y_fa Y_rbs Y_rfs Y_len Y_at Y_fau Y_wk Y_ac Y_nx Y_hs Y_sd Y_st Y_kd Y_fs Y_fl Y_now Y_rd Y_rb Y_rf Y_tx Y_row Y_hh Y_hl Y_hw Y_ik Y_kp) H → va_S A s.heap H locs → lv_has ls 7 [(0, .ref y0), (1, .int v1), (2, .int v2), (3, .int v3), (4, .int v4), (5, .int v5), (6, .int v6)] → W p l e (rmv 7 164) s m (List.toArray [.ref y0, .int u1, .int u2, .int u3]) below meth c H locs 0 0 (MQ below ((QI G r_ (W_Y G y0 y1 y2 y3 y4 y5 y6 y7 y8 y9 y10 y11 y12 y13 y14 y15 Y_br Y_fa Y_rbs Y_rfs Y_len Y_at Y_fau o_Y_wk Y_ac Y_nx Y_hs Y_sd Y_st Y_kd Y_fs Y_fl o_Y_now Y_rd Y_rb Y_rf Y_tx Y_row Y_hh Y_hl Y_hw Y_ik Y_kp)) A) (List.toArray [.ref y0, .int u1, .int u2, .int u3]) s 0 0 A) (F0 m 46 ls [])), ∀ (v1 : Int32) (v2 : Int32) (v3 : Int32) (v4 : Int32) (v6 : Int32) (q0 : Int32) (Y_wk : Int32) (Y_now : Nat → Int32) (H : Heap) (locs : List Loc) (ls : Array Slot), f_X6_rests_91 Y_br Y_fa Y_st Y_kd Y_fs Y_fl kk46 v1 v2 v3 v4 v6 q0 Y_wk Y_now = some (r_, o_Y_wk, o_Y_now) → va_P G.1 vwCl (W_Y G y0 y1 y2 y3 y4 y5 y6 y7 y8 y9 y10 y11 y12 y13 y14 y15 Y_br Y_fa Y_rbs Y_rfs Y_len Y_at Y_fau Y_wk Y_ac Y_nx Y_hs Y_sd Y_st Y_kd Y_fs Y_fl Y_now Y_rd Y_rb Y_rf Y_tx Y_row Y_hh Y_hl Y_hw Y_ik Y_kp) H → va_S A s.heap H locs → lv_has ls 7 [(0, .ref y0), (1, .int v1), (2, .int v2), (3, .int v3), (4, .int v4), (6, .int v6)] → W p l e (rmv 7 164) s m (List.toArray [.ref y0, .int u1, .int u2, .int u3]) below meth c H locs 0 0 (MQ below ((QI G r_ (W_Y G y0 y1 y2 y3 y4 y5 y6 y7 y8 y9 y10 y11 y12 y13 y14 y15 Y_br Y_fa Y_rbs Y_rfs Y_len Y_at Y_fau o_Y_wk Y_ac Y_nx Y_hs Y_sd Y_st Y_kd Y_fs Y_fl o_Y_now Y_rd Y_rb Y_rf Y_tx Y_row Y_hh Y_hl Y_hw Y_ik Y_kp)) A) (List.toArray [.ref y0, .int u1, .int u2, .int u3]) s 0 0 A) (F0 m 91 ls [.int q0]) := by
    intro kk46 hk46 v1 v2 v3 v4 v6 q0 Y_wk Y_now H locs ls h hP hS hl
    unfold f_X6_rests_91 at h
    refine lv_istore (lv' := [(5, .int q0), (0, .ref y0), (1, .int v1), (2, .int v2), (3, .int v3), (4, .int v4), (6, .int v6)]) hx hb dX6_rests_91 hl (by decide) rfl (fun ls hl => ?_)
    refine lv_iinc (v := (v4 + 1)) (lv' := [(4, .int (v4 + 1)), (5, .int q0), (0, .ref y0), (1, .int v1), (2, .int v2), (3, .int v3), (6, .int v6)]) hx hb dX6_rests_93 hl (k := 5) rfl rfl (by decide) rfl (fun ls hl => ?_)
    exact J_96 kk46 hk46 v1 v2 v3 (v4 + 1) q0 v6 Y_wk Y_now _ _ _ h hP hS (lv_sub hl [2, 3, 4, 5, 0, 1, 6] rfl)
  have J_46 : ∀ (fu : Nat), ∀ (v1 : Int32) (v2 : Int32) (v3 : Int32) (v4 : Int32) (v5 : Int32) (v6 : Int32) (Y_wk : Int32) (Y_now : Nat → Int32) (H : Heap) (locs : List Loc) (ls : Array Slot), f_X6_rests_46 Y_br Y_fa Y_st Y_kd Y_fs Y_fl fu v1 v2 v3 v4 v5 v6 Y_wk Y_now = some (r_, o_Y_wk, o_Y_now) → va_P G.1 vwCl (W_Y G y0 y1 y2 y3 y4 y5 y6 y7 y8 y9 y10 y11 y12 y13 y14 y15 Y_br Y_fa Y_rbs Y_rfs Y_len Y_at Y_fau Y_wk Y_ac Y_nx Y_hs Y_sd Y_st Y_kd Y_fs Y_fl Y_now Y_rd Y_rb Y_rf Y_tx Y_row Y_hh Y_hl Y_hw Y_ik Y_kp) H → va_S A s.heap H locs → lv_has ls 7 [(0, .ref y0), (1, .int v1), (2, .int v2), (3, .int v3), (4, .int v4), (5, .int v5), (6, .int v6)] → W p l e (rmv 7 164) s m (List.toArray [.ref y0, .int u1, .int u2, .int u3]) below meth c H locs 0 0 (MQ below ((QI G r_ (W_Y G y0 y1 y2 y3 y4 y5 y6 y7 y8 y9 y10 y11 y12 y13 y14 y15 Y_br Y_fa Y_rbs Y_rfs Y_len Y_at Y_fau o_Y_wk Y_ac Y_nx Y_hs Y_sd Y_st Y_kd Y_fs Y_fl o_Y_now Y_rd Y_rb Y_rf Y_tx Y_row Y_hh Y_hl Y_hw Y_ik Y_kp)) A) (List.toArray [.ref y0, .int u1, .int u2, .int u3]) s 0 0 A) (F0 m 46 ls []) := by
    intro  fu
    induction fu with
    | zero =>
      intro v1 v2 v3 v4 v5 v6 Y_wk Y_now H locs ls h
      cases h
    | succ fu ih =>
      intro v1 v2 v3 v4 v5 v6 Y_wk Y_now H locs ls h hP hS hl
      rw [f_X6_rests_46] at h
      refine lv_iload hx hb dX6_rests_46 (lv_at hl 6 rfl) ?_
      refine lv_iconst (v := 4) hx hb dX6_rests_48 (by decide) ?_
      refine lv_icmp_ge (tgt := 102) hx hb dX6_rests_49 (by decide) (fun cc_1 => ?_) (fun cc_1 => ?_)
      · replace h := if_t cc_1 h
        refine lv_iload_n hx hb dX6_rests_102 rfl (lv_at hl 3 rfl) ?_
        refine lv_if_ne (tgt := 111) hx hb dX6_rests_103 (by decide) (fun cc_2 => ?_) (fun cc_2 => ?_)
        · replace h := if_f cc_2 h
          refine lv_iload hx hb dX6_rests_111 (lv_at hl 5 rfl) ?_
          cases h
          exact W.iret hx hb hr (fun t ht _ => ⟨⟨_, (), rfl, rfl, by show va_P G.1 vwCl _ t.heap; rw [ht]; exact hP⟩, hS.F ht⟩) hS.2.2 dX6_rests_113
        · replace h := if_t cc_2 h
          refine lv_iload hx hb dX6_rests_106 (lv_at hl 4 rfl) ?_
          refine lv_goto (tgt := 113) hx hb dX6_rests_108 (by decide) ?_
          cases h
          exact W.iret hx hb hr (fun t ht _ => ⟨⟨_, (), rfl, rfl, by show va_P G.1 vwCl _ t.heap; rw [ht]; exact hP⟩, hS.F ht⟩) hS.2.2 dX6_rests_113
      · replace h := if_f cc_1 h
        refine lv_aload_n hx hb dX6_rests_52 rfl (lv_at hl 0 rfl) ?_
        refine lv_iload_n hx hb dX6_rests_53 rfl (lv_at hl 1 rfl) ?_
        refine lv_iload_n hx hb dX6_rests_54 rfl (lv_at hl 2 rfl) ?_
        refine lv_iload hx hb dX6_rests_55 (lv_at hl 6 rfl) ?_
        refine lv_iconst (v := 2) hx hb dX6_rests_57 (by decide) ?_
        refine lv_idiv hx hb dX6_rests_58 (by decide) ?_
        refine lv_iload hx hb dX6_rests_59 (lv_at hl 6 rfl) ?_
        refine lv_iconst (v := 2) hx hb dX6_rests_61 (by decide) ?_
        refine lv_irem hx hb dX6_rests_62 (by decide) ?_
        obtain ⟨rr_3, dd_4, dd_5, ee_6, h⟩ := bnd3_s h
        refine cFi (As := [.int v1, .int v2, .int (v6 / (2 : Int32)), .int (v6 - v6 / (2 : Int32) * (2 : Int32))]) (rest := []) S0 hK hA hP (va_D_same hD rfl) hS (k_X6_isRest l G y0 y1 y2 y3 y4 y5 y6 y7 y8 y9 y10 y11 y12 y13 y14 y15 Y_br Y_fa Y_rbs Y_rfs Y_len Y_at Y_fau Y_wk Y_ac Y_nx Y_hs Y_sd Y_st Y_kd Y_fs Y_fl Y_now Y_rd Y_rb Y_rf Y_tx Y_row Y_hh Y_hl Y_hw Y_ik Y_kp v1 v2 (v6 / (2 : Int32)) (v6 - v6 / (2 : Int32) * (2 : Int32)) rr_3 dd_4 dd_5 ee_6) cw_X6_isRest 6 0 rfl rfl rfl rfl hl.1 rfl (Nat.le_of_ble_eq_true rfl) dX6_rests_63 ⟨Nat.zero_le _, Nat.zero_le _⟩ (fun H locs hP hS => ?_)
        replace hP : va_P G.1 vwCl (W_Y G y0 y1 y2 y3 y4 y5 y6 y7 y8 y9 y10 y11 y12 y13 y14 y15 Y_br Y_fa Y_rbs Y_rfs Y_len Y_at Y_fau dd_4 Y_ac Y_nx Y_hs Y_sd Y_st Y_kd Y_fs Y_fl dd_5 Y_rd Y_rb Y_rf Y_tx Y_row Y_hh Y_hl Y_hw Y_ik Y_kp) H := hP
        refine lv_if_eq (tgt := 96) hx hb dX6_rests_66 (by decide) (fun cc_7 => ?_) (fun cc_7 => ?_)
        · replace h := if_t cc_7 h
          exact J_96 (f_X6_rests_46 Y_br Y_fa Y_st Y_kd Y_fs Y_fl fu) ih v1 v2 v3 v4 v5 v6 dd_4 dd_5 _ _ _ h hP hS (lv_sub hl [0, 1, 2, 3, 4, 5, 6] rfl)
        · replace h := if_f cc_7 h
          refine lv_iload hx hb dX6_rests_69 (lv_at hl 4 rfl) ?_
          refine lv_if_ne (tgt := 89) hx hb dX6_rests_71 (by decide) (fun cc_8 => ?_) (fun cc_8 => ?_)
          · replace h := if_f cc_8 h
            refine lv_iload hx hb dX6_rests_89 (lv_at hl 5 rfl) ?_
            exact J_91 (f_X6_rests_46 Y_br Y_fa Y_st Y_kd Y_fs Y_fl fu) ih v1 v2 v3 v4 v6 v5 dd_4 dd_5 _ _ _ h hP hS (lv_sub hl [0, 1, 2, 3, 4, 6] rfl)
          · replace h := if_t cc_8 h
            refine lv_bipush (v := 10) hx hb dX6_rests_74 (by decide) ?_
            refine lv_iload hx hb dX6_rests_76 (lv_at hl 6 rfl) ?_
            refine lv_iconst (v := 2) hx hb dX6_rests_78 (by decide) ?_
            refine lv_idiv hx hb dX6_rests_79 (by decide) ?_
            refine lv_imul hx hb dX6_rests_80 ?_
            refine lv_iload hx hb dX6_rests_81 (lv_at hl 6 rfl) ?_
            refine lv_iconst (v := 2) hx hb dX6_rests_83 (by decide) ?_
            refine lv_irem hx hb dX6_rests_84 (by decide) ?_
            refine lv_iadd hx hb dX6_rests_85 ?_
            refine lv_goto (tgt := 91) hx hb dX6_rests_86 (by decide) ?_
            exact J_91 (f_X6_rests_46 Y_br Y_fa Y_st Y_kd Y_fs Y_fl fu) ih v1 v2 v3 v4 v6 (((10 : Int32) * (v6 / (2 : Int32))) + (v6 - v6 / (2 : Int32) * (2 : Int32))) dd_4 dd_5 _ _ _ h hP hS (lv_sub hl [0, 1, 2, 3, 4, 6] rfl)
  unfold f_X6_rests at h
  refine lv_aload_n hx hb dX6_rests_0 rfl (lv_at hl 0 rfl) ?_
  refine lv_iload_n hx hb dX6_rests_1 rfl (lv_at hl 1 rfl) ?_
  obtain ⟨rr_9, ee_10, h⟩ := bnd1_s h
  refine cFi (As := [.int u1]) (rest := []) S0 hK hA hP (va_D_same hD rfl) hS (k_X6_isBroom l G y0 y1 y2 y3 y4 y5 y6 y7 y8 y9 y10 y11 y12 y13 y14 y15 Y_br Y_fa Y_rbs Y_rfs Y_len Y_at Y_fau Y_wk Y_ac Y_nx Y_hs Y_sd Y_st Y_kd Y_fs Y_fl Y_now Y_rd Y_rb Y_rf Y_tx Y_row Y_hh Y_hl Y_hw Y_ik Y_kp u1 rr_9 ee_10) cw_X6_isBroom 6 0 rfl rfl rfl rfl hl.1 rfl (Nat.le_of_ble_eq_true rfl) dX6_rests_2 ⟨Nat.zero_le _, Nat.zero_le _⟩ (fun H locs hP hS => ?_)
  replace hP : va_P G.1 vwCl (W_Y G y0 y1 y2 y3 y4 y5 y6 y7 y8 y9 y10 y11 y12 y13 y14 y15 Y_br Y_fa Y_rbs Y_rfs Y_len Y_at Y_fau Y_wk Y_ac Y_nx Y_hs Y_sd Y_st Y_kd Y_fs Y_fl Y_now Y_rd Y_rb Y_rf Y_tx Y_row Y_hh Y_hl Y_hw Y_ik Y_kp) H := hP
  refine lv_if_eq (tgt := 16) hx hb dX6_rests_5 (by decide) (fun cc_11 => ?_) (fun cc_11 => ?_)
  · replace h := if_t cc_11 h
    refine lv_iconst (v := (-1)) hx hb dX6_rests_16 (by decide) ?_
    cases h
    exact W.iret hx hb hr (fun t ht _ => ⟨⟨_, (), rfl, rfl, by show va_P G.1 vwCl _ t.heap; rw [ht]; exact hP⟩, hS.F ht⟩) hS.2.2 dX6_rests_17
  · replace h := if_f cc_11 h
    refine lv_aload_n hx hb dX6_rests_8 rfl (lv_at hl 0 rfl) ?_
    refine lv_iload_n hx hb dX6_rests_9 rfl (lv_at hl 2 rfl) ?_
    obtain ⟨rr_12, ee_13, h⟩ := bnd1_s h
    refine cFi (As := [.int u2]) (rest := []) S0 hK hA hP (va_D_same hD rfl) hS (k_X6_isBroom l G y0 y1 y2 y3 y4 y5 y6 y7 y8 y9 y10 y11 y12 y13 y14 y15 Y_br Y_fa Y_rbs Y_rfs Y_len Y_at Y_fau Y_wk Y_ac Y_nx Y_hs Y_sd Y_st Y_kd Y_fs Y_fl Y_now Y_rd Y_rb Y_rf Y_tx Y_row Y_hh Y_hl Y_hw Y_ik Y_kp u2 rr_12 ee_13) cw_X6_isBroom 6 0 rfl rfl rfl rfl hl.1 rfl (Nat.le_of_ble_eq_true rfl) dX6_rests_10 ⟨Nat.zero_le _, Nat.zero_le _⟩ (fun H locs hP hS => ?_)
    replace hP : va_P G.1 vwCl (W_Y G y0 y1 y2 y3 y4 y5 y6 y7 y8 y9 y10 y11 y12 y13 y14 y15 Y_br Y_fa Y_rbs Y_rfs Y_len Y_at Y_fau Y_wk Y_ac Y_nx Y_hs Y_sd Y_st Y_kd Y_fs Y_fl Y_now Y_rd Y_rb Y_rf Y_tx Y_row Y_hh Y_hl Y_hw Y_ik Y_kp) H := hP
    refine lv_if_ne (tgt := 18) hx hb dX6_rests_13 (by decide) (fun cc_14 => ?_) (fun cc_14 => ?_)
    · replace h := if_f cc_14 h
      refine lv_iload_n hx hb dX6_rests_18 rfl (lv_at hl 1 rfl) ?_
      refine lv_iload_n hx hb dX6_rests_19 rfl (lv_at hl 2 rfl) ?_
      refine lv_icmp_eq (tgt := 33) hx hb dX6_rests_20 (by decide) (fun cc_15 => ?_) (fun cc_15 => ?_)
      · replace h := if_t cc_15 h
        refine lv_bipush (v := (-2)) hx hb dX6_rests_33 (by decide) ?_
        cases h
        exact W.iret hx hb hr (fun t ht _ => ⟨⟨_, (), rfl, rfl, by show va_P G.1 vwCl _ t.heap; rw [ht]; exact hP⟩, hS.F ht⟩) hS.2.2 dX6_rests_35
      · replace h := if_f cc_15 h
        refine lv_iload_n hx hb dX6_rests_23 rfl (lv_at hl 3 rfl) ?_
        refine lv_i2l (v := u3.toInt64) hx hb dX6_rests_24 rfl ?_
        refine lv_lconst (v := 0) hx hb dX6_rests_25 (by decide) ?_
        refine lv_lconst (v := 1) hx hb dX6_rests_26 (by decide) ?_
        obtain ⟨rr_16, ee_17, h⟩ := bnd1_s h
        refine cSi (As := [.long (u3.toInt64), .long (0 : Int64), .long (1 : Int64)]) (rest := []) S0 hK hA hP (va_D_same hD rfl) hS [] (k_X6_in l G (u3.toInt64) (0 : Int64) (1 : Int64) rr_16 ee_17) cw_X6_in rfl rfl (Nat.le_of_ble_eq_true rfl) rfl hl.1 rfl (Nat.le_of_ble_eq_true rfl) dX6_rests_27 ⟨Nat.zero_le _, Nat.zero_le _⟩ (fun H locs hP hS => ?_)
        replace hP : va_P G.1 vwCl (W_Y G y0 y1 y2 y3 y4 y5 y6 y7 y8 y9 y10 y11 y12 y13 y14 y15 Y_br Y_fa Y_rbs Y_rfs Y_len Y_at Y_fau Y_wk Y_ac Y_nx Y_hs Y_sd Y_st Y_kd Y_fs Y_fl Y_now Y_rd Y_rb Y_rf Y_tx Y_row Y_hh Y_hl Y_hw Y_ik Y_kp) H := hP
        refine lv_if_ne (tgt := 36) hx hb dX6_rests_30 (by decide) (fun cc_18 => ?_) (fun cc_18 => ?_)
        · replace h := if_f cc_18 h
          refine lv_iconst (v := 0) hx hb dX6_rests_36 (by decide) ?_
          refine lv_istore (lv' := [(4, .int (0 : Int32)), (0, .ref y0), (1, .int u1), (2, .int u2), (3, .int u3)]) hx hb dX6_rests_37 hl (by decide) rfl (fun ls hl => ?_)
          refine lv_bipush (v := (-9)) hx hb dX6_rests_39 (by decide) ?_
          refine lv_istore (lv' := [(5, .int ((-9) : Int32)), (4, .int (0 : Int32)), (0, .ref y0), (1, .int u1), (2, .int u2), (3, .int u3)]) hx hb dX6_rests_41 hl (by decide) rfl (fun ls hl => ?_)
          refine lv_iconst (v := 0) hx hb dX6_rests_43 (by decide) ?_
          refine lv_istore (lv' := [(6, .int (0 : Int32)), (5, .int ((-9) : Int32)), (4, .int (0 : Int32)), (0, .ref y0), (1, .int u1), (2, .int u2), (3, .int u3)]) hx hb dX6_rests_44 hl (by decide) rfl (fun ls hl => ?_)
          exact J_46  130 u1 u2 u3 (0 : Int32) ((-9) : Int32) (0 : Int32) Y_wk Y_now _ _ _ h hP hS (lv_sub hl [3, 4, 5, 6, 2, 1, 0] rfl)
        · replace h := if_t cc_18 h
          refine lv_bipush (v := (-2)) hx hb dX6_rests_33 (by decide) ?_
          cases h
          exact W.iret hx hb hr (fun t ht _ => ⟨⟨_, (), rfl, rfl, by show va_P G.1 vwCl _ t.heap; rw [ht]; exact hP⟩, hS.F ht⟩) hS.2.2 dX6_rests_35
    · replace h := if_t cc_14 h
      refine lv_iconst (v := (-1)) hx hb dX6_rests_16 (by decide) ?_
      cases h
      exact W.iret hx hb hr (fun t ht _ => ⟨⟨_, (), rfl, rfl, by show va_P G.1 vwCl _ t.heap; rw [ht]; exact hP⟩, hS.F ht⟩) hS.2.2 dX6_rests_17
