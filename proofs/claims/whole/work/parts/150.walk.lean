def f_X6_dustOn_4 (Y_now : Nat → Int32) : Nat → Int32 → Int32 → Int32 → Option (Int32)
  | 0, _, _, _ => none
  | fu + 1, v1, v2, v3 => if (8 : Int32) ≤ v3 then (some v2) else (bnd1 (rd Y_now 32 (((16 : Int32) * v1) + v3)) (fun zz_2 => f_X6_dustOn_4 Y_now fu v1 (v2 + zz_2) (v3 + 1)))
def f_X6_dustOn (Y_now : Nat → Int32) (u1 : Int32) : Option (Int32) := f_X6_dustOn_4 Y_now  130 u1 (0 : Int32) (0 : Int32)
set_option maxRecDepth 100000 in
set_option maxHeartbeats 4000000 in
theorem k_X6_dustOn (l : Launch) (G : Gt) (y0 y1 y2 y3 y4 y5 y6 y7 y8 y9 y10 y11 y12 y13 y14 y15 : Nat) (Y_br : Int32) (Y_fa : Int32) (Y_rbs : Int32) (Y_rfs : Int32) (Y_len : Int32) (Y_at : Int32) (Y_fau : Int32) (Y_wk : Int32) (Y_ac : Int32) (Y_nx : Int32) (Y_hs : Int32) (Y_sd : Int64) (Y_st : Nat → Int32) (Y_kd : Nat → Int32) (Y_fs : Nat → Int32) (Y_fl : Nat → Int32) (Y_now : Nat → Int32) (Y_rd : Nat → Int32) (Y_rb : Nat → Int32) (Y_rf : Nat → Int32) (Y_tx : Nat → Int32) (Y_row : Nat → Int32) (Y_hh : Nat → Int32) (Y_hl : Nat → Int32) (Y_hw : Nat → Int32) (Y_ik : Nat → Int32) (Y_kp : Nat → Int32) (u1 : Int32) (r_ : Int32) (h : f_X6_dustOn Y_now u1 = some r_) : CT l yX6_dustOn wsX6_dustOn 0 0 G [.ref y0, .int u1] (W_Y G y0 y1 y2 y3 y4 y5 y6 y7 y8 y9 y10 y11 y12 y13 y14 y15 Y_br Y_fa Y_rbs Y_rfs Y_len Y_at Y_fau Y_wk Y_ac Y_nx Y_hs Y_sd Y_st Y_kd Y_fs Y_fl Y_now Y_rd Y_rb Y_rf Y_tx Y_row Y_hh Y_hl Y_hw Y_ik Y_kp) (QI G r_ (W_Y G y0 y1 y2 y3 y4 y5 y6 y7 y8 y9 y10 y11 y12 y13 y14 y15 Y_br Y_fa Y_rbs Y_rfs Y_len Y_at Y_fau Y_wk Y_ac Y_nx Y_hs Y_sd Y_st Y_kd Y_fs Y_fl Y_now Y_rd Y_rb Y_rf Y_tx Y_row Y_hh Y_hl Y_hw Y_ik Y_kp)) := by
  refine met_of cX6_dustOn 4 (some .int) (by decide) rfl (Nat.le_of_ble_eq_true rfl) ?_
  intro p e s m below meth c A ls hx hb hr hml hts hown hlocks hK hA hD hP hS hl
  replace hown : s.vm.findClass RX6 = some m.cls := hown
  replace hl : lv_has ls 4 [(0, .ref y0), (1, .int u1)] := hl
  have S0 : CallFix p m c cX6_dustOn 4 s _ wsX6_dustOn RX6 := ⟨hx, hb, hml, hown, hts⟩
  have fl22 := hts (.fieldLink RX6 22 "DustVoteModel" "now" "[I") (by decide +kernel)
  have inX6 := show ∀ w ∈ wsX60, w ∈ wsX6_dustOn from by decide +kernel
  have J_4 : ∀ (fu : Nat), ∀ (v1 : Int32) (v2 : Int32) (v3 : Int32) (H : Heap) (locs : List Loc) (ls : Array Slot), f_X6_dustOn_4 Y_now fu v1 v2 v3 = some r_ → va_P G.1 vwCl (W_Y G y0 y1 y2 y3 y4 y5 y6 y7 y8 y9 y10 y11 y12 y13 y14 y15 Y_br Y_fa Y_rbs Y_rfs Y_len Y_at Y_fau Y_wk Y_ac Y_nx Y_hs Y_sd Y_st Y_kd Y_fs Y_fl Y_now Y_rd Y_rb Y_rf Y_tx Y_row Y_hh Y_hl Y_hw Y_ik Y_kp) H → va_S A s.heap H locs → lv_has ls 4 [(0, .ref y0), (1, .int v1), (2, .int v2), (3, .int v3)] → W p l e (rmv 0 0) s m (List.toArray [.ref y0, .int u1]) below meth c H locs 0 0 (MQ below ((QI G r_ (W_Y G y0 y1 y2 y3 y4 y5 y6 y7 y8 y9 y10 y11 y12 y13 y14 y15 Y_br Y_fa Y_rbs Y_rfs Y_len Y_at Y_fau Y_wk Y_ac Y_nx Y_hs Y_sd Y_st Y_kd Y_fs Y_fl Y_now Y_rd Y_rb Y_rf Y_tx Y_row Y_hh Y_hl Y_hw Y_ik Y_kp)) A) (List.toArray [.ref y0, .int u1]) s 0 0 A) (F0 m 4 ls []) := by
    intro  fu
    induction fu with
    | zero =>
      intro v1 v2 v3 H locs ls h
      cases h
    | succ fu ih =>
      intro v1 v2 v3 H locs ls h hP hS hl
      rw [f_X6_dustOn_4] at h
      refine lv_iload_n hx hb dX6_dustOn_4 rfl (lv_at hl 3 rfl) ?_
      refine lv_bipush (v := 8) hx hb dX6_dustOn_5 (by decide) ?_
      refine lv_icmp_ge (tgt := 30) hx hb dX6_dustOn_7 (by decide) (fun cc_1 => ?_) (fun cc_1 => ?_)
      · replace h := if_t cc_1 h
        refine lv_iload_n hx hb dX6_dustOn_30 rfl (lv_at hl 2 rfl) ?_
        cases h
        exact W.iret hx hb hr (fun t ht _ => ⟨⟨_, (), rfl, rfl, by show va_P G.1 vwCl _ t.heap; rw [ht]; exact hP⟩, hS.F ht⟩) hS.2.2 dX6_dustOn_31
      · replace h := if_f cc_1 h
        refine lv_iload_n hx hb dX6_dustOn_10 rfl (lv_at hl 2 rfl) ?_
        refine lv_aload_n hx hb dX6_dustOn_11 rfl (lv_at hl 0 rfl) ?_
        refine va_get (ci := 6) (C := RX6) (T := TX6) (N := 27) hx hb hts inX6 hown hK.1 hP 0 rfl rfl 6 (by decide) fl22 (fun _ h9 => h9) rfl dX6_dustOn_12 ?_
        refine lv_bipush (v := 16) hx hb dX6_dustOn_15 (by decide) ?_
        refine lv_iload_n hx hb dX6_dustOn_17 rfl (lv_at hl 1 rfl) ?_
        refine lv_imul hx hb dX6_dustOn_18 ?_
        refine lv_iload_n hx hb dX6_dustOn_19 rfl (lv_at hl 3 rfl) ?_
        refine lv_iadd hx hb dX6_dustOn_20 ?_
        obtain ⟨zz_2, ee_3, h⟩ := bnd1_s h
        refine wIald hx hb hK hP 5 rfl ee_3 dX6_dustOn_21 ?_
        refine lv_iadd hx hb dX6_dustOn_22 ?_
        refine lv_istore_n (lv' := [(2, .int (v2 + zz_2)), (0, .ref y0), (1, .int v1), (3, .int v3)]) hx hb dX6_dustOn_23 rfl hl (by decide) rfl (fun ls hl => ?_)
        refine lv_iinc (v := (v3 + 1)) (lv' := [(3, .int (v3 + 1)), (2, .int (v2 + zz_2)), (0, .ref y0), (1, .int v1)]) hx hb dX6_dustOn_24 hl (k := 3) rfl rfl (by decide) rfl (fun ls hl => ?_)
        refine lv_goto (tgt := 4) hx hb dX6_dustOn_27 (by decide) ?_
        exact ih v1 (v2 + zz_2) (v3 + 1) _ _ _ h hP hS (lv_sub hl [2, 3, 1, 0] rfl)
  unfold f_X6_dustOn at h
  refine lv_iconst (v := 0) hx hb dX6_dustOn_0 (by decide) ?_
  refine lv_istore_n (lv' := [(2, .int (0 : Int32)), (0, .ref y0), (1, .int u1)]) hx hb dX6_dustOn_1 rfl hl (by decide) rfl (fun ls hl => ?_)
  refine lv_iconst (v := 0) hx hb dX6_dustOn_2 (by decide) ?_
  refine lv_istore_n (lv' := [(3, .int (0 : Int32)), (2, .int (0 : Int32)), (0, .ref y0), (1, .int u1)]) hx hb dX6_dustOn_3 rfl hl (by decide) rfl (fun ls hl => ?_)
  exact J_4  130 u1 (0 : Int32) (0 : Int32) _ _ _ h hP hS (lv_sub hl [2, 3, 1, 0] rfl)
def f_X6_broomsIn_33 (Y_br : Int32) (Y_now : Nat → Int32) (kk4 : Int32 → Int32 → Int32 → Option (Int32)) (v1 : Int32) (v3 : Int32) (q0 : Int32) (q1 : Int32) : Option (Int32) := kk4 v1 (q0 ||| q1) (v3 + 1)
def f_X6_broomsIn_4 (Y_br : Int32) (Y_now : Nat → Int32) : Nat → Int32 → Int32 → Int32 → Option (Int32)
  | 0, _, _, _ => none
  | fu + 1, v1, v2, v3 => if Y_br ≤ v3 then (some v2) else (bnd1 (rd Y_now 32 ((8 : Int32) + v3)) (fun zz_2 => if zz_2 = v1 then (f_X6_broomsIn_33 Y_br Y_now (f_X6_broomsIn_4 Y_br Y_now fu) v1 v3 v2 ((1 : Int32) <<< (v3 &&& 31))) else (f_X6_broomsIn_33 Y_br Y_now (f_X6_broomsIn_4 Y_br Y_now fu) v1 v3 v2 (0 : Int32))))
def f_X6_broomsIn (Y_br : Int32) (Y_now : Nat → Int32) (u1 : Int32) : Option (Int32) := f_X6_broomsIn_4 Y_br Y_now  130 u1 (0 : Int32) (0 : Int32)
set_option maxRecDepth 100000 in
set_option maxHeartbeats 4000000 in
theorem k_X6_broomsIn (l : Launch) (G : Gt) (y0 y1 y2 y3 y4 y5 y6 y7 y8 y9 y10 y11 y12 y13 y14 y15 : Nat) (Y_br : Int32) (Y_fa : Int32) (Y_rbs : Int32) (Y_rfs : Int32) (Y_len : Int32) (Y_at : Int32) (Y_fau : Int32) (Y_wk : Int32) (Y_ac : Int32) (Y_nx : Int32) (Y_hs : Int32) (Y_sd : Int64) (Y_st : Nat → Int32) (Y_kd : Nat → Int32) (Y_fs : Nat → Int32) (Y_fl : Nat → Int32) (Y_now : Nat → Int32) (Y_rd : Nat → Int32) (Y_rb : Nat → Int32) (Y_rf : Nat → Int32) (Y_tx : Nat → Int32) (Y_row : Nat → Int32) (Y_hh : Nat → Int32) (Y_hl : Nat → Int32) (Y_hw : Nat → Int32) (Y_ik : Nat → Int32) (Y_kp : Nat → Int32) (u1 : Int32) (r_ : Int32) (h : f_X6_broomsIn Y_br Y_now u1 = some r_) : CT l yX6_broomsIn wsX6_broomsIn 0 0 G [.ref y0, .int u1] (W_Y G y0 y1 y2 y3 y4 y5 y6 y7 y8 y9 y10 y11 y12 y13 y14 y15 Y_br Y_fa Y_rbs Y_rfs Y_len Y_at Y_fau Y_wk Y_ac Y_nx Y_hs Y_sd Y_st Y_kd Y_fs Y_fl Y_now Y_rd Y_rb Y_rf Y_tx Y_row Y_hh Y_hl Y_hw Y_ik Y_kp) (QI G r_ (W_Y G y0 y1 y2 y3 y4 y5 y6 y7 y8 y9 y10 y11 y12 y13 y14 y15 Y_br Y_fa Y_rbs Y_rfs Y_len Y_at Y_fau Y_wk Y_ac Y_nx Y_hs Y_sd Y_st Y_kd Y_fs Y_fl Y_now Y_rd Y_rb Y_rf Y_tx Y_row Y_hh Y_hl Y_hw Y_ik Y_kp)) := by
  refine met_of cX6_broomsIn 4 (some .int) (by decide) rfl (Nat.le_of_ble_eq_true rfl) ?_
  intro p e s m below meth c A ls hx hb hr hml hts hown hlocks hK hA hD hP hS hl
  replace hown : s.vm.findClass RX6 = some m.cls := hown
  replace hl : lv_has ls 4 [(0, .ref y0), (1, .int u1)] := hl
  have S0 : CallFix p m c cX6_broomsIn 4 s _ wsX6_broomsIn RX6 := ⟨hx, hb, hml, hown, hts⟩
  have fl93 := hts (.fieldLink RX6 93 "DustVoteModel" "brooms" "I") (by decide +kernel)
  have inX6 := show ∀ w ∈ wsX60, w ∈ wsX6_broomsIn from by decide +kernel
  have fl22 := hts (.fieldLink RX6 22 "DustVoteModel" "now" "[I") (by decide +kernel)
  have J_33 : ∀ (kk4 : Int32 → Int32 → Int32 → Option (Int32)) (hk4 : ∀ (v1 : Int32) (v2 : Int32) (v3 : Int32) (H : Heap) (locs : List Loc) (ls : Array Slot), kk4 v1 v2 v3 = some r_ → va_P G.1 vwCl (W_Y G y0 y1 y2 y3 y4 y5 y6 y7 y8 y9 y10 y11 y12 y13 y14 y15 Y_br Y_fa Y_rbs Y_rfs Y_len Y_at Y_fau Y_wk Y_ac Y_nx Y_hs Y_sd Y_st Y_kd Y_fs Y_fl Y_now Y_rd Y_rb Y_rf Y_tx Y_row Y_hh Y_hl Y_hw Y_ik Y_kp) H → va_S A s.heap H locs → lv_has ls 4 [(0, .ref y0), (1, .int v1), (2, .int v2), (3, .int v3)] → W p l e (rmv 0 0) s m (List.toArray [.ref y0, .int u1]) below meth c H locs 0 0 (MQ below ((QI G r_ (W_Y G y0 y1 y2 y3 y4 y5 y6 y7 y8 y9 y10 y11 y12 y13 y14 y15 Y_br Y_fa Y_rbs Y_rfs Y_len Y_at Y_fau Y_wk Y_ac Y_nx Y_hs Y_sd Y_st Y_kd Y_fs Y_fl Y_now Y_rd Y_rb Y_rf Y_tx Y_row Y_hh Y_hl Y_hw Y_ik Y_kp)) A) (List.toArray [.ref y0, .int u1]) s 0 0 A) (F0 m 4 ls [])), ∀ (v1 : Int32) (v3 : Int32) (q0 : Int32) (q1 : Int32) (H : Heap) (locs : List Loc) (ls : Array Slot), f_X6_broomsIn_33 Y_br Y_now kk4 v1 v3 q0 q1 = some r_ → va_P G.1 vwCl (W_Y G y0 y1 y2 y3 y4 y5 y6 y7 y8 y9 y10 y11 y12 y13 y14 y15 Y_br Y_fa Y_rbs Y_rfs Y_len Y_at Y_fau Y_wk Y_ac Y_nx Y_hs Y_sd Y_st Y_kd Y_fs Y_fl Y_now Y_rd Y_rb Y_rf Y_tx Y_row Y_hh Y_hl Y_hw Y_ik Y_kp) H → va_S A s.heap H locs → lv_has ls 4 [(0, .ref y0), (1, .int v1), (3, .int v3)] → W p l e (rmv 0 0) s m (List.toArray [.ref y0, .int u1]) below meth c H locs 0 0 (MQ below ((QI G r_ (W_Y G y0 y1 y2 y3 y4 y5 y6 y7 y8 y9 y10 y11 y12 y13 y14 y15 Y_br Y_fa Y_rbs Y_rfs Y_len Y_at Y_fau Y_wk Y_ac Y_nx Y_hs Y_sd Y_st Y_kd Y_fs Y_fl Y_now Y_rd Y_rb Y_rf Y_tx Y_row Y_hh Y_hl Y_hw Y_ik Y_kp)) A) (List.toArray [.ref y0, .int u1]) s 0 0 A) (F0 m 33 ls [.int q1, .int q0]) := by
    intro kk4 hk4 v1 v3 q0 q1 H locs ls h hP hS hl
    unfold f_X6_broomsIn_33 at h
    refine lv_ior hx hb dX6_broomsIn_33 ?_
    refine lv_istore_n (lv' := [(2, .int (q0 ||| q1)), (0, .ref y0), (1, .int v1), (3, .int v3)]) hx hb dX6_broomsIn_34 rfl hl (by decide) rfl (fun ls hl => ?_)
    refine lv_iinc (v := (v3 + 1)) (lv' := [(3, .int (v3 + 1)), (2, .int (q0 ||| q1)), (0, .ref y0), (1, .int v1)]) hx hb dX6_broomsIn_35 hl (k := 3) rfl rfl (by decide) rfl (fun ls hl => ?_)
    refine lv_goto (tgt := 4) hx hb dX6_broomsIn_38 (by decide) ?_
    exact hk4 v1 (q0 ||| q1) (v3 + 1) _ _ _ h hP hS (lv_sub hl [2, 3, 1, 0] rfl)
  have J_4 : ∀ (fu : Nat), ∀ (v1 : Int32) (v2 : Int32) (v3 : Int32) (H : Heap) (locs : List Loc) (ls : Array Slot), f_X6_broomsIn_4 Y_br Y_now fu v1 v2 v3 = some r_ → va_P G.1 vwCl (W_Y G y0 y1 y2 y3 y4 y5 y6 y7 y8 y9 y10 y11 y12 y13 y14 y15 Y_br Y_fa Y_rbs Y_rfs Y_len Y_at Y_fau Y_wk Y_ac Y_nx Y_hs Y_sd Y_st Y_kd Y_fs Y_fl Y_now Y_rd Y_rb Y_rf Y_tx Y_row Y_hh Y_hl Y_hw Y_ik Y_kp) H → va_S A s.heap H locs → lv_has ls 4 [(0, .ref y0), (1, .int v1), (2, .int v2), (3, .int v3)] → W p l e (rmv 0 0) s m (List.toArray [.ref y0, .int u1]) below meth c H locs 0 0 (MQ below ((QI G r_ (W_Y G y0 y1 y2 y3 y4 y5 y6 y7 y8 y9 y10 y11 y12 y13 y14 y15 Y_br Y_fa Y_rbs Y_rfs Y_len Y_at Y_fau Y_wk Y_ac Y_nx Y_hs Y_sd Y_st Y_kd Y_fs Y_fl Y_now Y_rd Y_rb Y_rf Y_tx Y_row Y_hh Y_hl Y_hw Y_ik Y_kp)) A) (List.toArray [.ref y0, .int u1]) s 0 0 A) (F0 m 4 ls []) := by
    intro  fu
    induction fu with
    | zero =>
      intro v1 v2 v3 H locs ls h
      cases h
    | succ fu ih =>
      intro v1 v2 v3 H locs ls h hP hS hl
      rw [f_X6_broomsIn_4] at h
      refine lv_iload_n hx hb dX6_broomsIn_4 rfl (lv_at hl 3 rfl) ?_
      refine lv_aload_n hx hb dX6_broomsIn_5 rfl (lv_at hl 0 rfl) ?_
      refine va_get (ci := 6) (C := RX6) (T := TX6) (N := 27) hx hb hts inX6 hown hK.1 hP 0 rfl rfl 0 (by decide) fl93 (fun _ h9 => h9) rfl dX6_broomsIn_6 ?_
      refine lv_icmp_ge (tgt := 41) hx hb dX6_broomsIn_9 (by decide) (fun cc_1 => ?_) (fun cc_1 => ?_)
      · replace h := if_t cc_1 h
        refine lv_iload_n hx hb dX6_broomsIn_41 rfl (lv_at hl 2 rfl) ?_
        cases h
        exact W.iret hx hb hr (fun t ht _ => ⟨⟨_, (), rfl, rfl, by show va_P G.1 vwCl _ t.heap; rw [ht]; exact hP⟩, hS.F ht⟩) hS.2.2 dX6_broomsIn_42
      · replace h := if_f cc_1 h
        refine lv_iload_n hx hb dX6_broomsIn_12 rfl (lv_at hl 2 rfl) ?_
        refine lv_aload_n hx hb dX6_broomsIn_13 rfl (lv_at hl 0 rfl) ?_
        refine va_get (ci := 6) (C := RX6) (T := TX6) (N := 27) hx hb hts inX6 hown hK.1 hP 0 rfl rfl 6 (by decide) fl22 (fun _ h9 => h9) rfl dX6_broomsIn_14 ?_
        refine lv_bipush (v := 8) hx hb dX6_broomsIn_17 (by decide) ?_
        refine lv_iload_n hx hb dX6_broomsIn_19 rfl (lv_at hl 3 rfl) ?_
        refine lv_iadd hx hb dX6_broomsIn_20 ?_
        obtain ⟨zz_2, ee_3, h⟩ := bnd1_s h
        refine wIald hx hb hK hP 5 rfl ee_3 dX6_broomsIn_21 ?_
        refine lv_iload_n hx hb dX6_broomsIn_22 rfl (lv_at hl 1 rfl) ?_
        refine lv_icmp_ne (tgt := 32) hx hb dX6_broomsIn_23 (by decide) (fun cc_4 => ?_) (fun cc_4 => ?_)
        · replace h := if_f cc_4 h
          refine lv_iconst (v := 0) hx hb dX6_broomsIn_32 (by decide) ?_
          exact J_33 (f_X6_broomsIn_4 Y_br Y_now fu) ih v1 v3 v2 (0 : Int32) _ _ _ h hP hS (lv_sub hl [0, 1, 3] rfl)
        · replace h := if_t cc_4 h
          refine lv_iconst (v := 1) hx hb dX6_broomsIn_26 (by decide) ?_
          refine lv_iload_n hx hb dX6_broomsIn_27 rfl (lv_at hl 3 rfl) ?_
          refine lv_ishl hx hb dX6_broomsIn_28 ?_
          refine lv_goto (tgt := 33) hx hb dX6_broomsIn_29 (by decide) ?_
          exact J_33 (f_X6_broomsIn_4 Y_br Y_now fu) ih v1 v3 v2 ((1 : Int32) <<< (v3 &&& 31)) _ _ _ h hP hS (lv_sub hl [0, 1, 3] rfl)
  unfold f_X6_broomsIn at h
  refine lv_iconst (v := 0) hx hb dX6_broomsIn_0 (by decide) ?_
  refine lv_istore_n (lv' := [(2, .int (0 : Int32)), (0, .ref y0), (1, .int u1)]) hx hb dX6_broomsIn_1 rfl hl (by decide) rfl (fun ls hl => ?_)
  refine lv_iconst (v := 0) hx hb dX6_broomsIn_2 (by decide) ?_
  refine lv_istore_n (lv' := [(3, .int (0 : Int32)), (2, .int (0 : Int32)), (0, .ref y0), (1, .int u1)]) hx hb dX6_broomsIn_3 rfl hl (by decide) rfl (fun ls hl => ?_)
  exact J_4  130 u1 (0 : Int32) (0 : Int32) _ _ _ h hP hS (lv_sub hl [2, 3, 1, 0] rfl)
