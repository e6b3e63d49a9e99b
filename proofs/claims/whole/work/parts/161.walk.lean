def f_X6_tryThing_220 (Y_br : Int32) (Y_fa : Int32) (Y_wk : Int32) (Y_st : Nat → Int32) (Y_kd : Nat → Int32) (Y_fs : Nat → Int32) (Y_fl : Nat → Int32) (v3 : Int32) (q0 : Int32) (Y_now : Nat → Int32) : Option (Int32 × (Nat → Int32)) := if q0 = 0 then (bnd1 (zr q0) (fun zz_2 => some (zz_2, Y_now))) else (bnd1 (wr Y_now 32 ((16 : Int32) + v3) (0 : Int32)) (fun dd_4 => bnd1 (zr q0) (fun zz_6 => some (zz_6, dd_4))))
def f_X6_tryThing_219 (Y_br : Int32) (Y_fa : Int32) (Y_wk : Int32) (Y_st : Nat → Int32) (Y_kd : Nat → Int32) (Y_fs : Nat → Int32) (Y_fl : Nat → Int32) (v3 : Int32) (Y_now : Nat → Int32) : Option (Int32 × (Nat → Int32)) := f_X6_tryThing_220 Y_br Y_fa Y_wk Y_st Y_kd Y_fs Y_fl  v3 (0 : Int32) Y_now
def f_X6_tryThing_165 (Y_br : Int32) (Y_fa : Int32) (Y_wk : Int32) (Y_st : Nat → Int32) (Y_kd : Nat → Int32) (Y_fs : Nat → Int32) (Y_fl : Nat → Int32) (v3 : Int32) (q0 : Int32) (Y_now : Nat → Int32) : Option (Int32 × (Nat → Int32)) := bnd1 (rd Y_now 32 (30 : Int32)) (fun zz_8 => if q0 = 0 then (bnd1 (wr Y_now 32 (30 : Int32) (zz_8 ||| (0 : Int32))) (fun dd_11 => bnd1 (zr q0) (fun zz_13 => some (zz_13, dd_11)))) else (bnd1 (wr Y_now 32 (30 : Int32) (zz_8 ||| ((1 : Int32) <<< (v3 &&& 31)))) (fun dd_15 => bnd1 (zr q0) (fun zz_17 => some (zz_17, dd_15)))))
def f_X6_tryThing_164 (Y_br : Int32) (Y_fa : Int32) (Y_wk : Int32) (Y_st : Nat → Int32) (Y_kd : Nat → Int32) (Y_fs : Nat → Int32) (Y_fl : Nat → Int32) (v3 : Int32) (Y_now : Nat → Int32) : Option (Int32 × (Nat → Int32)) := f_X6_tryThing_165 Y_br Y_fa Y_wk Y_st Y_kd Y_fs Y_fl  v3 (0 : Int32) Y_now
def f_X6_tryThing_87 (Y_br : Int32) (Y_fa : Int32) (Y_wk : Int32) (Y_st : Nat → Int32) (Y_kd : Nat → Int32) (Y_fs : Nat → Int32) (Y_fl : Nat → Int32) (v2 : Int32) (v3 : Int32) (q0 : Int32) (Y_now : Nat → Int32) : Option (Int32 × (Nat → Int32)) := if q0 = 0 then (bnd1 (zr q0) (fun zz_20 => some (zz_20, Y_now))) else (bnd1 (f_X6_walkOn Y_now (1 : Int32) v2 v3) (fun dd_22 => bnd1 (zr q0) (fun zz_24 => some (zz_24, dd_22))))
def f_X6_tryThing_86 (Y_br : Int32) (Y_fa : Int32) (Y_wk : Int32) (Y_st : Nat → Int32) (Y_kd : Nat → Int32) (Y_fs : Nat → Int32) (Y_fl : Nat → Int32) (v2 : Int32) (v3 : Int32) (Y_now : Nat → Int32) : Option (Int32 × (Nat → Int32)) := f_X6_tryThing_87 Y_br Y_fa Y_wk Y_st Y_kd Y_fs Y_fl  v2 v3 (0 : Int32) Y_now
def f_X6_tryThing (Y_br : Int32) (Y_fa : Int32) (Y_wk : Int32) (Y_st : Nat → Int32) (Y_kd : Nat → Int32) (Y_fs : Nat → Int32) (Y_fl : Nat → Int32) (Y_now : Nat → Int32) (u1 : Int32) (u2 : Int32) (u3 : Int32) : Option (Int32 × (Nat → Int32)) := if u1 = 0 then (bnd1 (f_X6_passOn Y_br Y_fa Y_wk Y_st Y_kd Y_fs Y_fl Y_now (1 : Int32) (1 : Int32)) (fun dd_27 => if u2 = 0 then (if u3 = 0 then (some ((1 : Int32), dd_27)) else (some ((0 : Int32), dd_27))) else (some ((0 : Int32), dd_27)))) else (if u1 = 1 then (bnd1 (f_X6_isBroom Y_br u2) (fun rr_32 => if rr_32 = 0 then (f_X6_tryThing_86 Y_br Y_fa Y_wk Y_st Y_kd Y_fs Y_fl  u2 u3 Y_now) else (bnd1 (f_X6_in (u3.toInt64) (0 : Int64) (1 : Int64)) (fun rr_35 => if rr_35 = 0 then (f_X6_tryThing_86 Y_br Y_fa Y_wk Y_st Y_kd Y_fs Y_fl  u2 u3 Y_now) else (f_X6_tryThing_87 Y_br Y_fa Y_wk Y_st Y_kd Y_fs Y_fl  u2 u3 (1 : Int32) Y_now))))) else (if u1 = 2 then (bnd1 (rd Y_now 32 (29 : Int32)) (fun zz_39 => bnd1 (wr Y_now 32 (29 : Int32) ((1 : Int32) - zz_39)) (fun dd_41 => if u2 = 0 then (if u3 = 0 then (some ((1 : Int32), dd_41)) else (some ((0 : Int32), dd_41))) else (some ((0 : Int32), dd_41))))) else (if u1 = 3 then (if u2 = 0 then (bnd1 (f_X6_isBroom Y_br u3) (fun rr_47 => if rr_47 = 0 then (f_X6_tryThing_164 Y_br Y_fa Y_wk Y_st Y_kd Y_fs Y_fl  u3 Y_now) else (bnd1 (rd Y_now 32 (30 : Int32)) (fun zz_50 => bnd1 (f_X6_has zz_50 u3) (fun rr_52 => if rr_52 = 0 then (f_X6_tryThing_165 Y_br Y_fa Y_wk Y_st Y_kd Y_fs Y_fl  u3 (1 : Int32) Y_now) else (f_X6_tryThing_164 Y_br Y_fa Y_wk Y_st Y_kd Y_fs Y_fl  u3 Y_now)))))) else (f_X6_tryThing_164 Y_br Y_fa Y_wk Y_st Y_kd Y_fs Y_fl  u3 Y_now)) else (if u1 = 4 then (if u2 = 0 then (bnd1 (f_X6_isStreet u3) (fun rr_57 => if rr_57 = 0 then (f_X6_tryThing_219 Y_br Y_fa Y_wk Y_st Y_kd Y_fs Y_fl  u3 Y_now) else (bnd1 (rd Y_now 32 ((16 : Int32) + u3)) (fun zz_60 => if zz_60 ≤ 0 then (f_X6_tryThing_219 Y_br Y_fa Y_wk Y_st Y_kd Y_fs Y_fl  u3 Y_now) else (f_X6_tryThing_220 Y_br Y_fa Y_wk Y_st Y_kd Y_fs Y_fl  u3 (1 : Int32) Y_now))))) else (f_X6_tryThing_219 Y_br Y_fa Y_wk Y_st Y_kd Y_fs Y_fl  u3 Y_now)) else (if u1 = 5 then (bnd1 (f_X6_isStreet u2) (fun rr_64 => if rr_64 = 0 then (some ((0 : Int32), Y_now)) else (bnd1 (rd Y_now 32 ((16 : Int32) + u2)) (fun zz_67 => if zz_67 < u3 then (some ((0 : Int32), Y_now)) else (some ((1 : Int32), Y_now)))))) else (if u1 = 6 then (if u2 = 0 then (bnd1 (f_X6_isStreet u3) (fun rr_72 => if rr_72 = 0 then (some ((0 : Int32), Y_now)) else (bnd1 (rd Y_now 32 ((16 : Int32) + u3)) (fun zz_75 => if zz_75 < (10 : Int32) then (some ((0 : Int32), Y_now)) else (some ((1 : Int32), Y_now)))))) else (some ((0 : Int32), Y_now))) else (some ((0 : Int32), Y_now))))))))
set_option maxRecDepth 100000 in
set_option maxHeartbeats 4000000 in
theorem k_X6_tryThing (l : Launch) (G : Gt) (y0 y1 y2 y3 y4 y5 y6 y7 y8 y9 y10 y11 y12 y13 y14 y15 : Nat) (Y_br : Int32) (Y_fa : Int32) (Y_rbs : Int32) (Y_rfs : Int32) (Y_len : Int32) (Y_at : Int32) (Y_fau : Int32) (Y_wk : Int32) (Y_ac : Int32) (Y_nx : Int32) (Y_hs : Int32) (Y_sd : Int64) (Y_st : Nat → Int32) (Y_kd : Nat → Int32) (Y_fs : Nat → Int32) (Y_fl : Nat → Int32) (Y_now : Nat → Int32) (Y_rd : Nat → Int32) (Y_rb : Nat → Int32) (Y_rf : Nat → Int32) (Y_tx : Nat → Int32) (Y_row : Nat → Int32) (Y_hh : Nat → Int32) (Y_hl : Nat → Int32) (Y_hw : Nat → Int32) (Y_ik : Nat → Int32) (Y_kp : Nat → Int32) (u1 : Int32) (u2 : Int32) (u3 : Int32) (r_ : Int32) (o_Y_now : Nat → Int32) (h : f_X6_tryThing Y_br Y_fa Y_wk Y_st Y_kd Y_fs Y_fl Y_now u1 u2 u3 = some (r_, o_Y_now)) : CT l yX6_tryThing wsX6_tryThing 4 94 G [.ref y0, .int u1, .int u2, .int u3] (W_Y G y0 y1 y2 y3 y4 y5 y6 y7 y8 y9 y10 y11 y12 y13 y14 y15 Y_br Y_fa Y_rbs Y_rfs Y_len Y_at Y_fau Y_wk Y_ac Y_nx Y_hs Y_sd Y_st Y_kd Y_fs Y_fl Y_now Y_rd Y_rb Y_rf Y_tx Y_row Y_hh Y_hl Y_hw Y_ik Y_kp) (QI G r_ (W_Y G y0 y1 y2 y3 y4 y5 y6 y7 y8 y9 y10 y11 y12 y13 y14 y15 Y_br Y_fa Y_rbs Y_rfs Y_len Y_at Y_fau Y_wk Y_ac Y_nx Y_hs Y_sd Y_st Y_kd Y_fs Y_fl o_Y_now Y_rd Y_rb Y_rf Y_tx Y_row Y_hh Y_hl Y_hw Y_ik Y_kp)) := by
  refine met_of cX6_tryThing 7 (some .boolean) (by decide) rfl (Nat.le_of_ble_eq_true rfl) ?_
  intro p e s m below meth c A ls hx hb hr hml hts hown hlocks hK hA hD hP hS hl
  replace hown : s.vm.findClass RX6 = some m.cls := hown
  replace hl : lv_has ls 7 [(0, .ref y0), (1, .int u1), (2, .int u2), (3, .int u3)] := hl
  have S0 : CallFix p m c cX6_tryThing 7 s _ wsX6_tryThing RX6 := ⟨hx, hb, hml, hown, hts⟩
  have fl22 := hts (.fieldLink RX6 22 "DustVoteModel" "now" "[I") (by decide +kernel)
  have inX6 := show ∀ w ∈ wsX60, w ∈ wsX6_tryThing from by decide +kernel
  have cw_X6_walkOn := show CallW (rmv 4 94) s _ RX6 RX6 149 yX6_walkOn cX6_walkOn 5 none wsX6_walkOn (rmv 0 0) 0 0 3 from cwV 3 hts gX6_tryThing_X6_walkOn rfl rfl rfl (by decide +kernel) ⟨Nat.le_of_ble_eq_true rfl, Nat.le_of_ble_eq_true rfl⟩
  have cw_X6_passOn := show CallW (rmv 4 94) s _ RX6 RX6 143 yX6_passOn cX6_passOn 6 none wsX6_passOn (rmv 3 69) 0 0 2 from cwV 2 hts gX6_tryThing_X6_passOn rfl rfl rfl (by decide +kernel) ⟨Nat.le_of_ble_eq_true rfl, Nat.le_of_ble_eq_true rfl⟩
  have cw_X6_isBroom := show CallW (rmv 4 94) s _ RX6 RX6 134 yX6_isBroom cX6_isBroom 2 (some .boolean) wsX6_isBroom (rmv 1 25) 0 0 1 from cwV 1 hts gX6_tryThing_X6_isBroom rfl rfl rfl (by decide +kernel) ⟨Nat.le_of_ble_eq_true rfl, Nat.le_of_ble_eq_true rfl⟩
  have cw_X6_in := show CallB (rmv 4 94) s _ RX6 62 yX6_in cX6_in 6 (some .boolean) wsX6_in (rmv 0 0) 0 0 3 ∧ (Cond.static yX6_in).before _ s = true from va_cwS 3 hts gX6_tryThing_X6_in rfl rfl rfl (by decide +kernel) ⟨Nat.le_of_ble_eq_true rfl, Nat.le_of_ble_eq_true rfl⟩
  have cw_X6_has := show CallB (rmv 4 94) s _ RX6 104 yX6_has cX6_has 2 (some .boolean) wsX6_has (rmv 0 0) 0 0 2 ∧ (Cond.static yX6_has).before _ s = true from va_cwS 2 hts gX6_tryThing_X6_has rfl rfl rfl (by decide +kernel) ⟨Nat.le_of_ble_eq_true rfl, Nat.le_of_ble_eq_true rfl⟩
  have cw_X6_isStreet := show CallB (rmv 4 94) s _ RX6 127 yX6_isStreet cX6_isStreet 1 (some .boolean) wsX6_isStreet (rmv 1 25) 0 0 1 ∧ (Cond.static yX6_isStreet).before _ s = true from va_cwS 1 hts gX6_tryThing_X6_isStreet rfl rfl rfl (by decide +kernel) ⟨Nat.le_of_ble_eq_true rfl, Nat.le_of_ble_eq_true rfl⟩
  have J_220 : ∀ (v3 : Int32) (q0 : Int32) (Y_now : Nat → Int32) (H : Heap) (locs : List Loc) (ls : Array Slot), f_X6_tryThing_220 Y_br Y_fa Y_wk Y_st Y_kd Y_fs Y_fl v3 q0 Y_now = some (r_, o_Y_now) → va_P G.1 vwCl (W_Y G y0 y1 y2 y3 y4 y5 y6 y7 y8 y9 y10 y11 y12 y13 y14 y15 Y_br Y_fa Y_rbs Y_rfs Y_len Y_at Y_fau Y_wk Y_ac Y_nx Y_hs Y_sd Y_st Y_kd Y_fs Y_fl Y_now Y_rd Y_rb Y_rf Y_tx Y_row Y_hh Y_hl Y_hw Y_ik Y_kp) H → va_S A s.heap H locs → lv_has ls 7 [(0, .ref y0), (3, .int v3)] → W p l e (rmv 4 94) s m (List.toArray [.ref y0, .int u1, .int u2, .int u3]) below meth c H locs 0 0 (MQ below ((QI G r_ (W_Y G y0 y1 y2 y3 y4 y5 y6 y7 y8 y9 y10 y11 y12 y13 y14 y15 Y_br Y_fa Y_rbs Y_rfs Y_len Y_at Y_fau Y_wk Y_ac Y_nx Y_hs Y_sd Y_st Y_kd Y_fs Y_fl o_Y_now Y_rd Y_rb Y_rf Y_tx Y_row Y_hh Y_hl Y_hw Y_ik Y_kp)) A) (List.toArray [.ref y0, .int u1, .int u2, .int u3]) s 0 0 A) (F0 m 220 ls [.int q0]) := by
    intro v3 q0 Y_now H locs ls h hP hS hl
    unfold f_X6_tryThing_220 at h
    refine lv_istore (lv' := [(6, .int q0), (0, .ref y0), (3, .int v3)]) hx hb dX6_tryThing_220 hl (by decide) rfl (fun ls hl => ?_)
    refine lv_iload hx hb dX6_tryThing_222 (lv_at hl 0 rfl) ?_
    refine lv_if_eq (tgt := 237) hx hb dX6_tryThing_224 (by decide) (fun cc_1 => ?_) (fun cc_1 => ?_)
    · replace h := if_t cc_1 h
      refine lv_iload hx hb dX6_tryThing_237 (lv_at hl 0 rfl) ?_
      obtain ⟨zz_2, ee_3, h⟩ := bnd1_s h
      obtain ⟨rfl, gee_3, -⟩ := zr_s ee_3
      cases h
      exact W.zret (ty := .boolean) hx hb hr gee_3 (fun t ht _ => ⟨⟨_, (), rfl, rfl, by show va_P G.1 vwCl _ t.heap; rw [ht]; exact hP⟩, hS.F ht⟩) hS.2.2 dX6_tryThing_239
    · replace h := if_f cc_1 h
      refine lv_aload_n hx hb dX6_tryThing_227 rfl (lv_at hl 1 rfl) ?_
      refine va_get (ci := 6) (C := RX6) (T := TX6) (N := 27) hx hb hts inX6 hown hK.1 hP 0 rfl rfl 6 (by decide) fl22 (fun _ h9 => h9) rfl dX6_tryThing_228 ?_
      refine lv_bipush (v := 16) hx hb dX6_tryThing_231 (by decide) ?_
      refine lv_iload_n hx hb dX6_tryThing_233 rfl (lv_at hl 2 rfl) ?_
      refine lv_iadd hx hb dX6_tryThing_234 ?_
      refine lv_iconst (v := 0) hx hb dX6_tryThing_235 (by decide) ?_
      obtain ⟨dd_4, ee_5, h⟩ := bnd1_s h
      refine wIast hx hb hK hP (va_D_same hD rfl) hS 5 rfl ee_5 dX6_tryThing_236 (fun H locs hP hS => ?_)
      replace hP : va_P G.1 vwCl (W_Y G y0 y1 y2 y3 y4 y5 y6 y7 y8 y9 y10 y11 y12 y13 y14 y15 Y_br Y_fa Y_rbs Y_rfs Y_len Y_at Y_fau Y_wk Y_ac Y_nx Y_hs Y_sd Y_st Y_kd Y_fs Y_fl dd_4 Y_rd Y_rb Y_rf Y_tx Y_row Y_hh Y_hl Y_hw Y_ik Y_kp) H := hP
      refine lv_iload hx hb dX6_tryThing_237 (lv_at hl 0 rfl) ?_
      obtain ⟨zz_6, ee_7, h⟩ := bnd1_s h
      obtain ⟨rfl, gee_7, -⟩ := zr_s ee_7
      cases h
      exact W.zret (ty := .boolean) hx hb hr gee_7 (fun t ht _ => ⟨⟨_, (), rfl, rfl, by show va_P G.1 vwCl _ t.heap; rw [ht]; exact hP⟩, hS.F ht⟩) hS.2.2 dX6_tryThing_239
  have J_219 : ∀ (v3 : Int32) (Y_now : Nat → Int32) (H : Heap) (locs : List Loc) (ls : Array Slot), f_X6_tryThing_219 Y_br Y_fa Y_wk Y_st Y_kd Y_fs Y_fl v3 Y_now = some (r_, o_Y_now) → va_P G.1 vwCl (W_Y G y0 y1 y2 y3 y4 y5 y6 y7 y8 y9 y10 y11 y12 y13 y14 y15 Y_br Y_fa Y_rbs Y_rfs Y_len Y_at Y_fau Y_wk Y_ac Y_nx Y_hs Y_sd Y_st Y_kd Y_fs Y_fl Y_now Y_rd Y_rb Y_rf Y_tx Y_row Y_hh Y_hl Y_hw Y_ik Y_kp) H → va_S A s.heap H locs → lv_has ls 7 [(0, .ref y0), (3, .int v3)] → W p l e (rmv 4 94) s m (List.toArray [.ref y0, .int u1, .int u2, .int u3]) below meth c H locs 0 0 (MQ below ((QI G r_ (W_Y G y0 y1 y2 y3 y4 y5 y6 y7 y8 y9 y10 y11 y12 y13 y14 y15 Y_br Y_fa Y_rbs Y_rfs Y_len Y_at Y_fau Y_wk Y_ac Y_nx Y_hs Y_sd Y_st Y_kd Y_fs Y_fl o_Y_now Y_rd Y_rb Y_rf Y_tx Y_row Y_hh Y_hl Y_hw Y_ik Y_kp)) A) (List.toArray [.ref y0, .int u1, .int u2, .int u3]) s 0 0 A) (F0 m 219 ls []) := by
    intro v3 Y_now H locs ls h hP hS hl
    unfold f_X6_tryThing_219 at h
    refine lv_iconst (v := 0) hx hb dX6_tryThing_219 (by decide) ?_
    exact J_220  v3 (0 : Int32) Y_now _ _ _ h hP hS (lv_sub hl [0, 1] rfl)
  have J_165 : ∀ (v3 : Int32) (q0 : Int32) (Y_now : Nat → Int32) (H : Heap) (locs : List Loc) (ls : Array Slot), f_X6_tryThing_165 Y_br Y_fa Y_wk Y_st Y_kd Y_fs Y_fl v3 q0 Y_now = some (r_, o_Y_now) → va_P G.1 vwCl (W_Y G y0 y1 y2 y3 y4 y5 y6 y7 y8 y9 y10 y11 y12 y13 y14 y15 Y_br Y_fa Y_rbs Y_rfs Y_len Y_at Y_fau Y_wk Y_ac Y_nx Y_hs Y_sd Y_st Y_kd Y_fs Y_fl Y_now Y_rd Y_rb Y_rf Y_tx Y_row Y_hh Y_hl Y_hw Y_ik Y_kp) H → va_S A s.heap H locs → lv_has ls 7 [(0, .ref y0), (3, .int v3)] → W p l e (rmv 4 94) s m (List.toArray [.ref y0, .int u1, .int u2, .int u3]) below meth c H locs 0 0 (MQ below ((QI G r_ (W_Y G y0 y1 y2 y3 y4 y5 y6 y7 y8 y9 y10 y11 y12 y13 y14 y15 Y_br Y_fa Y_rbs Y_rfs Y_len Y_at Y_fau Y_wk Y_ac Y_nx Y_hs Y_sd Y_st Y_kd Y_fs Y_fl o_Y_now Y_rd Y_rb Y_rf Y_tx Y_row Y_hh Y_hl Y_hw Y_ik Y_kp)) A) (List.toArray [.ref y0, .int u1, .int u2, .int u3]) s 0 0 A) (F0 m 165 ls [.int q0]) := by
    intro v3 q0 Y_now H locs ls h hP hS hl
    unfold f_X6_tryThing_165 at h
    refine lv_istore (lv' := [(5, .int q0), (0, .ref y0), (3, .int v3)]) hx hb dX6_tryThing_165 hl (by decide) rfl (fun ls hl => ?_)
    refine lv_aload_n hx hb dX6_tryThing_167 rfl (lv_at hl 1 rfl) ?_
    refine va_get (ci := 6) (C := RX6) (T := TX6) (N := 27) hx hb hts inX6 hown hK.1 hP 0 rfl rfl 6 (by decide) fl22 (fun _ h9 => h9) rfl dX6_tryThing_168 ?_
    refine lv_bipush (v := 30) hx hb dX6_tryThing_171 (by decide) ?_
    refine lv_dup2_11 hx hb dX6_tryThing_173 rfl rfl ?_
    obtain ⟨zz_8, ee_9, h⟩ := bnd1_s h
    refine wIald hx hb hK hP 5 rfl ee_9 dX6_tryThing_174 ?_
    refine lv_iload hx hb dX6_tryThing_175 (lv_at hl 0 rfl) ?_
    refine lv_if_eq (tgt := 186) hx hb dX6_tryThing_177 (by decide) (fun cc_10 => ?_) (fun cc_10 => ?_)
    · replace h := if_t cc_10 h
      refine lv_iconst (v := 0) hx hb dX6_tryThing_186 (by decide) ?_
      refine lv_ior hx hb dX6_tryThing_187 ?_
      obtain ⟨dd_11, ee_12, h⟩ := bnd1_s h
      refine wIast hx hb hK hP (va_D_same hD rfl) hS 5 rfl ee_12 dX6_tryThing_188 (fun H locs hP hS => ?_)
      replace hP : va_P G.1 vwCl (W_Y G y0 y1 y2 y3 y4 y5 y6 y7 y8 y9 y10 y11 y12 y13 y14 y15 Y_br Y_fa Y_rbs Y_rfs Y_len Y_at Y_fau Y_wk Y_ac Y_nx Y_hs Y_sd Y_st Y_kd Y_fs Y_fl dd_11 Y_rd Y_rb Y_rf Y_tx Y_row Y_hh Y_hl Y_hw Y_ik Y_kp) H := hP
      refine lv_iload hx hb dX6_tryThing_189 (lv_at hl 0 rfl) ?_
      obtain ⟨zz_13, ee_14, h⟩ := bnd1_s h
      obtain ⟨rfl, gee_14, -⟩ := zr_s ee_14
      cases h
      exact W.zret (ty := .boolean) hx hb hr gee_14 (fun t ht _ => ⟨⟨_, (), rfl, rfl, by show va_P G.1 vwCl _ t.heap; rw [ht]; exact hP⟩, hS.F ht⟩) hS.2.2 dX6_tryThing_191
    · replace h := if_f cc_10 h
      refine lv_iconst (v := 1) hx hb dX6_tryThing_180 (by decide) ?_
      refine lv_iload_n hx hb dX6_tryThing_181 rfl (lv_at hl 2 rfl) ?_
      refine lv_ishl hx hb dX6_tryThing_182 ?_
      refine lv_goto (tgt := 187) hx hb dX6_tryThing_183 (by decide) ?_
      refine lv_ior hx hb dX6_tryThing_187 ?_
      obtain ⟨dd_15, ee_16, h⟩ := bnd1_s h
      refine wIast hx hb hK hP (va_D_same hD rfl) hS 5 rfl ee_16 dX6_tryThing_188 (fun H locs hP hS => ?_)
      replace hP : va_P G.1 vwCl (W_Y G y0 y1 y2 y3 y4 y5 y6 y7 y8 y9 y10 y11 y12 y13 y14 y15 Y_br Y_fa Y_rbs Y_rfs Y_len Y_at Y_fau Y_wk Y_ac Y_nx Y_hs Y_sd Y_st Y_kd Y_fs Y_fl dd_15 Y_rd Y_rb Y_rf Y_tx Y_row Y_hh Y_hl Y_hw Y_ik Y_kp) H := hP
      refine lv_iload hx hb dX6_tryThing_189 (lv_at hl 0 rfl) ?_
      obtain ⟨zz_17, ee_18, h⟩ := bnd1_s h
      obtain ⟨rfl, gee_18, -⟩ := zr_s ee_18
      cases h
      exact W.zret (ty := .boolean) hx hb hr gee_18 (fun t ht _ => ⟨⟨_, (), rfl, rfl, by show va_P G.1 vwCl _ t.heap; rw [ht]; exact hP⟩, hS.F ht⟩) hS.2.2 dX6_tryThing_191
  have J_164 : ∀ (v3 : Int32) (Y_now : Nat → Int32) (H : Heap) (locs : List Loc) (ls : Array Slot), f_X6_tryThing_164 Y_br Y_fa Y_wk Y_st Y_kd Y_fs Y_fl v3 Y_now = some (r_, o_Y_now) → va_P G.1 vwCl (W_Y G y0 y1 y2 y3 y4 y5 y6 y7 y8 y9 y10 y11 y12 y13 y14 y15 Y_br Y_fa Y_rbs Y_rfs Y_len Y_at Y_fau Y_wk Y_ac Y_nx Y_hs Y_sd Y_st Y_kd Y_fs Y_fl Y_now Y_rd Y_rb Y_rf Y_tx Y_row Y_hh Y_hl Y_hw Y_ik Y_kp) H → va_S A s.heap H locs → lv_has ls 7 [(0, .ref y0), (3, .int v3)] → W p l e (rmv 4 94) s m (List.toArray [.ref y0, .int u1, .int u2, .int u3]) below meth c H locs 0 0 (MQ below ((QI G r_ (W_Y G y0 y1 y2 y3 y4 y5 y6 y7 y8 y9 y10 y11 y12 y13 y14 y15 Y_br Y_fa Y_rbs Y_rfs Y_len Y_at Y_fau Y_wk Y_ac Y_nx Y_hs Y_sd Y_st Y_kd Y_fs Y_fl o_Y_now Y_rd Y_rb Y_rf Y_tx Y_row Y_hh Y_hl Y_hw Y_ik Y_kp)) A) (List.toArray [.ref y0, .int u1, .int u2, .int u3]) s 0 0 A) (F0 m 164 ls []) := by
    intro v3 Y_now H locs ls h hP hS hl
    unfold f_X6_tryThing_164 at h
    refine lv_iconst (v := 0) hx hb dX6_tryThing_164 (by decide) ?_
    exact J_165  v3 (0 : Int32) Y_now _ _ _ h hP hS (lv_sub hl [0, 1] rfl)
  have J_87 : ∀ (v2 : Int32) (v3 : Int32) (q0 : Int32) (Y_now : Nat → Int32) (H : Heap) (locs : List Loc) (ls : Array Slot), f_X6_tryThing_87 Y_br Y_fa Y_wk Y_st Y_kd Y_fs Y_fl v2 v3 q0 Y_now = some (r_, o_Y_now) → va_P G.1 vwCl (W_Y G y0 y1 y2 y3 y4 y5 y6 y7 y8 y9 y10 y11 y12 y13 y14 y15 Y_br Y_fa Y_rbs Y_rfs Y_len Y_at Y_fau Y_wk Y_ac Y_nx Y_hs Y_sd Y_st Y_kd Y_fs Y_fl Y_now Y_rd Y_rb Y_rf Y_tx Y_row Y_hh Y_hl Y_hw Y_ik Y_kp) H → va_S A s.heap H locs → lv_has ls 7 [(0, .ref y0), (2, .int v2), (3, .int v3)] → W p l e (rmv 4 94) s m (List.toArray [.ref y0, .int u1, .int u2, .int u3]) below meth c H locs 0 0 (MQ below ((QI G r_ (W_Y G y0 y1 y2 y3 y4 y5 y6 y7 y8 y9 y10 y11 y12 y13 y14 y15 Y_br Y_fa Y_rbs Y_rfs Y_len Y_at Y_fau Y_wk Y_ac Y_nx Y_hs Y_sd Y_st Y_kd Y_fs Y_fl o_Y_now Y_rd Y_rb Y_rf Y_tx Y_row Y_hh Y_hl Y_hw Y_ik Y_kp)) A) (List.toArray [.ref y0, .int u1, .int u2, .int u3]) s 0 0 A) (F0 m 87 ls [.int q0]) := by
    intro v2 v3 q0 Y_now H locs ls h hP hS hl
    unfold f_X6_tryThing_87 at h
    refine lv_istore (lv' := [(4, .int q0), (0, .ref y0), (2, .int v2), (3, .int v3)]) hx hb dX6_tryThing_87 hl (by decide) rfl (fun ls hl => ?_)
    refine lv_iload hx hb dX6_tryThing_89 (lv_at hl 0 rfl) ?_
    refine lv_if_eq (tgt := 101) hx hb dX6_tryThing_91 (by decide) (fun cc_19 => ?_) (fun cc_19 => ?_)
    · replace h := if_t cc_19 h
      refine lv_iload hx hb dX6_tryThing_101 (lv_at hl 0 rfl) ?_
      obtain ⟨zz_20, ee_21, h⟩ := bnd1_s h
      obtain ⟨rfl, gee_21, -⟩ := zr_s ee_21
      cases h
      exact W.zret (ty := .boolean) hx hb hr gee_21 (fun t ht _ => ⟨⟨_, (), rfl, rfl, by show va_P G.1 vwCl _ t.heap; rw [ht]; exact hP⟩, hS.F ht⟩) hS.2.2 dX6_tryThing_103
    · replace h := if_f cc_19 h
      refine lv_aload_n hx hb dX6_tryThing_94 rfl (lv_at hl 1 rfl) ?_
      refine lv_iconst (v := 1) hx hb dX6_tryThing_95 (by decide) ?_
      refine lv_iload_n hx hb dX6_tryThing_96 rfl (lv_at hl 2 rfl) ?_
      refine lv_iload_n hx hb dX6_tryThing_97 rfl (lv_at hl 3 rfl) ?_
      obtain ⟨dd_22, ee_23, h⟩ := bnd1_s h
      refine cFv (As := [.int (1 : Int32), .int v2, .int v3]) (rest := []) S0 hK hA hP (va_D_same hD rfl) hS (k_X6_walkOn l G y0 y1 y2 y3 y4 y5 y6 y7 y8 y9 y10 y11 y12 y13 y14 y15 Y_br Y_fa Y_rbs Y_rfs Y_len Y_at Y_fau Y_wk Y_ac Y_nx Y_hs Y_sd Y_st Y_kd Y_fs Y_fl Y_now Y_rd Y_rb Y_rf Y_tx Y_row Y_hh Y_hl Y_hw Y_ik Y_kp (1 : Int32) v2 v3 dd_22 ee_23) cw_X6_walkOn 6 0 rfl rfl rfl rfl hl.1 rfl (Nat.le_of_ble_eq_true rfl) dX6_tryThing_98 ⟨Nat.zero_le _, Nat.zero_le _⟩ (fun H locs hP hS => ?_)
      replace hP : va_P G.1 vwCl (W_Y G y0 y1 y2 y3 y4 y5 y6 y7 y8 y9 y10 y11 y12 y13 y14 y15 Y_br Y_fa Y_rbs Y_rfs Y_len Y_at Y_fau Y_wk Y_ac Y_nx Y_hs Y_sd Y_st Y_kd Y_fs Y_fl dd_22 Y_rd Y_rb Y_rf Y_tx Y_row Y_hh Y_hl Y_hw Y_ik Y_kp) H := hP
      refine lv_iload hx hb dX6_tryThing_101 (lv_at hl 0 rfl) ?_
      obtain ⟨zz_24, ee_25, h⟩ := bnd1_s h
      obtain ⟨rfl, gee_25, -⟩ := zr_s ee_25
      cases h
      exact W.zret (ty := .boolean) hx hb hr gee_25 (fun t ht _ => ⟨⟨_, (), rfl, rfl, by show va_P G.1 vwCl _ t.heap; rw [ht]; exact hP⟩, hS.F ht⟩) hS.2.2 dX6_tryThing_103
  have J_86 : ∀ (v2 : Int32) (v3 : Int32) (Y_now : Nat → Int32) (H : Heap) (locs : List Loc) (ls : Array Slot), f_X6_tryThing_86 Y_br Y_fa Y_wk Y_st Y_kd Y_fs Y_fl v2 v3 Y_now = some (r_, o_Y_now) → va_P G.1 vwCl (W_Y G y0 y1 y2 y3 y4 y5 y6 y7 y8 y9 y10 y11 y12 y13 y14 y15 Y_br Y_fa Y_rbs Y_rfs Y_len Y_at Y_fau Y_wk Y_ac Y_nx Y_hs Y_sd Y_st Y_kd Y_fs Y_fl Y_now Y_rd Y_rb Y_rf Y_tx Y_row Y_hh Y_hl Y_hw Y_ik Y_kp) H → va_S A s.heap H locs → lv_has ls 7 [(0, .ref y0), (2, .int v2), (3, .int v3)] → W p l e (rmv 4 94) s m (List.toArray [.ref y0, .int u1, .int u2, .int u3]) below meth c H locs 0 0 (MQ below ((QI G r_ (W_Y G y0 y1 y2 y3 y4 y5 y6 y7 y8 y9 y10 y11 y12 y13 y14 y15 Y_br Y_fa Y_rbs Y_rfs Y_len Y_at Y_fau Y_wk Y_ac Y_nx Y_hs Y_sd Y_st Y_kd Y_fs Y_fl o_Y_now Y_rd Y_rb Y_rf Y_tx Y_row Y_hh Y_hl Y_hw Y_ik Y_kp)) A) (List.toArray [.ref y0, .int u1, .int u2, .int u3]) s 0 0 A) (F0 m 86 ls []) := by
    intro v2 v3 Y_now H locs ls h hP hS hl
    unfold f_X6_tryThing_86 at h
    refine lv_iconst (v := 0) hx hb dX6_tryThing_86 (by decide) ?_
    exact J_87  v2 v3 (0 : Int32) Y_now _ _ _ h hP hS (lv_sub hl [0, 1, 2] rfl)
  unfold f_X6_tryThing at h
  refine lv_iload_n hx hb dX6_tryThing_0 rfl (lv_at hl 1 rfl) ?_
  by_cases cc_26 : u1 = 0
  · refine lv_tableIn (off := 43) (tgt := 44) hx hb dX6_tryThing_1 (by rw [cc_26]; decide) (by rw [cc_26]; decide) (by rw [cc_26]; rfl) (by decide) ?_
    replace h := if_t cc_26 h
    refine lv_aload_n hx hb dX6_tryThing_44 rfl (lv_at hl 0 rfl) ?_
    refine lv_iconst (v := 1) hx hb dX6_tryThing_45 (by decide) ?_
    refine lv_iconst (v := 1) hx hb dX6_tryThing_46 (by decide) ?_
    obtain ⟨dd_27, ee_28, h⟩ := bnd1_s h
    refine cFv (As := [.int (1 : Int32), .int (1 : Int32)]) (rest := []) S0 hK hA hP (va_D_same hD rfl) hS (k_X6_passOn l G y0 y1 y2 y3 y4 y5 y6 y7 y8 y9 y10 y11 y12 y13 y14 y15 Y_br Y_fa Y_rbs Y_rfs Y_len Y_at Y_fau Y_wk Y_ac Y_nx Y_hs Y_sd Y_st Y_kd Y_fs Y_fl Y_now Y_rd Y_rb Y_rf Y_tx Y_row Y_hh Y_hl Y_hw Y_ik Y_kp (1 : Int32) (1 : Int32) dd_27 ee_28) cw_X6_passOn 6 0 rfl rfl rfl rfl hl.1 rfl (Nat.le_of_ble_eq_true rfl) dX6_tryThing_47 ⟨Nat.zero_le _, Nat.zero_le _⟩ (fun H locs hP hS => ?_)
    replace hP : va_P G.1 vwCl (W_Y G y0 y1 y2 y3 y4 y5 y6 y7 y8 y9 y10 y11 y12 y13 y14 y15 Y_br Y_fa Y_rbs Y_rfs Y_len Y_at Y_fau Y_wk Y_ac Y_nx Y_hs Y_sd Y_st Y_kd Y_fs Y_fl dd_27 Y_rd Y_rb Y_rf Y_tx Y_row Y_hh Y_hl Y_hw Y_ik Y_kp) H := hP
    refine lv_iload_n hx hb dX6_tryThing_50 rfl (lv_at hl 2 rfl) ?_
    refine lv_if_ne (tgt := 62) hx hb dX6_tryThing_51 (by decide) (fun cc_29 => ?_) (fun cc_29 => ?_)
    · replace h := if_f cc_29 h
      refine lv_iconst (v := 0) hx hb dX6_tryThing_62 (by decide) ?_
      cases h
      exact W.zret (ty := .boolean) hx hb hr (by decide) (fun t ht _ => ⟨⟨_, (), rfl, rfl, by show va_P G.1 vwCl _ t.heap; rw [ht]; exact hP⟩, hS.F ht⟩) hS.2.2 dX6_tryThing_63
    · replace h := if_t cc_29 h
      refine lv_iload_n hx hb dX6_tryThing_54 rfl (lv_at hl 3 rfl) ?_
      refine lv_if_ne (tgt := 62) hx hb dX6_tryThing_55 (by decide) (fun cc_30 => ?_) (fun cc_30 => ?_)
      · replace h := if_f cc_30 h
        refine lv_iconst (v := 0) hx hb dX6_tryThing_62 (by decide) ?_
        cases h
        exact W.zret (ty := .boolean) hx hb hr (by decide) (fun t ht _ => ⟨⟨_, (), rfl, rfl, by show va_P G.1 vwCl _ t.heap; rw [ht]; exact hP⟩, hS.F ht⟩) hS.2.2 dX6_tryThing_63
      · replace h := if_t cc_30 h
        refine lv_iconst (v := 1) hx hb dX6_tryThing_58 (by decide) ?_
        refine lv_goto (tgt := 63) hx hb dX6_tryThing_59 (by decide) ?_
        cases h
        exact W.zret (ty := .boolean) hx hb hr (by decide) (fun t ht _ => ⟨⟨_, (), rfl, rfl, by show va_P G.1 vwCl _ t.heap; rw [ht]; exact hP⟩, hS.F ht⟩) hS.2.2 dX6_tryThing_63
  replace h := if_f cc_26 h
  by_cases cc_31 : u1 = 1
  · refine lv_tableIn (off := 63) (tgt := 64) hx hb dX6_tryThing_1 (by rw [cc_31]; decide) (by rw [cc_31]; decide) (by rw [cc_31]; rfl) (by decide) ?_
    replace h := if_t cc_31 h
    refine lv_aload_n hx hb dX6_tryThing_64 rfl (lv_at hl 0 rfl) ?_
    refine lv_iload_n hx hb dX6_tryThing_65 rfl (lv_at hl 2 rfl) ?_
    obtain ⟨rr_32, ee_33, h⟩ := bnd1_s h
    refine cFi (As := [.int u2]) (rest := []) S0 hK hA hP (va_D_same hD rfl) hS (k_X6_isBroom l G y0 y1 y2 y3 y4 y5 y6 y7 y8 y9 y10 y11 y12 y13 y14 y15 Y_br Y_fa Y_rbs Y_rfs Y_len Y_at Y_fau Y_wk Y_ac Y_nx Y_hs Y_sd Y_st Y_kd Y_fs Y_fl Y_now Y_rd Y_rb Y_rf Y_tx Y_row Y_hh Y_hl Y_hw Y_ik Y_kp u2 rr_32 ee_33) cw_X6_isBroom 6 0 rfl rfl rfl rfl hl.1 rfl (Nat.le_of_ble_eq_true rfl) dX6_tryThing_66 ⟨Nat.zero_le _, Nat.zero_le _⟩ (fun H locs hP hS => ?_)
    replace hP : va_P G.1 vwCl (W_Y G y0 y1 y2 y3 y4 y5 y6 y7 y8 y9 y10 y11 y12 y13 y14 y15 Y_br Y_fa Y_rbs Y_rfs Y_len Y_at Y_fau Y_wk Y_ac Y_nx Y_hs Y_sd Y_st Y_kd Y_fs Y_fl Y_now Y_rd Y_rb Y_rf Y_tx Y_row Y_hh Y_hl Y_hw Y_ik Y_kp) H := hP
    refine lv_if_eq (tgt := 86) hx hb dX6_tryThing_69 (by decide) (fun cc_34 => ?_) (fun cc_34 => ?_)
    · replace h := if_t cc_34 h
      exact J_86  u2 u3 Y_now _ _ _ h hP hS (lv_sub hl [0, 2, 3] rfl)
    · replace h := if_f cc_34 h
      refine lv_iload_n hx hb dX6_tryThing_72 rfl (lv_at hl 3 rfl) ?_
      refine lv_i2l (v := u3.toInt64) hx hb dX6_tryThing_73 rfl ?_
      refine lv_lconst (v := 0) hx hb dX6_tryThing_74 (by decide) ?_
      refine lv_lconst (v := 1) hx hb dX6_tryThing_75 (by decide) ?_
      obtain ⟨rr_35, ee_36, h⟩ := bnd1_s h
      refine cSi (As := [.long (u3.toInt64), .long (0 : Int64), .long (1 : Int64)]) (rest := []) S0 hK hA hP (va_D_same hD rfl) hS [] (k_X6_in l G (u3.toInt64) (0 : Int64) (1 : Int64) rr_35 ee_36) cw_X6_in rfl rfl (Nat.le_of_ble_eq_true rfl) rfl hl.1 rfl (Nat.le_of_ble_eq_true rfl) dX6_tryThing_76 ⟨Nat.zero_le _, Nat.zero_le _⟩ (fun H locs hP hS => ?_)
      replace hP : va_P G.1 vwCl (W_Y G y0 y1 y2 y3 y4 y5 y6 y7 y8 y9 y10 y11 y12 y13 y14 y15 Y_br Y_fa Y_rbs Y_rfs Y_len Y_at Y_fau Y_wk Y_ac Y_nx Y_hs Y_sd Y_st Y_kd Y_fs Y_fl Y_now Y_rd Y_rb Y_rf Y_tx Y_row Y_hh Y_hl Y_hw Y_ik Y_kp) H := hP
      refine lv_if_eq (tgt := 86) hx hb dX6_tryThing_79 (by decide) (fun cc_37 => ?_) (fun cc_37 => ?_)
      · replace h := if_t cc_37 h
        exact J_86  u2 u3 Y_now _ _ _ h hP hS (lv_sub hl [0, 2, 3] rfl)
      · replace h := if_f cc_37 h
        refine lv_iconst (v := 1) hx hb dX6_tryThing_82 (by decide) ?_
        refine lv_goto (tgt := 87) hx hb dX6_tryThing_83 (by decide) ?_
        exact J_87  u2 u3 (1 : Int32) Y_now _ _ _ h hP hS (lv_sub hl [0, 2, 3] rfl)
  replace h := if_f cc_31 h
  by_cases cc_38 : u1 = 2
  · refine lv_tableIn (off := 103) (tgt := 104) hx hb dX6_tryThing_1 (by rw [cc_38]; decide) (by rw [cc_38]; decide) (by rw [cc_38]; rfl) (by decide) ?_
    replace h := if_t cc_38 h
    refine lv_aload_n hx hb dX6_tryThing_104 rfl (lv_at hl 0 rfl) ?_
    refine va_get (ci := 6) (C := RX6) (T := TX6) (N := 27) hx hb hts inX6 hown hK.1 hP 0 rfl rfl 6 (by decide) fl22 (fun _ h9 => h9) rfl dX6_tryThing_105 ?_
    refine lv_bipush (v := 29) hx hb dX6_tryThing_108 (by decide) ?_
    refine lv_iconst (v := 1) hx hb dX6_tryThing_110 (by decide) ?_
    refine lv_aload_n hx hb dX6_tryThing_111 rfl (lv_at hl 0 rfl) ?_
    refine va_get (ci := 6) (C := RX6) (T := TX6) (N := 27) hx hb hts inX6 hown hK.1 hP 0 rfl rfl 6 (by decide) fl22 (fun _ h9 => h9) rfl dX6_tryThing_112 ?_
    refine lv_bipush (v := 29) hx hb dX6_tryThing_115 (by decide) ?_
    obtain ⟨zz_39, ee_40, h⟩ := bnd1_s h
    refine wIald hx hb hK hP 5 rfl ee_40 dX6_tryThing_117 ?_
    refine lv_isub hx hb dX6_tryThing_118 ?_
    obtain ⟨dd_41, ee_42, h⟩ := bnd1_s h
    refine wIast hx hb hK hP (va_D_same hD rfl) hS 5 rfl ee_42 dX6_tryThing_119 (fun H locs hP hS => ?_)
    replace hP : va_P G.1 vwCl (W_Y G y0 y1 y2 y3 y4 y5 y6 y7 y8 y9 y10 y11 y12 y13 y14 y15 Y_br Y_fa Y_rbs Y_rfs Y_len Y_at Y_fau Y_wk Y_ac Y_nx Y_hs Y_sd Y_st Y_kd Y_fs Y_fl dd_41 Y_rd Y_rb Y_rf Y_tx Y_row Y_hh Y_hl Y_hw Y_ik Y_kp) H := hP
    refine lv_iload_n hx hb dX6_tryThing_120 rfl (lv_at hl 2 rfl) ?_
    refine lv_if_ne (tgt := 132) hx hb dX6_tryThing_121 (by decide) (fun cc_43 => ?_) (fun cc_43 => ?_)
    · replace h := if_f cc_43 h
      refine lv_iconst (v := 0) hx hb dX6_tryThing_132 (by decide) ?_
      cases h
      exact W.zret (ty := .boolean) hx hb hr (by decide) (fun t ht _ => ⟨⟨_, (), rfl, rfl, by show va_P G.1 vwCl _ t.heap; rw [ht]; exact hP⟩, hS.F ht⟩) hS.2.2 dX6_tryThing_133
    · replace h := if_t cc_43 h
      refine lv_iload_n hx hb dX6_tryThing_124 rfl (lv_at hl 3 rfl) ?_
      refine lv_if_ne (tgt := 132) hx hb dX6_tryThing_125 (by decide) (fun cc_44 => ?_) (fun cc_44 => ?_)
      · replace h := if_f cc_44 h
        refine lv_iconst (v := 0) hx hb dX6_tryThing_132 (by decide) ?_
        cases h
        exact W.zret (ty := .boolean) hx hb hr (by decide) (fun t ht _ => ⟨⟨_, (), rfl, rfl, by show va_P G.1 vwCl _ t.heap; rw [ht]; exact hP⟩, hS.F ht⟩) hS.2.2 dX6_tryThing_133
      · replace h := if_t cc_44 h
        refine lv_iconst (v := 1) hx hb dX6_tryThing_128 (by decide) ?_
        refine lv_goto (tgt := 133) hx hb dX6_tryThing_129 (by decide) ?_
        cases h
        exact W.zret (ty := .boolean) hx hb hr (by decide) (fun t ht _ => ⟨⟨_, (), rfl, rfl, by show va_P G.1 vwCl _ t.heap; rw [ht]; exact hP⟩, hS.F ht⟩) hS.2.2 dX6_tryThing_133
  replace h := if_f cc_38 h
  by_cases cc_45 : u1 = 3
  · refine lv_tableIn (off := 133) (tgt := 134) hx hb dX6_tryThing_1 (by rw [cc_45]; decide) (by rw [cc_45]; decide) (by rw [cc_45]; rfl) (by decide) ?_
    replace h := if_t cc_45 h
    refine lv_iload_n hx hb dX6_tryThing_134 rfl (lv_at hl 2 rfl) ?_
    refine lv_if_ne (tgt := 164) hx hb dX6_tryThing_135 (by decide) (fun cc_46 => ?_) (fun cc_46 => ?_)
    · replace h := if_f cc_46 h
      exact J_164  u3 Y_now _ _ _ h hP hS (lv_sub hl [0, 3] rfl)
    · replace h := if_t cc_46 h
      refine lv_aload_n hx hb dX6_tryThing_138 rfl (lv_at hl 0 rfl) ?_
      refine lv_iload_n hx hb dX6_tryThing_139 rfl (lv_at hl 3 rfl) ?_
      obtain ⟨rr_47, ee_48, h⟩ := bnd1_s h
      refine cFi (As := [.int u3]) (rest := []) S0 hK hA hP (va_D_same hD rfl) hS (k_X6_isBroom l G y0 y1 y2 y3 y4 y5 y6 y7 y8 y9 y10 y11 y12 y13 y14 y15 Y_br Y_fa Y_rbs Y_rfs Y_len Y_at Y_fau Y_wk Y_ac Y_nx Y_hs Y_sd Y_st Y_kd Y_fs Y_fl Y_now Y_rd Y_rb Y_rf Y_tx Y_row Y_hh Y_hl Y_hw Y_ik Y_kp u3 rr_47 ee_48) cw_X6_isBroom 6 0 rfl rfl rfl rfl hl.1 rfl (Nat.le_of_ble_eq_true rfl) dX6_tryThing_140 ⟨Nat.zero_le _, Nat.zero_le _⟩ (fun H locs hP hS => ?_)
      replace hP : va_P G.1 vwCl (W_Y G y0 y1 y2 y3 y4 y5 y6 y7 y8 y9 y10 y11 y12 y13 y14 y15 Y_br Y_fa Y_rbs Y_rfs Y_len Y_at Y_fau Y_wk Y_ac Y_nx Y_hs Y_sd Y_st Y_kd Y_fs Y_fl Y_now Y_rd Y_rb Y_rf Y_tx Y_row Y_hh Y_hl Y_hw Y_ik Y_kp) H := hP
      refine lv_if_eq (tgt := 164) hx hb dX6_tryThing_143 (by decide) (fun cc_49 => ?_) (fun cc_49 => ?_)
      · replace h := if_t cc_49 h
        exact J_164  u3 Y_now _ _ _ h hP hS (lv_sub hl [0, 3] rfl)
      · replace h := if_f cc_49 h
        refine lv_aload_n hx hb dX6_tryThing_146 rfl (lv_at hl 0 rfl) ?_
        refine va_get (ci := 6) (C := RX6) (T := TX6) (N := 27) hx hb hts inX6 hown hK.1 hP 0 rfl rfl 6 (by decide) fl22 (fun _ h9 => h9) rfl dX6_tryThing_147 ?_
        refine lv_bipush (v := 30) hx hb dX6_tryThing_150 (by decide) ?_
        obtain ⟨zz_50, ee_51, h⟩ := bnd1_s h
        refine wIald hx hb hK hP 5 rfl ee_51 dX6_tryThing_152 ?_
        refine lv_iload_n hx hb dX6_tryThing_153 rfl (lv_at hl 3 rfl) ?_
        obtain ⟨rr_52, ee_53, h⟩ := bnd1_s h
        refine cSi (As := [.int zz_50, .int u3]) (rest := []) S0 hK hA hP (va_D_same hD rfl) hS [] (k_X6_has l G zz_50 u3 rr_52 ee_53) cw_X6_has rfl rfl (Nat.le_of_ble_eq_true rfl) rfl hl.1 rfl (Nat.le_of_ble_eq_true rfl) dX6_tryThing_154 ⟨Nat.zero_le _, Nat.zero_le _⟩ (fun H locs hP hS => ?_)
        replace hP : va_P G.1 vwCl (W_Y G y0 y1 y2 y3 y4 y5 y6 y7 y8 y9 y10 y11 y12 y13 y14 y15 Y_br Y_fa Y_rbs Y_rfs Y_len Y_at Y_fau Y_wk Y_ac Y_nx Y_hs Y_sd Y_st Y_kd Y_fs Y_fl Y_now Y_rd Y_rb Y_rf Y_tx Y_row Y_hh Y_hl Y_hw Y_ik Y_kp) H := hP
        refine lv_if_ne (tgt := 164) hx hb dX6_tryThing_157 (by decide) (fun cc_54 => ?_) (fun cc_54 => ?_)
        · replace h := if_f cc_54 h
          exact J_164  u3 Y_now _ _ _ h hP hS (lv_sub hl [0, 3] rfl)
        · replace h := if_t cc_54 h
          refine lv_iconst (v := 1) hx hb dX6_tryThing_160 (by decide) ?_
          refine lv_goto (tgt := 165) hx hb dX6_tryThing_161 (by decide) ?_
          exact J_165  u3 (1 : Int32) Y_now _ _ _ h hP hS (lv_sub hl [0, 3] rfl)
  replace h := if_f cc_45 h
  by_cases cc_55 : u1 = 4
  · refine lv_tableIn (off := 191) (tgt := 192) hx hb dX6_tryThing_1 (by rw [cc_55]; decide) (by rw [cc_55]; decide) (by rw [cc_55]; rfl) (by decide) ?_
    replace h := if_t cc_55 h
    refine lv_iload_n hx hb dX6_tryThing_192 rfl (lv_at hl 2 rfl) ?_
    refine lv_if_ne (tgt := 219) hx hb dX6_tryThing_193 (by decide) (fun cc_56 => ?_) (fun cc_56 => ?_)
    · replace h := if_f cc_56 h
      exact J_219  u3 Y_now _ _ _ h hP hS (lv_sub hl [0, 3] rfl)
    · replace h := if_t cc_56 h
      refine lv_iload_n hx hb dX6_tryThing_196 rfl (lv_at hl 3 rfl) ?_
      obtain ⟨rr_57, ee_58, h⟩ := bnd1_s h
      refine cSi (As := [.int u3]) (rest := []) S0 hK hA hP (va_D_same hD rfl) hS [] (k_X6_isStreet l G u3 rr_57 ee_58) cw_X6_isStreet rfl rfl (Nat.le_of_ble_eq_true rfl) rfl hl.1 rfl (Nat.le_of_ble_eq_true rfl) dX6_tryThing_197 ⟨Nat.zero_le _, Nat.zero_le _⟩ (fun H locs hP hS => ?_)
      replace hP : va_P G.1 vwCl (W_Y G y0 y1 y2 y3 y4 y5 y6 y7 y8 y9 y10 y11 y12 y13 y14 y15 Y_br Y_fa Y_rbs Y_rfs Y_len Y_at Y_fau Y_wk Y_ac Y_nx Y_hs Y_sd Y_st Y_kd Y_fs Y_fl Y_now Y_rd Y_rb Y_rf Y_tx Y_row Y_hh Y_hl Y_hw Y_ik Y_kp) H := hP
      refine lv_if_eq (tgt := 219) hx hb dX6_tryThing_200 (by decide) (fun cc_59 => ?_) (fun cc_59 => ?_)
      · replace h := if_t cc_59 h
        exact J_219  u3 Y_now _ _ _ h hP hS (lv_sub hl [0, 3] rfl)
      · replace h := if_f cc_59 h
        refine lv_aload_n hx hb dX6_tryThing_203 rfl (lv_at hl 0 rfl) ?_
        refine va_get (ci := 6) (C := RX6) (T := TX6) (N := 27) hx hb hts inX6 hown hK.1 hP 0 rfl rfl 6 (by decide) fl22 (fun _ h9 => h9) rfl dX6_tryThing_204 ?_
        refine lv_bipush (v := 16) hx hb dX6_tryThing_207 (by decide) ?_
        refine lv_iload_n hx hb dX6_tryThing_209 rfl (lv_at hl 3 rfl) ?_
        refine lv_iadd hx hb dX6_tryThing_210 ?_
        obtain ⟨zz_60, ee_61, h⟩ := bnd1_s h
        refine wIald hx hb hK hP 5 rfl ee_61 dX6_tryThing_211 ?_
        refine lv_if_le (tgt := 219) hx hb dX6_tryThing_212 (by decide) (fun cc_62 => ?_) (fun cc_62 => ?_)
        · replace h := if_t cc_62 h
          exact J_219  u3 Y_now _ _ _ h hP hS (lv_sub hl [0, 3] rfl)
        · replace h := if_f cc_62 h
          refine lv_iconst (v := 1) hx hb dX6_tryThing_215 (by decide) ?_
          refine lv_goto (tgt := 220) hx hb dX6_tryThing_216 (by decide) ?_
          exact J_220  u3 (1 : Int32) Y_now _ _ _ h hP hS (lv_sub hl [0, 3] rfl)
  replace h := if_f cc_55 h
  by_cases cc_63 : u1 = 5
  · refine lv_tableIn (off := 239) (tgt := 240) hx hb dX6_tryThing_1 (by rw [cc_63]; decide) (by rw [cc_63]; decide) (by rw [cc_63]; rfl) (by decide) ?_
    replace h := if_t cc_63 h
    refine lv_iload_n hx hb dX6_tryThing_240 rfl (lv_at hl 2 rfl) ?_
    obtain ⟨rr_64, ee_65, h⟩ := bnd1_s h
    refine cSi (As := [.int u2]) (rest := []) S0 hK hA hP (va_D_same hD rfl) hS [] (k_X6_isStreet l G u2 rr_64 ee_65) cw_X6_isStreet rfl rfl (Nat.le_of_ble_eq_true rfl) rfl hl.1 rfl (Nat.le_of_ble_eq_true rfl) dX6_tryThing_241 ⟨Nat.zero_le _, Nat.zero_le _⟩ (fun H locs hP hS => ?_)
    replace hP : va_P G.1 vwCl (W_Y G y0 y1 y2 y3 y4 y5 y6 y7 y8 y9 y10 y11 y12 y13 y14 y15 Y_br Y_fa Y_rbs Y_rfs Y_len Y_at Y_fau Y_wk Y_ac Y_nx Y_hs Y_sd Y_st Y_kd Y_fs Y_fl Y_now Y_rd Y_rb Y_rf Y_tx Y_row Y_hh Y_hl Y_hw Y_ik Y_kp) H := hP
    refine lv_if_eq (tgt := 264) hx hb dX6_tryThing_244 (by decide) (fun cc_66 => ?_) (fun cc_66 => ?_)
    · replace h := if_t cc_66 h
      refine lv_iconst (v := 0) hx hb dX6_tryThing_264 (by decide) ?_
      cases h
      exact W.zret (ty := .boolean) hx hb hr (by decide) (fun t ht _ => ⟨⟨_, (), rfl, rfl, by show va_P G.1 vwCl _ t.heap; rw [ht]; exact hP⟩, hS.F ht⟩) hS.2.2 dX6_tryThing_265
    · replace h := if_f cc_66 h
      refine lv_aload_n hx hb dX6_tryThing_247 rfl (lv_at hl 0 rfl) ?_
      refine va_get (ci := 6) (C := RX6) (T := TX6) (N := 27) hx hb hts inX6 hown hK.1 hP 0 rfl rfl 6 (by decide) fl22 (fun _ h9 => h9) rfl dX6_tryThing_248 ?_
      refine lv_bipush (v := 16) hx hb dX6_tryThing_251 (by decide) ?_
      refine lv_iload_n hx hb dX6_tryThing_253 rfl (lv_at hl 2 rfl) ?_
      refine lv_iadd hx hb dX6_tryThing_254 ?_
      obtain ⟨zz_67, ee_68, h⟩ := bnd1_s h
      refine wIald hx hb hK hP 5 rfl ee_68 dX6_tryThing_255 ?_
      refine lv_iload_n hx hb dX6_tryThing_256 rfl (lv_at hl 3 rfl) ?_
      refine lv_icmp_lt (tgt := 264) hx hb dX6_tryThing_257 (by decide) (fun cc_69 => ?_) (fun cc_69 => ?_)
      · replace h := if_t cc_69 h
        refine lv_iconst (v := 0) hx hb dX6_tryThing_264 (by decide) ?_
        cases h
        exact W.zret (ty := .boolean) hx hb hr (by decide) (fun t ht _ => ⟨⟨_, (), rfl, rfl, by show va_P G.1 vwCl _ t.heap; rw [ht]; exact hP⟩, hS.F ht⟩) hS.2.2 dX6_tryThing_265
      · replace h := if_f cc_69 h
        refine lv_iconst (v := 1) hx hb dX6_tryThing_260 (by decide) ?_
        refine lv_goto (tgt := 265) hx hb dX6_tryThing_261 (by decide) ?_
        cases h
        exact W.zret (ty := .boolean) hx hb hr (by decide) (fun t ht _ => ⟨⟨_, (), rfl, rfl, by show va_P G.1 vwCl _ t.heap; rw [ht]; exact hP⟩, hS.F ht⟩) hS.2.2 dX6_tryThing_265
  replace h := if_f cc_63 h
  by_cases cc_70 : u1 = 6
  · refine lv_tableIn (off := 265) (tgt := 266) hx hb dX6_tryThing_1 (by rw [cc_70]; decide) (by rw [cc_70]; decide) (by rw [cc_70]; rfl) (by decide) ?_
    replace h := if_t cc_70 h
    refine lv_iload_n hx hb dX6_tryThing_266 rfl (lv_at hl 2 rfl) ?_
    refine lv_if_ne (tgt := 295) hx hb dX6_tryThing_267 (by decide) (fun cc_71 => ?_) (fun cc_71 => ?_)
    · replace h := if_f cc_71 h
      refine lv_iconst (v := 0) hx hb dX6_tryThing_295 (by decide) ?_
      cases h
      exact W.zret (ty := .boolean) hx hb hr (by decide) (fun t ht _ => ⟨⟨_, (), rfl, rfl, by show va_P G.1 vwCl _ t.heap; rw [ht]; exact hP⟩, hS.F ht⟩) hS.2.2 dX6_tryThing_296
    · replace h := if_t cc_71 h
      refine lv_iload_n hx hb dX6_tryThing_270 rfl (lv_at hl 3 rfl) ?_
      obtain ⟨rr_72, ee_73, h⟩ := bnd1_s h
      refine cSi (As := [.int u3]) (rest := []) S0 hK hA hP (va_D_same hD rfl) hS [] (k_X6_isStreet l G u3 rr_72 ee_73) cw_X6_isStreet rfl rfl (Nat.le_of_ble_eq_true rfl) rfl hl.1 rfl (Nat.le_of_ble_eq_true rfl) dX6_tryThing_271 ⟨Nat.zero_le _, Nat.zero_le _⟩ (fun H locs hP hS => ?_)
      replace hP : va_P G.1 vwCl (W_Y G y0 y1 y2 y3 y4 y5 y6 y7 y8 y9 y10 y11 y12 y13 y14 y15 Y_br Y_fa Y_rbs Y_rfs Y_len Y_at Y_fau Y_wk Y_ac Y_nx Y_hs Y_sd Y_st Y_kd Y_fs Y_fl Y_now Y_rd Y_rb Y_rf Y_tx Y_row Y_hh Y_hl Y_hw Y_ik Y_kp) H := hP
      refine lv_if_eq (tgt := 295) hx hb dX6_tryThing_274 (by decide) (fun cc_74 => ?_) (fun cc_74 => ?_)
      · replace h := if_t cc_74 h
        refine lv_iconst (v := 0) hx hb dX6_tryThing_295 (by decide) ?_
        cases h
        exact W.zret (ty := .boolean) hx hb hr (by decide) (fun t ht _ => ⟨⟨_, (), rfl, rfl, by show va_P G.1 vwCl _ t.heap; rw [ht]; exact hP⟩, hS.F ht⟩) hS.2.2 dX6_tryThing_296
      · replace h := if_f cc_74 h
        refine lv_aload_n hx hb dX6_tryThing_277 rfl (lv_at hl 0 rfl) ?_
        refine va_get (ci := 6) (C := RX6) (T := TX6) (N := 27) hx hb hts inX6 hown hK.1 hP 0 rfl rfl 6 (by decide) fl22 (fun _ h9 => h9) rfl dX6_tryThing_278 ?_
        refine lv_bipush (v := 16) hx hb dX6_tryThing_281 (by decide) ?_
        refine lv_iload_n hx hb dX6_tryThing_283 rfl (lv_at hl 3 rfl) ?_
        refine lv_iadd hx hb dX6_tryThing_284 ?_
        obtain ⟨zz_75, ee_76, h⟩ := bnd1_s h
        refine wIald hx hb hK hP 5 rfl ee_76 dX6_tryThing_285 ?_
        refine lv_bipush (v := 10) hx hb dX6_tryThing_286 (by decide) ?_
        refine lv_icmp_lt (tgt := 295) hx hb dX6_tryThing_288 (by decide) (fun cc_77 => ?_) (fun cc_77 => ?_)
        · replace h := if_t cc_77 h
          refine lv_iconst (v := 0) hx hb dX6_tryThing_295 (by decide) ?_
          cases h
          exact W.zret (ty := .boolean) hx hb hr (by decide) (fun t ht _ => ⟨⟨_, (), rfl, rfl, by show va_P G.1 vwCl _ t.heap; rw [ht]; exact hP⟩, hS.F ht⟩) hS.2.2 dX6_tryThing_296
        · replace h := if_f cc_77 h
          refine lv_iconst (v := 1) hx hb dX6_tryThing_291 (by decide) ?_
          refine lv_goto (tgt := 296) hx hb dX6_tryThing_292 (by decide) ?_
          cases h
          exact W.zret (ty := .boolean) hx hb hr (by decide) (fun t ht _ => ⟨⟨_, (), rfl, rfl, by show va_P G.1 vwCl _ t.heap; rw [ht]; exact hP⟩, hS.F ht⟩) hS.2.2 dX6_tryThing_296
  replace h := if_f cc_70 h
  refine lv_tableOut (tgt := 297) hx hb dX6_tryThing_1 (by have acc_26 := ne_toInt cc_26 (k := 0) (by decide); have acc_31 := ne_toInt cc_31 (k := 1) (by decide); have acc_38 := ne_toInt cc_38 (k := 2) (by decide); have acc_45 := ne_toInt cc_45 (k := 3) (by decide); have acc_55 := ne_toInt cc_55 (k := 4) (by decide); have acc_63 := ne_toInt cc_63 (k := 5) (by decide); have acc_70 := ne_toInt cc_70 (k := 6) (by decide); omega) (by decide) ?_
  refine lv_iconst (v := 0) hx hb dX6_tryThing_297 (by decide) ?_
  cases h
  exact W.zret (ty := .boolean) hx hb hr (by decide) (fun t ht _ => ⟨⟨_, (), rfl, rfl, by show va_P G.1 vwCl _ t.heap; rw [ht]; exact hP⟩, hS.F ht⟩) hS.2.2 dX6_tryThing_298
