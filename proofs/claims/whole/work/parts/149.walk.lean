def f_X6_passOn_164 (Y_br : Int32) (Y_fa : Int32) (Y_wk : Int32) (Y_st : Nat → Int32) (Y_kd : Nat → Int32) (Y_fs : Nat → Int32) (Y_fl : Nat → Int32) (kk127 : Int32 → Int32 → Int32 → Int32 → (Nat → Int32) → Option ((Nat → Int32))) (v1 : Int32) (v3 : Int32) (v4 : Int32) (v5 : Int32) (Y_now : Nat → Int32) : Option ((Nat → Int32)) := kk127 v1 v3 v4 (v5 + 1) Y_now
def f_X6_passOn_127 (Y_br : Int32) (Y_fa : Int32) (Y_wk : Int32) (Y_st : Nat → Int32) (Y_kd : Nat → Int32) (Y_fs : Nat → Int32) (Y_fl : Nat → Int32) : Nat → Int32 → Int32 → Int32 → Int32 → (Nat → Int32) → Option ((Nat → Int32))
  | 0, _, _, _, _, _ => none
  | fu + 1, v1, v3, v4, v5, Y_now => if (8 : Int32) ≤ v5 then (bnd1 (rd Y_now 32 (v3 + (15 : Int32))) (fun zz_2 => bnd1 (wr Y_now 32 (v3 + (15 : Int32)) (zz_2 + (1 : Int32))) (fun dd_4 => some dd_4))) else (bnd1 (f_X6_has v4 v5) (fun rr_6 => if rr_6 = 0 then (f_X6_passOn_164 Y_br Y_fa Y_wk Y_st Y_kd Y_fs Y_fl (f_X6_passOn_127 Y_br Y_fa Y_wk Y_st Y_kd Y_fs Y_fl fu) v1 v3 v4 v5 Y_now) else (bnd1 (f_X6_add Y_now v1 (v5 - (1 : Int32)) (1 : Int32)) (fun dd_9 => bnd1 (f_X6_add dd_9 v1 (v5 + (1 : Int32)) (1 : Int32)) (fun dd_11 => f_X6_passOn_164 Y_br Y_fa Y_wk Y_st Y_kd Y_fs Y_fl (f_X6_passOn_127 Y_br Y_fa Y_wk Y_st Y_kd Y_fs Y_fl fu) v1 v3 v4 v5 dd_11)))))
def f_X6_passOn_116 (Y_br : Int32) (Y_fa : Int32) (Y_wk : Int32) (Y_st : Nat → Int32) (Y_kd : Nat → Int32) (Y_fs : Nat → Int32) (Y_fl : Nat → Int32) (kk84 : Int32 → Int32 → Int32 → Int32 → (Nat → Int32) → Option ((Nat → Int32))) (v1 : Int32) (v3 : Int32) (v4 : Int32) (v5 : Int32) (q1 : Int32) (q2 : Int32) (q3 : Int32) (Y_now : Nat → Int32) : Option ((Nat → Int32)) := bnd1 (wr Y_now 32 q1 (q2 - q3)) (fun dd_13 => kk84 v1 v3 v4 (v5 + 1) dd_13)
def f_X6_passOn_84 (Y_br : Int32) (Y_fa : Int32) (Y_wk : Int32) (Y_st : Nat → Int32) (Y_kd : Nat → Int32) (Y_fs : Nat → Int32) (Y_fl : Nat → Int32) : Nat → Int32 → Int32 → Int32 → Int32 → (Nat → Int32) → Option ((Nat → Int32))
  | 0, _, _, _, _, _ => none
  | fu + 1, v1, v3, v4, v5, Y_now => if (8 : Int32) ≤ v5 then (f_X6_passOn_127 Y_br Y_fa Y_wk Y_st Y_kd Y_fs Y_fl  130 v1 v3 v4 (0 : Int32) Y_now) else (bnd1 (rd Y_now 32 (v3 + v5)) (fun zz_16 => bnd1 (f_X6_has v4 v5) (fun rr_18 => if rr_18 = 0 then (f_X6_passOn_116 Y_br Y_fa Y_wk Y_st Y_kd Y_fs Y_fl (f_X6_passOn_84 Y_br Y_fa Y_wk Y_st Y_kd Y_fs Y_fl fu) v1 v3 v4 v5 (v3 + v5) zz_16 (0 : Int32) Y_now) else (f_X6_passOn_116 Y_br Y_fa Y_wk Y_st Y_kd Y_fs Y_fl (f_X6_passOn_84 Y_br Y_fa Y_wk Y_st Y_kd Y_fs Y_fl fu) v1 v3 v4 v5 (v3 + v5) zz_16 (2 : Int32) Y_now))))
def f_X6_passOn_52 (Y_br : Int32) (Y_fa : Int32) (Y_wk : Int32) (Y_st : Nat → Int32) (Y_kd : Nat → Int32) (Y_fs : Nat → Int32) (Y_fl : Nat → Int32) : Nat → Int32 → Int32 → Int32 → (Nat → Int32) → Option ((Nat → Int32))
  | 0, _, _, _, _ => none
  | fu + 1, v1, v3, v4, Y_now => if Y_br ≤ v4 then (bnd1 (f_X6_kneesOn Y_now v1) (fun rr_22 => f_X6_passOn_84 Y_br Y_fa Y_wk Y_st Y_kd Y_fs Y_fl  130 v1 v3 rr_22 (0 : Int32) Y_now)) else (bnd1 (f_X6_sweep Y_wk Y_st Y_kd Y_now v1 v4) (fun dd_24 => f_X6_passOn_52 Y_br Y_fa Y_wk Y_st Y_kd Y_fs Y_fl fu v1 v3 (v4 + 1) dd_24))
def f_X6_passOn_49 (Y_br : Int32) (Y_fa : Int32) (Y_wk : Int32) (Y_st : Nat → Int32) (Y_kd : Nat → Int32) (Y_fs : Nat → Int32) (Y_fl : Nat → Int32) (v1 : Int32) (v3 : Int32) (Y_now : Nat → Int32) : Option ((Nat → Int32)) := f_X6_passOn_52 Y_br Y_fa Y_wk Y_st Y_kd Y_fs Y_fl  130 v1 v3 (0 : Int32) Y_now
def f_X6_passOn (Y_br : Int32) (Y_fa : Int32) (Y_wk : Int32) (Y_st : Nat → Int32) (Y_kd : Nat → Int32) (Y_fs : Nat → Int32) (Y_fl : Nat → Int32) (Y_now : Nat → Int32) (u1 : Int32) (u2 : Int32) : Option ((Nat → Int32)) := if Y_fa ≤ 0 then (f_X6_passOn_49 Y_br Y_fa Y_wk Y_st Y_kd Y_fs Y_fl  u1 ((16 : Int32) * u1) Y_now) else (bnd1 (rd Y_now 32 (((16 : Int32) * u1) + (15 : Int32))) (fun zz_27 => if Y_fa = 0 then none else (bnd1 (rd Y_fs 5 (zz_27 - zz_27 / Y_fa * Y_fa)) (fun zz_30 => bnd1 (rd Y_fl 5 (zz_27 - zz_27 / Y_fa * Y_fa)) (fun zz_32 => bnd1 (f_X6_add Y_now u1 zz_30 (u2 * zz_32)) (fun dd_34 => f_X6_passOn_49 Y_br Y_fa Y_wk Y_st Y_kd Y_fs Y_fl  u1 ((16 : Int32) * u1) dd_34))))))
set_option maxRecDepth 100000 in
set_option maxHeartbeats 4000000 in
theorem k_X6_passOn (l : Launch) (G : Gt) (y0 y1 y2 y3 y4 y5 y6 y7 y8 y9 y10 y11 y12 y13 y14 y15 : Nat) (Y_br : Int32) (Y_fa : Int32) (Y_rbs : Int32) (Y_rfs : Int32) (Y_len : Int32) (Y_at : Int32) (Y_fau : Int32) (Y_wk : Int32) (Y_ac : Int32) (Y_nx : Int32) (Y_hs : Int32) (Y_sd : Int64) (Y_st : Nat → Int32) (Y_kd : Nat → Int32) (Y_fs : Nat → Int32) (Y_fl : Nat → Int32) (Y_now : Nat → Int32) (Y_rd : Nat → Int32) (Y_rb : Nat → Int32) (Y_rf : Nat → Int32) (Y_tx : Nat → Int32) (Y_row : Nat → Int32) (Y_hh : Nat → Int32) (Y_hl : Nat → Int32) (Y_hw : Nat → Int32) (Y_ik : Nat → Int32) (Y_kp : Nat → Int32) (u1 : Int32) (u2 : Int32) (o_Y_now : Nat → Int32) (h : f_X6_passOn Y_br Y_fa Y_wk Y_st Y_kd Y_fs Y_fl Y_now u1 u2 = some o_Y_now) : CT l yX6_passOn wsX6_passOn 3 69 G [.ref y0, .int u1, .int u2] (W_Y G y0 y1 y2 y3 y4 y5 y6 y7 y8 y9 y10 y11 y12 y13 y14 y15 Y_br Y_fa Y_rbs Y_rfs Y_len Y_at Y_fau Y_wk Y_ac Y_nx Y_hs Y_sd Y_st Y_kd Y_fs Y_fl Y_now Y_rd Y_rb Y_rf Y_tx Y_row Y_hh Y_hl Y_hw Y_ik Y_kp) (QV G (W_Y G y0 y1 y2 y3 y4 y5 y6 y7 y8 y9 y10 y11 y12 y13 y14 y15 Y_br Y_fa Y_rbs Y_rfs Y_len Y_at Y_fau Y_wk Y_ac Y_nx Y_hs Y_sd Y_st Y_kd Y_fs Y_fl o_Y_now Y_rd Y_rb Y_rf Y_tx Y_row Y_hh Y_hl Y_hw Y_ik Y_kp)) := by
  refine met_of cX6_passOn 6 none (by decide) rfl (Nat.le_of_ble_eq_true rfl) ?_
  intro p e s m below meth c A ls hx hb hr hml hts hown hlocks hK hA hD hP hS hl
  replace hown : s.vm.findClass RX6 = some m.cls := hown
  replace hl : lv_has ls 6 [(0, .ref y0), (1, .int u1), (2, .int u2)] := hl
  have S0 : CallFix p m c cX6_passOn 6 s _ wsX6_passOn RX6 := ⟨hx, hb, hml, hown, hts⟩
  have fl22 := hts (.fieldLink RX6 22 "DustVoteModel" "now" "[I") (by decide +kernel)
  have inX6 := show ∀ w ∈ wsX60, w ∈ wsX6_passOn from by decide +kernel
  have cw_X6_has := show CallB (rmv 3 69) s _ RX6 104 yX6_has cX6_has 2 (some .boolean) wsX6_has (rmv 0 0) 0 0 2 ∧ (Cond.static yX6_has).before _ s = true from va_cwS 2 hts gX6_passOn_X6_has rfl rfl rfl (by decide +kernel) ⟨Nat.le_of_ble_eq_true rfl, Nat.le_of_ble_eq_true rfl⟩
  have cw_X6_add := show CallW (rmv 3 69) s _ RX6 RX6 115 yX6_add cX6_add 5 none wsX6_add (rmv 0 0) 0 0 3 from cwV 3 hts gX6_passOn_X6_add rfl rfl rfl (by decide +kernel) ⟨Nat.le_of_ble_eq_true rfl, Nat.le_of_ble_eq_true rfl⟩
  have fl93 := hts (.fieldLink RX6 93 "DustVoteModel" "brooms" "I") (by decide +kernel)
  have cw_X6_kneesOn := show CallW (rmv 3 69) s _ RX6 RX6 123 yX6_kneesOn cX6_kneesOn 4 (some .int) wsX6_kneesOn (rmv 0 0) 0 0 1 from cwV 1 hts gX6_passOn_X6_kneesOn rfl rfl rfl (by decide +kernel) ⟨Nat.le_of_ble_eq_true rfl, Nat.le_of_ble_eq_true rfl⟩
  have cw_X6_sweep := show CallW (rmv 3 69) s _ RX6 RX6 119 yX6_sweep cX6_sweep 6 none wsX6_sweep (rmv 2 44) 0 0 2 from cwV 2 hts gX6_passOn_X6_sweep rfl rfl rfl (by decide +kernel) ⟨Nat.le_of_ble_eq_true rfl, Nat.le_of_ble_eq_true rfl⟩
  have fl96 := hts (.fieldLink RX6 96 "DustVoteModel" "falls" "I") (by decide +kernel)
  have fl16 := hts (.fieldLink RX6 16 "DustVoteModel" "fallAt" "[I") (by decide +kernel)
  have fl19 := hts (.fieldLink RX6 19 "DustVoteModel" "fallen" "[I") (by decide +kernel)
  have J_164 : ∀ (kk127 : Int32 → Int32 → Int32 → Int32 → (Nat → Int32) → Option ((Nat → Int32))) (hk127 : ∀ (v1 : Int32) (v3 : Int32) (v4 : Int32) (v5 : Int32) (Y_now : Nat → Int32) (H : Heap) (locs : List Loc) (ls : Array Slot), kk127 v1 v3 v4 v5 Y_now = some o_Y_now → va_P G.1 vwCl (W_Y G y0 y1 y2 y3 y4 y5 y6 y7 y8 y9 y10 y11 y12 y13 y14 y15 Y_br Y_fa Y_rbs Y_rfs Y_len Y_at Y_fau Y_wk Y_ac Y_nx Y_hs Y_sd Y_st Y_kd Y_fs Y_fl Y_now Y_rd Y_rb Y_rf Y_tx Y_row Y_hh Y_hl Y_hw Y_ik Y_kp) H → va_S A s.heap H locs → lv_has ls 6 [(0, .ref y0), (1, .int v1), (3, .int v3), (4, .int v4), (5, .int v5)] → W p l e (rmv 3 69) s m (List.toArray [.ref y0, .int u1, .int u2]) below meth c H locs 0 0 (MQ below ((QV G (W_Y G y0 y1 y2 y3 y4 y5 y6 y7 y8 y9 y10 y11 y12 y13 y14 y15 Y_br Y_fa Y_rbs Y_rfs Y_len Y_at Y_fau Y_wk Y_ac Y_nx Y_hs Y_sd Y_st Y_kd Y_fs Y_fl o_Y_now Y_rd Y_rb Y_rf Y_tx Y_row Y_hh Y_hl Y_hw Y_ik Y_kp)) A) (List.toArray [.ref y0, .int u1, .int u2]) s 0 0 A) (F0 m 127 ls [])), ∀ (v1 : Int32) (v3 : Int32) (v4 : Int32) (v5 : Int32) (Y_now : Nat → Int32) (H : Heap) (locs : List Loc) (ls : Array Slot), f_X6_passOn_164 Y_br Y_fa Y_wk Y_st Y_kd Y_fs Y_fl kk127 v1 v3 v4 v5 Y_now = some o_Y_now → va_P G.1 vwCl (W_Y G y0 y1 y2 y3 y4 y5 y6 y7 y8 y9 y10 y11 y12 y13 y14 y15 Y_br Y_fa Y_rbs Y_rfs Y_len Y_at Y_fau Y_wk Y_ac Y_nx Y_hs Y_sd Y_st Y_kd Y_fs Y_fl Y_now Y_rd Y_rb Y_rf Y_tx Y_row Y_hh Y_hl Y_hw Y_ik Y_kp) H → va_S A s.heap H locs → lv_has ls 6 [(0, .ref y0), (1, .int v1), (3, .int v3), (4, .int v4), (5, .int v5)] → W p l e (rmv 3 69) s m (List.toArray [.ref y0, .int u1, .int u2]) below meth c H locs 0 0 (MQ below ((QV G (W_Y G y0 y1 y2 y3 y4 y5 y6 y7 y8 y9 y10 y11 y12 y13 y14 y15 Y_br Y_fa Y_rbs Y_rfs Y_len Y_at Y_fau Y_wk Y_ac Y_nx Y_hs Y_sd Y_st Y_kd Y_fs Y_fl o_Y_now Y_rd Y_rb Y_rf Y_tx Y_row Y_hh Y_hl Y_hw Y_ik Y_kp)) A) (List.toArray [.ref y0, .int u1, .int u2]) s 0 0 A) (F0 m 164 ls []) := by
    intro kk127 hk127 v1 v3 v4 v5 Y_now H locs ls h hP hS hl
    unfold f_X6_passOn_164 at h
    refine lv_iinc (v := (v5 + 1)) (lv' := [(5, .int (v5 + 1)), (0, .ref y0), (1, .int v1), (3, .int v3), (4, .int v4)]) hx hb dX6_passOn_164 hl (k := 4) rfl rfl (by decide) rfl (fun ls hl => ?_)
    refine lv_goto (tgt := 127) hx hb dX6_passOn_167 (by decide) ?_
    exact hk127 v1 v3 v4 (v5 + 1) Y_now _ _ _ h hP hS (lv_sub hl [1, 2, 3, 4, 0] rfl)
  have J_127 : ∀ (fu : Nat), ∀ (v1 : Int32) (v3 : Int32) (v4 : Int32) (v5 : Int32) (Y_now : Nat → Int32) (H : Heap) (locs : List Loc) (ls : Array Slot), f_X6_passOn_127 Y_br Y_fa Y_wk Y_st Y_kd Y_fs Y_fl fu v1 v3 v4 v5 Y_now = some o_Y_now → va_P G.1 vwCl (W_Y G y0 y1 y2 y3 y4 y5 y6 y7 y8 y9 y10 y11 y12 y13 y14 y15 Y_br Y_fa Y_rbs Y_rfs Y_len Y_at Y_fau Y_wk Y_ac Y_nx Y_hs Y_sd Y_st Y_kd Y_fs Y_fl Y_now Y_rd Y_rb Y_rf Y_tx Y_row Y_hh Y_hl Y_hw Y_ik Y_kp) H → va_S A s.heap H locs → lv_has ls 6 [(0, .ref y0), (1, .int v1), (3, .int v3), (4, .int v4), (5, .int v5)] → W p l e (rmv 3 69) s m (List.toArray [.ref y0, .int u1, .int u2]) below meth c H locs 0 0 (MQ below ((QV G (W_Y G y0 y1 y2 y3 y4 y5 y6 y7 y8 y9 y10 y11 y12 y13 y14 y15 Y_br Y_fa Y_rbs Y_rfs Y_len Y_at Y_fau Y_wk Y_ac Y_nx Y_hs Y_sd Y_st Y_kd Y_fs Y_fl o_Y_now Y_rd Y_rb Y_rf Y_tx Y_row Y_hh Y_hl Y_hw Y_ik Y_kp)) A) (List.toArray [.ref y0, .int u1, .int u2]) s 0 0 A) (F0 m 127 ls []) := by
    intro  fu
    induction fu with
    | zero =>
      intro v1 v3 v4 v5 Y_now H locs ls h
      cases h
    | succ fu ih =>
      intro v1 v3 v4 v5 Y_now H locs ls h hP hS hl
      rw [f_X6_passOn_127] at h
      refine lv_iload hx hb dX6_passOn_127 (lv_at hl 4 rfl) ?_
      refine lv_bipush (v := 8) hx hb dX6_passOn_129 (by decide) ?_
      refine lv_icmp_ge (tgt := 170) hx hb dX6_passOn_131 (by decide) (fun cc_1 => ?_) (fun cc_1 => ?_)
      · replace h := if_t cc_1 h
        refine lv_aload_n hx hb dX6_passOn_170 rfl (lv_at hl 0 rfl) ?_
        refine va_get (ci := 6) (C := RX6) (T := TX6) (N := 27) hx hb hts inX6 hown hK.1 hP 0 rfl rfl 6 (by decide) fl22 (fun _ h9 => h9) rfl dX6_passOn_171 ?_
        refine lv_iload_n hx hb dX6_passOn_174 rfl (lv_at hl 2 rfl) ?_
        refine lv_bipush (v := 15) hx hb dX6_passOn_175 (by decide) ?_
        refine lv_iadd hx hb dX6_passOn_177 ?_
        refine lv_dup2_11 hx hb dX6_passOn_178 rfl rfl ?_
        obtain ⟨zz_2, ee_3, h⟩ := bnd1_s h
        refine wIald hx hb hK hP 5 rfl ee_3 dX6_passOn_179 ?_
        refine lv_iconst (v := 1) hx hb dX6_passOn_180 (by decide) ?_
        refine lv_iadd hx hb dX6_passOn_181 ?_
        obtain ⟨dd_4, ee_5, h⟩ := bnd1_s h
        refine wIast hx hb hK hP (va_D_same hD rfl) hS 5 rfl ee_5 dX6_passOn_182 (fun H locs hP hS => ?_)
        replace hP : va_P G.1 vwCl (W_Y G y0 y1 y2 y3 y4 y5 y6 y7 y8 y9 y10 y11 y12 y13 y14 y15 Y_br Y_fa Y_rbs Y_rfs Y_len Y_at Y_fau Y_wk Y_ac Y_nx Y_hs Y_sd Y_st Y_kd Y_fs Y_fl dd_4 Y_rd Y_rb Y_rf Y_tx Y_row Y_hh Y_hl Y_hw Y_ik Y_kp) H := hP
        cases h
        exact W.vret hx hb hr (fun t ht _ => ⟨⟨(), rfl, trivial, by show va_P G.1 vwCl _ t.heap; rw [ht]; exact hP⟩, hS.F ht⟩) hS.2.2 dX6_passOn_183
      · replace h := if_f cc_1 h
        refine lv_iload hx hb dX6_passOn_134 (lv_at hl 3 rfl) ?_
        refine lv_iload hx hb dX6_passOn_136 (lv_at hl 4 rfl) ?_
        obtain ⟨rr_6, ee_7, h⟩ := bnd1_s h
        refine cSi (As := [.int v4, .int v5]) (rest := []) S0 hK hA hP (va_D_same hD rfl) hS [] (k_X6_has l G v4 v5 rr_6 ee_7) cw_X6_has rfl rfl (Nat.le_of_ble_eq_true rfl) rfl hl.1 rfl (Nat.le_of_ble_eq_true rfl) dX6_passOn_138 ⟨Nat.zero_le _, Nat.zero_le _⟩ (fun H locs hP hS => ?_)
        replace hP : va_P G.1 vwCl (W_Y G y0 y1 y2 y3 y4 y5 y6 y7 y8 y9 y10 y11 y12 y13 y14 y15 Y_br Y_fa Y_rbs Y_rfs Y_len Y_at Y_fau Y_wk Y_ac Y_nx Y_hs Y_sd Y_st Y_kd Y_fs Y_fl Y_now Y_rd Y_rb Y_rf Y_tx Y_row Y_hh Y_hl Y_hw Y_ik Y_kp) H := hP
        refine lv_if_eq (tgt := 164) hx hb dX6_passOn_141 (by decide) (fun cc_8 => ?_) (fun cc_8 => ?_)
        · replace h := if_t cc_8 h
          exact J_164 (f_X6_passOn_127 Y_br Y_fa Y_wk Y_st Y_kd Y_fs Y_fl fu) ih v1 v3 v4 v5 Y_now _ _ _ h hP hS (lv_sub hl [0, 1, 2, 3, 4] rfl)
        · replace h := if_f cc_8 h
          refine lv_aload_n hx hb dX6_passOn_144 rfl (lv_at hl 0 rfl) ?_
          refine lv_iload_n hx hb dX6_passOn_145 rfl (lv_at hl 1 rfl) ?_
          refine lv_iload hx hb dX6_passOn_146 (lv_at hl 4 rfl) ?_
          refine lv_iconst (v := 1) hx hb dX6_passOn_148 (by decide) ?_
          refine lv_isub hx hb dX6_passOn_149 ?_
          refine lv_iconst (v := 1) hx hb dX6_passOn_150 (by decide) ?_
          obtain ⟨dd_9, ee_10, h⟩ := bnd1_s h
          refine cFv (As := [.int v1, .int (v5 - (1 : Int32)), .int (1 : Int32)]) (rest := []) S0 hK hA hP (va_D_same hD rfl) hS (k_X6_add l G y0 y1 y2 y3 y4 y5 y6 y7 y8 y9 y10 y11 y12 y13 y14 y15 Y_br Y_fa Y_rbs Y_rfs Y_len Y_at Y_fau Y_wk Y_ac Y_nx Y_hs Y_sd Y_st Y_kd Y_fs Y_fl Y_now Y_rd Y_rb Y_rf Y_tx Y_row Y_hh Y_hl Y_hw Y_ik Y_kp v1 (v5 - (1 : Int32)) (1 : Int32) dd_9 ee_10) cw_X6_add 6 0 rfl rfl rfl rfl hl.1 rfl (Nat.le_of_ble_eq_true rfl) dX6_passOn_151 ⟨Nat.zero_le _, Nat.zero_le _⟩ (fun H locs hP hS => ?_)
          replace hP : va_P G.1 vwCl (W_Y G y0 y1 y2 y3 y4 y5 y6 y7 y8 y9 y10 y11 y12 y13 y14 y15 Y_br Y_fa Y_rbs Y_rfs Y_len Y_at Y_fau Y_wk Y_ac Y_nx Y_hs Y_sd Y_st Y_kd Y_fs Y_fl dd_9 Y_rd Y_rb Y_rf Y_tx Y_row Y_hh Y_hl Y_hw Y_ik Y_kp) H := hP
          refine lv_aload_n hx hb dX6_passOn_154 rfl (lv_at hl 0 rfl) ?_
          refine lv_iload_n hx hb dX6_passOn_155 rfl (lv_at hl 1 rfl) ?_
          refine lv_iload hx hb dX6_passOn_156 (lv_at hl 4 rfl) ?_
          refine lv_iconst (v := 1) hx hb dX6_passOn_158 (by decide) ?_
          refine lv_iadd hx hb dX6_passOn_159 ?_
          refine lv_iconst (v := 1) hx hb dX6_passOn_160 (by decide) ?_
          obtain ⟨dd_11, ee_12, h⟩ := bnd1_s h
          refine cFv (As := [.int v1, .int (v5 + (1 : Int32)), .int (1 : Int32)]) (rest := []) S0 hK hA hP (va_D_same hD rfl) hS (k_X6_add l G y0 y1 y2 y3 y4 y5 y6 y7 y8 y9 y10 y11 y12 y13 y14 y15 Y_br Y_fa Y_rbs Y_rfs Y_len Y_at Y_fau Y_wk Y_ac Y_nx Y_hs Y_sd Y_st Y_kd Y_fs Y_fl dd_9 Y_rd Y_rb Y_rf Y_tx Y_row Y_hh Y_hl Y_hw Y_ik Y_kp v1 (v5 + (1 : Int32)) (1 : Int32) dd_11 ee_12) cw_X6_add 6 0 rfl rfl rfl rfl hl.1 rfl (Nat.le_of_ble_eq_true rfl) dX6_passOn_161 ⟨Nat.zero_le _, Nat.zero_le _⟩ (fun H locs hP hS => ?_)
          replace hP : va_P G.1 vwCl (W_Y G y0 y1 y2 y3 y4 y5 y6 y7 y8 y9 y10 y11 y12 y13 y14 y15 Y_br Y_fa Y_rbs Y_rfs Y_len Y_at Y_fau Y_wk Y_ac Y_nx Y_hs Y_sd Y_st Y_kd Y_fs Y_fl dd_11 Y_rd Y_rb Y_rf Y_tx Y_row Y_hh Y_hl Y_hw Y_ik Y_kp) H := hP
          exact J_164 (f_X6_passOn_127 Y_br Y_fa Y_wk Y_st Y_kd Y_fs Y_fl fu) ih v1 v3 v4 v5 dd_11 _ _ _ h hP hS (lv_sub hl [0, 1, 2, 3, 4] rfl)
  have J_116 : ∀ (kk84 : Int32 → Int32 → Int32 → Int32 → (Nat → Int32) → Option ((Nat → Int32))) (hk84 : ∀ (v1 : Int32) (v3 : Int32) (v4 : Int32) (v5 : Int32) (Y_now : Nat → Int32) (H : Heap) (locs : List Loc) (ls : Array Slot), kk84 v1 v3 v4 v5 Y_now = some o_Y_now → va_P G.1 vwCl (W_Y G y0 y1 y2 y3 y4 y5 y6 y7 y8 y9 y10 y11 y12 y13 y14 y15 Y_br Y_fa Y_rbs Y_rfs Y_len Y_at Y_fau Y_wk Y_ac Y_nx Y_hs Y_sd Y_st Y_kd Y_fs Y_fl Y_now Y_rd Y_rb Y_rf Y_tx Y_row Y_hh Y_hl Y_hw Y_ik Y_kp) H → va_S A s.heap H locs → lv_has ls 6 [(0, .ref y0), (1, .int v1), (3, .int v3), (4, .int v4), (5, .int v5)] → W p l e (rmv 3 69) s m (List.toArray [.ref y0, .int u1, .int u2]) below meth c H locs 0 0 (MQ below ((QV G (W_Y G y0 y1 y2 y3 y4 y5 y6 y7 y8 y9 y10 y11 y12 y13 y14 y15 Y_br Y_fa Y_rbs Y_rfs Y_len Y_at Y_fau Y_wk Y_ac Y_nx Y_hs Y_sd Y_st Y_kd Y_fs Y_fl o_Y_now Y_rd Y_rb Y_rf Y_tx Y_row Y_hh Y_hl Y_hw Y_ik Y_kp)) A) (List.toArray [.ref y0, .int u1, .int u2]) s 0 0 A) (F0 m 84 ls [])), ∀ (v1 : Int32) (v3 : Int32) (v4 : Int32) (v5 : Int32) (q1 : Int32) (q2 : Int32) (q3 : Int32) (Y_now : Nat → Int32) (H : Heap) (locs : List Loc) (ls : Array Slot), f_X6_passOn_116 Y_br Y_fa Y_wk Y_st Y_kd Y_fs Y_fl kk84 v1 v3 v4 v5 q1 q2 q3 Y_now = some o_Y_now → va_P G.1 vwCl (W_Y G y0 y1 y2 y3 y4 y5 y6 y7 y8 y9 y10 y11 y12 y13 y14 y15 Y_br Y_fa Y_rbs Y_rfs Y_len Y_at Y_fau Y_wk Y_ac Y_nx Y_hs Y_sd Y_st Y_kd Y_fs Y_fl Y_now Y_rd Y_rb Y_rf Y_tx Y_row Y_hh Y_hl Y_hw Y_ik Y_kp) H → va_S A s.heap H locs → lv_has ls 6 [(0, .ref y0), (1, .int v1), (3, .int v3), (4, .int v4), (5, .int v5)] → W p l e (rmv 3 69) s m (List.toArray [.ref y0, .int u1, .int u2]) below meth c H locs 0 0 (MQ below ((QV G (W_Y G y0 y1 y2 y3 y4 y5 y6 y7 y8 y9 y10 y11 y12 y13 y14 y15 Y_br Y_fa Y_rbs Y_rfs Y_len Y_at Y_fau Y_wk Y_ac Y_nx Y_hs Y_sd Y_st Y_kd Y_fs Y_fl o_Y_now Y_rd Y_rb Y_rf Y_tx Y_row Y_hh Y_hl Y_hw Y_ik Y_kp)) A) (List.toArray [.ref y0, .int u1, .int u2]) s 0 0 A) (F0 m 116 ls [.int q3, .int q2, .int q1, .ref y5]) := by
    intro kk84 hk84 v1 v3 v4 v5 q1 q2 q3 Y_now H locs ls h hP hS hl
    unfold f_X6_passOn_116 at h
    refine lv_isub hx hb dX6_passOn_116 ?_
    obtain ⟨dd_13, ee_14, h⟩ := bnd1_s h
    refine wIast hx hb hK hP (va_D_same hD rfl) hS 5 rfl ee_14 dX6_passOn_117 (fun H locs hP hS => ?_)
    replace hP : va_P G.1 vwCl (W_Y G y0 y1 y2 y3 y4 y5 y6 y7 y8 y9 y10 y11 y12 y13 y14 y15 Y_br Y_fa Y_rbs Y_rfs Y_len Y_at Y_fau Y_wk Y_ac Y_nx Y_hs Y_sd Y_st Y_kd Y_fs Y_fl dd_13 Y_rd Y_rb Y_rf Y_tx Y_row Y_hh Y_hl Y_hw Y_ik Y_kp) H := hP
    refine lv_iinc (v := (v5 + 1)) (lv' := [(5, .int (v5 + 1)), (0, .ref y0), (1, .int v1), (3, .int v3), (4, .int v4)]) hx hb dX6_passOn_118 hl (k := 4) rfl rfl (by decide) rfl (fun ls hl => ?_)
    refine lv_goto (tgt := 84) hx hb dX6_passOn_121 (by decide) ?_
    exact hk84 v1 v3 v4 (v5 + 1) dd_13 _ _ _ h hP hS (lv_sub hl [1, 2, 3, 4, 0] rfl)
  have J_84 : ∀ (fu : Nat), ∀ (v1 : Int32) (v3 : Int32) (v4 : Int32) (v5 : Int32) (Y_now : Nat → Int32) (H : Heap) (locs : List Loc) (ls : Array Slot), f_X6_passOn_84 Y_br Y_fa Y_wk Y_st Y_kd Y_fs Y_fl fu v1 v3 v4 v5 Y_now = some o_Y_now → va_P G.1 vwCl (W_Y G y0 y1 y2 y3 y4 y5 y6 y7 y8 y9 y10 y11 y12 y13 y14 y15 Y_br Y_fa Y_rbs Y_rfs Y_len Y_at Y_fau Y_wk Y_ac Y_nx Y_hs Y_sd Y_st Y_kd Y_fs Y_fl Y_now Y_rd Y_rb Y_rf Y_tx Y_row Y_hh Y_hl Y_hw Y_ik Y_kp) H → va_S A s.heap H locs → lv_has ls 6 [(0, .ref y0), (1, .int v1), (3, .int v3), (4, .int v4), (5, .int v5)] → W p l e (rmv 3 69) s m (List.toArray [.ref y0, .int u1, .int u2]) below meth c H locs 0 0 (MQ below ((QV G (W_Y G y0 y1 y2 y3 y4 y5 y6 y7 y8 y9 y10 y11 y12 y13 y14 y15 Y_br Y_fa Y_rbs Y_rfs Y_len Y_at Y_fau Y_wk Y_ac Y_nx Y_hs Y_sd Y_st Y_kd Y_fs Y_fl o_Y_now Y_rd Y_rb Y_rf Y_tx Y_row Y_hh Y_hl Y_hw Y_ik Y_kp)) A) (List.toArray [.ref y0, .int u1, .int u2]) s 0 0 A) (F0 m 84 ls []) := by
    intro  fu
    induction fu with
    | zero =>
      intro v1 v3 v4 v5 Y_now H locs ls h
      cases h
    | succ fu ih =>
      intro v1 v3 v4 v5 Y_now H locs ls h hP hS hl
      rw [f_X6_passOn_84] at h
      refine lv_iload hx hb dX6_passOn_84 (lv_at hl 4 rfl) ?_
      refine lv_bipush (v := 8) hx hb dX6_passOn_86 (by decide) ?_
      refine lv_icmp_ge (tgt := 124) hx hb dX6_passOn_88 (by decide) (fun cc_15 => ?_) (fun cc_15 => ?_)
      · replace h := if_t cc_15 h
        refine lv_iconst (v := 0) hx hb dX6_passOn_124 (by decide) ?_
        refine lv_istore (lv' := [(5, .int (0 : Int32)), (0, .ref y0), (1, .int v1), (3, .int v3), (4, .int v4)]) hx hb dX6_passOn_125 hl (by decide) rfl (fun ls hl => ?_)
        exact J_127  130 v1 v3 v4 (0 : Int32) Y_now _ _ _ h hP hS (lv_sub hl [1, 2, 3, 4, 0] rfl)
      · replace h := if_f cc_15 h
        refine lv_aload_n hx hb dX6_passOn_91 rfl (lv_at hl 0 rfl) ?_
        refine va_get (ci := 6) (C := RX6) (T := TX6) (N := 27) hx hb hts inX6 hown hK.1 hP 0 rfl rfl 6 (by decide) fl22 (fun _ h9 => h9) rfl dX6_passOn_92 ?_
        refine lv_iload_n hx hb dX6_passOn_95 rfl (lv_at hl 2 rfl) ?_
        refine lv_iload hx hb dX6_passOn_96 (lv_at hl 4 rfl) ?_
        refine lv_iadd hx hb dX6_passOn_98 ?_
        refine lv_dup2_11 hx hb dX6_passOn_99 rfl rfl ?_
        obtain ⟨zz_16, ee_17, h⟩ := bnd1_s h
        refine wIald hx hb hK hP 5 rfl ee_17 dX6_passOn_100 ?_
        refine lv_iload hx hb dX6_passOn_101 (lv_at hl 3 rfl) ?_
        refine lv_iload hx hb dX6_passOn_103 (lv_at hl 4 rfl) ?_
        obtain ⟨rr_18, ee_19, h⟩ := bnd1_s h
        refine cSi (As := [.int v4, .int v5]) (rest := [.int zz_16, .int (v3 + v5), .ref y5]) S0 hK hA hP (va_D_same hD rfl) hS [] (k_X6_has l G v4 v5 rr_18 ee_19) cw_X6_has rfl rfl (Nat.le_of_ble_eq_true rfl) rfl hl.1 rfl (Nat.le_of_ble_eq_true rfl) dX6_passOn_105 ⟨Nat.zero_le _, Nat.zero_le _⟩ (fun H locs hP hS => ?_)
        replace hP : va_P G.1 vwCl (W_Y G y0 y1 y2 y3 y4 y5 y6 y7 y8 y9 y10 y11 y12 y13 y14 y15 Y_br Y_fa Y_rbs Y_rfs Y_len Y_at Y_fau Y_wk Y_ac Y_nx Y_hs Y_sd Y_st Y_kd Y_fs Y_fl Y_now Y_rd Y_rb Y_rf Y_tx Y_row Y_hh Y_hl Y_hw Y_ik Y_kp) H := hP
        refine lv_if_eq (tgt := 115) hx hb dX6_passOn_108 (by decide) (fun cc_20 => ?_) (fun cc_20 => ?_)
        · replace h := if_t cc_20 h
          refine lv_iconst (v := 0) hx hb dX6_passOn_115 (by decide) ?_
          exact J_116 (f_X6_passOn_84 Y_br Y_fa Y_wk Y_st Y_kd Y_fs Y_fl fu) ih v1 v3 v4 v5 (v3 + v5) zz_16 (0 : Int32) Y_now _ _ _ h hP hS (lv_sub hl [0, 1, 2, 3, 4] rfl)
        · replace h := if_f cc_20 h
          refine lv_iconst (v := 2) hx hb dX6_passOn_111 (by decide) ?_
          refine lv_goto (tgt := 116) hx hb dX6_passOn_112 (by decide) ?_
          exact J_116 (f_X6_passOn_84 Y_br Y_fa Y_wk Y_st Y_kd Y_fs Y_fl fu) ih v1 v3 v4 v5 (v3 + v5) zz_16 (2 : Int32) Y_now _ _ _ h hP hS (lv_sub hl [0, 1, 2, 3, 4] rfl)
  have J_52 : ∀ (fu : Nat), ∀ (v1 : Int32) (v3 : Int32) (v4 : Int32) (Y_now : Nat → Int32) (H : Heap) (locs : List Loc) (ls : Array Slot), f_X6_passOn_52 Y_br Y_fa Y_wk Y_st Y_kd Y_fs Y_fl fu v1 v3 v4 Y_now = some o_Y_now → va_P G.1 vwCl (W_Y G y0 y1 y2 y3 y4 y5 y6 y7 y8 y9 y10 y11 y12 y13 y14 y15 Y_br Y_fa Y_rbs Y_rfs Y_len Y_at Y_fau Y_wk Y_ac Y_nx Y_hs Y_sd Y_st Y_kd Y_fs Y_fl Y_now Y_rd Y_rb Y_rf Y_tx Y_row Y_hh Y_hl Y_hw Y_ik Y_kp) H → va_S A s.heap H locs → lv_has ls 6 [(0, .ref y0), (1, .int v1), (3, .int v3), (4, .int v4)] → W p l e (rmv 3 69) s m (List.toArray [.ref y0, .int u1, .int u2]) below meth c H locs 0 0 (MQ below ((QV G (W_Y G y0 y1 y2 y3 y4 y5 y6 y7 y8 y9 y10 y11 y12 y13 y14 y15 Y_br Y_fa Y_rbs Y_rfs Y_len Y_at Y_fau Y_wk Y_ac Y_nx Y_hs Y_sd Y_st Y_kd Y_fs Y_fl o_Y_now Y_rd Y_rb Y_rf Y_tx Y_row Y_hh Y_hl Y_hw Y_ik Y_kp)) A) (List.toArray [.ref y0, .int u1, .int u2]) s 0 0 A) (F0 m 52 ls []) := by
    intro  fu
    induction fu with
    | zero =>
      intro v1 v3 v4 Y_now H locs ls h
      cases h
    | succ fu ih =>
      intro v1 v3 v4 Y_now H locs ls h hP hS hl
      rw [f_X6_passOn_52] at h
      refine lv_iload hx hb dX6_passOn_52 (lv_at hl 3 rfl) ?_
      refine lv_aload_n hx hb dX6_passOn_54 rfl (lv_at hl 0 rfl) ?_
      refine va_get (ci := 6) (C := RX6) (T := TX6) (N := 27) hx hb hts inX6 hown hK.1 hP 0 rfl rfl 0 (by decide) fl93 (fun _ h9 => h9) rfl dX6_passOn_55 ?_
      refine lv_icmp_ge (tgt := 74) hx hb dX6_passOn_58 (by decide) (fun cc_21 => ?_) (fun cc_21 => ?_)
      · replace h := if_t cc_21 h
        refine lv_aload_n hx hb dX6_passOn_74 rfl (lv_at hl 0 rfl) ?_
        refine lv_iload_n hx hb dX6_passOn_75 rfl (lv_at hl 1 rfl) ?_
        obtain ⟨rr_22, ee_23, h⟩ := bnd1_s h
        refine cFi (As := [.int v1]) (rest := []) S0 hK hA hP (va_D_same hD rfl) hS (k_X6_kneesOn l G y0 y1 y2 y3 y4 y5 y6 y7 y8 y9 y10 y11 y12 y13 y14 y15 Y_br Y_fa Y_rbs Y_rfs Y_len Y_at Y_fau Y_wk Y_ac Y_nx Y_hs Y_sd Y_st Y_kd Y_fs Y_fl Y_now Y_rd Y_rb Y_rf Y_tx Y_row Y_hh Y_hl Y_hw Y_ik Y_kp v1 rr_22 ee_23) cw_X6_kneesOn 6 0 rfl rfl rfl rfl hl.1 rfl (Nat.le_of_ble_eq_true rfl) dX6_passOn_76 ⟨Nat.zero_le _, Nat.zero_le _⟩ (fun H locs hP hS => ?_)
        replace hP : va_P G.1 vwCl (W_Y G y0 y1 y2 y3 y4 y5 y6 y7 y8 y9 y10 y11 y12 y13 y14 y15 Y_br Y_fa Y_rbs Y_rfs Y_len Y_at Y_fau Y_wk Y_ac Y_nx Y_hs Y_sd Y_st Y_kd Y_fs Y_fl Y_now Y_rd Y_rb Y_rf Y_tx Y_row Y_hh Y_hl Y_hw Y_ik Y_kp) H := hP
        refine lv_istore (lv' := [(4, .int rr_22), (0, .ref y0), (1, .int v1), (3, .int v3)]) hx hb dX6_passOn_79 hl (by decide) rfl (fun ls hl => ?_)
        refine lv_iconst (v := 0) hx hb dX6_passOn_81 (by decide) ?_
        refine lv_istore (lv' := [(5, .int (0 : Int32)), (4, .int rr_22), (0, .ref y0), (1, .int v1), (3, .int v3)]) hx hb dX6_passOn_82 hl (by decide) rfl (fun ls hl => ?_)
        exact J_84  130 v1 v3 rr_22 (0 : Int32) Y_now _ _ _ h hP hS (lv_sub hl [2, 3, 4, 1, 0] rfl)
      · replace h := if_f cc_21 h
        refine lv_aload_n hx hb dX6_passOn_61 rfl (lv_at hl 0 rfl) ?_
        refine lv_iload_n hx hb dX6_passOn_62 rfl (lv_at hl 1 rfl) ?_
        refine lv_iload hx hb dX6_passOn_63 (lv_at hl 3 rfl) ?_
        obtain ⟨dd_24, ee_25, h⟩ := bnd1_s h
        refine cFv (As := [.int v1, .int v4]) (rest := []) S0 hK hA hP (va_D_same hD rfl) hS (k_X6_sweep l G y0 y1 y2 y3 y4 y5 y6 y7 y8 y9 y10 y11 y12 y13 y14 y15 Y_br Y_fa Y_rbs Y_rfs Y_len Y_at Y_fau Y_wk Y_ac Y_nx Y_hs Y_sd Y_st Y_kd Y_fs Y_fl Y_now Y_rd Y_rb Y_rf Y_tx Y_row Y_hh Y_hl Y_hw Y_ik Y_kp v1 v4 dd_24 ee_25) cw_X6_sweep 6 0 rfl rfl rfl rfl hl.1 rfl (Nat.le_of_ble_eq_true rfl) dX6_passOn_65 ⟨Nat.zero_le _, Nat.zero_le _⟩ (fun H locs hP hS => ?_)
        replace hP : va_P G.1 vwCl (W_Y G y0 y1 y2 y3 y4 y5 y6 y7 y8 y9 y10 y11 y12 y13 y14 y15 Y_br Y_fa Y_rbs Y_rfs Y_len Y_at Y_fau Y_wk Y_ac Y_nx Y_hs Y_sd Y_st Y_kd Y_fs Y_fl dd_24 Y_rd Y_rb Y_rf Y_tx Y_row Y_hh Y_hl Y_hw Y_ik Y_kp) H := hP
        refine lv_iinc (v := (v4 + 1)) (lv' := [(4, .int (v4 + 1)), (0, .ref y0), (1, .int v1), (3, .int v3)]) hx hb dX6_passOn_68 hl (k := 3) rfl rfl (by decide) rfl (fun ls hl => ?_)
        refine lv_goto (tgt := 52) hx hb dX6_passOn_71 (by decide) ?_
        exact ih v1 v3 (v4 + 1) dd_24 _ _ _ h hP hS (lv_sub hl [1, 2, 3, 0] rfl)
  have J_49 : ∀ (v1 : Int32) (v3 : Int32) (Y_now : Nat → Int32) (H : Heap) (locs : List Loc) (ls : Array Slot), f_X6_passOn_49 Y_br Y_fa Y_wk Y_st Y_kd Y_fs Y_fl v1 v3 Y_now = some o_Y_now → va_P G.1 vwCl (W_Y G y0 y1 y2 y3 y4 y5 y6 y7 y8 y9 y10 y11 y12 y13 y14 y15 Y_br Y_fa Y_rbs Y_rfs Y_len Y_at Y_fau Y_wk Y_ac Y_nx Y_hs Y_sd Y_st Y_kd Y_fs Y_fl Y_now Y_rd Y_rb Y_rf Y_tx Y_row Y_hh Y_hl Y_hw Y_ik Y_kp) H → va_S A s.heap H locs → lv_has ls 6 [(0, .ref y0), (1, .int v1), (3, .int v3)] → W p l e (rmv 3 69) s m (List.toArray [.ref y0, .int u1, .int u2]) below meth c H locs 0 0 (MQ below ((QV G (W_Y G y0 y1 y2 y3 y4 y5 y6 y7 y8 y9 y10 y11 y12 y13 y14 y15 Y_br Y_fa Y_rbs Y_rfs Y_len Y_at Y_fau Y_wk Y_ac Y_nx Y_hs Y_sd Y_st Y_kd Y_fs Y_fl o_Y_now Y_rd Y_rb Y_rf Y_tx Y_row Y_hh Y_hl Y_hw Y_ik Y_kp)) A) (List.toArray [.ref y0, .int u1, .int u2]) s 0 0 A) (F0 m 49 ls []) := by
    intro v1 v3 Y_now H locs ls h hP hS hl
    unfold f_X6_passOn_49 at h
    refine lv_iconst (v := 0) hx hb dX6_passOn_49 (by decide) ?_
    refine lv_istore (lv' := [(4, .int (0 : Int32)), (0, .ref y0), (1, .int v1), (3, .int v3)]) hx hb dX6_passOn_50 hl (by decide) rfl (fun ls hl => ?_)
    exact J_52  130 v1 v3 (0 : Int32) Y_now _ _ _ h hP hS (lv_sub hl [1, 2, 3, 0] rfl)
  unfold f_X6_passOn at h
  refine lv_bipush (v := 16) hx hb dX6_passOn_0 (by decide) ?_
  refine lv_iload_n hx hb dX6_passOn_2 rfl (lv_at hl 1 rfl) ?_
  refine lv_imul hx hb dX6_passOn_3 ?_
  refine lv_istore_n (lv' := [(3, .int ((16 : Int32) * u1)), (0, .ref y0), (1, .int u1), (2, .int u2)]) hx hb dX6_passOn_4 rfl hl (by decide) rfl (fun ls hl => ?_)
  refine lv_aload_n hx hb dX6_passOn_5 rfl (lv_at hl 1 rfl) ?_
  refine va_get (ci := 6) (C := RX6) (T := TX6) (N := 27) hx hb hts inX6 hown hK.1 hP 0 rfl rfl 1 (by decide) fl96 (fun _ h9 => h9) rfl dX6_passOn_6 ?_
  refine lv_if_le (tgt := 49) hx hb dX6_passOn_9 (by decide) (fun cc_26 => ?_) (fun cc_26 => ?_)
  · replace h := if_t cc_26 h
    exact J_49  u1 ((16 : Int32) * u1) Y_now _ _ _ h hP hS (lv_sub hl [1, 2, 0] rfl)
  · replace h := if_f cc_26 h
    refine lv_aload_n hx hb dX6_passOn_12 rfl (lv_at hl 1 rfl) ?_
    refine va_get (ci := 6) (C := RX6) (T := TX6) (N := 27) hx hb hts inX6 hown hK.1 hP 0 rfl rfl 6 (by decide) fl22 (fun _ h9 => h9) rfl dX6_passOn_13 ?_
    refine lv_iload_n hx hb dX6_passOn_16 rfl (lv_at hl 0 rfl) ?_
    refine lv_bipush (v := 15) hx hb dX6_passOn_17 (by decide) ?_
    refine lv_iadd hx hb dX6_passOn_19 ?_
    obtain ⟨zz_27, ee_28, h⟩ := bnd1_s h
    refine wIald hx hb hK hP 5 rfl ee_28 dX6_passOn_20 ?_
    refine lv_aload_n hx hb dX6_passOn_21 rfl (lv_at hl 1 rfl) ?_
    refine va_get (ci := 6) (C := RX6) (T := TX6) (N := 27) hx hb hts inX6 hown hK.1 hP 0 rfl rfl 1 (by decide) fl96 (fun _ h9 => h9) rfl dX6_passOn_22 ?_
    by_cases cc_29 : Y_fa = 0
    · cases (if_t cc_29 h)
    replace h := if_f cc_29 h
    refine lv_irem hx hb dX6_passOn_25 cc_29 ?_
    refine lv_istore (lv' := [(4, .int (zz_27 - zz_27 / Y_fa * Y_fa)), (3, .int ((16 : Int32) * u1)), (0, .ref y0), (1, .int u1), (2, .int u2)]) hx hb dX6_passOn_26 hl (by decide) rfl (fun ls hl => ?_)
    refine lv_aload_n hx hb dX6_passOn_28 rfl (lv_at hl 2 rfl) ?_
    refine lv_iload_n hx hb dX6_passOn_29 rfl (lv_at hl 3 rfl) ?_
    refine lv_aload_n hx hb dX6_passOn_30 rfl (lv_at hl 2 rfl) ?_
    refine va_get (ci := 6) (C := RX6) (T := TX6) (N := 27) hx hb hts inX6 hown hK.1 hP 0 rfl rfl 4 (by decide) fl16 (fun _ h9 => h9) rfl dX6_passOn_31 ?_
    refine lv_iload hx hb dX6_passOn_34 (lv_at hl 0 rfl) ?_
    obtain ⟨zz_30, ee_31, h⟩ := bnd1_s h
    refine wIald hx hb hK hP 3 rfl ee_31 dX6_passOn_36 ?_
    refine lv_iload_n hx hb dX6_passOn_37 rfl (lv_at hl 4 rfl) ?_
    refine lv_aload_n hx hb dX6_passOn_38 rfl (lv_at hl 2 rfl) ?_
    refine va_get (ci := 6) (C := RX6) (T := TX6) (N := 27) hx hb hts inX6 hown hK.1 hP 0 rfl rfl 5 (by decide) fl19 (fun _ h9 => h9) rfl dX6_passOn_39 ?_
    refine lv_iload hx hb dX6_passOn_42 (lv_at hl 0 rfl) ?_
    obtain ⟨zz_32, ee_33, h⟩ := bnd1_s h
    refine wIald hx hb hK hP 4 rfl ee_33 dX6_passOn_44 ?_
    refine lv_imul hx hb dX6_passOn_45 ?_
    obtain ⟨dd_34, ee_35, h⟩ := bnd1_s h
    refine cFv (As := [.int u1, .int zz_30, .int (u2 * zz_32)]) (rest := []) S0 hK hA hP (va_D_same hD rfl) hS (k_X6_add l G y0 y1 y2 y3 y4 y5 y6 y7 y8 y9 y10 y11 y12 y13 y14 y15 Y_br Y_fa Y_rbs Y_rfs Y_len Y_at Y_fau Y_wk Y_ac Y_nx Y_hs Y_sd Y_st Y_kd Y_fs Y_fl Y_now Y_rd Y_rb Y_rf Y_tx Y_row Y_hh Y_hl Y_hw Y_ik Y_kp u1 zz_30 (u2 * zz_32) dd_34 ee_35) cw_X6_add 6 0 rfl rfl rfl rfl hl.1 rfl (Nat.le_of_ble_eq_true rfl) dX6_passOn_46 ⟨Nat.zero_le _, Nat.zero_le _⟩ (fun H locs hP hS => ?_)
    replace hP : va_P G.1 vwCl (W_Y G y0 y1 y2 y3 y4 y5 y6 y7 y8 y9 y10 y11 y12 y13 y14 y15 Y_br Y_fa Y_rbs Y_rfs Y_len Y_at Y_fau Y_wk Y_ac Y_nx Y_hs Y_sd Y_st Y_kd Y_fs Y_fl dd_34 Y_rd Y_rb Y_rf Y_tx Y_row Y_hh Y_hl Y_hw Y_ik Y_kp) H := hP
    exact J_49  u1 ((16 : Int32) * u1) dd_34 _ _ _ h hP hS (lv_sub hl [2, 3, 1] rfl)
