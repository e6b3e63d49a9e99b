set_option maxRecDepth 100000 in
set_option maxHeartbeats 8000000 in
theorem law_loop {p : Program} {l : Launch} {e : Env} {s : State} {m : MethodId} {below : List Frame} {meth : Method} {c : Code} {b L : Nat} {xs : Nat → Int32} {G : Gt} {ad ay : Nat → Nat} (X : LC p s m meth c b L xs G) (hr : meth.sig.returnType = ret) (hlocks : meth.locks = false) (hDD : DD s ad ay) :
    ∀ (n i bd : Nat) (w v : va_W) (H : Heap) (locs : List Loc) (ls : Array Slot), L + 1 ≤ i + n → i ≤ L → bd ≤ i → ST G ad ay bd w v → va_P G.1 vwCl w H → va_P G.1 vwCl v H → va_S (fun q : Nat => s.heap.size ≤ q) s.heap H locs → lv_has ls 4 [(0, .ref b), (1, .ref (ad 0)), (2, .ref (ay 0)), (3, .int (nI i))] → W p l e room_1 s m #[Value.ref b] below meth c H locs 42 875 (lw_Z below #[Value.ref b] s) (F0 m 18 ls []) := by
  have X' := X
  obtain ⟨hx, hb, hml, hown, hts, hX, hbl, hK, hL⟩ := X'
  have hbA : ¬ (fun q : Nat => s.heap.size ≤ q) b := Nat.not_le.mpr hbl
  intro n
  induction n with
  | zero =>
    intro i bd w v H locs ls h1 h2
    omega
  | succ n ih =>
    intro i bd w v H locs ls h1 h2 h3 h hP hP2 hS hl
    refine lv_iload_n hx hb dL_law_18 rfl (lv_at hl 3 rfl) ?_
    refine lv_aload_n hx hb dL_law_19 rfl (lv_at hl 0 rfl) ?_
    refine va_slen hx hb hX hbl hbA hS dL_law_20 ?_
    refine lv_iconst (v := 5) hx hb dL_law_21 (by decide) ?_
    refine lv_isub hx hb dL_law_22 ?_
    refine lv_icmp_gt (tgt := 1010) hx hb dL_law_23 (by decide) (fun _ => ?_) (fun c0 => ?_)
    · refine lv_iconst (v := 1) hx hb dL_law_1010 (by decide) ?_
      refine va_forget (fun q hq => hS.2.2 q hq) ?_
      exact lw_ret hx hb hr hlocks dL_law_1011
    · have hi5 : i + 5 ≤ L := by
        have e1 : (Int32.ofNat L - 5).toInt = (L : Int) - 5 := pk_sub_toInt (a := L) (b := 5) (by omega) (by decide)
        have e2 : ¬ (Int32.ofNat L - 5).toInt < (nI i).toInt := fun q => c0 (Int32.lt_iff_toInt_lt.mpr q)
        rw [e1, nI_toInt (by omega)] at e2
        omega
      have vi0 : vp_in (nI i) L := vp_in_nI (by omega) (by omega)
      have hbd : bd < 2 ^ 29 := by omega
      have kk : LKK p l e s m below meth c b G ad ay bd ls (lw_Z below #[Value.ref b] s) := by
        intro w2 v2 H locs h2 hP hP2 hS
        refine lv_iinc (v := (nI i + 5)) (lv' := [(3, .int (nI i + 5)), (0, .ref b), (1, .ref (ad 0)), (2, .ref (ay 0))]) hx hb dL_law_1004 hl (k := 3) rfl rfl (by decide) rfl (fun ls hl => ?_)
        refine lv_goto (tgt := 18) hx hb dL_law_1007 (by decide) ?_
        rw [show nI i + 5 = nI (i + 5) from nI_add i 5] at hl
        exact ih (i + 5) (bd + 1) w2 v2 H locs ls (by omega) (by omega) (by omega) h2 hP hP2 hS (lv_sub hl [1, 2, 3, 0] rfl)
      refine lv_aload_n hx hb dL_law_26 rfl (lv_at hl 0 rfl) ?_
      refine lv_iload_n hx hb dL_law_27 rfl (lv_at hl 3 rfl) ?_
      refine va_sld hx hb hX hbl hbA hS vi0 dL_law_28 ?_
      refine lv_bipush (v := 31) hx hb dL_law_29 (by decide) ?_
      refine lv_iand hx hb dL_law_31 ?_
      obtain ⟨j, hj, ej⟩ := pk_andE (xs (nI i).toNatClampNeg) (m := 31) 5 (by decide)
      rw [ej]
      by_cases c0 : j = 0
      · subst c0
        exact lv_tableIn (off := 132) (tgt := 164) hx hb dL_law_32 (by decide) (by decide) rfl (by decide) (L_write X hi5 h hbd hP hP2 hDD hS hl kk)
      by_cases c1 : j = 1
      · subst c1
        exact lv_tableIn (off := 155) (tgt := 187) hx hb dL_law_32 (by decide) (by decide) rfl (by decide) (L_wipe X hi5 h hbd hP hP2 hDD hS hl kk)
      by_cases c2 : j = 2
      · subst c2
        exact lv_tableIn (off := 168) (tgt := 200) hx hb dL_law_32 (by decide) (by decide) rfl (by decide) (L_fault X hi5 h hbd hP hP2 hDD hS hl kk)
      by_cases c3 : j = 3
      · subst c3
        exact lv_tableIn (off := 181) (tgt := 213) hx hb dL_law_32 (by decide) (by decide) rfl (by decide) (L_city X hi5 h hbd hP hP2 hDD hS hl kk)
      by_cases c4 : j = 4
      · subst c4
        exact lv_tableIn (off := 194) (tgt := 226) hx hb dL_law_32 (by decide) (by decide) rfl (by decide) (L_street X hi5 h hbd hP hP2 hDD hS hl kk)
      by_cases c5 : j = 5
      · subst c5
        exact lv_tableIn (off := 227) (tgt := 259) hx hb dL_law_32 (by decide) (by decide) rfl (by decide) (L_broom X hi5 h hbd hP hP2 hDD hS hl kk)
      by_cases c6 : j = 6
      · subst c6
        exact lv_tableIn (off := 260) (tgt := 292) hx hb dL_law_32 (by decide) (by decide) rfl (by decide) (L_dawn X hi5 h hbd hP hP2 hDD hS hl kk)
      by_cases c7 : j = 7
      · subst c7
        exact lv_tableIn (off := 273) (tgt := 305) hx hb dL_law_32 (by decide) (by decide) rfl (by decide) (L_walk X hi5 h hbd hP hP2 hDD hS hl kk)
      by_cases c8 : j = 8
      · subst c8
        exact lv_tableIn (off := 306) (tgt := 338) hx hb dL_law_32 (by decide) (by decide) rfl (by decide) (L_vote X hi5 h hbd hP hP2 hDD hS hl kk)
      by_cases c9 : j = 9
      · subst c9
        exact lv_tableIn (off := 319) (tgt := 351) hx hb dL_law_32 (by decide) (by decide) rfl (by decide) (L_bend X hi5 h hbd hP hP2 hDD hS hl kk)
      by_cases c10 : j = 10
      · subst c10
        exact lv_tableIn (off := 342) (tgt := 374) hx hb dL_law_32 (by decide) (by decide) rfl (by decide) (L_hand X hi5 h hbd hP hP2 hDD hS hl kk)
      by_cases c11 : j = 11
      · subst c11
        exact lv_tableIn (off := 365) (tgt := 397) hx hb dL_law_32 (by decide) (by decide) rfl (by decide) (L_undo X hi5 h hbd hP hP2 hDD hS hl kk)
      by_cases c12 : j = 12
      · subst c12
        exact lv_tableIn (off := 378) (tgt := 410) hx hb dL_law_32 (by decide) (by decide) rfl (by decide) (L_dust X hi5 h hbd hP hP2 hDD hS hl kk)
      by_cases c13 : j = 13
      · subst c13
        exact lv_tableIn (off := 411) (tgt := 443) hx hb dL_law_32 (by decide) (by decide) rfl (by decide) (L_knees X hi5 h hbd hP hP2 hDD hS hl kk)
      by_cases c14 : j = 14
      · subst c14
        exact lv_tableIn (off := 434) (tgt := 466) hx hb dL_law_32 (by decide) (by decide) rfl (by decide) (L_knee X hi5 h hbd hP hP2 hDD hS hl kk)
      by_cases c15 : j = 15
      · subst c15
        exact lv_tableIn (off := 457) (tgt := 489) hx hb dL_law_32 (by decide) (by decide) rfl (by decide) (L_best X hi5 h hbd hP hP2 hDD hS hl kk)
      by_cases c16 : j = 16
      · subst c16
        exact lv_tableIn (off := 500) (tgt := 532) hx hb dL_law_32 (by decide) (by decide) rfl (by decide) (L_bends X hi5 h hbd hP hP2 hDD hS hl kk)
      by_cases c17 : j = 17
      · subst c17
        exact lv_tableIn (off := 523) (tgt := 555) hx hb dL_law_32 (by decide) (by decide) rfl (by decide) (L_judge X hi5 h hbd hP hP2 hDD hS hl kk)
      by_cases c18 : j = 18
      · subst c18
        exact lv_tableIn (off := 586) (tgt := 618) hx hb dL_law_32 (by decide) (by decide) rfl (by decide) (L_heap X hi5 h hbd hP hP2 hDD hS hl kk)
      by_cases c19 : j = 19
      · subst c19
        exact lv_tableIn (off := 629) (tgt := 661) hx hb dL_law_32 (by decide) (by decide) rfl (by decide) (L_unheap X hi5 h hbd hP hP2 hDD hS hl kk)
      by_cases c20 : j = 20
      · subst c20
        exact lv_tableIn (off := 642) (tgt := 674) hx hb dL_law_32 (by decide) (by decide) rfl (by decide) (L_whose X hi5 h hbd hP hP2 hDD hS hl kk)
      by_cases c21 : j = 21
      · subst c21
        exact lv_tableIn (off := 665) (tgt := 697) hx hb dL_law_32 (by decide) (by decide) rfl (by decide) (L_share X hi5 h hbd hP hP2 hDD hS hl kk)
      by_cases c22 : j = 22
      · subst c22
        exact lv_tableIn (off := 714) (tgt := 746) hx hb dL_law_32 (by decide) (by decide) rfl (by decide) (L_rests X hi5 h hbd hP hP2 hDD hS hl kk)
      by_cases c23 : j = 23
      · subst c23
        exact lv_tableIn (off := 757) (tgt := 789) hx hb dL_law_32 (by decide) (by decide) rfl (by decide) (L_twice X hi5 h hbd hP hP2 hDD hS hl kk)
      by_cases c24 : j = 24
      · subst c24
        exact lv_tableIn (off := 826) (tgt := 858) hx hb dL_law_32 (by decide) (by decide) rfl (by decide) (L_seed X hi5 h hbd hP hP2 hDD hS hl kk)
      by_cases c25 : j = 25
      · subst c25
        exact lv_tableIn (off := 880) (tgt := 912) hx hb dL_law_32 (by decide) (by decide) rfl (by decide) (L_years X hi5 h hbd hP hP2 hDD hS hl kk)
      by_cases c26 : j = 26
      · subst c26
        exact lv_tableIn (off := 903) (tgt := 935) hx hb dL_law_32 (by decide) (by decide) rfl (by decide) (L_keep X hi5 h hbd hP hP2 hDD hS hl kk)
      by_cases c27 : j = 27
      · subst c27
        exact lv_tableIn (off := 926) (tgt := 958) hx hb dL_law_32 (by decide) (by decide) rfl (by decide) (L_again X hi5 h hbd hP hP2 hDD hS hl kk)
      by_cases c28 : j = 28
      · subst c28
        exact lv_tableIn (off := 949) (tgt := 981) hx hb dL_law_32 (by decide) (by decide) rfl (by decide) (L_count X hi5 h hbd hP hP2 hDD hS hl kk)
      exact lv_tableOut (tgt := 1004) hx hb dL_law_32 (by rw [nI_toInt (by omega)]; omega) (by decide) (kk w v H locs h.up hP hP2 hS)
