/-! the fewest who must bend -/
theorem or32 : ∀ a, a < 32 → ∀ b, b < 32 → (nI a ||| nI b = nI (a ||| b) ∧ (a ||| b) < 32) := by decide +kernel
theorem shl1 : ∀ b, b < 6 → (1 : Int32) <<< (nI b &&& 31) = nI (2 ^ b) := by decide +kernel
theorem pow_le {b : Nat} (h : b < 6) : 2 ^ b ≤ 32 := by
  rcases (show b = 0 ∨ b = 1 ∨ b = 2 ∨ b = 3 ∨ b = 4 ∨ b = 5 by omega) with rfl | rfl | rfl | rfl | rfl | rfl <;> decide
theorem pcN_lt : ∀ e, e < 32 → pcN e < 6 := by decide +kernel
section BND
variable {br fa : Nat} {st kd fs fl : Nat → Nat} {g : Nat}
theorem shal_l {p : Nat → Nat} {e N : Nat} {ng ne nt : Int32} {nd np : Nat → Int32} (hT : TOK br fa st kd fs fl) (hN : N < 2 ^ 31) : ∀ (n i fu fv bd t : Nat) (d y : Nat → Nat) (de : Nat → Int32), i + n = N → n < fu → n < fv → bd + n < 2 ^ 30 → MOK br bd d p g e t → AG br d p g e t y 16 → ∃ (r : Nat) (t2 : Int32) (D y1 : Nat → Nat) (de' : Nat → Int32), r < 2 ∧ f_X5_staysShallow_13 (nI br) (nI fa) (nF st) (nF kd) (nF fs) (nF fl) ng ne nt nd np fu (nI N) (nI i) (nI g) (nI e) (nI t) (nF d) (nF p) de = some (nI r, nI g, nI e, t2, nF D, nF p, de') ∧ f_X6_keepsBelow_17 (nI br) (nI fa) 31 (nF st) (nF kd) (nF fs) (nF fl) fv (nI N) (nI i) (nF y) = some (nI r, nF y1) ∧ B99 D ∧ FR y y1 16
  | 0, i, 0, fv, bd, t, d, y, de, _, hf, _, _, _, _ => absurd hf (Nat.not_lt_zero _)
  | 0, i, fu + 1, 0, bd, t, d, y, de, _, _, hf, _, _, _ => absurd hf (Nat.not_lt_zero _)
  | 0, i, fu + 1, fv + 1, bd, t, d, y, de, hi, _, _, _, hM, ha => by
    obtain rfl : i = N := by omega
    refine ⟨1, nI t, d, y, de, by decide, ?_, ?_, hM.1, FR.rf⟩
    · rw [f_X5_staysShallow_13, if_pos (nI_le (Nat.le_refl _) hN)]
      rfl
    · rw [f_X6_keepsBelow_17, if_pos (nI_le (Nat.le_refl _) hN)]
      rfl
  | n + 1, i, 0, fv, bd, t, d, y, de, _, hf, _, _, _, _ => absurd hf (Nat.not_lt_zero _)
  | n + 1, i, fu + 1, 0, bd, t, d, y, de, _, _, hf, _, _, _ => absurd hf (Nat.not_lt_zero _)
  | n + 1, i, fu + 1, fv + 1, bd, t, d, y, de, hi, hf, hf2, hb, hM, ha => by
    obtain ⟨D, y1, de1, c1, c2, c3, c4, c5⟩ := dawn1 (times := 1) (lv := 1) (w := 31) hT hM (by omega) (by decide) (by decide) (by decide) ha de
    have kk := kneesOn1 (lv := 1) (by decide) c5.1 c3.1
    rw [f_X5_staysShallow_13, if_neg (nI_ge (by omega) hN), show f_X2_passDawn (nI g) (nI e) (nI t) (nF d) (nF p) de (nI br) (nI fa) (nF st) (nF kd) (nF fs) (nF fl) 31 1 = _ from c1, bnd3_some, firstDeep1 c5.1, bnd1_some, f_X6_keepsBelow_17, if_neg (nI_ge (by omega) hN), show f_X6_passOn (nI br) (nI fa) 31 (nF st) (nF kd) (nF fs) (nF fl) (nF y) 1 1 = _ from c2, bnd1_some, show f_X6_kneesOn (nF y1) 1 = _ from kk, bnd1_some]
    by_cases h0 : fsN (dpN D) = -9
    · rw [if_pos h0, if_pos ((kn_0 _).mpr h0), nI_1]
      obtain ⟨r, t2, D2, y2, de2, k0, k1, k2, k3, k4⟩ := shal_l (ng := ng) (ne := ne) (nt := nt) (nd := nd) (np := np) hT hN n (i + 1) fu fv (bd + 1) (t + 1) D y1 de1 (by omega) (by omega) (by omega) (by omega) c5 c3
      exact ⟨r, t2, D2, y2, de2, k0, k1, k2, k3, c4.tr k4⟩
    · rw [if_neg h0, if_neg (fun q => h0 ((kn_0 _).mp q))]
      exact ⟨0, nI (t + 1), D, y1, de1, by decide, rfl, rfl, c5.1, c4⟩
variable {bd t e N : Nat} {d p : Nat → Nat}
theorem shal1 {s : Nat} {rd rp y : Nat → Nat} {rg re rt : Int32} {de : Nat → Int32} (hT : TOK br fa st kd fs fl) (hM : MOK br bd d p g e t) (hbd : bd + N < 2 ^ 30) (hN : N < 128) (hs : s < 32) (hrd : B99 rd) (ha : AG br d p g e t y 0) : ∃ (r : Nat) (e2 t2 : Int32) (rd2 rp2 y2 : Nat → Nat) (de2 : Nat → Int32), r < 2 ∧ f_X5_staysShallow (nI br) (nI fa) (nF st) (nF kd) (nF fs) (nF fl) (nI g) (nI e) (nI t) (nF d) (nF p) rg re rt (nF rd) (nF rp) de (nI s) (nI N) = some (nI r, nI g, e2, t2, nF rd2, nF rp2, de2) ∧ f_X6_keepsBelow (nI br) (nI fa) 31 (nF st) (nF kd) (nF fs) (nF fl) (nF y) (nI s) (nI N) = some (nI r, nF y2) ∧ B99 rd2 ∧ FR y y2 16 := by
  obtain ⟨o1, o2⟩ := or32 e hM.2.2.2.1 s hs
  have hM1 := trialM (rd := rd) (rp := rp) hT hM hrd
  have hl := ha.lay (rd := rd) (rp := rp) hT.1
  have ha1 := hl.e (v := e ||| s) hT.1
  have hM2 : MOK br bd (cN d rd 0 0 8) (cN p rp 0 0 5) g (e ||| s) t := ⟨hM1.1, hM1.2.1, hM1.2.2.1, o2, hM1.2.2.2.2⟩
  obtain ⟨r, t2, D, y1, de', k0, k1, k2, k3, k4⟩ := shal_l (ng := nI g) (ne := nI e) (nt := nI t) (nd := nF d) (np := nF p) hT (show N < 2 ^ 31 by omega) N 0 130 130 bd t _ _ de (Nat.zero_add N) (by omega) (by omega) hbd hM2 ha1
  refine ⟨r, nI (e ||| s), t2, D, cN p rp 0 0 5, y1, de', k0, ?_, ?_, k3, FR.lay.tr ((FR.u (by omega)).tr k4)⟩
  · unfold f_X5_staysShallow f_X2_bow
    rw [copy1 hM.2.2.1, bnd5_some, bnd1_some, o1, show (0 : Int32) = nI 0 from rfl, k1]
  · unfold f_X6_keepsBelow
    rw [lay1, bnd1_some, show (30 : Int32) = nI (16 + 14) from rfl, rd_nF (by decide) (by decide), bnd1_some, hl.2.2.2.1, o1, wr_nF (by decide) (by decide), bnd1_some, show (0 : Int32) = nI 0 from rfl, k2]
/-- what was found so far, on both sides -/
def FN (F w : Int32) : Prop := (F = -9 ∧ w = 6) ∨ ∃ q, q < 32 ∧ F = nI q ∧ w = nI (pcN q)
theorem bends_o (hT : TOK br fa st kd fs fl) (hM : MOK br bd d p g e t) (hbd : bd + N < 2 ^ 30) (hN : N < 128) : ∀ (m s fu fv : Nat) (ra rb y : Nat → Nat) (rg re rt F w : Int32) (de : Nat → Int32), s + m = 2 ^ br → m < fu → m < fv → B99 ra → AG br d p g e t y 0 → FN F w → ∃ (r g2 e2 t2 : Int32) (rd2 rp2 y2 : Nat → Nat) (de2 : Nat → Int32), f_X5_bends_22 (nI br) (nI fa) (nF st) (nF kd) (nF fs) (nF fl) (nI g) (nI e) (nI t) (nF d) (nF p) fu (nI N) F w (nI s) rg re rt (nF ra) (nF rb) de = some (r, g2, e2, t2, nF rd2, nF rp2, de2) ∧ f_X6_bends_20 (nI br) (nI fa) 31 (nF st) (nF kd) (nF fs) (nF fl) fv (nI N) F (nI s) (nF y) = some (r, nF y2) ∧ B99 rd2 ∧ FR y y2 16
  | 0, s, 0, fv, ra, rb, y, rg, re, rt, F, w, de, _, hf, _, _, _, _ => absurd hf (Nat.not_lt_zero _)
  | 0, s, fu + 1, 0, ra, rb, y, rg, re, rt, F, w, de, _, _, hf, _, _, _ => absurd hf (Nat.not_lt_zero _)
  | 0, s, fu + 1, fv + 1, ra, rb, y, rg, re, rt, F, w, de, hs, _, _, hrd, ha, _ => by
    have h32 := pow_le hT.1
    obtain rfl : s = 2 ^ br := by omega
    rw [f_X5_bends_22, shl1 br hT.1, if_pos (nI_le (Nat.le_refl _) (by omega)), f_X6_bends_20, shl1 br hT.1, if_pos (nI_le (Nat.le_refl _) (by omega))]
    exact ⟨F, rg, re, rt, ra, rb, y, de, rfl, rfl, hrd, FR.rf⟩
  | m + 1, s, 0, fv, ra, rb, y, rg, re, rt, F, w, de, _, hf, _, _, _, _ => absurd hf (Nat.not_lt_zero _)
  | m + 1, s, fu + 1, 0, ra, rb, y, rg, re, rt, F, w, de, _, _, hf, _, _, _ => absurd hf (Nat.not_lt_zero _)
  | m + 1, s, fu + 1, fv + 1, ra, rb, y, rg, re, rt, F, w, de, hs, hf, hf2, hrd, ha, hF => by
    have h32 := pow_le hT.1
    have hs32 : s < 32 := by omega
    have next := fun (ra' rb' y' : Nat → Nat) (rg' re' rt' F' w' : Int32) (de' : Nat → Int32) (h1 : B99 ra') (h2 : FR y y' 16) (h3 : FN F' w') => bends_o hT hM hbd hN m (s + 1) fu fv ra' rb' y' rg' re' rt' F' w' de' (by omega) (by omega) (by omega) h1 (ha.fr hT.1 h2) h3
    have r14 : rd (nF y) 32 (14 : Int32) = some (nI e) := by
      rw [show (14 : Int32) = nI 14 from rfl, rd_nF (by omega) (by decide), show y 14 = e from ha.2.2.2.1]
    have hps := pcN_lt s hs32
    have hmod : ∀ Z, f_X6_bends_52 (nI br) (nI fa) 31 (nF st) (nF kd) (nF fs) (nF fl) (f_X6_bends_20 (nI br) (nI fa) 31 (nF st) (nF kd) (nF fs) (nF fl) fv) (nI N) F (nI s) (if w ≤ nI (pcN s) then 0 else 1) (nF y) = Z → f_X6_bends_20 (nI br) (nI fa) 31 (nF st) (nF kd) (nF fs) (nF fl) (fv + 1) (nI N) F (nI s) (nF y) = Z := by
      intro Z hZ
      rw [f_X6_bends_20, shl1 br hT.1, if_neg (nI_ge (by omega) (by omega))]
      unfold f_X6_bends_47
      rcases hF with ⟨rfl, rfl⟩ | ⟨q, hq, rfl, rfl⟩
      · rw [if_neg (show ¬ (6 : Int32) ≤ nI (pcN s) from nI_ge (b := 6) hps (by decide))] at hZ
        rw [if_pos rfl]
        exact hZ
      · have hpq := pcN_lt q hq
        rw [if_neg (fun z => by have := congrArg Int32.toInt z; rw [nI_toInt (by omega)] at this; have h9 : (-9 : Int32).toInt = -9 := by decide
                                omega), pcM s (by omega), bnd1_some, pcM q (by omega), bnd1_some]
        by_cases hc : nI (pcN q) ≤ nI (pcN s)
        · rw [if_pos hc] at hZ ⊢
          exact hZ
        · rw [if_neg hc] at hZ ⊢
          exact hZ
    rw [f_X5_bends_22, shl1 br hT.1, if_neg (nI_ge (by omega) (by omega))]
    unfold f_X5_bends_54 f_X5_bends_89
    rw [pc1 s (by omega), bnd1_some, nI_1]
    by_cases few : w ≤ nI (pcN s)
    · rw [if_pos few]
      obtain ⟨r, b1, b2, b3, b4, b5, b6, b7, k1, k2, k3, k4⟩ := next ra rb y rg re rt F w de hrd FR.rf hF
      refine ⟨r, b1, b2, b3, b4, b5, b6, b7, ?_, hmod _ ?_, k3, k4⟩
      · rw [k1]
        simp only [ite_self]
      · rw [if_pos few]
        unfold f_X6_bends_52 f_X6_bends_84 f_X6_bends_85
        rw [if_pos rfl, nI_1, k2]
    · rw [if_neg few]
      by_cases free : (nI s &&& nI e) = 0
      · rw [if_pos free, if_neg i1_0]
        obtain ⟨r, e2, t2, ra2, rb2, y2, de2, j0, j1, j2, j3, j4⟩ := shal1 (rd := ra) (rp := rb) (rg := rg) (re := re) (rt := rt) (de := de) hT hM hbd hN hs32 hrd ha
        rw [j1, bnd7_some]
        have hm2 : ∀ Z, (if nI r = 0 then f_X6_bends_20 (nI br) (nI fa) 31 (nF st) (nF kd) (nF fs) (nF fl) fv (nI N) F (nI (s + 1)) (nF y2) else f_X6_bends_20 (nI br) (nI fa) 31 (nF st) (nF kd) (nF fs) (nF fl) fv (nI N) (nI s) (nI (s + 1)) (nF y2)) = Z → f_X6_bends_52 (nI br) (nI fa) 31 (nF st) (nF kd) (nF fs) (nF fl) (f_X6_bends_20 (nI br) (nI fa) 31 (nF st) (nF kd) (nF fs) (nF fl) fv) (nI N) F (nI s) (if w ≤ nI (pcN s) then 0 else 1) (nF y) = Z := by
          intro Z hZ
          rw [if_neg few]
          unfold f_X6_bends_52 f_X6_bends_84 f_X6_bends_85
          rw [if_neg i1_0, r14, bnd1_some, if_pos free, j2, bnd2_some, nI_1]
          exact hZ
        rcases (show r = 0 ∨ r = 1 by omega) with rfl | rfl
        · obtain ⟨r, b1, b2, b3, b4, b5, b6, b7, k1, k2, k3, k4⟩ := next ra2 rb2 y2 (nI g) e2 t2 F w de2 j3 j4 hF
          refine ⟨r, b1, b2, b3, b4, b5, b6, b7, ?_, hmod _ (hm2 _ ?_), k3, j4.tr k4⟩
          · rw [if_pos (show nI 0 = 0 from rfl), k1]
          · rw [if_pos (show nI 0 = 0 from rfl), k2]
        · obtain ⟨r, b1, b2, b3, b4, b5, b6, b7, k1, k2, k3, k4⟩ := next ra2 rb2 y2 (nI g) e2 t2 (nI s) (nI (pcN s)) de2 j3 j4 (Or.inr ⟨s, hs32, rfl, rfl⟩)
          refine ⟨r, b1, b2, b3, b4, b5, b6, b7, ?_, hmod _ (hm2 _ ?_), k3, j4.tr k4⟩
          · rw [if_neg (show ¬ nI 1 = 0 by decide), bnd1_some, k1]
          · rw [if_neg (show ¬ nI 1 = 0 by decide), k2]
      · rw [if_neg free, if_pos rfl]
        obtain ⟨r, b1, b2, b3, b4, b5, b6, b7, k1, k2, k3, k4⟩ := next ra rb y rg re rt F w de hrd FR.rf hF
        refine ⟨r, b1, b2, b3, b4, b5, b6, b7, k1, hmod _ ?_, k3, k4⟩
        rw [if_neg few]
        unfold f_X6_bends_52 f_X6_bends_84 f_X6_bends_85
        rw [if_neg i1_0, r14, bnd1_some, if_neg free, nI_1, k2]
theorem sim_bends {rd rp y : Nat → Nat} {rg re rt : Int32} {de : Nat → Int32} (v : Int32) (hT : TOK br fa st kd fs fl) (hM : MOK br bd d p g e t) (hrd : B99 rd) (hbd : bd < 2 ^ 29) (ha : AG br d p g e t y 0) : ∃ (r g2 e2 t2 : Int32) (rd2 rp2 y2 : Nat → Nat) (de2 : Nat → Int32), f_X5_bends (nI br) (nI fa) (nF st) (nF kd) (nF fs) (nF fl) (nI g) (nI e) (nI t) (nF d) (nF p) rg re rt (nF rd) (nF rp) de v = some (r, g2, e2, t2, nF rd2, nF rp2, de2) ∧ f_X6_bends (nI br) (nI fa) 31 (nF st) (nF kd) (nF fs) (nF fl) (nF y) v = some (r, nF y2) ∧ B99 rd2 ∧ FR y y2 16 := by
  unfold f_X5_bends f_X6_bends
  rcases both v (a := 1) (b := 9) (by decide) (by decide) with ⟨N, a1, a2, rfl, a3, a4⟩ | ⟨a3, a4⟩
  · rw [show f_X5_within (nI N) (1 : Int32) (9 : Int32) = some 1 from a3, show f_X6_in (nI N).toInt64 (1 : Int64) (9 : Int64) = some 1 from a4, bnd1_some, bnd1_some, if_neg i1_0, if_neg i1_0]
    have h32 := pow_le hT.1
    obtain ⟨r, b1, b2, b3, b4, b5, b6, b7, k1, k2, k3, k4⟩ := bends_o hT hM (show bd + N < 2 ^ 30 by omega) (show N < 128 by omega) (2 ^ br) 0 130 130 rd rp y rg re rt (-9) 6 de (Nat.zero_add _) (by omega) (by omega) hrd ha (Or.inl ⟨rfl, rfl⟩)
    rw [show (0 : Int32) = nI 0 from rfl]
    exact ⟨r, b1, b2, b3, b4, b5, b6, b7, k1, k2, k3, k4⟩
  · rw [show f_X5_within v (1 : Int32) (9 : Int32) = some 0 from a3, show f_X6_in v.toInt64 (1 : Int64) (9 : Int64) = some 0 from a4, bnd1_some, bnd1_some, if_pos rfl, if_pos rfl]
    exact ⟨-2, rg, re, rt, rd, rp, y, de, rfl, rfl, hrd, FR.rf⟩
end BND
