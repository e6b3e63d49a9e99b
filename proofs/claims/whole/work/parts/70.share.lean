section SHR
variable {br fa : Nat} {st kd fs fl : Nat → Nat} {bd g e t : Nat} {d p : Nat → Nat}
theorem smB {d : Nat → Nat} (h : B99 d) : smN d 8 0 ≤ 792 := smN_le h 8 0
theorem dustBy1 {y y1 D P : Nat → Nat} {g e t w : Nat} {wk : Int32} (h : (bnd1 (f_X6_layTrial (nF y)) fun q => f_X6_goOn (nI br) (nI fa) (nI w) (nF st) (nF kd) (nF fs) (nF fl) q (nI 6)) = some (nF y1)) (ha : AG br D P g e t y1 16) : f_X6_dustBy (nI br) (nI fa) wk (nF st) (nF kd) (nF fs) (nF fl) (nF y) (nI w) = some (nI (smN D 8 0), 31, nF y1) := by
  unfold f_X6_dustBy
  rw [lay1, bnd1_some] at h
  rw [lay1, bnd1_some, show (6 : Int32) = nI 6 from rfl, h, bnd1_some, show f_X6_dustOn (nF y1) (1 : Int32) = _ from dustOn1 (lv := 1) (by decide) ha.1, bnd1_some]
theorem share_l {u : Int32} {b : Nat} (hT : TOK br fa st kd fs fl) (hM : MOK br bd d p g e t) (hbd : bd < 2 ^ 29) (hb : b < br) : ∀ (m i fu fv : Nat) (S : Int) (v4 : Int64) (v3 : Int32) (ra rb y : Nat → Nat) (rg re rt : Int32) (de : Nat → Int32), i + m = 2 ^ br → m < fu → m < fv → -(19008 * (i : Int)) ≤ S → S ≤ 19008 * (i : Int) → v4.toInt = S → v3.toInt = S → B99 ra → AG br d p g e t y 0 → ∃ (r g2 e2 t2 : Int32) (rd2 rp2 y2 : Nat → Nat) (de2 : Nat → Int32), f_X5_share_23 (nI br) (nI fa) (nF st) (nF kd) (nF fs) (nF fl) (nI g) (nI e) (nI t) (nF d) (nF p) fu u (nI (2 ^ b)) v4 (nI i) rg re rt (nF ra) (nF rb) de = some (r, g2, e2, t2, nF rd2, nF rp2, de2) ∧ f_X6_share_15 (nI br) (nI fa) (nF st) (nF kd) (nF fs) (nF fl) fv (nI b) u v3 (nI i) 31 (nF y) = some (r, 31, nF y2) ∧ B99 rd2 ∧ FR y y2 16
  | 0, i, 0, fv, S, v4, v3, ra, rb, y, rg, re, rt, de, _, hf, _, _, _, _, _, _, _ => absurd hf (Nat.not_lt_zero _)
  | 0, i, fu + 1, 0, S, v4, v3, ra, rb, y, rg, re, rt, de, _, _, hf, _, _, _, _, _, _ => absurd hf (Nat.not_lt_zero _)
  | 0, i, fu + 1, fv + 1, S, v4, v3, ra, rb, y, rg, re, rt, de, hi, _, _, s1, s2, h4, h3, hra, ha => by
    have hbr := hT.1
    have h32 := pow_le hbr
    obtain rfl : i = 2 ^ br := by omega
    obtain ⟨f1, f2, f3⟩ := fac5 br hbr
    obtain ⟨gg, q1, q2, q3, q4⟩ := frac (u := u) h4 h3 (by omega) (by omega) f2 (by omega)
    refine ⟨if u = 0 then nI (faN br / gg) else v3 / nI gg, rg, re, rt, ra, rb, y, de, ?_, ?_, hra, FR.rf⟩
    · rw [f_X5_share_23, shl1 br hbr, if_pos (nI_le (Nat.le_refl _) (by omega)), f1, bnd1_some, q3, bnd1_some]
    · rw [f_X6_share_15, shl1 br hbr, if_pos (nI_le (Nat.le_refl _) (by omega)), fac6 br hbr]
      simp only [bnd1_some, q4, if_neg (nI_ne0 q1 (show gg < 2 ^ 31 by omega)), pk_div (show faN br < 2 ^ 31 by omega) q1 (show gg < 2 ^ 31 by omega)]
      by_cases hu : u = 0
      · rw [if_pos hu, if_pos hu]
      · rw [if_neg hu, if_neg hu]
  | m + 1, i, 0, fv, S, v4, v3, ra, rb, y, rg, re, rt, de, _, hf, _, _, _, _, _, _, _ => absurd hf (Nat.not_lt_zero _)
  | m + 1, i, fu + 1, 0, S, v4, v3, ra, rb, y, rg, re, rt, de, _, _, hf, _, _, _, _, _, _ => absurd hf (Nat.not_lt_zero _)
  | m + 1, i, fu + 1, fv + 1, S, v4, v3, ra, rb, y, rg, re, rt, de, hi, hf, hf2, s1, s2, h4, h3, hra, ha => by
    have hbr := hT.1
    have h32 := pow_le hbr
    obtain ⟨m1, m2⟩ := msk br hbr b hb i (by omega)
    rw [f_X5_share_23, shl1 br hbr, if_neg (nI_ge (by omega) (by omega)), f_X6_share_15, shl1 br hbr, if_neg (nI_ge (by omega) (by omega)), has1 i (by omega) b (by omega), bnd1_some]
    unfold f_X5_share_93 f_X6_share_84
    cases hbit : bitN i b
    · have hc := m2 hbit
      obtain ⟨o1, o2⟩ := or1 i (by omega) b (by omega)
      have o3 : nI i ||| nI (2 ^ b) = nI (i ||| 2 ^ b) := by
        rw [← shl1 b (by omega)]
        exact o1
      obtain ⟨w1, w2⟩ := ord5 br hbr (pcN i) hc
      obtain ⟨D, y1, de1, c1, c2, c3, c4, c5⟩ := behind1 (w := i) (n := 6) (rp := rb) (rg := rg) (re := re) (rt := rt) de hT hM hra (by omega) (by decide) (by omega) ha
      obtain ⟨D2, y2, de2, e1, e2, e3, e4, e5⟩ := behind1 (w := i ||| 2 ^ b) (n := 6) (rp := cN p rb 0 0 5) (rg := nI g) (re := nI e) (rt := nI (t + 6)) de1 hT hM c5.1 o2 (by decide) (by omega) (ha.fr hbr c4)
      have hA := smB c5.1
      have hB := smB e5.1
      obtain ⟨b1, b2⟩ := upB (A := smN D 8 0) (B := smN D2 8 0) (o := faN (pcN i) * faN (br - 1 - pcN i)) s1 s2 hA hB w2
      obtain ⟨r, a1, a2, a3, a4, a5, a6, a7, k1, k2, k3, k4⟩ := share_l (u := u) hT hM hbd hb m (i + 1) fu fv _ (v4 + (nI (smN D 8 0) - nI (smN D2 8 0)).toInt64 * lN (faN (pcN i) * faN (br - 1 - pcN i))) (v3 + nI (faN (pcN i) * faN (br - 1 - pcN i)) * (nI (smN D 8 0) - nI (smN D2 8 0))) D2 (cN p (cN p rb 0 0 5) 0 0 5) y2 (nI g) (nI e) (nI (t + 6)) de2 (by omega) (by omega) (by omega) b1 b2 (up4 h4 (by omega) (by omega) hA hB w2) (up3 h3 (by omega) (by omega) hA hB w2) e5.1 ((ha.fr hbr c4).fr hbr e4)
      refine ⟨r, a1, a2, a3, a4, a5, a6, a7, ?_, ?_, k3, (c4.tr e4).tr k4⟩
      · rw [if_pos (m1.mpr hbit), show (6 : Int32) = nI 6 from rfl, c1, bnd6_some, allDust1, bnd1_some, o3, e1, bnd6_some, allDust1, bnd1_some, pc1 i (by omega), bnd1_some, w1, bnd1_some, nI_1, k1]
      · rw [if_pos (by decide), pcM i (by omega), bnd1_some, fac6 (pcN i) (by omega), bnd1_some, bnd1_some, show nI br - 1 = nI (br - 1) from pk_sub (b := 1) (by omega), pk_sub (by omega), fac6 (br - 1 - pcN i) (by omega), bnd1_some, dustBy1 c2 c3, bnd3_some, o1, dustBy1 e2 e3, bnd3_some, pk_mul, nI_1, k2]
    · obtain ⟨r, a1, a2, a3, a4, a5, a6, a7, k1, k2, k3, k4⟩ := share_l (u := u) hT hM hbd hb m (i + 1) fu fv S v4 v3 ra rb y rg re rt de (by omega) (by omega) (by omega) (by omega) (by omega) h4 h3 hra ha
      refine ⟨r, a1, a2, a3, a4, a5, a6, a7, ?_, ?_, k3, k4⟩
      · rw [if_neg (fun q => by rw [m1.mp q] at hbit; cases hbit), nI_1, k1]
      · rw [if_neg (by decide), nI_1, k2]
theorem sim_share {rd rp y : Nat → Nat} {rg re rt : Int32} {de : Nat → Int32} (u v : Int32) (hT : TOK br fa st kd fs fl) (hM : MOK br bd d p g e t) (hrd : B99 rd) (hbd : bd < 2 ^ 29) (ha : AG br d p g e t y 0) : ∃ (r g2 e2 t2 : Int32) (rd2 rp2 y2 : Nat → Nat) (de2 : Nat → Int32), f_X5_share (nI br) (nI fa) (nF st) (nF kd) (nF fs) (nF fl) (nI g) (nI e) (nI t) (nF d) (nF p) rg re rt (nF rd) (nF rp) de u v = some (r, g2, e2, t2, nF rd2, nF rp2, de2) ∧ f_X6_share (nI br) (nI fa) 31 (nF st) (nF kd) (nF fs) (nF fl) (nF y) u v = some (r, 31, nF y2) ∧ B99 rd2 ∧ FR y y2 16 := by
  unfold f_X5_share f_X6_share
  rcases bothB u hT.1 with ⟨b, hb, rfl, h3, h4⟩ | ⟨h3, h4⟩
  · have hbr := hT.1
    have h32 := pow_le hbr
    rw [h3, h4, bnd1_some, bnd1_some, if_neg i1_0, if_neg i1_0, shl1 b (by omega), show (0 : Int32) = nI 0 from rfl]
    exact share_l hT hM hbd hb (2 ^ br) 0 130 130 0 0 (nI 0) rd rp y rg re rt de (Nat.zero_add _) (by omega) (by omega) (by decide) (by decide) (by decide) (by decide) hrd ha
  · rw [h3, h4, bnd1_some, bnd1_some, if_pos rfl, if_pos rfl]
    exact ⟨-1, rg, re, rt, rd, rp, y, de, rfl, rfl, hrd, FR.rf⟩
end SHR
