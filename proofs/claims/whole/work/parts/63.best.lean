/-! where a broom had best go; the fewest who must bend -/
section BST
variable {br fa : Nat} {st kd fs fl : Nat → Nat} {g e : Nat}
theorem best_l {p : Nat → Nat} {N : Nat} {ng ne nt u v3 v4 v5 v6 : Int32} {nd np : Nat → Int32} {kk : Int32 → Int32 → Int32 → Int32 → Int32 → Int32 → Int32 → Int32 → Int32 → (Nat → Int32) → (Nat → Int32) → (Nat → Int32) → Option (Int32 × Int32 × Int32 × Int32 × (Nat → Int32) × (Nat → Int32) × (Nat → Int32))} (hT : TOK br fa st kd fs fl) (hN : N < 2 ^ 31) : ∀ (n i fu fv bd t : Nat) (d y : Nat → Nat) (de : Nat → Int32), i + n = N → n < fu → n < fv → bd + n < 2 ^ 30 → MOK br bd d p g e t → AG br d p g e t y 16 → ∃ (D y1 : Nat → Nat) (de' : Nat → Int32), f_X5_best_70 (nI br) (nI fa) (nF st) (nF kd) (nF fs) (nF fl) ng ne nt nd np kk fu u (nI N) v3 v4 v5 v6 (nI i) (nI g) (nI e) (nI t) (nF d) (nF p) de = (if v5 ≤ nI (smN D 8 0) then kk u (nI N) v3 v4 v5 (v6 + 1) (nI g) (nI e) (nI (t + n)) (nF D) (nF p) de' else kk u (nI N) v3 v6 (nI (smN D 8 0)) (v6 + 1) (nI g) (nI e) (nI (t + n)) (nF D) (nF p) de') ∧ f_X6_goOn_2 (nI br) (nI fa) 31 (nF st) (nF kd) (nF fs) (nF fl) fv (nI N) (nI i) (nF y) = some (nF y1) ∧ AG br D p g e (t + n) y1 16 ∧ FR y y1 16 ∧ MOK br (bd + n) D p g e (t + n)
  | 0, i, 0, fv, bd, t, d, y, de, _, hf, _, _, _, _ => absurd hf (Nat.not_lt_zero _)
  | 0, i, fu + 1, 0, bd, t, d, y, de, _, _, hf, _, _, _ => absurd hf (Nat.not_lt_zero _)
  | 0, i, fu + 1, fv + 1, bd, t, d, y, de, hi, _, _, _, hM, ha => by
    obtain rfl : i = N := by omega
    refine ⟨d, y, de, ?_, ?_, ha, FR.rf, hM⟩
    · rw [f_X5_best_70, if_pos (nI_le (Nat.le_refl _) hN), allDust1, bnd1_some, bnd1_some]
      rfl
    · rw [f_X6_goOn_2, if_pos (nI_le (Nat.le_refl _) hN)]
  | n + 1, i, 0, fv, bd, t, d, y, de, _, hf, _, _, _, _ => absurd hf (Nat.not_lt_zero _)
  | n + 1, i, fu + 1, 0, bd, t, d, y, de, _, _, hf, _, _, _ => absurd hf (Nat.not_lt_zero _)
  | n + 1, i, fu + 1, fv + 1, bd, t, d, y, de, hi, hf, hf2, hb, hM, ha => by
    obtain ⟨D, y1, de1, c1, c2, c3, c4, c5⟩ := dawn1 (times := 1) (lv := 1) (w := 31) hT hM (by omega) (by decide) (by decide) (by decide) ha de
    obtain ⟨D2, y2, de2, k1, k2, k3, k4, k5⟩ := best_l (p := p) (ng := ng) (ne := ne) (nt := nt) (u := u) (v3 := v3) (v4 := v4) (v5 := v5) (v6 := v6) (nd := nd) (np := np) (kk := kk) hT hN n (i + 1) fu fv (bd + 1) (t + 1) D y1 de1 (by omega) (by omega) (by omega) (by omega) c5 c3
    rw [show t + 1 + n = t + (n + 1) by omega] at k1 k3 k5
    rw [show bd + 1 + n = bd + (n + 1) by omega] at k5
    refine ⟨D2, y2, de2, ?_, ?_, k3, c4.tr k4, k5⟩
    · rw [f_X5_best_70, if_neg (nI_ge (by omega) hN), show f_X2_passDawn (nI g) (nI e) (nI t) (nF d) (nF p) de (nI br) (nI fa) (nF st) (nF kd) (nF fs) (nF fl) 31 1 = _ from c1, bnd3_some, nI_1, k1]
    · rw [f_X6_goOn_2, if_neg (nI_ge (by omega) hN), show f_X6_passOn (nI br) (nI fa) 31 (nF st) (nF kd) (nF fs) (nF fl) (nF y) 1 1 = _ from c2, bnd1_some, nI_1, k2]
variable {bd t b N : Nat} {d p : Nat → Nat}
/-- one street is tried -/
theorem best_s {s fu fv : Nat} {rd rp y : Nat → Nat} {rg re rt v3 w l w' l' : Int32} {de : Nat → Int32} (hT : TOK br fa st kd fs fl) (hM : MOK br bd d p g e t) (hbd : bd + N < 2 ^ 30) (hN : N < 128) (hb : b < br) (hs : s < 8) (hrd : B99 rd) (ha : AG br d p g e t y 0) : ∃ (S : Nat) (rd2 rp2 y2 : Nat → Nat) (t2 : Int32) (de2 : Nat → Int32), S ≤ 792 ∧ f_X5_best_46 (nI br) (nI fa) (nF st) (nF kd) (nF fs) (nF fl) (nI g) (nI e) (nI t) (nF d) (nF p) (fu + 1) (nI b) (nI N) v3 w l (nI s) rg re rt (nF rd) (nF rp) de = (if l ≤ nI S then f_X5_best_46 (nI br) (nI fa) (nF st) (nF kd) (nF fs) (nF fl) (nI g) (nI e) (nI t) (nF d) (nF p) fu (nI b) (nI N) v3 w l (nI (s + 1)) (nI g) (nI e) t2 (nF rd2) (nF rp2) de2 else f_X5_best_46 (nI br) (nI fa) (nF st) (nF kd) (nF fs) (nF fl) (nI g) (nI e) (nI t) (nF d) (nF p) fu (nI b) (nI N) v3 (nI s) (nI S) (nI (s + 1)) (nI g) (nI e) t2 (nF rd2) (nF rp2) de2) ∧ f_X6_best_47 (nI br) (nI fa) 31 (nF st) (nF kd) (nF fs) (nF fl) (fv + 1) (nI b) (nI N) v3 w' l' (nI s) (nF y) = (if l' ≤ nI S then f_X6_best_47 (nI br) (nI fa) 31 (nF st) (nF kd) (nF fs) (nF fl) fv (nI b) (nI N) v3 w' l' (nI (s + 1)) (nF y2) else f_X6_best_47 (nI br) (nI fa) 31 (nF st) (nF kd) (nF fs) (nF fl) fv (nI b) (nI N) v3 (nI s) (nI S) (nI (s + 1)) (nF y2)) ∧ B99 rd2 ∧ FR y y2 16 := by
  have hbr := hT.1
  have hM1 := trialM (rd := rd) (rp := rp) hT hM hrd
  have ha1 := (ha.lay (rd := rd) (rp := rp) hbr).p (v := s) hbr hb
  have hM2 : MOK br bd (cN d rd 0 0 8) (uN (cN p rp 0 0 5) b s) g e t := ⟨hM1.1, fun j hj => by
    unfold uN
    split
    · exact hs
    · exact hM1.2.1 j hj, hM1.2.2⟩
  obtain ⟨D, y1, de', k1, k2, k3, k4, k5⟩ := best_l (ng := nI g) (ne := nI e) (nt := nI t) (nd := nF d) (np := nF p) (u := nI b) (v3 := v3) (v4 := w) (v5 := l) (v6 := nI s) (kk := f_X5_best_46 (nI br) (nI fa) (nF st) (nF kd) (nF fs) (nF fl) (nI g) (nI e) (nI t) (nF d) (nF p) fu) hT (show N < 2 ^ 31 by omega) N 0 130 130 bd t _ _ de (Nat.zero_add N) (by omega) (by omega) hbd hM2 ha1
  have hS := smN_le k5.1 8 0
  have hdo := dustOn1 (lv := 1) (by decide) k3.1
  refine ⟨smN D 8 0, D, uN (cN p rp 0 0 5) b s, y1, nI (t + N), de', hS, ?_, ?_, k5.1, FR.lay.tr ((FR.u (by omega)).tr k4)⟩
  · rw [f_X5_best_46, if_neg (show ¬ (8 : Int32) ≤ nI s from nI_ge hs (by decide)), copy1 hM.2.2.1, bnd5_some]
    unfold f_X2_goTo
    rw [hasB1 br hbr b hb, bnd1_some, if_neg i1_0, wr_nF (by omega) (by decide), bnd1_some, bnd1_some, show (0 : Int32) = nI 0 from rfl, k1, nI_1]
  · rw [f_X6_best_47, if_neg (show ¬ (8 : Int32) ≤ nI s from nI_ge hs (by decide)), lay1, bnd1_some, show (24 : Int32) + nI b = nI (24 + b) from nI_add 24 b, wr_nF (by omega) (by decide), bnd1_some]
    unfold f_X6_goOn
    rw [show (0 : Int32) = nI 0 from rfl, show 24 + b = 16 + 8 + b from rfl, k2, bnd1_some, show f_X6_dustOn (nF y1) 1 = _ from hdo, bnd1_some]
    unfold f_X6_best_95 f_X6_best_111
    rw [nI_1]
    by_cases hc : l' ≤ nI (smN D 8 0)
    · rw [if_pos hc, if_pos hc, if_pos hc]
    · rw [if_neg hc, if_neg hc, if_neg hc]
theorem best_o {v3 : Int32} (hT : TOK br fa st kd fs fl) (hM : MOK br bd d p g e t) (hbd : bd + N < 2 ^ 30) (hN : N < 128) (hb : b < br) : ∀ (m s fu fv : Nat) (rd rp y : Nat → Nat) (rg re rt w l : Int32) (de : Nat → Int32), s + m = 8 → m < fu → m < fv → B99 rd → AG br d p g e t y 0 → ∃ (r g2 e2 t2 : Int32) (rd2 rp2 y2 : Nat → Nat) (de2 : Nat → Int32), f_X5_best_46 (nI br) (nI fa) (nF st) (nF kd) (nF fs) (nF fl) (nI g) (nI e) (nI t) (nF d) (nF p) fu (nI b) (nI N) v3 w l (nI s) rg re rt (nF rd) (nF rp) de = some (r, g2, e2, t2, nF rd2, nF rp2, de2) ∧ f_X6_best_47 (nI br) (nI fa) 31 (nF st) (nF kd) (nF fs) (nF fl) fv (nI b) (nI N) v3 w l (nI s) (nF y) = some (r, nF y2) ∧ B99 rd2 ∧ FR y y2 16
  | 0, s, 0, fv, rd, rp, y, rg, re, rt, w, l, de, _, hf, _, _, _ => absurd hf (Nat.not_lt_zero _)
  | 0, s, fu + 1, 0, rd, rp, y, rg, re, rt, w, l, de, _, _, hf, _, _ => absurd hf (Nat.not_lt_zero _)
  | 0, s, fu + 1, fv + 1, rd, rp, y, rg, re, rt, w, l, de, hs, _, _, hrd, ha => by
    obtain rfl : s = 8 := by omega
    rw [f_X5_best_46, if_pos (show (8 : Int32) ≤ nI 8 by decide), f_X6_best_47, if_pos (show (8 : Int32) ≤ nI 8 by decide)]
    by_cases h0 : v3 = 0
    · rw [if_pos h0, if_pos h0]
      exact ⟨w, rg, re, rt, rd, rp, y, de, rfl, rfl, hrd, FR.rf⟩
    · rw [if_neg h0, if_neg h0]
      exact ⟨l, rg, re, rt, rd, rp, y, de, rfl, rfl, hrd, FR.rf⟩
  | m + 1, s, 0, fv, rd, rp, y, rg, re, rt, w, l, de, _, hf, _, _, _ => absurd hf (Nat.not_lt_zero _)
  | m + 1, s, fu + 1, 0, rd, rp, y, rg, re, rt, w, l, de, _, _, hf, _, _ => absurd hf (Nat.not_lt_zero _)
  | m + 1, s, fu + 1, fv + 1, rd, rp, y, rg, re, rt, w, l, de, hs, hf, hf2, hrd, ha => by
    obtain ⟨S, rd2, rp2, y2, t2, de2, q1, q2, q3, q4, q5⟩ := best_s (fu := fu) (fv := fv) (rp := rp) (rg := rg) (re := re) (rt := rt) (v3 := v3) (w := w) (l := l) (w' := w) (l' := l) (de := de) hT hM hbd hN hb (show s < 8 by omega) hrd ha
    rw [q2, q3]
    by_cases hc : l ≤ nI S
    · rw [if_pos hc, if_pos hc]
      obtain ⟨r, a1, a2, a3, a4, a5, a6, a7, k1, k2, k3, k4⟩ := best_o (v3 := v3) hT hM hbd hN hb m (s + 1) fu fv rd2 rp2 y2 (nI g) (nI e) t2 w l de2 (by omega) (by omega) (by omega) q4 (ha.fr hT.1 q5)
      exact ⟨r, a1, a2, a3, a4, a5, a6, a7, k1, k2, k3, q5.tr k4⟩
    · rw [if_neg hc, if_neg hc]
      obtain ⟨r, a1, a2, a3, a4, a5, a6, a7, k1, k2, k3, k4⟩ := best_o (v3 := v3) hT hM hbd hN hb m (s + 1) fu fv rd2 rp2 y2 (nI g) (nI e) t2 (nI s) (nI S) de2 (by omega) (by omega) (by omega) q4 (ha.fr hT.1 q5)
      exact ⟨r, a1, a2, a3, a4, a5, a6, a7, k1, k2, k3, q5.tr k4⟩
theorem sim_best {rd rp y : Nat → Nat} {rg re rt : Int32} {de : Nat → Int32} (u v w : Int32) (hT : TOK br fa st kd fs fl) (hM : MOK br bd d p g e t) (hrd : B99 rd) (hbd : bd < 2 ^ 29) (ha : AG br d p g e t y 0) : ∃ (r g2 e2 t2 : Int32) (rd2 rp2 y2 : Nat → Nat) (de2 : Nat → Int32), f_X5_best (nI br) (nI fa) (nF st) (nF kd) (nF fs) (nF fl) (nI g) (nI e) (nI t) (nF d) (nF p) rg re rt (nF rd) (nF rp) de u v w = some (r, g2, e2, t2, nF rd2, nF rp2, de2) ∧ f_X6_best (nI br) (nI fa) 31 (nF st) (nF kd) (nF fs) (nF fl) (nF y) u v w = some (r, nF y2) ∧ B99 rd2 ∧ FR y y2 16 := by
  unfold f_X5_best f_X6_best
  rcases bothB u hT.1 with ⟨b, hb, rfl, h3, h4⟩ | ⟨h3, h4⟩
  · rw [h3, h4, bnd1_some, bnd1_some, if_neg i1_0, if_neg i1_0]
    rcases both v (a := 1) (b := 9) (by decide) (by decide) with ⟨N, a1, a2, rfl, a3, a4⟩ | ⟨a3, a4⟩
    · rw [show f_X5_within (nI N) (1 : Int32) (9 : Int32) = some 1 from a3, show f_X6_in (nI N).toInt64 (1 : Int64) (9 : Int64) = some 1 from a4, bnd1_some, bnd1_some, if_neg i1_0, if_neg i1_0]
      rcases both w (a := 0) (b := 1) (by decide) (by decide) with ⟨k, b1, b2, rfl, b3, b4⟩ | ⟨b3, b4⟩
      · rw [show f_X5_within (nI k) (0 : Int32) (1 : Int32) = some 1 from b3, show f_X6_in (nI k).toInt64 (0 : Int64) (1 : Int64) = some 1 from b4, bnd1_some, bnd1_some, if_neg i1_0, if_neg i1_0]
        obtain ⟨S, rd2, rp2, y2, t2, de2, q1, q2, q3, q4, q5⟩ := best_s (N := N) (s := 0) (fu := 129) (fv := 129) (rp := rp) (rg := rg) (re := re) (rt := rt) (v3 := nI k) (w := 0) (l := 793) (w' := -9) (l' := 9999) (de := de) hT hM (by omega) (by omega) hb (by decide) hrd ha
        rw [if_neg (show ¬ (793 : Int32) ≤ nI S from nI_ge (a := S) (b := 793) (by omega) (by decide))] at q2
        rw [if_neg (show ¬ (9999 : Int32) ≤ nI S from nI_ge (a := S) (b := 9999) (by omega) (by decide))] at q3
        obtain ⟨r, c1, c2, c3, c4, c5, c6, c7, k1, k2, k3, k4⟩ := best_o (v3 := nI k) hT hM (show bd + N < 2 ^ 30 by omega) (by omega) hb 7 1 129 129 rd2 rp2 y2 (nI g) (nI e) t2 (nI 0) (nI S) de2 rfl (by decide) (by decide) q4 (ha.fr hT.1 q5)
        refine ⟨r, c1, c2, c3, c4, c5, c6, c7, ?_, ?_, k3, q5.tr k4⟩
        · exact q2.trans k1
        · exact q3.trans k2
      · rw [show f_X5_within w (0 : Int32) (1 : Int32) = some 0 from b3, show f_X6_in w.toInt64 (0 : Int64) (1 : Int64) = some 0 from b4, bnd1_some, bnd1_some, if_pos rfl, if_pos rfl]
        exact ⟨-2, rg, re, rt, rd, rp, y, de, rfl, rfl, hrd, FR.rf⟩
    · rw [show f_X5_within v (1 : Int32) (9 : Int32) = some 0 from a3, show f_X6_in v.toInt64 (1 : Int64) (9 : Int64) = some 0 from a4, bnd1_some, bnd1_some, if_pos rfl, if_pos rfl]
      exact ⟨-2, rg, re, rt, rd, rp, y, de, rfl, rfl, hrd, FR.rf⟩
  · rw [h3, h4, bnd1_some, bnd1_some, if_pos rfl, if_pos rfl]
    exact ⟨-1, rg, re, rt, rd, rp, y, de, rfl, rfl, hrd, FR.rf⟩
end BST
