section CTZ
variable {len : Nat} {tx : Nat → Nat}
theorem c131 {B F : Nat} {x1 x2 x3 x4 x5 : Int32} {st kd r8 rb rf y : Nat → Int32} {fs' fl' jf : Nat → Nat} (hF : F ≤ 5) (hP : PF F fs' fl' rf) : ∀ (n j fu : Nat) (fs fl : Nat → Nat), j + n = F → n < fu → (∀ k, (k < j ∨ F ≤ k) → fs k = fs' k ∧ fl k = fl' k) → f_X6_city_131 (nI len) (nF tx) fu (nI j) (nI B) (nI F) x1 x2 x3 x4 x5 st kd (nF fs) (nF fl) y r8 rb rf (nF jf) = some (10 * nI B + nI F, nI B, nI F, x1, x2, x3, x4, 0, st, kd, nF fs', nF fl', y, r8, rb, rf, nF (uN (uN jf 0 0) 1 0))
  | 0, j, 0, fs, fl, _, hf, _ => absurd hf (Nat.not_lt_zero _)
  | 0, j, fu + 1, fs, fl, hi, _, h => by
    obtain rfl : j = F := by omega
    have e1 : fs = fs' := funext fun k => (h k (by omega)).1
    have e2 : fl = fl' := funext fun k => (h k (by omega)).2
    subst e1
    subst e2
    rw [f_X6_city_131, if_pos (nI_le (Nat.le_refl _) (by omega)), show ((0 : Int32) &&& 1) = nI 0 from rfl, show wr (nF jf) 2 (0 : Int32) (nI 0) = some (nF (uN jf 0 0)) from wr_nF (i := 0) (by decide) (by decide), bnd1_some, show wr (nF (uN jf 0 0)) 2 (1 : Int32) (nI 0) = some (nF (uN (uN jf 0 0) 1 0)) from wr_nF (i := 1) (by decide) (by decide), bnd1_some]
  | n + 1, j, 0, fs, fl, _, hf, _ => absurd hf (Nat.not_lt_zero _)
  | n + 1, j, fu + 1, fs, fl, hi, hf, h => by
    obtain ⟨p1, p2, p3, p4⟩ := hP j (by omega)
    rw [f_X6_city_131, if_neg (nI_ge (by omega) (by omega)), m2, nI_1, rd_in (by omega) (by decide), bnd1_some, p1, wr_nF (by omega) (by decide), bnd1_some, rd_in (by omega) (by decide), bnd1_some, p2, wr_nF (by omega) (by decide), bnd1_some, nI_1]
    refine c131 hF hP n (j + 1) fu _ _ (by omega) (by omega) (fun k hk => ?_)
    by_cases e : k = j
    · subst e
      rw [uN_s, uN_s]
      exact ⟨rfl, rfl⟩
    · rw [uN_n e, uN_n e]
      exact h k (by omega)
theorem c66 {B F : Nat} {x1 x2 x3 x4 x5 : Int32} {r8 rb rf : Nat → Int32} {fp' st' kd' fs' fl' fs fl jf fd : Nat → Nat} (hB : B ≤ 5) (hF : F ≤ 5) (hP : PB B fp' st' kd' rb) (hQ : PF F fs' fl' rf) (hfs : ∀ k, F ≤ k → fs k = fs' k ∧ fl k = fl' k) : ∀ (n j fu : Nat) (st kd y : Nat → Nat), j + n = B → n < fu → (∀ k, (k < j ∨ B ≤ k) → st k = st' k ∧ kd k = kd' k) → AG j fd fp' 0 0 0 y 0 → ∃ y' : Nat → Nat, f_X6_city_66 (nI len) (nF tx) fu (nI j) (nI B) (nI F) x1 x2 x3 x4 x5 (nF st) (nF kd) (nF fs) (nF fl) (nF y) r8 rb rf (nF jf) = some (10 * nI B + nI F, nI B, nI F, x1, x2, x3, x4, 0, nF st', nF kd', nF fs', nF fl', nF y', r8, rb, rf, nF (uN (uN jf 0 0) 1 0)) ∧ AG B fd fp' 0 0 0 y' 0
  | 0, j, 0, st, kd, y, _, hf, _, _ => absurd hf (Nat.not_lt_zero _)
  | 0, j, fu + 1, st, kd, y, hi, _, h, ha => by
    obtain rfl : j = B := by omega
    have e1 : st = st' := funext fun k => (h k (by omega)).1
    have e2 : kd = kd' := funext fun k => (h k (by omega)).2
    subst e1
    subst e2
    refine ⟨y, ?_, ha⟩
    rw [f_X6_city_66, if_pos (nI_le (Nat.le_refl _) (by omega))]
    exact c131 hF hQ F 0 130 fs fl (Nat.zero_add _) (by omega) (fun k hk => hfs k (by omega))
  | n + 1, j, 0, st, kd, y, _, hf, _, _ => absurd hf (Nat.not_lt_zero _)
  | n + 1, j, fu + 1, st, kd, y, hi, hf, h, ha => by
    obtain ⟨p1, p2, p3, p4, p5, p6⟩ := hP j (by omega)
    rw [f_X6_city_66, if_neg (nI_ge (by omega) (by omega)), m3, nI_1, a2, rd_in (by omega) (by decide), bnd1_some, p1, show (8 : Int32) + nI j = nI (8 + j) from nI_add 8 j, wr_nF (by omega) (by decide), bnd1_some, rd_in (by omega) (by decide), bnd1_some, p2, wr_nF (by omega) (by decide), bnd1_some, rd_in (by omega) (by decide), bnd1_some, p3, wr_nF (by omega) (by decide), bnd1_some, nI_1]
    refine c66 hB hF hP hQ hfs n (j + 1) fu _ _ _ (by omega) (by omega) (fun k hk => ?_) ?_
    · by_cases e : k = j
      · subst e
        rw [uN_s, uN_s]
        exact ⟨rfl, rfl⟩
      · rw [uN_n e, uN_n e]
        exact h k (by omega)
    · obtain ⟨q1, q2, q3, q4, q5⟩ := ha
      refine ⟨fun k hk => ?_, fun k hk => ?_, ?_, ?_, ?_⟩
      · rw [uN_n (by omega)]
        exact q1 k hk
      · by_cases e : k = j
        · subst e
          rw [show 0 + 8 + k = 8 + k by omega, uN_s]
        · rw [uN_n (by omega)]
          exact q2 k (by omega)
      · rw [uN_n (by omega)]
        exact q3
      · rw [uN_n (by omega)]
        exact q4
      · rw [uN_n (by omega)]
        exact q5
theorem c30 {B F : Nat} {x1 x2 x3 x4 x5 : Int32} {r8 rb rf : Nat → Int32} {fp' st' kd' fs' fl' st kd fs fl jf fd : Nat → Nat} (hB : B ≤ 5) (hF : F ≤ 5) (hP : PB B fp' st' kd' rb) (hQ : PF F fs' fl' rf) (hst : ∀ k, B ≤ k → st k = st' k ∧ kd k = kd' k) (hfs : ∀ k, F ≤ k → fs k = fs' k ∧ fl k = fl' k) (h8 : ∀ k, k < 8 → r8 k = nI (fd k)) : ∀ (n j fu : Nat) (y : Nat → Nat), j + n = 16 → n < fu → (∀ k, k < j → y k = if k < 8 then fd k else 0) → ∃ y' : Nat → Nat, f_X6_city_30 (nI len) (nF tx) fu (nI j) (nI B) (nI F) x1 x2 x3 x4 x5 (nF st) (nF kd) (nF fs) (nF fl) (nF y) r8 rb rf (nF jf) = some (10 * nI B + nI F, nI B, nI F, x1, x2, x3, x4, 0, nF st', nF kd', nF fs', nF fl', nF y', r8, rb, rf, nF (uN (uN jf 0 0) 1 0)) ∧ AG B fd fp' 0 0 0 y' 0
  | 0, j, 0, y, _, hf, _ => absurd hf (Nat.not_lt_zero _)
  | 0, j, fu + 1, y, hi, _, h => by
    obtain rfl : j = 16 := by omega
    rw [f_X6_city_30, if_pos (by decide)]
    refine c66 hB hF hP hQ hfs B 0 130 st kd y (Nat.zero_add _) (by omega) (fun k hk => hst k (by omega)) ⟨fun k hk => ?_, fun k hk => absurd hk (Nat.not_lt_zero _), ?_, ?_, ?_⟩
    · rw [Nat.zero_add, h k (by omega), if_pos hk]
    · rw [h (0 + 13) (by decide), if_neg (by decide)]
    · rw [h (0 + 14) (by decide), if_neg (by decide)]
    · rw [h (0 + 15) (by decide), if_neg (by decide)]
  | n + 1, j, 0, y, _, hf, _ => absurd hf (Nat.not_lt_zero _)
  | n + 1, j, fu + 1, y, hi, hf, h => by
    rw [f_X6_city_30, if_neg (show ¬ (16 : Int32) ≤ nI j from nI_ge (b := 16) (by omega) (by decide))]
    unfold f_X6_city_57
    by_cases e8 : j < 8
    · rw [if_neg (show ¬ (8 : Int32) ≤ nI j from nI_ge (b := 8) (by omega) (by decide)), rd_in (by omega) (by decide), bnd1_some, h8 j e8, wr_nF (by omega) (by decide), bnd1_some, nI_1]
      refine c30 hB hF hP hQ hst hfs h8 n (j + 1) fu _ (by omega) (by omega) (fun k hk => ?_)
      by_cases e : k = j
      · subst e
        rw [uN_s, if_pos e8]
      · rw [uN_n e]
        exact h k (by omega)
    · rw [if_pos (show (8 : Int32) ≤ nI j from nI_le (a := 8) (by omega) (by omega)), show (0 : Int32) = nI 0 from rfl, wr_nF (by omega) (by decide), bnd1_some, nI_1]
      refine c30 hB hF hP hQ hst hfs h8 n (j + 1) fu _ (by omega) (by omega) (fun k hk => ?_)
      by_cases e : k = j
      · subst e
        rw [uN_s, if_neg e8]
      · rw [uN_n e]
        exact h k (by omega)
theorem c42 {S L : Int32} {r8 fd fp st kd fs fl du pl : Nat → Int32} {g e t A1 A2 br fa : Int32} {jf : Nat → Nat} {tz : Nat → Int32} : f_X5_city_42 S tz 130 0 br fa fd fp st kd fs fl g e t du pl A1 A2 (nF jf) = some (10 * br + fa, br, fa, fd, fp, st, kd, fs, fl, g, e, t, du, pl, A1, A2, nF (uN (uN jf 0 0) 1 0)) := by
  rw [f_X5_city_42, if_neg (show ¬ (2 : Int32) ≤ 0 by decide), show ((0 : Int32) &&& 1) = nI 0 from rfl, show wr (nF jf) 2 (0 : Int32) (nI 0) = some (nF (uN jf 0 0)) from wr_nF (i := 0) (by decide) (by decide), bnd1_some, f_X5_city_42, if_neg (show ¬ (2 : Int32) ≤ 0 + 1 by decide), show ((0 : Int32) &&& 1) = nI 0 from rfl, show wr (nF (uN jf 0 0)) 2 ((0 : Int32) + 1) (nI 0) = some (nF (uN (uN jf 0 0) 1 0)) from wr_nF (i := 1) (by decide) (by decide), bnd1_some, f_X5_city_42, if_pos (show (2 : Int32) ≤ 0 + 1 + 1 by decide)]
theorem sim_city {br fa bd g e t na af nx : Nat} {fd fp st kd fs fl d p y jf ks kp ac yr : Nat → Nat} {xb xf xa xu : Int32} {r8 rb rf : Nat → Int32} (hl : len ≤ 48) (ht : ∀ k, tx k ≤ 255) (hT : TOK br fa st kd fs fl) (hM : MOK br bd d p g e t) (ha : AG br d p g e t y 0) (hR : RA br bd na af ac nx yr) (hK : RK br bd jf ks kp) : ∃ (r : Int32) (br2 fa2 g2 e2 t2 na2 af2 : Nat) (fd2 fp2 st2 kd2 fs2 fl2 d2 p2 y2 jf2 : Nat → Nat) (x1 x2 x3 x4 : Int32) (r8' rb' rf' : Nat → Int32), f_X5_city (nI len) (nF tx) (nI br) (nI fa) (nF fd) (nF fp) (nF st) (nF kd) (nF fs) (nF fl) (nI g) (nI e) (nI t) (nF d) (nF p) (nI af) (nI na) (nF jf) = some (r, nI br2, nI fa2, nF fd2, nF fp2, nF st2, nF kd2, nF fs2, nF fl2, nI g2, nI e2, nI t2, nF d2, nF p2, nI af2, nI na2, nF jf2) ∧ f_X6_city (nI br) (nI fa) xb xf (nI len) xa xu (nI na) (nF st) (nF kd) (nF fs) (nF fl) (nF y) r8 rb rf (nF tx) (nF jf) = some (r, nI br2, nI fa2, x1, x2, x3, x4, nI na2, nF st2, nF kd2, nF fs2, nF fl2, nF y2, r8', rb', rf', nF jf2) ∧ TOK br2 fa2 st2 kd2 fs2 fl2 ∧ MOK br2 bd d2 p2 g2 e2 t2 ∧ AG br2 d2 p2 g2 e2 t2 y2 0 ∧ RA br2 bd na2 af2 ac nx yr ∧ RK br2 bd jf2 ks kp := by
  unfold f_X5_city f_X6_city
  rcases text1 (br := nI br) (fa := nI fa) (xb := xb) (xf := xf) (xa := xa) (xu := xu) (fd := fd) (fp := fp) (st := st) (kd := kd) (fs := fs) (fl := fl) (r8 := r8) (rb := rb) (rf := rf) hl ht with ⟨q, x1, x2, x3, x4, r8', rb', rf', q1, q2, q3⟩ | ⟨B, F, fd', fp', st', kd', fs', fl', x3, r8', rb', rf', p1, p2, p3, p4, p5, p6, p7, p8, p9, p10⟩
  · rw [q2, bnd1_some, if_neg (n9 q1), q3, bnd8_some, if_neg (n9 q1)]
    exact ⟨_, br, fa, g, e, t, na, af, fd, fp, st, kd, fs, fl, d, p, y, jf, x1, x2, x3, x4, r8', rb', rf', rfl, rfl, hT, hM, ha, hR, hK⟩
  · rw [p1, bnd1_some, if_pos rfl, p2, bnd8_some, p3, bnd8_some, if_pos rfl]
    unfold f_X2_begin f_X0_clear
    rw [show cp (nF fd') 8 (0 : Int32) (nF d) 8 (0 : Int32) (8 : Int32) = some (nF (cN fd' d 0 0 8)) from cp_nF (sp := 0) (dp := 0) (n := 8) (by decide) (by decide) (by decide) (by decide), bnd1_some, show cp (nF fp') 5 (0 : Int32) (nF p) 5 (0 : Int32) (5 : Int32) = some (nF (cN fp' p 0 0 5)) from cp_nF (sp := 0) (dp := 0) (n := 5) (by decide) (by decide) (by decide) (by decide), bnd1_some, bnd5_some, bnd2_some, c42 (S := nI len) (L := 0) (r8 := r8)]
    obtain ⟨y', c1, c2⟩ := c30 (len := len) (tx := tx) (x1 := nI B) (x2 := nI F) (x3 := x3) (x4 := -9) (x5 := nI na) (st := st) (kd := kd) (fs := fs) (fl := fl) (jf := jf) (fd := fd') p4 p5 p6 p7 (fun k hk => ⟨(p8 k hk).1.symm, (p8 k hk).2.symm⟩) (fun k hk => ⟨(p9 k hk).1.symm, (p9 k hk).2.symm⟩) (fun k hk => (p10 k hk).1) 16 0 130 y rfl (by decide) (fun k hk => absurd hk (Nat.not_lt_zero _))
    have hd8 : ∀ k, k < 8 → cN fd' d 0 0 8 k = fd' k := fun k hk => by
      rw [cN_in (by omega) (by omega)]
      congr 1
      omega
    have hp5 : ∀ k, k < B → cN fp' p 0 0 5 k = fp' k := fun k hk => by
      rw [cN_in (by omega) (by omega)]
      congr 1
      omega
    refine ⟨10 * nI B + nI F, B, F, 0, 0, 0, 0, 0, fd', fp', st', kd', fs', fl', cN fd' d 0 0 8, cN fp' p 0 0 5, y', uN (uN jf 0 0) 1 0, nI B, nI F, x3, -9, r8', rb', rf', rfl, c1, ?_, ?_, ?_, RA.nil hR.2.2.1, ?_⟩
    · exact ⟨by omega, by omega, fun b hb => (p6 b hb).2.2.2.2.1, fun b hb => (p6 b hb).2.2.2.2.2, fun b hb => (p7 b hb).2.2.1, fun b hb => (p7 b hb).2.2.2⟩
    · refine ⟨fun k => ?_, fun b hb => ?_, by decide, by decide, Nat.zero_le _⟩
      · by_cases hk : k < 8
        · rw [hd8 k hk]
          have := (p10 k hk).2
          omega
        · rw [cN_out (by omega)]
          exact hM.1 k
      · rw [hp5 b hb]
        exact (p6 b hb).2.2.2.1
    · obtain ⟨q1, q2, q3, q4, q5⟩ := c2
      exact ⟨fun k hk => (q1 k hk).trans (hd8 k hk).symm, fun k hk => (q2 k hk).trans (hp5 k hk).symm, q3, q4, q5⟩
    · intro k hk
      have z : uN (uN jf 0 0) 1 0 k = 0 := by
        rcases (show k = 0 ∨ k = 1 by omega) with rfl | rfl
        · rw [uN_n (by decide), uN_s]
        · rw [uN_s]
      rw [z]
      exact ⟨by decide, fun q => absurd q (by decide)⟩
end CTZ
