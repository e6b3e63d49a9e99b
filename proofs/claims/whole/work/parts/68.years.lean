section YRS
variable {br fa : Nat} {st kd fs fl : Nat → Nat}
def hpM {α : Type} (Y_br Y_fa Y_wk : Int32) (Y_st Y_kd Y_fs Y_fl Y_now : Nat → Int32) (z : Int32) (kk : (Nat → Int32) → Option α) : Option α := if z ≤ (18 : Int32) then (if z ≤ (10 : Int32) then (if z = (10 : Int32) then (bnd2 (f_X6_tryThing Y_br Y_fa Y_wk Y_st Y_kd Y_fs Y_fl Y_now (2 : Int32) (0 : Int32) (0 : Int32)) (fun _ d => kk d)) else (bnd2 (f_X6_tryThing Y_br Y_fa Y_wk Y_st Y_kd Y_fs Y_fl Y_now (1 : Int32) (z / (2 : Int32)) (z - z / (2 : Int32) * (2 : Int32))) (fun _ d => kk d))) else (bnd2 (f_X6_tryThing Y_br Y_fa Y_wk Y_st Y_kd Y_fs Y_fl Y_now (4 : Int32) (0 : Int32) (z - (11 : Int32))) (fun _ d => kk d))) else (bnd1 (f_X6_passOn Y_br Y_fa Y_wk Y_st Y_kd Y_fs Y_fl Y_now (1 : Int32) (1 : Int32)) kk)
theorem happen1 {bd : Nat} {d p y : Nat → Nat} {g e t l : Nat} (de : Nat → Int32) (hT : TOK br fa st kd fs fl) (hM : MOK br bd d p g e t) (hbd : bd < 2 ^ 30) (ha : AG br d p g e t y 16) (hl : l < 32) : ∃ (g' t' : Nat) (D P y2 : Nat → Nat) (de2 : Nat → Int32), f_X5_happen (nI br) (nI fa) (nF st) (nF kd) (nF fs) (nF fl) (nI g) (nI e) (nI t) (nF d) (nF p) de (nI l) = some (nI g', nI t', nF D, nF P, de2) ∧ (∀ (α : Type) (kk : (Nat → Int32) → Option α), hpM (nI br) (nI fa) 31 (nF st) (nF kd) (nF fs) (nF fl) (nF y) (nI l) kk = kk (nF y2)) ∧ MOK br (bd + 1) D P g' e t' ∧ AG br D P g' e t' y2 16 ∧ FR y y2 16 := by
  unfold f_X5_happen hpM
  by_cases h9 : 9 < l
  · rw [if_pos (show (9 : Int32) < nI l from nI_lt (a := 9) h9 (by omega))]
    by_cases h10 : l = 10
    · subst h10
      obtain ⟨y2, q1, q2, q3, q4, q5⟩ := T_vote (wk := 31) 0 0 hT hM ha
      rw [if_pos (show nI 10 = 10 from rfl), q1, bnd2_some]
      refine ⟨_, _, _, _, y2, _, rfl, fun α kk => ?_, q3.up (by omega), q4, q5⟩
      rw [if_pos (show nI 10 ≤ 18 by decide), if_pos (show nI 10 ≤ 10 by decide), if_pos (show nI 10 = 10 from rfl), q2, if_pos rfl, if_pos rfl, bnd2_some]
    · rw [if_neg (show ¬ nI l = 10 from fun z => h10 ((nI_eq (a := l) (b := 10) (by omega) (by decide)).mp z))]
      by_cases h18 : 18 < l
      · obtain ⟨D, y2, de2, q1, q2, q3, q4, q5⟩ := T_dawn de hT hM hbd ha
        rw [if_pos (show (18 : Int32) < nI l from nI_lt (a := 18) h18 (by omega)), q1, bnd4_some]
        refine ⟨_, _, _, _, y2, _, rfl, fun α kk => ?_, q3, q4, q5⟩
        rw [if_neg (show ¬ nI l ≤ 18 from nI_ge (a := 18) h18 (by omega)), q2, bnd1_some]
      · obtain ⟨r, d2, y2, r2, q1, q2, q3, q4, q5⟩ := T_empty (wk := 31) (nI l - 11) hT hM ha
        rw [if_neg (show ¬ (18 : Int32) < nI l from nI_nlt (a := 18) (by omega) (by omega)), q1, bnd2_some]
        refine ⟨_, _, _, _, y2, _, rfl, fun α kk => ?_, q3.up (by omega), q4, q5⟩
        rw [if_pos (show nI l ≤ 18 from nI_le (b := 18) (by omega) (by omega)), if_neg (show ¬ nI l ≤ 10 from nI_ge (a := 10) (by omega) (by omega)), q2, bnd2_some]
  · obtain ⟨r, p2, y2, r2, q1, q2, q3, q4, q5⟩ := T_step (wk := 31) (nI l / 2) (nI l - nI l / 2 * 2) hT hM ha
    rw [if_neg (show ¬ (9 : Int32) < nI l from nI_nlt (a := 9) (by omega) (by omega)), q1, bnd2_some]
    refine ⟨_, _, _, _, y2, _, rfl, fun α kk => ?_, q3.up (by omega), q4, q5⟩
    rw [if_pos (show nI l ≤ 18 from nI_le (b := 18) (by omega) (by omega)), if_pos (show nI l ≤ 10 from nI_le (b := 10) (by omega) (by omega)), if_neg (show ¬ nI l = 10 from fun z => (show ¬ l = 10 by omega) ((nI_eq (a := l) (b := 10) (by omega) (by decide)).mp z)), q2, bnd2_some]
theorem years_l {ng ne nt : Int32} {nd np : Nat → Int32} {n : Nat} (hT : TOK br fa st kd fs fl) (hn : n < 31) : ∀ (m i fu fv bd g e t : Nat) (a : Int32) (s : Int64) (d p y : Nat → Nat) (de : Nat → Int32), i + m = n → m < fu → m < fv → bd + m < 2 ^ 30 → MOK br bd d p g e t → AG br d p g e t y 16 → ∃ (r : Int32) (s2 : Int64) (g2 e2 t2 : Int32) (D P y1 : Nat → Nat) (de' : Nat → Int32), f_X5_years_23 (nI br) (nI fa) (nF st) (nF kd) (nF fs) (nF fl) ng ne nt nd np fu (nI n) a (nI i) s (nI g) (nI e) (nI t) (nF d) (nF p) de = some (r, s2, g2, e2, t2, nF D, nF P, de') ∧ f_X6_years_23 (nI br) (nI fa) 31 (nF st) (nF kd) (nF fs) (nF fl) fv (nI n) a (nI i) s (nF y) = some (r, s2, nF y1) ∧ B99 D ∧ FR y y1 16
  | 0, i, 0, fv, bd, g, e, t, a, s, d, p, y, de, _, hf, _, _, _, _ => absurd hf (Nat.not_lt_zero _)
  | 0, i, fu + 1, 0, bd, g, e, t, a, s, d, p, y, de, _, _, hf, _, _, _ => absurd hf (Nat.not_lt_zero _)
  | 0, i, fu + 1, fv + 1, bd, g, e, t, a, s, d, p, y, de, hi, _, _, _, hM, ha => by
    obtain rfl : i = n := by omega
    refine ⟨a, s, nI g, nI e, nI t, d, p, y, de, ?_, ?_, hM.1, FR.rf⟩
    · rw [f_X5_years_23, if_pos (nI_le (Nat.le_refl _) (by omega))]
    · rw [f_X6_years_23, if_pos (nI_le (Nat.le_refl _) (by omega))]
  | m + 1, i, 0, fv, bd, g, e, t, a, s, d, p, y, de, _, hf, _, _, _, _ => absurd hf (Nat.not_lt_zero _)
  | m + 1, i, fu + 1, 0, bd, g, e, t, a, s, d, p, y, de, _, _, hf, _, _, _ => absurd hf (Nat.not_lt_zero _)
  | m + 1, i, fu + 1, fv + 1, bd, g, e, t, a, s, d, p, y, de, hi, hf, hf2, hb, hM, ha => by
    obtain ⟨l, hl, el⟩ := lot1 ((s * (6364136223846793005 : Int64)) + (1442695040888963407 : Int64))
    obtain ⟨g', t', D, P, y2, de2, j1, j2, j3, j4, j5⟩ := happen1 de hT hM (by omega) ha hl
    obtain ⟨r, a1, a2, a3, a4, a5, a6, a7, a8, b1, b2, b3, b4⟩ := years_l (ng := ng) (ne := ne) (nt := nt) (nd := nd) (np := np) hT hn m (i + 1) fu fv (bd + 1) g' e t' (a + nI (smN D 8 0)) ((s * (6364136223846793005 : Int64)) + (1442695040888963407 : Int64)) D P y2 de2 (by omega) (by omega) (by omega) (by omega) j3 j4
    refine ⟨r, a1, a2, a3, a4, a5, a6, a7, a8, ?_, ?_, b3, j5.tr b4⟩
    · rw [f_X5_years_23, if_neg (nI_ge (by omega) (by omega)), nm_eq]
      refine Eq.trans (congrArg (fun z => bnd5 (f_X5_happen (nI br) (nI fa) (nF st) (nF kd) (nF fs) (nF fl) (nI g) (nI e) (nI t) (nF d) (nF p) de z) _) el) ?_
      show bnd5 (f_X5_happen (nI br) (nI fa) (nF st) (nF kd) (nF fs) (nF fl) (nI g) (nI e) (nI t) (nF d) (nF p) de (nI l)) _ = _
      rw [j1, bnd5_some, allDust1, bnd1_some, nI_1, b1]
    · rw [f_X6_years_23, if_neg (nI_ge (by omega) (by omega)), nm_eq, nm_eq]
      have h2 := j2 _ (fun dd => f_X6_years_128 (nI br) (nI fa) 31 (nF st) (nF kd) (nF fs) (nF fl) (f_X6_years_23 (nI br) (nI fa) 31 (nF st) (nF kd) (nF fs) (nF fl) fv) (nI n) a (nI i) ((s * (6364136223846793005 : Int64)) + (1442695040888963407 : Int64)) dd)
      rw [← el] at h2
      refine Eq.trans h2 ?_
      show f_X6_years_128 _ _ _ _ _ _ _ _ _ _ _ _ _ = _
      unfold f_X6_years_128
      rw [show f_X6_dustOn (nF y2) (1 : Int32) = _ from dustOn1 (lv := 1) (by decide) j4.1, bnd1_some, nI_1, b2]
theorem sim_years {bd g e t : Nat} {d p rd rp y : Nat → Nat} {rg re rt : Int32} {de : Nat → Int32} {s : Int64} (u : Int32) (hT : TOK br fa st kd fs fl) (hM : MOK br bd d p g e t) (hrd : B99 rd) (hbd : bd < 2 ^ 29) (ha : AG br d p g e t y 0) : ∃ (r : Int32) (s2 : Int64) (g2 e2 t2 : Int32) (rd2 rp2 y2 : Nat → Nat) (de2 : Nat → Int32), f_X5_years s (nI br) (nI fa) (nF st) (nF kd) (nF fs) (nF fl) (nI g) (nI e) (nI t) (nF d) (nF p) rg re rt (nF rd) (nF rp) de u = some (r, s2, g2, e2, t2, nF rd2, nF rp2, de2) ∧ f_X6_years (nI br) (nI fa) 31 s (nF st) (nF kd) (nF fs) (nF fl) (nF y) u = some (r, s2, nF y2) ∧ B99 rd2 ∧ FR y y2 16 := by
  unfold f_X5_years f_X6_years
  rcases both u (a := 1) (b := 30) (by decide) (by decide) with ⟨n, a1, a2, rfl, a3, a4⟩ | ⟨a3, a4⟩
  · rw [show f_X5_within (nI n) (1 : Int32) (30 : Int32) = some 1 from a3, show f_X6_in (nI n).toInt64 (1 : Int64) (30 : Int64) = some 1 from a4, bnd1_some, bnd1_some, if_neg i1_0, if_neg i1_0, copy1 hM.2.2.1, bnd5_some, lay1, bnd1_some]
    obtain ⟨r, b1, b2, b3, b4, b5, b6, b7, b8, k1, k2, k3, k4⟩ := years_l (ng := nI g) (ne := nI e) (nt := nI t) (nd := nF d) (np := nF p) hT (show n < 31 by omega) n 0 130 130 bd g e t 0 s _ _ _ de (Nat.zero_add n) (by omega) (by omega) (by omega) (trialM (rd := rd) (rp := rp) hT hM hrd) (ha.lay (rd := rd) (rp := rp) hT.1)
    exact ⟨r, b1, b2, b3, b4, b5, b6, b7, b8, k1, k2, k3, FR.lay.tr k4⟩
  · rw [show f_X5_within u (1 : Int32) (30 : Int32) = some 0 from a3, show f_X6_in u.toInt64 (1 : Int64) (30 : Int64) = some 0 from a4, bnd1_some, bnd1_some, if_pos rfl, if_pos rfl]
    exact ⟨-2, s, rg, re, rt, rd, rp, y, de, rfl, rfl, hrd, FR.rf⟩
end YRS
