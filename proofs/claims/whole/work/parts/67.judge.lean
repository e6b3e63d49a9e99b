section JD2
variable {br fa : Nat} {st kd fs fl : Nat → Nat}
theorem pw1 : ∀ k, k < 5 → f_X5_power 1000 (nI k) = some (lN (1000 ^ k)) := by decide +kernel
theorem pwM : ∀ k, k < 5 → f_X6_thousandTo (nI k) = some (lN (1000 ^ k)) := by decide +kernel
theorem pw_le {k : Nat} (h : k < 5) : 0 < 1000 ^ k ∧ 1000 ^ k < 2 ^ 60 := by
  rcases (show k = 0 ∨ k = 1 ∨ k = 2 ∨ k = 3 ∨ k = 4 by omega) with rfl | rfl | rfl | rfl | rfl <;> decide
theorem digs {x : Nat} (h : x < 1000) : nI x / 100 = nI (x / 100) ∧ (nI x / 10 - nI x / 10 / 10 * 10) = nI (x / 10 % 10) ∧ (nI x - nI x / 10 * 10) = nI (x % 10) := by
  have d10 : nI x / 10 = nI (x / 10) := pk_div (d := 10) (by omega) (by decide) (by decide)
  refine ⟨pk_div (d := 100) (by omega) (by decide) (by decide), ?_, pk_rem (d := 10) (by omega) (by decide) (by decide)⟩
  rw [d10]
  exact pk_rem (d := 10) (by omega) (by decide) (by decide)
theorem judge_l {ng ne nt : Int32} {nd np : Nat → Int32} {n R : Nat} (hT : TOK br fa st kd fs fl) (hn : n < 5) (hR : R < 2 ^ 60) : ∀ (m i fu fv bd g e t : Nat) (d p y : Nat → Nat) (de : Nat → Int32), i + m = n → m < fu → m < fv → bd + m < 2 ^ 30 → MOK br bd d p g e t → AG br d p g e t y 16 → ∃ (r g2 e2 t2 : Int32) (D P y1 : Nat → Nat) (de' : Nat → Int32), f_X5_judge_39 (nI br) (nI fa) (nF st) (nF kd) (nF fs) (nF fl) ng ne nt nd np fu (nI n) (lN R) (nI i) (nI g) (nI e) (nI t) (nF d) (nF p) de = some (r, g2, e2, t2, nF D, nF P, de') ∧ f_X6_judge_36 (nI br) (nI fa) 31 (nF st) (nF kd) (nF fs) (nF fl) fv (nI n) (lN R) (nI i) (nF y) = some (r, nF y1) ∧ B99 D ∧ FR y y1 16
  | 0, i, 0, fv, bd, g, e, t, d, p, y, de, _, hf, _, _, _, _ => absurd hf (Nat.not_lt_zero _)
  | 0, i, fu + 1, 0, bd, g, e, t, d, p, y, de, _, _, hf, _, _, _ => absurd hf (Nat.not_lt_zero _)
  | 0, i, fu + 1, fv + 1, bd, g, e, t, d, p, y, de, hi, _, _, _, hM, ha => by
    obtain rfl : i = n := by omega
    refine ⟨-9, nI g, nI e, nI t, d, p, y, de, ?_, ?_, hM.1, FR.rf⟩
    · rw [f_X5_judge_39, if_pos (nI_le (Nat.le_refl _) (by omega))]
    · rw [f_X6_judge_36, if_pos (nI_le (Nat.le_refl _) (by omega))]
  | m + 1, i, 0, fv, bd, g, e, t, d, p, y, de, _, hf, _, _, _, _ => absurd hf (Nat.not_lt_zero _)
  | m + 1, i, fu + 1, 0, bd, g, e, t, d, p, y, de, _, _, hf, _, _, _ => absurd hf (Nat.not_lt_zero _)
  | m + 1, i, fu + 1, fv + 1, bd, g, e, t, d, p, y, de, hi, hf, hf2, hb, hM, ha => by
    have ex : nI n - 1 - nI i = nI (n - 1 - i) := by
      rw [show nI n - 1 = nI (n - 1) from pk_sub (b := 1) (by omega), pk_sub (by omega)]
    obtain ⟨P0, P1⟩ := pw_le (show n - 1 - i < 5 by omega)
    have ep := pw1 (n - 1 - i) (by omega)
    have eq := pwM (n - 1 - i) (by omega)
    generalize 1000 ^ (n - 1 - i) = P at P0 P1 ep eq
    have l1 : ¬ lN P < 1 := by
      rw [show (1 : Int64) = lN 1 from rfl, pk_lLT (by omega) (by decide)]
      omega
    have l0 : ¬ lN P = 0 := by
      rw [show (0 : Int64) = lN 0 from rfl, pk_lEQ (by omega) (by decide)]
      omega
    have ez : (lN R / lN P - lN R / lN P / 1000 * 1000).toInt32 = nI (R / P % 1000) := by
      have hq : R / P ≤ R := Nat.div_le_self _ _
      rw [pk_lDiv (by omega) P0 (by omega), show (1000 : Int64) = lN 1000 from rfl, pk_lRem (by omega) (by decide) (by decide), lN_i]
    have hx : R / P % 1000 < 1000 := Nat.mod_lt _ (by decide)
    obtain ⟨g1, g2, g3⟩ := digs hx
    generalize R / P % 1000 = x at ez hx g1 g2 g3
    rw [f_X5_judge_39, if_neg (nI_ge (by omega) (by omega)), ex, ep, bnd1_some, if_neg l1, if_neg l0, nm_eq, ez, g1, g2, g3, f_X6_judge_36, if_neg (nI_ge (by omega) (by omega)), ex, eq, bnd1_some, if_neg l0, nm_eq, ez, g1, g2, g3]
    obtain ⟨r, q1, q2, q3, D, P', y2, de2, r2, j1, j2, j3, j4, j5⟩ := jd1 (a := x / 100) (b := x / 10 % 10) (c := x % 10) de hT hM (by omega) ha (by omega) (by omega) (by omega)
    rw [j1, bnd7_some, j2, bnd2_some]
    rcases (show r = 0 ∨ r = 1 by omega) with rfl | rfl
    · rw [if_pos (show nI 0 = 0 from rfl), if_pos (show nI 0 = 0 from rfl)]
      exact ⟨nI i, q1, q2, q3, D, P', y2, de2, rfl, rfl, j3, j4⟩
    · obtain ⟨g', e', t', rfl, rfl, rfl, k1, k2⟩ := j5 rfl
      rw [if_neg (show ¬ nI 1 = 0 by decide), if_neg (show ¬ nI 1 = 0 by decide), nI_1]
      obtain ⟨r, a1, a2, a3, a4, a5, a6, a7, b1, b2, b3, b4⟩ := judge_l (ng := ng) (ne := ne) (nt := nt) (nd := nd) (np := np) hT hn hR m (i + 1) fu fv (bd + 1) g' e' t' D P' y2 de2 (by omega) (by omega) (by omega) (by omega) k1 k2
      exact ⟨r, a1, a2, a3, a4, a5, a6, a7, b1, b2, b3, j4.tr b4⟩
theorem sim_judge {bd g e t : Nat} {d p rd rp y : Nat → Nat} {rg re rt : Int32} {de : Nat → Int32} (u : Int32) (v : Int64) (hT : TOK br fa st kd fs fl) (hM : MOK br bd d p g e t) (hrd : B99 rd) (hbd : bd < 2 ^ 29) (ha : AG br d p g e t y 0) : ∃ (r g2 e2 t2 : Int32) (rd2 rp2 y2 : Nat → Nat) (de2 : Nat → Int32), f_X5_judge (nI br) (nI fa) (nF st) (nF kd) (nF fs) (nF fl) (nI g) (nI e) (nI t) (nF d) (nF p) rg re rt (nF rd) (nF rp) de u v = some (r, g2, e2, t2, nF rd2, nF rp2, de2) ∧ f_X6_judge (nI br) (nI fa) 31 (nF st) (nF kd) (nF fs) (nF fl) (nF y) u v = some (r, nF y2) ∧ B99 rd2 ∧ FR y y2 16 := by
  unfold f_X5_judge f_X6_judge
  rcases both u (a := 1) (b := 4) (by decide) (by decide) with ⟨n, a1, a2, rfl, a3, a4⟩ | ⟨a3, a4⟩
  · rw [show f_X5_within (nI n) (1 : Int32) (4 : Int32) = some 1 from a3, show f_X6_in (nI n).toInt64 (1 : Int64) (4 : Int64) = some 1 from a4, bnd1_some, bnd1_some, if_neg i1_0, if_neg i1_0, pw1 n (by omega), pwM n (by omega), bnd1_some, bnd1_some]
    obtain ⟨P0, P1⟩ := pw_le (show n < 5 by omega)
    generalize 1000 ^ n = P at P0 P1
    unfold f_X6_in
    by_cases hv : v < 0
    · rw [if_pos (cmp_lt.mpr hv), if_pos (cmp_lt.mpr hv), bnd1_some, if_pos rfl]
      exact ⟨-2, rg, re, rt, rd, rp, y, de, rfl, rfl, hrd, FR.rf⟩
    · obtain ⟨R, hR, rfl⟩ := pk_lOf hv
      rw [if_neg (fun z => hv (cmp_lt.mp z)), if_neg (fun z => hv (cmp_lt.mp z)), show lN P - 1 = lN (P - 1) from lN_sub (b := 1) (by omega)]
      by_cases hlt : R < P
      · have e1 : lg_cmp (lN R) (lN P) < 0 := cmp_lt.mpr ((pk_lLT (by omega) (by omega)).mpr hlt)
        have e2 : ¬ 0 < lg_cmp (lN R) (lN (P - 1)) := by
          rw [cmp_gt, pk_lLT (by omega) (by omega)]
          omega
        rw [if_pos e1, if_neg e2, bnd1_some, if_neg i1_0, copy1 hM.2.2.1, bnd5_some, lay1, bnd1_some, show (0 : Int32) = nI 0 from rfl]
        obtain ⟨r, b1, b2, b3, b4, b5, b6, b7, k1, k2, k3, k4⟩ := judge_l (ng := nI g) (ne := nI e) (nt := nI t) (nd := nF d) (np := nF p) (R := R) hT (show n < 5 by omega) (by omega) n 0 130 130 bd g e t _ _ _ de (Nat.zero_add n) (by omega) (by omega) (by omega) (trialM (rd := rd) (rp := rp) hT hM hrd) (ha.lay (rd := rd) (rp := rp) hT.1)
        exact ⟨r, b1, b2, b3, b4, b5, b6, b7, k1, k2, k3, FR.lay.tr k4⟩
      · have e1 : ¬ lg_cmp (lN R) (lN P) < 0 := fun z => hlt ((pk_lLT (by omega) (by omega)).mp (cmp_lt.mp z))
        have e2 : 0 < lg_cmp (lN R) (lN (P - 1)) := by
          rw [cmp_gt, pk_lLT (by omega) (by omega)]
          omega
        rw [if_neg e1, if_pos e2, bnd1_some, if_pos rfl]
        exact ⟨-2, rg, re, rt, rd, rp, y, de, rfl, rfl, hrd, FR.rf⟩
  · rw [show f_X5_within u (1 : Int32) (4 : Int32) = some 0 from a3, show f_X6_in u.toInt64 (1 : Int64) (4 : Int64) = some 0 from a4, bnd1_some, bnd1_some, if_pos rfl, if_pos rfl]
    exact ⟨-2, rg, re, rt, rd, rp, y, de, rfl, rfl, hrd, FR.rf⟩
/-- the lot -/
def lot (z : Int64) : Int32 := (((z.toUInt64 >>> ((33 : Int32).toInt64.toUInt64 &&& Int64.toUInt64 63)).toInt64) - ((z.toUInt64 >>> ((33 : Int32).toInt64.toUInt64 &&& Int64.toUInt64 63)).toInt64) / (32 : Int64) * (32 : Int64)).toInt32
theorem lot1 (z : Int64) : ∃ l, l < 32 ∧ lot z = nI l := by
  have h33 : ((33 : Int32).toInt64.toUInt64 &&& Int64.toUInt64 63) = (33 : UInt64) := by decide
  have hlt : (z.toUInt64 >>> (33 : UInt64)).toNat < 2 ^ 31 := by
    rw [UInt64.toNat_shiftRight]
    have h1 : z.toUInt64.toNat < 2 ^ 64 := z.toUInt64.toNat_lt
    rw [show (33 : UInt64).toNat % 64 = 33 from rfl, Nat.shiftRight_eq_div_pow]
    omega
  have hx : (z.toUInt64 >>> (33 : UInt64)).toInt64 = lN (z.toUInt64 >>> (33 : UInt64)).toNat := by
    apply Int64.toInt_inj.mp
    rw [pk_lT (by omega)]
    show (z.toUInt64 >>> (33 : UInt64)).toBitVec.toInt = _
    rw [BitVec.toInt_eq_toNat_of_lt]
    · rfl
    · show 2 * (z.toUInt64 >>> (33 : UInt64)).toNat < 2 ^ 64
      omega
  unfold lot
  rw [h33, hx]
  generalize (z.toUInt64 >>> (33 : UInt64)).toNat = q at hlt
  refine ⟨q % 32, Nat.mod_lt _ (by decide), ?_⟩
  rw [show (32 : Int64) = lN 32 from rfl, pk_lRem (by omega) (by decide) (by decide), lN_i]
end JD2
