/-! trials that are only looked at; slots; heaps -/
theorem mZ : (31 : Int32) = nI 31 := rfl
section LOOK
variable {br fa bd : Nat} {st kd fs fl d p rd rp y : Nat → Nat} {g e t : Nat} {rg re rt : Int32} {de : Nat → Int32}
theorem sim_dust (u v : Int32) (hT : TOK br fa st kd fs fl) (hM : MOK br bd d p g e t) (hrd : B99 rd) (hbd : bd < 2 ^ 29) (ha : AG br d p g e t y 0) : ∃ (r g2 e2 t2 : Int32) (rd2 rp2 y2 : Nat → Nat) (de2 : Nat → Int32), f_X5_dust (nI br) (nI fa) (nF st) (nF kd) (nF fs) (nF fl) (nI g) (nI e) (nI t) (nF d) (nF p) rg re rt (nF rd) (nF rp) de u v = some (r, g2, e2, t2, nF rd2, nF rp2, de2) ∧ f_X6_dust (nI br) (nI fa) 31 (nF st) (nF kd) (nF fs) (nF fl) (nF y) u v = some (r, nF y2) ∧ B99 rd2 ∧ FR y y2 16 := by
  unfold f_X5_dust f_X6_dust
  rcases bothS u with ⟨k, hk, rfl, h3, h4⟩ | ⟨h3, h4⟩
  · rw [h3, h4, bnd1_some, bnd1_some, if_neg i1_0, if_neg i1_0]
    rcases both v (a := 0) (b := 30) (by decide) (by decide) with ⟨n, q1, q2, rfl, q3, q4⟩ | ⟨q3, q4⟩
    · obtain ⟨D, y1, de', c1, c2, c3, c4, c5⟩ := behind1 (n := n) (w := 31) (rg := rg) (re := re) (rt := rt) (rp := rp) de hT hM hrd (by decide) (by omega) (by omega) ha
      rw [lay1, bnd1_some] at c2
      refine ⟨nI (D k), nI g, nI e, nI (t + n), D, cN p rp 0 0 5, y1, de', ?_, ?_, c5.1, c4⟩
      · rw [show f_X5_within (nI n) (0 : Int32) (30 : Int32) = some 1 from q3, bnd1_some, if_neg i1_0, mZ, c1, bnd6_some, dustIn1 hk, bnd1_some]
      · rw [show f_X6_in (nI n).toInt64 (0 : Int64) (30 : Int64) = some 1 from q4, bnd1_some, if_neg i1_0, lay1, bnd1_some, mZ, c2, bnd1_some, show (16 : Int32) = nI 16 from rfl, nI_add, rd_nF (by omega) (by decide), bnd1_some, c3.1 k hk]
    · refine ⟨-2, rg, re, rt, rd, rp, y, de, ?_, ?_, hrd, FR.rf⟩
      · rw [show f_X5_within v (0 : Int32) (30 : Int32) = some 0 from q3, bnd1_some, if_pos rfl]
      · rw [show f_X6_in v.toInt64 (0 : Int64) (30 : Int64) = some 0 from q4, bnd1_some, if_pos rfl]
  · rw [h3, h4, bnd1_some, bnd1_some, if_pos rfl, if_pos rfl]
    exact ⟨-1, rg, re, rt, rd, rp, y, de, rfl, rfl, hrd, FR.rf⟩
theorem sim_knees (v : Int32) (hT : TOK br fa st kd fs fl) (hM : MOK br bd d p g e t) (hrd : B99 rd) (hbd : bd < 2 ^ 29) (ha : AG br d p g e t y 0) : ∃ (r g2 e2 t2 : Int32) (rd2 rp2 y2 : Nat → Nat) (de2 : Nat → Int32), f_X5_knees (nI br) (nI fa) (nF st) (nF kd) (nF fs) (nF fl) (nI g) (nI e) (nI t) (nF d) (nF p) rg re rt (nF rd) (nF rp) de v = some (r, g2, e2, t2, nF rd2, nF rp2, de2) ∧ f_X6_knees (nI br) (nI fa) 31 (nF st) (nF kd) (nF fs) (nF fl) (nF y) v = some (r, nF y2) ∧ B99 rd2 ∧ FR y y2 16 := by
  unfold f_X5_knees f_X6_knees
  rcases both v (a := 0) (b := 30) (by decide) (by decide) with ⟨n, q1, q2, rfl, q3, q4⟩ | ⟨q3, q4⟩
  · obtain ⟨D, y1, de', c1, c2, c3, c4, c5⟩ := behind1 (n := n) (w := 31) (rg := rg) (re := re) (rt := rt) (rp := rp) de hT hM hrd (by decide) (by omega) (by omega) ha
    rw [lay1, bnd1_some] at c2
    have kk := kneesOn1 (lv := 1) (by decide) c5.1 c3.1
    refine ⟨kn (dpN D), nI g, nI e, nI (t + n), D, cN p rp 0 0 5, y1, de', ?_, ?_, c5.1, c4⟩
    · rw [show f_X5_within (nI n) (0 : Int32) (30 : Int32) = some 1 from q3, bnd1_some, if_neg i1_0, mZ, c1, bnd6_some, deepStreets1 c5.1, bnd1_some]
    · rw [show f_X6_in (nI n).toInt64 (0 : Int64) (30 : Int64) = some 1 from q4, bnd1_some, if_neg i1_0, lay1, bnd1_some, mZ, c2, bnd1_some, show f_X6_kneesOn (nF y1) (1 : Int32) = _ from kk, bnd1_some]
  · refine ⟨-2, rg, re, rt, rd, rp, y, de, ?_, ?_, hrd, FR.rf⟩
    · rw [show f_X5_within v (0 : Int32) (30 : Int32) = some 0 from q3, bnd1_some, if_pos rfl]
    · rw [show f_X6_in v.toInt64 (0 : Int64) (30 : Int64) = some 0 from q4, bnd1_some, if_pos rfl]
theorem knee_l {ng ne nt u : Int32} {nd np : Nat → Int32} (hT : TOK br fa st kd fs fl) : ∀ (n i fu fv bd t : Nat) (d y : Nat → Nat) (de : Nat → Int32), i + n = 31 → n < fu → n < fv → bd + n < 2 ^ 30 → MOK br bd d p g e t → AG br d p g e t y 16 → ∃ (r t2 : Int32) (D y1 : Nat → Nat) (de' : Nat → Int32), f_X5_knee_19 (nI br) (nI fa) (nF st) (nF kd) (nF fs) (nF fl) ng ne nt nd np fu u (nI i) (nI g) (nI e) (nI t) (nF d) (nF p) de = some (r, nI g, nI e, t2, nF D, nF p, de') ∧ f_X6_knee_19 (nI br) (nI fa) 31 (nF st) (nF kd) (nF fs) (nF fl) fv u (nI i) (nF y) = some (r, nF y1) ∧ B99 D ∧ FR y y1 16
  | 0, i, 0, fv, bd, t, d, y, de, _, hf, _, _, _, _ => absurd hf (Nat.not_lt_zero _)
  | 0, i, fu + 1, 0, bd, t, d, y, de, _, _, hf, _, _, _ => absurd hf (Nat.not_lt_zero _)
  | 0, i, fu + 1, fv + 1, bd, t, d, y, de, hi, _, _, _, hM, ha => by
    obtain rfl : i = 31 := by omega
    refine ⟨-9, nI t, d, y, de, ?_, ?_, hM.1, FR.rf⟩
    · rw [f_X5_knee_19, if_pos (by decide)]
    · rw [f_X6_knee_19, if_pos (by decide)]
  | n + 1, i, 0, fv, bd, t, d, y, de, _, hf, _, _, _, _ => absurd hf (Nat.not_lt_zero _)
  | n + 1, i, fu + 1, 0, bd, t, d, y, de, _, _, hf, _, _, _ => absurd hf (Nat.not_lt_zero _)
  | n + 1, i, fu + 1, fv + 1, bd, t, d, y, de, hi, hf, hf2, hb, hM, ha => by
    have kk := kneesOn1 (lv := 1) (by decide) hM.1 ha.1
    rw [f_X5_knee_19, if_neg (show ¬ (30 : Int32) < nI i from nI_nlt (a := 30) (b := i) (by omega) (by decide)), firstDeep1 hM.1, bnd1_some, f_X6_knee_19, if_neg (show ¬ (31 : Int32) ≤ nI i from nI_ge (b := 31) (by omega) (by decide)), show f_X6_kneesOn (nF y) (1 : Int32) = _ from kk, bnd1_some]
    by_cases h0 : fsN (dpN d) = -9
    · rw [if_pos h0, if_pos ((kn_0 _).mpr h0)]
      obtain ⟨D, y1, de1, c1, c2, c3, c4, c5⟩ := dawn1 (times := 1) (lv := 1) (w := 31) hT hM (by omega) (by decide) (by decide) (by decide) ha de
      obtain ⟨r, t2, D2, y2, de2, k1, k2, k3, k4⟩ := knee_l (ng := ng) (ne := ne) (nt := nt) (nd := nd) (np := np) hT n (i + 1) fu fv (bd + 1) (t + 1) D y1 de1 (by omega) (by omega) (by omega) (by omega) c5 c3
      refine ⟨r, t2, D2, y2, de2, ?_, ?_, k3, c4.tr k4⟩
      · rw [mZ, show (1 : Int32) = nI 1 from rfl, c1, bnd3_some, nI_add, k1]
      · rw [nI_1, show f_X6_passOn (nI br) (nI fa) 31 (nF st) (nF kd) (nF fs) (nF fl) (nF y) 1 1 = _ from c2, bnd1_some, k2]
    · rw [if_neg h0, if_neg (fun q => h0 ((kn_0 _).mp q)), kn_least, bnd1_some]
      by_cases hu : u = 0
      · rw [if_pos hu, if_pos hu]
        exact ⟨nI i, nI t, d, y, de, rfl, rfl, hM.1, FR.rf⟩
      · rw [if_neg hu, if_neg hu]
        exact ⟨fsN (dpN d), nI t, d, y, de, rfl, rfl, hM.1, FR.rf⟩
theorem trialM (hT : TOK br fa st kd fs fl) (hM : MOK br bd d p g e t) (hrd : B99 rd) : MOK br bd (cN d rd 0 0 8) (cN p rp 0 0 5) g e t := ⟨hM.1.cp hrd 0 0 8, fun b hb => by rw [cN_in (by omega) (by have := hT.1; omega), show 0 + (b - 0) = b by omega]; exact hM.2.1 b hb, hM.2.2⟩
theorem sim_knee (v : Int32) (hT : TOK br fa st kd fs fl) (hM : MOK br bd d p g e t) (hrd : B99 rd) (hbd : bd < 2 ^ 29) (ha : AG br d p g e t y 0) : ∃ (r g2 e2 t2 : Int32) (rd2 rp2 y2 : Nat → Nat) (de2 : Nat → Int32), f_X5_knee (nI br) (nI fa) (nF st) (nF kd) (nF fs) (nF fl) (nI g) (nI e) (nI t) (nF d) (nF p) rg re rt (nF rd) (nF rp) de v = some (r, g2, e2, t2, nF rd2, nF rp2, de2) ∧ f_X6_knee (nI br) (nI fa) 31 (nF st) (nF kd) (nF fs) (nF fl) (nF y) v = some (r, nF y2) ∧ B99 rd2 ∧ FR y y2 16 := by
  unfold f_X5_knee f_X6_knee
  rcases both v (a := 0) (b := 1) (by decide) (by decide) with ⟨n, q1, q2, rfl, q3, q4⟩ | ⟨q3, q4⟩
  · obtain ⟨r, t2, D2, y2, de2, k1, k2, k3, k4⟩ := knee_l (ng := nI g) (ne := nI e) (nt := nI t) (nd := nF d) (np := nF p) (u := nI n) hT 31 0 130 130 bd t _ _ de rfl (by decide) (by decide) (by omega) (trialM (rp := rp) hT hM hrd) (ha.lay (rd := rd) (rp := rp) hT.1)
    refine ⟨r, nI g, nI e, t2, D2, cN p rp 0 0 5, y2, de2, ?_, ?_, k3, FR.lay.tr k4⟩
    · rw [show f_X5_within (nI n) (0 : Int32) (1 : Int32) = some 1 from q3, bnd1_some, if_neg i1_0, copy1 hM.2.2.1, bnd5_some, show (0 : Int32) = nI 0 from rfl, k1]
    · rw [show f_X6_in (nI n).toInt64 (0 : Int64) (1 : Int64) = some 1 from q4, bnd1_some, if_neg i1_0, lay1, bnd1_some, show (0 : Int32) = nI 0 from rfl, k2]
  · refine ⟨-2, rg, re, rt, rd, rp, y, de, ?_, ?_, hrd, FR.rf⟩
    · rw [show f_X5_within v (0 : Int32) (1 : Int32) = some 0 from q3, bnd1_some, if_pos rfl]
    · rw [show f_X6_in v.toInt64 (0 : Int64) (1 : Int64) = some 0 from q4, bnd1_some, if_pos rfl]
end LOOK
/-- the two slots, on both sides -/
def RK (br bd : Nat) (jf ks kp : Nat → Nat) : Prop := ∀ k, k < 2 → jf k ≤ 1 ∧ (jf k = 1 → RR br bd ks (16 * k) kp (16 * k))
theorem RK.up {br bd bd2 : Nat} {jf ks kp : Nat → Nat} (h : RK br bd jf ks kp) (hb : bd ≤ bd2) : RK br bd2 jf ks kp := fun k hk => ⟨(h k hk).1, fun q => ((h k hk).2 q).up hb⟩
theorem keepM_l {y b jf : Nat → Nat} {s : Nat} (hs : s < 2) : ∀ (n i fu : Nat), i + n = 16 → n < fu → f_X6_keep_21 (nF y) fu (nI s) (nI i) (nF jf) (nF (cN y b 0 (16 * s) i)) = some (nI (y 15), nF jf, nF (cN y b 0 (16 * s) 16))
  | 0, i, 0, _, hf => absurd hf (Nat.not_lt_zero _)
  | 0, i, fu + 1, hi, _ => by
    obtain rfl : i = 16 := by omega
    rw [f_X6_keep_21, if_pos (by decide), show (15 : Int32) = nI 15 from rfl, rd_nF (by omega) (by decide), bnd1_some]
  | n + 1, i, 0, _, hf => absurd hf (Nat.not_lt_zero _)
  | n + 1, i, fu + 1, hi, hf => by
    have hstep : uN (cN y b 0 (16 * s) i) (16 * s + i) (y i) = cN y b 0 (16 * s) (i + 1) := by
      funext k
      unfold uN cN
      by_cases h : k = 16 * s + i
      · subst h
        rw [if_pos rfl, if_pos (by omega)]
        congr 1
        omega
      · rw [if_neg h]
        by_cases h2 : 16 * s ≤ k ∧ k < 16 * s + i
        · rw [if_pos h2, if_pos (by omega)]
        · rw [if_neg h2, if_neg (by omega)]
    rw [f_X6_keep_21, if_neg (show ¬ (16 : Int32) ≤ nI i from nI_ge (b := 16) (by omega) (by decide)), rd_nF (by omega) (by decide), bnd1_some, at16, wr_nF (by omega) (by decide), bnd1_some, nI_1, hstep, keepM_l hs n (i + 1) fu (by omega) (by omega)]
theorem againM_l {b y : Nat → Nat} {jf : Nat → Int32} {s : Nat} {na : Int32} (hs : s < 2) : ∀ (n i fu : Nat), i + n = 16 → n < fu → f_X6_again_26 jf (nF b) fu (nI s) (nI i) na (nF (cN b y (16 * s) 0 i)) = some (nI (b (16 * s + 15)), 0, nF (cN b y (16 * s) 0 16))
  | 0, i, 0, _, hf => absurd hf (Nat.not_lt_zero _)
  | 0, i, fu + 1, hi, _ => by
    obtain rfl : i = 16 := by omega
    rw [f_X6_again_26, if_pos (by decide), show (15 : Int32) = nI 15 from rfl, rd_nF (by omega) (by decide), bnd1_some, cN_in (by omega) (by omega)]
  | n + 1, i, 0, _, hf => absurd hf (Nat.not_lt_zero _)
  | n + 1, i, fu + 1, hi, hf => by
    have hstep : uN (cN b y (16 * s) 0 i) i (b (16 * s + i)) = cN b y (16 * s) 0 (i + 1) := by
      funext k
      unfold uN cN
      by_cases h : k = i
      · subst h
        rw [if_pos rfl, if_pos (by omega)]
        congr 1
      · rw [if_neg h]
        by_cases h2 : 0 ≤ k ∧ k < 0 + i
        · rw [if_pos h2, if_pos (by omega)]
        · rw [if_neg h2, if_neg (by omega)]
    rw [f_X6_again_26, if_neg (show ¬ (16 : Int32) ≤ nI i from nI_ge (b := 16) (by omega) (by decide)), at16, rd_nF (by omega) (by decide), bnd1_some, wr_nF (by omega) (by decide), bnd1_some, nI_1, hstep, againM_l hs n (i + 1) fu (by omega) (by omega)]
section KEP
variable {br fa bd na af nx : Nat} {st kd fs fl d p y ac yr jf ks kp : Nat → Nat} {g e t : Nat}
theorem sim_keep (u : Int32) (hT : TOK br fa st kd fs fl) (hM : MOK br bd d p g e t) (ha : AG br d p g e t y 0) (hK : RK br bd jf ks kp) : ∃ (r : Int32) (jf2 ks2 kp2 : Nat → Nat), f_X5_keep (nI g) (nI e) (nI t) (nF d) (nF p) (nF ks) (nF jf) u = some (r, nF ks2, nF jf2) ∧ f_X6_keep (nF y) (nF jf) (nF kp) u = some (r, nF jf2, nF kp2) ∧ RK br bd jf2 ks2 kp2 := by
  unfold f_X5_keep f_X6_keep
  rcases both u (a := 0) (b := 1) (by decide) (by decide) with ⟨s, q1, q2, rfl, q3, q4⟩ | ⟨q3, q4⟩
  · have hs : s < 2 := by omega
    have w1 : wr (nF jf) 2 (nI s) ((1 : Int32) &&& 1) = some (nF (uN jf s 1)) := by
      rw [show ((1 : Int32) &&& 1) = nI 1 from rfl, wr_nF hs (by decide)]
    have l1 := keepM_l (y := y) (b := kp) (jf := uN jf s 1) hs 16 0 130 rfl (by decide)
    have e0 : cN y kp 0 (16 * s) 0 = kp := by
      funext k
      exact cN_out (by omega)
    rw [e0] at l1
    refine ⟨nI t, uN jf s 1, saveN d p g e t ks (16 * s), cN y kp 0 (16 * s) 16, ?_, ?_, fun k hk => ⟨?_, fun hj => ?_⟩⟩
    · rw [show f_X5_within (nI s) (0 : Int32) (1 : Int32) = some 1 from q3, bnd1_some, if_neg i1_0, show (16 : Int32) = nI 16 from rfl, pk_mul, Nat.mul_comm s 16, save1 (by omega) (by decide) hM.2.2.1, bnd1_some, w1, bnd1_some]
    · rw [show f_X6_in (nI s).toInt64 (0 : Int64) (1 : Int64) = some 1 from q4, bnd1_some, if_neg i1_0, w1, bnd1_some, show (0 : Int32) = nI 0 from rfl, l1, show y 15 = t from ha.2.2.2.2]
    · unfold uN
      split
      · omega
      · exact (hK k hk).1
    · by_cases hks : k = s
      · subst hks
        exact RR.save hT.1 hM ha
      · rw [uN_n hks] at hj
        exact ((hK k hk).2 hj).cg hT.1 (fun j hj => saveN_out (by omega)) (fun j hj => cN_out (by omega))
  · refine ⟨-1, jf, ks, kp, ?_, ?_, hK⟩
    · rw [show f_X5_within u (0 : Int32) (1 : Int32) = some 0 from q3, bnd1_some, if_pos rfl]
    · rw [show f_X6_in u.toInt64 (0 : Int64) (1 : Int64) = some 0 from q4, bnd1_some, if_pos rfl]
theorem sim_again (u : Int32) (hT : TOK br fa st kd fs fl) (hM : MOK br bd d p g e t) (ha : AG br d p g e t y 0) (hK : RK br bd jf ks kp) (hR : RA br bd na af ac nx yr) : ∃ (r : Int32) (d2 p2 y2 : Nat → Nat) (g2 e2 t2 na2 af2 : Nat), f_X5_again (nI g) (nI e) (nI t) (nF d) (nF p) (nI af) (nI na) (nF ks) (nF jf) u = some (r, nI g2, nI e2, nI t2, nF d2, nF p2, nI af2, nI na2) ∧ f_X6_again (nI na) (nF y) (nF jf) (nF kp) u = some (r, nI na2, nF y2) ∧ AG br d2 p2 g2 e2 t2 y2 0 ∧ MOK br bd d2 p2 g2 e2 t2 ∧ RA br bd na2 af2 ac nx yr := by
  unfold f_X5_again f_X6_again
  rcases both u (a := 0) (b := 1) (by decide) (by decide) with ⟨s, q1, q2, rfl, q3, q4⟩ | ⟨q3, q4⟩
  · have hs : s < 2 := by omega
    rw [show f_X5_within (nI s) (0 : Int32) (1 : Int32) = some 1 from q3, show f_X6_in (nI s).toInt64 (0 : Int64) (1 : Int64) = some 1 from q4, bnd1_some, bnd1_some, if_neg i1_0, if_neg i1_0, rd_nF hs (by decide), bnd1_some, bnd1_some]
    obtain ⟨j1, j2⟩ := hK s hs
    rcases (show jf s = 0 ∨ jf s = 1 by omega) with h0 | h0
    · rw [h0]
      simp only [show (nI 0 = 0) = True from eq_true rfl, if_true]
      exact ⟨-3, d, p, y, g, e, t, na, af, rfl, rfl, ha, hM, hR⟩
    · have q := j2 h0
      obtain ⟨l1, l2⟩ := q.load (d := d) (p := p) (y := y) hT.1 hM.1
      have u1 := againM_l (b := kp) (y := y) (jf := nF jf) (na := nI na) hs 16 0 130 rfl (by decide)
      have e0 : cN kp y (16 * s) 0 0 = y := by
        funext k
        exact cN_out (by omega)
      rw [e0] at u1
      refine ⟨nI (ks (16 * s + 15)), cN ks d (16 * s) 0 8, cN ks p (16 * s + 8) 0 5, cN kp y (16 * s) 0 16, ks (16 * s + 13), ks (16 * s + 14), ks (16 * s + 15), 0, 0, ?_, ?_, l1, l2, RA.nil hR.2.2.1⟩
      · rw [h0, if_neg (by decide), show (16 : Int32) = nI 16 from rfl, pk_mul, Nat.mul_comm s 16, load1 (by omega) (by decide) q.2.2.1.2, bnd5_some]
        rfl
      · rw [h0, if_neg (by decide), show (0 : Int32) = nI 0 from rfl, u1, q.2.2.2.2.1]
        rfl
  · refine ⟨-1, d, p, y, g, e, t, na, af, ?_, ?_, ha, hM, hR⟩
    · rw [show f_X5_within u (0 : Int32) (1 : Int32) = some 0 from q3, bnd1_some, if_pos rfl]
    · rw [show f_X6_in u.toInt64 (0 : Int64) (1 : Int64) = some 0 from q4, bnd1_some, if_pos rfl]
end KEP
/-- the heaps -/
def HOK (hs : Nat) (hb hl hw : Nat → Nat) : Prop := hs ≤ 6 ∧ (∀ k, hb k ≤ 20) ∧ (∀ k, hl k ≤ 20) ∧ (∀ k, hw k ≤ 9)
theorem le_u {f : Nat → Nat} {k v m : Nat} (h : ∀ j, f j ≤ m) (hv : v ≤ m) : ∀ j, uN f k v j ≤ m := by
  intro j
  unfold uN
  split
  · exact hv
  · exact h j
theorem sim_heap {hs : Nat} {hb hl hw : Nat → Nat} (u v w : Int32) (h : HOK hs hb hl hw) : ∃ (r : Int32) (hs2 : Nat) (hb2 hl2 hw2 : Nat → Nat), f_X5_heap (nI hs) (nF hb) (nF hl) (nF hw) u v w = some (r, nI hs2, nF hb2, nF hl2, nF hw2) ∧ f_X6_heap (nI hs) (nF hb) (nF hl) (nF hw) u v w = some (r, nI hs2, nF hb2, nF hl2, nF hw2) ∧ HOK hs2 hb2 hl2 hw2 := by
  obtain ⟨h1, h2, h3, h4⟩ := h
  unfold f_X5_heap f_X6_heap f_X1_add
  rcases both u (a := 0) (b := 20) (by decide) (by decide) with ⟨k, a1, a2, rfl, a3, a4⟩ | ⟨a3, a4⟩
  · rw [show f_X5_within (nI k) (0 : Int32) (20 : Int32) = some 1 from a3, show f_X6_in (nI k).toInt64 (0 : Int64) (20 : Int64) = some 1 from a4, bnd1_some, bnd1_some, if_neg i1_0, if_neg i1_0]
    rcases both v (a := 0) (b := 20) (by decide) (by decide) with ⟨k2, b1, b2, rfl, b3, b4⟩ | ⟨b3, b4⟩
    · rw [show f_X5_within (nI k2) (0 : Int32) (20 : Int32) = some 1 from b3, show f_X6_in (nI k2).toInt64 (0 : Int64) (20 : Int64) = some 1 from b4, bnd1_some, bnd1_some, if_neg i1_0, if_neg i1_0]
      rcases both w (a := 0) (b := 9) (by decide) (by decide) with ⟨k3, c1, c2, rfl, c3, c4⟩ | ⟨c3, c4⟩
      · rw [show f_X5_within (nI k3) (0 : Int32) (9 : Int32) = some 1 from c3, show f_X6_in (nI k3).toInt64 (0 : Int64) (9 : Int64) = some 1 from c4, bnd1_some, bnd1_some, if_neg i1_0, if_neg i1_0]
        by_cases hf : hs = 6
        · subst hf
          exact ⟨-4, 6, hb, hl, hw, by rfl, by rfl, h1, h2, h3, h4⟩
        · have e1 : nI hs < (6 : Int32) := nI_lt (b := 6) (by omega) (by decide)
          have e2 : ¬ (6 : Int32) ≤ nI hs := nI_ge (a := hs) (b := 6) (by omega) (by decide)
          have e3 : ¬ nI hs = (6 : Int32) := fun q => hf ((nI_eq (a := hs) (b := 6) (by omega) (by decide)).mp q)
          refine ⟨nI (hs + 1), hs + 1, uN hb hs k, uN hl hs k2, uN hw hs k3, ?_, ?_, by omega, le_u h2 a2, le_u h3 b2, le_u h4 c2⟩
          · rw [if_pos e1, if_neg e2, wr_nF (by omega) (by decide), bnd1_some, wr_nF (by omega) (by decide), bnd1_some, wr_nF (by omega) (by decide), bnd1_some, show (1 : Int32) = nI 1 from rfl, nI_add]
            rfl
          · rw [if_neg e3, wr_nF (by omega) (by decide), bnd1_some, wr_nF (by omega) (by decide), bnd1_some, wr_nF (by omega) (by decide), bnd1_some, show (1 : Int32) = nI 1 from rfl, nI_add]
      · rw [show f_X5_within w (0 : Int32) (9 : Int32) = some 0 from c3, show f_X6_in w.toInt64 (0 : Int64) (9 : Int64) = some 0 from c4, bnd1_some, bnd1_some, if_pos rfl, if_pos rfl]
        exact ⟨_, hs, hb, hl, hw, rfl, rfl, h1, h2, h3, h4⟩
    · rw [show f_X5_within v (0 : Int32) (20 : Int32) = some 0 from b3, show f_X6_in v.toInt64 (0 : Int64) (20 : Int64) = some 0 from b4, bnd1_some, bnd1_some, if_pos rfl, if_pos rfl]
      exact ⟨_, hs, hb, hl, hw, rfl, rfl, h1, h2, h3, h4⟩
  · rw [show f_X5_within u (0 : Int32) (20 : Int32) = some 0 from a3, show f_X6_in u.toInt64 (0 : Int64) (20 : Int64) = some 0 from a4, bnd1_some, bnd1_some, if_pos rfl, if_pos rfl]
    exact ⟨_, hs, hb, hl, hw, rfl, rfl, h1, h2, h3, h4⟩
