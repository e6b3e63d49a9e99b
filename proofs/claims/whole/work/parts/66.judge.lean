/-! told doings judged; years -/
section JDG
variable {br fa : Nat} {st kd fs fl : Nat → Nat}
theorem n0 {b : Nat} (h : b < 10) : nI b = 0 ↔ b = 0 := nI_eq (a := b) (b := 0) (by omega) (by decide)
theorem T_dawn {bd : Nat} {d p y : Nat → Nat} {g e t : Nat} (de : Nat → Int32) (hT : TOK br fa st kd fs fl) (hM : MOK br bd d p g e t) (hbd : bd < 2 ^ 30) (ha : AG br d p g e t y 16) : ∃ (D y2 : Nat → Nat) (de2 : Nat → Int32), f_X5_tryDawn (nI br) (nI fa) (nF st) (nF kd) (nF fs) (nF fl) (nI g) (nI e) (nI t) (nF d) (nF p) de = some (1, nI (t + 1), nF D, de2) ∧ f_X6_passOn (nI br) (nI fa) 31 (nF st) (nF kd) (nF fs) (nF fl) (nF y) 1 1 = some (nF y2) ∧ MOK br (bd + 1) D p g e (t + 1) ∧ AG br D p g e (t + 1) y2 16 ∧ FR y y2 16 := by
  obtain ⟨D, y1, de1, c1, c2, c3, c4, c5⟩ := dawn1 (times := 1) (lv := 1) (w := 31) hT hM (by omega) (by decide) (by decide) (by decide) ha de
  refine ⟨D, y1, de1, ?_, c2, c5, c3, c4⟩
  unfold f_X5_tryDawn
  rw [show f_X2_passDawn (nI g) (nI e) (nI t) (nF d) (nF p) de (nI br) (nI fa) (nF st) (nF kd) (nF fs) (nF fl) 31 1 = _ from c1, bnd3_some]
theorem jd1 {bd : Nat} {d p y : Nat → Nat} {g e t a b c : Nat} (de : Nat → Int32) (hT : TOK br fa st kd fs fl) (hM : MOK br bd d p g e t) (hbd : bd < 2 ^ 30) (ha : AG br d p g e t y 16) (h1 : a < 10) (h2 : b < 10) (h3 : c < 10) : ∃ (r : Nat) (g2 e2 t2 : Int32) (D P y2 : Nat → Nat) (de2 : Nat → Int32), r < 2 ∧ f_X5_isSo (nI br) (nI fa) (nF st) (nF kd) (nF fs) (nF fl) (nI g) (nI e) (nI t) (nF d) (nF p) de (nI a) (nI b) (nI c) = some (nI r, g2, e2, t2, nF D, nF P, de2) ∧ f_X6_tryThing (nI br) (nI fa) 31 (nF st) (nF kd) (nF fs) (nF fl) (nF y) (nI a) (nI b) (nI c) = some (nI r, nF y2) ∧ B99 D ∧ FR y y2 16 ∧ (r = 1 → ∃ g' e' t' : Nat, g2 = nI g' ∧ e2 = nI e' ∧ t2 = nI t' ∧ MOK br (bd + 1) D P g' e' t' ∧ AG br D P g' e' t' y2 16) := by
  have up : MOK br bd d p g e t → MOK br (bd + 1) d p g e t := fun h => h.up (by omega)
  have nb := n0 h2
  have nc := n0 h3
  rcases (show a = 0 ∨ a = 1 ∨ a = 2 ∨ a = 3 ∨ a = 4 ∨ a = 5 ∨ a = 6 ∨ a = 7 ∨ a = 8 ∨ a = 9 by omega) with rfl | rfl | rfl | rfl | rfl | rfl | rfl | hd
  · obtain ⟨D, y2, de2, q1, q2, q3, q4, q5⟩ := T_dawn de hT hM hbd ha
    unfold f_X5_isSo f_X6_tryThing
    rw [if_neg (show ¬ nI 0 = 1 by decide), if_neg (show ¬ nI 0 = 5 by decide), if_pos (show nI 0 = 0 from rfl), if_pos (show nI 0 = 0 from rfl), q1, bnd4_some, q2, bnd1_some, if_neg i1_0]
    by_cases hb : b = 0
    · rw [if_pos (nb.mpr hb), if_pos (nb.mpr hb)]
      by_cases hc : c = 0
      · rw [if_pos (nc.mpr hc), if_pos (nc.mpr hc)]
        exact ⟨1, _, _, _, D, p, y2, de2, by decide, rfl, rfl, q3.1, q5, fun _ => ⟨g, e, t + 1, rfl, rfl, rfl, q3, q4⟩⟩
      · rw [if_neg (fun z => hc (nc.mp z)), if_neg (fun z => hc (nc.mp z))]
        exact ⟨0, _, _, _, d, p, y2, de, by decide, rfl, rfl, hM.1, q5, fun z => by cases z⟩
    · rw [if_neg (fun z => hb (nb.mp z)), if_neg (fun z => hb (nb.mp z))]
      exact ⟨0, _, _, _, d, p, y2, de, by decide, rfl, rfl, hM.1, q5, fun z => by cases z⟩
  · obtain ⟨r, p2, y2, r2, q1, q2, q3, q4, q5⟩ := T_step (wk := 31) (nI b) (nI c) hT hM ha
    refine ⟨r, nI g, nI e, nI t, d, p2, y2, de, r2, ?_, q2, hM.1, q5, fun _ => ⟨g, e, t, rfl, rfl, rfl, q3.up (by omega), q4⟩⟩
    unfold f_X5_isSo
    rw [if_pos (show nI 1 = 1 from rfl), q1, bnd2_some, zr_nI (by omega), bnd1_some]
  · obtain ⟨y2, q1, q2, q3, q4, q5⟩ := T_vote (wk := 31) (nI b) (nI c) hT hM ha
    rw [show f_X6_tryThing (nI br) (nI fa) 31 (nF st) (nF kd) (nF fs) (nF fl) (nF y) (nI 2) (nI b) (nI c) = _ from q2]
    unfold f_X5_isSo
    rw [if_neg (show ¬ nI 2 = 1 by decide), if_neg (show ¬ nI 2 = 5 by decide), if_neg (show ¬ nI 2 = 0 by decide), if_neg (show ¬ nI 2 = 1 by decide), if_pos (show nI 2 = 2 from rfl), q1, bnd2_some, if_neg i1_0]
    by_cases hb : b = 0
    · rw [if_pos (nb.mpr hb), if_pos (nb.mpr hb)]
      by_cases hc : c = 0
      · rw [if_pos (nc.mpr hc), if_pos (nc.mpr hc)]
        exact ⟨1, _, _, _, d, p, y2, de, by decide, rfl, rfl, hM.1, q5, fun _ => ⟨1 - g, e, t, rfl, rfl, rfl, q3.up (by omega), q4⟩⟩
      · rw [if_neg (fun z => hc (nc.mp z)), if_neg (fun z => hc (nc.mp z))]
        exact ⟨0, _, _, _, d, p, y2, de, by decide, rfl, rfl, hM.1, q5, fun z => by cases z⟩
    · rw [if_neg (fun z => hb (nb.mp z)), if_neg (fun z => hb (nb.mp z))]
      exact ⟨0, _, _, _, d, p, y2, de, by decide, rfl, rfl, hM.1, q5, fun z => by cases z⟩
  · obtain ⟨r, e2, y2, r2, q1, q2, q3, q4, q5⟩ := T_bow (wk := 31) (nI c) hT hM ha
    by_cases hb : b = 0
    · subst hb
      refine ⟨r, nI g, nI e2, nI t, d, p, y2, de, r2, ?_, q2, hM.1, q5, fun _ => ⟨g, e2, t, rfl, rfl, rfl, q3.up (by omega), q4⟩⟩
      unfold f_X5_isSo
      rw [if_neg (show ¬ nI 3 = 1 by decide), if_neg (show ¬ nI 3 = 5 by decide), if_pos (show nI 0 = 0 from rfl), if_neg (show ¬ nI 3 = 0 by decide), if_neg (show ¬ nI 3 = 1 by decide), if_neg (show ¬ nI 3 = 2 by decide), if_pos (show nI 3 = 3 from rfl), q1, bnd2_some, zr_nI (by omega), bnd1_some]
    · have he := hM.2.2.2.1
      have e0 : nI e ||| 0 = nI e := by
        have := (or32 e he 0 (by decide)).1
        rw [Nat.or_zero] at this
        exact this
      refine ⟨0, nI g, nI e, nI t, d, p, uN y (16 + 14) e, de, by decide, ?_, ?_, hM.1, FR.u (by omega), fun z => by cases z⟩
      · unfold f_X5_isSo
        rw [if_neg (show ¬ nI 3 = 1 by decide), if_neg (show ¬ nI 3 = 5 by decide), if_neg (fun z => hb (nb.mp z))]
        rfl
      · unfold f_X6_tryThing f_X6_tryThing_164 f_X6_tryThing_165
        rw [if_neg (show ¬ nI 3 = 0 by decide), if_neg (show ¬ nI 3 = 1 by decide), if_neg (show ¬ nI 3 = 2 by decide), if_pos (show nI 3 = 3 from rfl), if_neg (fun z => hb (nb.mp z)), show (30 : Int32) = nI (16 + 14) from rfl, rd_nF (by decide) (by decide), bnd1_some, if_pos rfl, ha.2.2.2.1, e0, wr_nF (by decide) (by decide), bnd1_some, zr_0, bnd1_some]
        rfl
  · obtain ⟨r, d2, y2, r2, q1, q2, q3, q4, q5⟩ := T_empty (wk := 31) (nI c) hT hM ha
    by_cases hb : b = 0
    · subst hb
      refine ⟨r, nI g, nI e, nI t, d2, p, y2, de, r2, ?_, q2, q3.1, q5, fun _ => ⟨g, e, t, rfl, rfl, rfl, q3.up (by omega), q4⟩⟩
      unfold f_X5_isSo
      rw [if_neg (show ¬ nI 4 = 1 by decide), if_neg (show ¬ nI 4 = 5 by decide), if_pos (show nI 0 = 0 from rfl), if_neg (show ¬ nI 4 = 0 by decide), if_neg (show ¬ nI 4 = 1 by decide), if_neg (show ¬ nI 4 = 2 by decide), if_neg (show ¬ nI 4 = 3 by decide), if_pos (show nI 4 = 4 from rfl), q1, bnd2_some, zr_nI (by omega), bnd1_some]
    · refine ⟨0, nI g, nI e, nI t, d, p, y, de, by decide, ?_, ?_, hM.1, FR.rf, fun z => by cases z⟩
      · unfold f_X5_isSo
        rw [if_neg (show ¬ nI 4 = 1 by decide), if_neg (show ¬ nI 4 = 5 by decide), if_neg (fun z => hb (nb.mp z))]
        rfl
      · unfold f_X6_tryThing f_X6_tryThing_219 f_X6_tryThing_220
        rw [if_neg (show ¬ nI 4 = 0 by decide), if_neg (show ¬ nI 4 = 1 by decide), if_neg (show ¬ nI 4 = 2 by decide), if_neg (show ¬ nI 4 = 3 by decide), if_pos (show nI 4 = 4 from rfl), if_neg (fun z => hb (nb.mp z)), if_pos rfl, zr_0, bnd1_some]
        rfl
  · unfold f_X5_isSo f_X6_tryThing
    rw [if_neg (show ¬ nI 5 = 1 by decide), if_pos (show nI 5 = 5 from rfl), if_neg (show ¬ nI 5 = 0 by decide), if_neg (show ¬ nI 5 = 1 by decide), if_neg (show ¬ nI 5 = 2 by decide), if_neg (show ¬ nI 5 = 3 by decide), if_neg (show ¬ nI 5 = 4 by decide), if_pos (show nI 5 = 5 from rfl)]
    rcases bothS (nI b) with ⟨k, hk, ek, q3, q4⟩ | ⟨q3, q4⟩
    · have r0 : rd (nF y) 32 ((16 : Int32) + nI b) = some (nI (d k)) := by
        rw [ek, show (16 : Int32) + nI k = nI (16 + k) from nI_add 16 k, rd_nF (by omega) (by decide), ha.1 k hk]
      rw [q3, q4, bnd1_some, bnd1_some, if_neg i1_0, if_neg i1_0, r0, bnd1_some, ek, dustIn1 hk, bnd1_some]
      by_cases hlt : nI (d k) < nI c
      · rw [if_pos hlt, if_pos hlt]
        exact ⟨0, _, _, _, d, p, y, de, by decide, rfl, rfl, hM.1, FR.rf, fun z => by cases z⟩
      · rw [if_neg hlt, if_neg hlt]
        exact ⟨1, _, _, _, d, p, y, de, by decide, rfl, rfl, hM.1, FR.rf, fun _ => ⟨g, e, t, rfl, rfl, rfl, up hM, ha⟩⟩
    · rw [q3, q4, bnd1_some, bnd1_some, if_pos rfl, if_pos rfl]
      exact ⟨0, _, _, _, d, p, y, de, by decide, rfl, rfl, hM.1, FR.rf, fun z => by cases z⟩
  · unfold f_X5_isSo f_X6_tryThing
    rw [if_neg (show ¬ nI 6 = 1 by decide), if_neg (show ¬ nI 6 = 5 by decide), if_neg (show ¬ nI 6 = 0 by decide), if_neg (show ¬ nI 6 = 0 by decide), if_neg (show ¬ nI 6 = 1 by decide), if_neg (show ¬ nI 6 = 1 by decide), if_neg (show ¬ nI 6 = 2 by decide), if_neg (show ¬ nI 6 = 2 by decide), if_neg (show ¬ nI 6 = 3 by decide), if_neg (show ¬ nI 6 = 3 by decide), if_neg (show ¬ nI 6 = 4 by decide), if_neg (show ¬ nI 6 = 4 by decide), if_neg (show ¬ nI 6 = 5 by decide), if_neg (show ¬ nI 6 = 5 by decide), if_pos (show nI 6 = 6 from rfl), if_pos (show nI 6 = 6 from rfl)]
    by_cases hb : b = 0
    · rw [if_pos (nb.mpr hb), if_pos (nb.mpr hb)]
      rcases bothS (nI c) with ⟨k, hk, ek, q3, q4⟩ | ⟨q3, q4⟩
      · have r0 : rd (nF y) 32 ((16 : Int32) + nI c) = some (nI (d k)) := by
          rw [ek, show (16 : Int32) + nI k = nI (16 + k) from nI_add 16 k, rd_nF (by omega) (by decide), ha.1 k hk]
        have hd := hM.1 k
        rw [q3, q4, bnd1_some, bnd1_some, if_neg i1_0, if_neg i1_0, r0, bnd1_some, ek, isDeep1 hk hd, bnd1_some]
        by_cases hq : dpN d k = 0
        · rw [if_pos hq, if_pos rfl, if_pos ((dp_lt hd).mpr hq)]
          exact ⟨0, _, _, _, d, p, y, de, by decide, rfl, rfl, hM.1, FR.rf, fun z => by cases z⟩
        · rw [if_neg hq, if_neg i1_0, if_neg (fun q => hq ((dp_lt hd).mp q))]
          exact ⟨1, _, _, _, d, p, y, de, by decide, rfl, rfl, hM.1, FR.rf, fun _ => ⟨g, e, t, rfl, rfl, rfl, up hM, ha⟩⟩
      · rw [q3, q4, bnd1_some, bnd1_some, if_pos rfl, if_pos rfl]
        exact ⟨0, _, _, _, d, p, y, de, by decide, rfl, rfl, hM.1, FR.rf, fun z => by cases z⟩
    · rw [if_neg (fun z => hb (nb.mp z)), if_neg (fun z => hb (nb.mp z))]
      exact ⟨0, _, _, _, d, p, y, de, by decide, rfl, rfl, hM.1, FR.rf, fun z => by cases z⟩
  · have k0 : ¬ nI a = 0 := by rcases hd with rfl | rfl | rfl <;> decide
    have k1 : ¬ nI a = 1 := by rcases hd with rfl | rfl | rfl <;> decide
    have k2 : ¬ nI a = 2 := by rcases hd with rfl | rfl | rfl <;> decide
    have k3 : ¬ nI a = 3 := by rcases hd with rfl | rfl | rfl <;> decide
    have k4 : ¬ nI a = 4 := by rcases hd with rfl | rfl | rfl <;> decide
    have k5 : ¬ nI a = 5 := by rcases hd with rfl | rfl | rfl <;> decide
    have k6 : ¬ nI a = 6 := by rcases hd with rfl | rfl | rfl <;> decide
    unfold f_X5_isSo f_X6_tryThing
    simp only [k0, k1, k2, k3, k4, k5, k6, if_false, ite_self]
    exact ⟨0, _, _, _, d, p, y, de, by decide, rfl, rfl, hM.1, FR.rf, fun z => by cases z⟩
end JDG
