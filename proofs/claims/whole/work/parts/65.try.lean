/-! doings tried on the trial, on both sides -/
section TRY
variable {br fa : Nat} {st kd fs fl : Nat → Nat}
theorem T_step {bd : Nat} {d p y : Nat → Nat} {g e t : Nat} {wk : Int32} (u v : Int32) (hT : TOK br fa st kd fs fl) (hM : MOK br bd d p g e t) (ha : AG br d p g e t y 16) : ∃ (r : Nat) (p2 y2 : Nat → Nat), r < 2 ∧ f_X5_tryStep (nI br) (nF p) u v = some (nI r, nF p2) ∧ f_X6_tryThing (nI br) (nI fa) wk (nF st) (nF kd) (nF fs) (nF fl) (nF y) 1 u v = some (nI r, nF y2) ∧ MOK br bd d p2 g e t ∧ AG br d p2 g e t y2 16 ∧ FR y y2 16 := by
  unfold f_X5_tryStep f_X6_tryThing f_X6_tryThing_86 f_X6_tryThing_87
  rw [if_neg (show ¬ (1 : Int32) = 0 by decide), if_pos (show (1 : Int32) = 1 from rfl), if_pos (show (0 : Int32) = 0 from rfl), zr_0, bnd1_some]
  rcases bothB u hT.1 with ⟨b, hb, rfl, h3, h4⟩ | ⟨h3, h4⟩
  · rw [h3, h4, bnd1_some, bnd1_some, if_neg i1_0, if_neg i1_0]
    rcases both v (a := 0) (b := 1) (by decide) (by decide) with ⟨k, q1, q2, rfl, q3, q4⟩ | ⟨q3, q4⟩
    · have hp := hM.2.1 b hb
      have hw := walkOn1 (y := y) (lv := 1) (by decide) hT.1 hb hp (show k < 2 by omega) (ha.2.1 b hb)
      have hA := ha.p (v := if k = 0 then (p b + 7) % 8 else (p b + 1) % 8) hT.1 hb
      have hv : (if k = 0 then (p b + 7) % 8 else (p b + 1) % 8) < 8 := by
        split
        · exact Nat.mod_lt _ (by decide)
        · exact Nat.mod_lt _ (by decide)
      have hbr := hT.1
      refine ⟨1, _, _, by decide, ?_, ?_, ⟨hM.1, fun j hj => ?_, hM.2.2⟩, hA, FR.u (by omega)⟩
      · rw [show f_X5_within (nI k) (0 : Int32) (1 : Int32) = some 1 from q3, bnd1_some, if_neg i1_0, step1 hT.1 hb hp (by omega), bnd1_some]
        rfl
      · rw [show f_X6_in (nI k).toInt64 (0 : Int64) (1 : Int64) = some 1 from q4, bnd1_some, if_neg i1_0, if_neg i1_0, show f_X6_walkOn (nF y) 1 (nI b) (nI k) = _ from hw, bnd1_some, zr_1, bnd1_some]
        rfl
      · unfold uN
        split
        · exact hv
        · exact hM.2.1 j hj
    · refine ⟨0, p, y, by decide, ?_, ?_, hM, ha, FR.rf⟩
      · rw [show f_X5_within v (0 : Int32) (1 : Int32) = some 0 from q3, bnd1_some, if_pos rfl]
        rfl
      · rw [show f_X6_in v.toInt64 (0 : Int64) (1 : Int64) = some 0 from q4, bnd1_some, if_pos rfl]
        rfl
  · rw [h3, h4, bnd1_some, bnd1_some, if_pos rfl, if_pos rfl]
    exact ⟨0, p, y, by decide, rfl, rfl, hM, ha, FR.rf⟩
theorem T_vote {bd : Nat} {d p y : Nat → Nat} {g e t : Nat} {wk : Int32} (u v : Int32) (hT : TOK br fa st kd fs fl) (hM : MOK br bd d p g e t) (ha : AG br d p g e t y 16) : ∃ y2 : Nat → Nat, f_X5_tryVote (nI g) = some (1, nI (1 - g)) ∧ f_X6_tryThing (nI br) (nI fa) wk (nF st) (nF kd) (nF fs) (nF fl) (nF y) 2 u v = (if u = 0 then (if v = 0 then some (1, nF y2) else some (0, nF y2)) else some (0, nF y2)) ∧ MOK br bd d p (1 - g) e t ∧ AG br d p (1 - g) e t y2 16 ∧ FR y y2 16 := by
  have hg := hM.2.2.1
  have hA := ha.g (v := 1 - g) hT.1
  refine ⟨_, ?_, ?_, ⟨hM.1, hM.2.1, by omega, hM.2.2.2⟩, hA, FR.u (by omega)⟩
  · unfold f_X5_tryVote f_X2_turnVote
    rcases (show g = 0 ∨ g = 1 by omega) with rfl | rfl <;> rfl
  · unfold f_X6_tryThing
    rw [if_neg (show ¬ (2 : Int32) = 0 by decide), if_neg (show ¬ (2 : Int32) = 1 by decide), if_pos (show (2 : Int32) = 2 from rfl), show (29 : Int32) = nI (16 + 13) from rfl, rd_nF (by decide) (by decide), bnd1_some, ha.2.2.1, show (1 : Int32) - nI g = nI (1 - g) from pk_sub (a := 1) (by omega), wr_nF (by decide) (by decide), bnd1_some]
theorem T_bow {bd : Nat} {d p y : Nat → Nat} {g e t : Nat} {wk : Int32} (u : Int32) (hT : TOK br fa st kd fs fl) (hM : MOK br bd d p g e t) (ha : AG br d p g e t y 16) : ∃ (r e2 : Nat) (y2 : Nat → Nat), r < 2 ∧ f_X5_tryBow (nI br) (nI e) u = some (nI r, nI e2) ∧ f_X6_tryThing (nI br) (nI fa) wk (nF st) (nF kd) (nF fs) (nF fl) (nF y) 3 0 u = some (nI r, nF y2) ∧ MOK br bd d p g e2 t ∧ AG br d p g e2 t y2 16 ∧ FR y y2 16 := by
  have he := hM.2.2.2.1
  have r30 : rd (nF y) 32 (30 : Int32) = some (nI e) := by
    rw [show (30 : Int32) = nI (16 + 14) from rfl, rd_nF (by decide) (by decide), ha.2.2.2.1]
  have e0 : nI e ||| 0 = nI e := by
    have := (or32 e he 0 (by decide)).1
    rw [Nat.or_zero] at this
    exact this
  have w0 : wr (nF y) 32 (30 : Int32) (nI e) = some (nF (uN y (16 + 14) e)) := by
    rw [show (30 : Int32) = nI (16 + 14) from rfl, wr_nF (by decide) (by decide)]
  have hA0 := ha.e (v := e) hT.1
  unfold f_X5_tryBow f_X6_tryThing f_X6_tryThing_164 f_X6_tryThing_165
  rw [if_neg (show ¬ (3 : Int32) = 0 by decide), if_neg (show ¬ (3 : Int32) = 1 by decide), if_neg (show ¬ (3 : Int32) = 2 by decide), if_pos (show (3 : Int32) = 3 from rfl), r30]
  simp only [bnd1_some, if_true, if_neg i1_0, e0, w0, zr_0, zr_1]
  rcases bothB u hT.1 with ⟨b, hb, rfl, h3, h4⟩ | ⟨h3, h4⟩
  · have hb5 : b < 5 := by have := hT.1; omega
    obtain ⟨o1, o2⟩ := or1 e he b hb5
    rw [h3, h4, bnd1_some, bnd1_some, if_neg i1_0, if_neg i1_0, bent1 e he b hb5, has1 e he b hb5, bnd1_some, bnd1_some]
    cases hbt : bitN e b
    · refine ⟨1, e ||| 2 ^ b, _, by decide, ?_, ?_, ⟨hM.1, hM.2.1, hM.2.2.1, o2, hM.2.2.2.2⟩, ha.e (v := e ||| 2 ^ b) hT.1, FR.u (by omega)⟩
      · rw [if_pos (by decide)]
        unfold f_X2_bow
        rw [bnd1_some, o1]
        rfl
      · rw [if_pos (by decide), o1, show (30 : Int32) = nI (16 + 14) from rfl, wr_nF (by decide) (by decide), bnd1_some]
        rfl
    · refine ⟨0, e, _, by decide, ?_, ?_, hM, hA0, FR.u (by omega)⟩
      · rw [if_neg (by decide)]
        rfl
      · rw [if_neg (by decide)]
        rfl
  · rw [h3, h4, bnd1_some, bnd1_some, if_pos rfl, if_pos rfl]
    exact ⟨0, e, _, by decide, rfl, rfl, hM, hA0, FR.u (by omega)⟩
theorem T_empty {bd : Nat} {d p y : Nat → Nat} {g e t : Nat} {wk : Int32} (u : Int32) (hT : TOK br fa st kd fs fl) (hM : MOK br bd d p g e t) (ha : AG br d p g e t y 16) : ∃ (r : Nat) (d2 y2 : Nat → Nat), r < 2 ∧ f_X5_tryEmpty (nF d) u = some (nI r, nF d2) ∧ f_X6_tryThing (nI br) (nI fa) wk (nF st) (nF kd) (nF fs) (nF fl) (nF y) 4 0 u = some (nI r, nF y2) ∧ MOK br bd d2 p g e t ∧ AG br d2 p g e t y2 16 ∧ FR y y2 16 := by
  unfold f_X5_tryEmpty f_X6_tryThing f_X6_tryThing_219 f_X6_tryThing_220
  rw [if_neg (show ¬ (4 : Int32) = 0 by decide), if_neg (show ¬ (4 : Int32) = 1 by decide), if_neg (show ¬ (4 : Int32) = 2 by decide), if_neg (show ¬ (4 : Int32) = 3 by decide), if_pos (show (4 : Int32) = 4 from rfl)]
  simp only [bnd1_some, if_true, if_neg i1_0, zr_0, zr_1]
  rcases bothS u with ⟨k, hk, rfl, h3, h4⟩ | ⟨h3, h4⟩
  · have r0 : rd (nF y) 32 ((16 : Int32) + nI k) = some (nI (d k)) := by
      rw [show (16 : Int32) + nI k = nI (16 + k) from nI_add 16 k, rd_nF (by omega) (by decide), ha.1 k hk]
    have hd := hM.1 k
    rw [h3, h4, bnd1_some, bnd1_some, if_neg i1_0, if_neg i1_0, dustIn1 hk, r0, bnd1_some, bnd1_some]
    by_cases h0 : d k = 0
    · rw [h0]
      refine ⟨0, d, y, by decide, ?_, ?_, hM, ha, FR.rf⟩
      · rw [if_pos (show nI 0 = 0 from rfl)]
        rfl
      · rw [if_pos (show nI 0 ≤ 0 by decide)]
        rfl
    · refine ⟨1, uN d k 0, _, by decide, ?_, ?_, ⟨hM.1.u (by omega), hM.2⟩, ha.d (v := 0) hT.1 hk, FR.u (by omega)⟩
      · rw [if_neg (nI_ne0 (by omega) (by omega))]
        unfold f_X2_empty
        rw [st1 k hk, bnd1_some, if_neg i1_0, show (0 : Int32) = nI 0 from rfl, wr_nF hk (by decide), bnd1_some, bnd1_some]
        rfl
      · rw [if_neg (nI_nle (by omega) (by omega)), show (16 : Int32) + nI k = nI (16 + k) from nI_add 16 k, show (0 : Int32) = nI 0 from rfl, wr_nF (by omega) (by decide), bnd1_some]
        rfl
  · rw [h3, h4, bnd1_some, bnd1_some, if_pos rfl, if_pos rfl]
    exact ⟨0, d, y, by decide, rfl, rfl, hM, ha, FR.rf⟩
end TRY
