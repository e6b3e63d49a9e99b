/-! the acts, on both sides -/
theorem AG.p {br : Nat} {d p : Nat → Nat} {g e t : Nat} {y : Nat → Nat} {B b v : Nat} (hbr : br < 6) (hb : b < br) (h : AG br d p g e t y B) : AG br d (uN p b v) g e t (uN y (B + 8 + b) v) B := by
  refine ⟨fun k hk => ?_, fun k hk => ?_, ?_, ?_, ?_⟩
  · rw [uN_n (by omega)]
    exact h.1 k hk
  · unfold uN
    by_cases hks : k = b
    · rw [if_pos hks, if_pos (by omega)]
    · rw [if_neg hks, if_neg (by omega)]
      exact h.2.1 k hk
  · rw [uN_n (by omega)]
    exact h.2.2.1
  · rw [uN_n (by omega)]
    exact h.2.2.2.1
  · rw [uN_n (by omega)]
    exact h.2.2.2.2
theorem AG.g {br : Nat} {d p : Nat → Nat} {g e t : Nat} {y : Nat → Nat} {B v : Nat} (hbr : br < 6) (h : AG br d p g e t y B) : AG br d p v e t (uN y (B + 13) v) B := by
  refine ⟨fun k hk => ?_, fun k hk => ?_, uN_s _ _ _, ?_, ?_⟩
  · rw [uN_n (by omega)]
    exact h.1 k hk
  · rw [uN_n (by omega)]
    exact h.2.1 k hk
  · rw [uN_n (by omega)]
    exact h.2.2.2.1
  · rw [uN_n (by omega)]
    exact h.2.2.2.2
theorem AG.e {br : Nat} {d p : Nat → Nat} {g e t : Nat} {y : Nat → Nat} {B v : Nat} (hbr : br < 6) (h : AG br d p g e t y B) : AG br d p g v t (uN y (B + 14) v) B := by
  refine ⟨fun k hk => ?_, fun k hk => ?_, ?_, uN_s _ _ _, ?_⟩
  · rw [uN_n (by omega)]
    exact h.1 k hk
  · rw [uN_n (by omega)]
    exact h.2.1 k hk
  · rw [uN_n (by omega)]
    exact h.2.2.1
  · rw [uN_n (by omega)]
    exact h.2.2.2.2
def pcN (e : Nat) : Nat := e % 2 + e / 2 % 2 + e / 4 % 2 + e / 8 % 2 + e / 16 % 2 + e / 32 % 2
theorem pc1 : ∀ e, e < 64 → f_J6_bitCount_0f7a4 (nI e) = some (nI (pcN e)) := by decide +kernel
theorem pcM : ∀ e, e < 64 → f_X6_ones (nI e) = some (nI (pcN e)) := by decide +kernel
theorem or1 : ∀ e, e < 32 → ∀ b, b < 5 → (nI e ||| ((1 : Int32) <<< (nI b &&& 31)) = nI (e ||| 2 ^ b) ∧ (e ||| 2 ^ b) < 32) := by decide +kernel
theorem MOK.up {br bd bd2 : Nat} {d p : Nat → Nat} {g e t : Nat} (h : MOK br bd d p g e t) (hb : bd ≤ bd2) : MOK br bd2 d p g e t := ⟨h.1, h.2.1, h.2.2.1, h.2.2.2.1, Nat.le_trans h.2.2.2.2 hb⟩
theorem step1 {p : Nat → Nat} {br b s : Nat} (hbr : br < 6) (hb : b < br) (hp : p b < 8) (hs : s < 2) : f_X2_step (nF p) (nI br) (nI b) (nI s) = some (nF (uN p b (if s = 0 then (p b + 7) % 8 else (p b + 1) % 8))) := by
  unfold f_X2_step f_X2_goTo
  rw [placeOf1 hbr hb, bnd1_some, left1 _ hp, right1 _ hp, bnd1_some, bnd1_some, hasB1 br hbr b hb, bnd1_some, bnd1_some, if_neg i1_0, if_neg i1_0, wr_nF (by omega) (by decide), wr_nF (by omega) (by decide), bnd1_some, bnd1_some, bnd1_some, bnd1_some]
  rcases (show s = 0 ∨ s = 1 by omega) with rfl | rfl
  · rw [if_pos (show nI 0 = 0 from rfl), if_pos rfl]
  · rw [if_neg (by decide), if_neg (by decide)]
theorem walkOn1 {p y : Nat → Nat} {br b s lv : Nat} (hlv : lv < 2) (hbr : br < 6) (hb : b < br) (hp : p b < 8) (hs : s < 2) (hy : y (16 * lv + 8 + b) = p b) : f_X6_walkOn (nF y) (nI lv) (nI b) (nI s) = some (nF (uN y (16 * lv + 8 + b) (if s = 0 then (p b + 7) % 8 else (p b + 1) % 8))) := by
  unfold f_X6_walkOn
  rw [show (8 : Int32) = nI 8 from rfl, at16, nI_add, rd_nF (by omega) (by decide), bnd1_some, hy, show (7 : Int32) = nI 7 from rfl, nI_add, pk_rem (by omega) (by decide) (by decide), wr_nF (by omega) (by decide), bnd1_some, show (1 : Int32) = nI 1 from rfl, nI_add, pk_rem (by omega) (by decide) (by decide), wr_nF (by omega) (by decide), bnd1_some]
  rcases (show s = 0 ∨ s = 1 by omega) with rfl | rfl
  · rw [if_pos (show nI 0 = 0 from rfl), if_pos rfl]
  · rw [if_neg (by decide), if_neg (by decide)]
section ACT
variable {br fa bd na af nx : Nat} {st kd fs fl d p y ac yr : Nat → Nat} {g e t : Nat}
theorem sim_dawn (de : Nat → Int32) (hT : TOK br fa st kd fs fl) (hM : MOK br bd d p g e t) (hbd : bd < 2 ^ 29) (ha : AG br d p g e t y 0) (hR : RA br bd na af ac nx yr) : ∃ (r : Int32) (d2 y2 : Nat → Nat) (de2 : Nat → Int32) (af2 : Nat) (ac2 yr2 : Nat → Nat), f_X5_dawn (nI br) (nI fa) (nF st) (nF kd) (nF fs) (nF fl) (nI g) (nI e) (nI t) (nF d) (nF p) de (nI af) (nI na) (nF ac) = some (r, nI (t + 1), nF d2, de2, nI af2, nI (min (na + 1) 14), nF ac2) ∧ f_X6_dawn (nI br) (nI fa) 31 (nI na) (nI nx) (nF st) (nF kd) (nF fs) (nF fl) (nF y) (nF yr) = some (r, nI (min (na + 1) 14), nI ((nx + 1) % 14), nF y2, nF yr2) ∧ AG br d2 p g e (t + 1) y2 0 ∧ MOK br (bd + 1) d2 p g e (t + 1) ∧ RA br (bd + 1) (min (na + 1) 14) af2 ac2 ((nx + 1) % 14) yr2 := by
  obtain ⟨af2, ac2, yr2, k1, k2, k3⟩ := push1 hT.1 hM ha hR
  obtain ⟨D, y1, de', c1, c2, c3, c4, c5⟩ := dawn1 (times := 1) (lv := 0) (w := 31) hT hM (by omega) (by decide) (by decide) (by decide) ha de
  have hs := dustOn1 (lv := 0) (by decide) c3.1
  refine ⟨nI (smN D 8 0), D, y1, de', af2, ac2, yr2, ?_, ?_, c3, c5, k3.up (by omega)⟩
  · unfold f_X5_dawn
    rw [k1, bnd3_some, show (31 : Int32) = nI 31 from rfl, show (1 : Int32) = nI 1 from rfl, c1, bnd3_some, allDust1, bnd1_some]
  · unfold f_X6_dawn
    rw [k2, bnd3_some, show (31 : Int32) = nI 31 from rfl, show (1 : Int32) = nI 1 from rfl, show (0 : Int32) = nI 0 from rfl, c2, bnd1_some, hs, bnd1_some]
theorem sim_walk (u v : Int32) (hT : TOK br fa st kd fs fl) (hM : MOK br bd d p g e t) (ha : AG br d p g e t y 0) (hR : RA br bd na af ac nx yr) : ∃ (r : Int32) (p2 y2 : Nat → Nat) (na2 af2 nx2 : Nat) (ac2 yr2 : Nat → Nat), f_X5_walk (nI br) (nI g) (nI e) (nI t) (nF d) (nF p) (nI af) (nI na) (nF ac) u v = some (r, nF p2, nI af2, nI na2, nF ac2) ∧ f_X6_walk (nI br) (nI na) (nI nx) (nF y) (nF yr) u v = some (r, nI na2, nI nx2, nF y2, nF yr2) ∧ AG br d p2 g e t y2 0 ∧ MOK br bd d p2 g e t ∧ RA br bd na2 af2 ac2 nx2 yr2 := by
  unfold f_X5_walk f_X6_walk
  rcases bothB u hT.1 with ⟨b, hb, rfl, h3, h4⟩ | ⟨h3, h4⟩
  · rw [h3, h4, bnd1_some, bnd1_some, if_neg i1_0, if_neg i1_0]
    rcases both v (a := 0) (b := 1) (by decide) (by decide) with ⟨k, q1, q2, rfl, q3, q4⟩ | ⟨q3, q4⟩
    · obtain ⟨af2, ac2, yr2, k1, k2, k3⟩ := push1 hT.1 hM ha hR
      have hp := hM.2.1 b hb
      have hbr := hT.1
      have hw := walkOn1 (y := y) (lv := 0) (by decide) hT.1 hb hp (show k < 2 by omega) (by have := ha.2.1 b hb; exact this)
      have hA := ha.p (v := if k = 0 then (p b + 7) % 8 else (p b + 1) % 8) hT.1 hb
      have hv : (if k = 0 then (p b + 7) % 8 else (p b + 1) % 8) < 8 := by
        split
        · exact Nat.mod_lt _ (by decide)
        · exact Nat.mod_lt _ (by decide)
      refine ⟨nI (if k = 0 then (p b + 7) % 8 else (p b + 1) % 8), uN p b (if k = 0 then (p b + 7) % 8 else (p b + 1) % 8), uN y (0 + 8 + b) (if k = 0 then (p b + 7) % 8 else (p b + 1) % 8), min (na + 1) 14, af2, (nx + 1) % 14, ac2, yr2, ?_, ?_, hA, ⟨hM.1, fun j hj => ?_, hM.2.2⟩, k3⟩
      · rw [show f_X5_within (nI k) (0 : Int32) (1 : Int32) = some 1 from q3, bnd1_some, if_neg i1_0, k1, bnd3_some, step1 hT.1 hb hp (by omega), bnd1_some, placeOf1 hT.1 hb, bnd1_some, uN_s]
      · rw [show f_X6_in (nI k).toInt64 (0 : Int64) (1 : Int64) = some 1 from q4, bnd1_some, if_neg i1_0, k2, bnd3_some, show f_X6_walkOn (nF y) (0 : Int32) (nI b) (nI k) = _ from hw, bnd1_some, show (8 : Int32) = nI 8 from rfl, nI_add, rd_nF (by omega) (by decide), bnd1_some, show 16 * 0 + 8 + b = 8 + b by omega, uN_s, show 0 + 8 + b = 8 + b by omega]
      · unfold uN
        split
        · exact hv
        · exact hM.2.1 j hj
    · refine ⟨-2, p, y, na, af, nx, ac, yr, ?_, ?_, ha, hM, hR⟩
      · rw [show f_X5_within v (0 : Int32) (1 : Int32) = some 0 from q3, bnd1_some, if_pos rfl]
      · rw [show f_X6_in v.toInt64 (0 : Int64) (1 : Int64) = some 0 from q4, bnd1_some, if_pos rfl]
  · rw [h3, h4, bnd1_some, bnd1_some, if_pos rfl, if_pos rfl]
    exact ⟨-1, p, y, na, af, nx, ac, yr, rfl, rfl, ha, hM, hR⟩
theorem sim_vote (hT : TOK br fa st kd fs fl) (hM : MOK br bd d p g e t) (ha : AG br d p g e t y 0) (hR : RA br bd na af ac nx yr) : ∃ (r : Int32) (g2 : Nat) (y2 : Nat → Nat) (na2 af2 nx2 : Nat) (ac2 yr2 : Nat → Nat), f_X5_vote (nI g) (nI e) (nI t) (nF d) (nF p) (nI af) (nI na) (nF ac) = some (r, nI g2, nI af2, nI na2, nF ac2) ∧ f_X6_vote (nI na) (nI nx) (nF y) (nF yr) = some (r, nI na2, nI nx2, nF y2, nF yr2) ∧ AG br d p g2 e t y2 0 ∧ MOK br bd d p g2 e t ∧ RA br bd na2 af2 ac2 nx2 yr2 := by
  obtain ⟨af2, ac2, yr2, k1, k2, k3⟩ := push1 hT.1 hM ha hR
  have hg := hM.2.2.1
  have hA := ha.g (v := 1 - g) hT.1
  refine ⟨nI (1 - g), 1 - g, _, min (na + 1) 14, af2, (nx + 1) % 14, ac2, yr2, ?_, ?_, hA, ⟨hM.1, hM.2.1, by omega, hM.2.2.2⟩, k3⟩
  · unfold f_X5_vote f_X2_turnVote
    rw [k1, bnd3_some]
    rcases (show g = 0 ∨ g = 1 by omega) with rfl | rfl
    · rw [if_pos (by decide), bnd1_some, if_neg (by decide)]
      rfl
    · rw [if_neg (by decide), bnd1_some, if_pos rfl]
      rfl
  · unfold f_X6_vote
    rw [k2, bnd3_some, show (13 : Int32) = nI 13 from rfl, rd_nF (by omega) (by decide), bnd1_some, show y 13 = g from ha.2.2.1, show (1 : Int32) = nI 1 from rfl, pk_sub (by omega), wr_nF (by omega) (by decide), bnd1_some, rd_nF (by omega) (by decide), bnd1_some, uN_s]
theorem sim_bend (u : Int32) (hT : TOK br fa st kd fs fl) (hM : MOK br bd d p g e t) (ha : AG br d p g e t y 0) (hR : RA br bd na af ac nx yr) : ∃ (r : Int32) (e2 : Nat) (y2 : Nat → Nat) (na2 af2 nx2 : Nat) (ac2 yr2 : Nat → Nat), f_X5_bend (nI br) (nI g) (nI e) (nI t) (nF d) (nF p) (nI af) (nI na) (nF ac) u = some (r, nI e2, nI af2, nI na2, nF ac2) ∧ f_X6_bend (nI br) (nI na) (nI nx) (nF y) (nF yr) u = some (r, nI na2, nI nx2, nF y2, nF yr2) ∧ AG br d p g e2 t y2 0 ∧ MOK br bd d p g e2 t ∧ RA br bd na2 af2 ac2 nx2 yr2 := by
  unfold f_X5_bend f_X6_bend
  rcases bothB u hT.1 with ⟨b, hb, rfl, h3, h4⟩ | ⟨h3, h4⟩
  · have hb5 : b < 5 := by have := hT.1; omega
    have he := hM.2.2.2.1
    have r14 : rd (nF y) 32 (14 : Int32) = some (nI e) := by
      rw [show (14 : Int32) = nI 14 from rfl, rd_nF (by omega) (by decide), show y 14 = e from ha.2.2.2.1]
    rw [h3, h4, bnd1_some, bnd1_some, if_neg i1_0, if_neg i1_0, bent1 e he b hb5, r14, bnd1_some, bnd1_some, has1 e he b hb5, bnd1_some]
    cases hbt : bitN e b
    · obtain ⟨af2, ac2, yr2, k1, k2, k3⟩ := push1 hT.1 hM ha hR
      obtain ⟨o1, o2⟩ := or1 e he b hb5
      have hA := ha.e (v := e ||| 2 ^ b) hT.1
      refine ⟨nI (pcN (e ||| 2 ^ b)), e ||| 2 ^ b, _, min (na + 1) 14, af2, (nx + 1) % 14, ac2, yr2, ?_, ?_, hA, ⟨hM.1, hM.2.1, hM.2.2.1, o2, hM.2.2.2.2⟩, k3⟩
      · rw [if_pos (by decide), k1, bnd3_some]
        unfold f_X2_bow
        rw [bnd1_some, o1, pc1 _ (by omega), bnd1_some]
      · rw [if_pos (by decide), k2, bnd3_some, bnd1_some, o1, show (14 : Int32) = nI 14 from rfl, wr_nF (by omega) (by decide), bnd1_some, rd_nF (by omega) (by decide), bnd1_some, show (14 : Nat) = 0 + 14 from rfl, uN_s, pcM _ (by omega), bnd1_some]
    · refine ⟨-3, e, y, na, af, nx, ac, yr, ?_, ?_, ha, hM, hR⟩
      · rw [if_neg (by decide)]
      · rw [if_neg (by decide)]
  · rw [h3, h4, bnd1_some, bnd1_some, if_pos rfl, if_pos rfl]
    exact ⟨-1, e, y, na, af, nx, ac, yr, rfl, rfl, ha, hM, hR⟩
theorem sim_hand (u : Int32) (hT : TOK br fa st kd fs fl) (hM : MOK br bd d p g e t) (ha : AG br d p g e t y 0) (hR : RA br bd na af ac nx yr) : ∃ (r : Int32) (d2 y2 : Nat → Nat) (na2 af2 nx2 : Nat) (ac2 yr2 : Nat → Nat), f_X5_hand (nI g) (nI e) (nI t) (nF d) (nF p) (nI af) (nI na) (nF ac) u = some (r, nF d2, nI af2, nI na2, nF ac2) ∧ f_X6_hand (nI na) (nI nx) (nF y) (nF yr) u = some (r, nI na2, nI nx2, nF y2, nF yr2) ∧ AG br d2 p g e t y2 0 ∧ MOK br bd d2 p g e t ∧ RA br bd na2 af2 ac2 nx2 yr2 := by
  unfold f_X5_hand f_X6_hand
  rcases bothS u with ⟨k, hk, rfl, h3, h4⟩ | ⟨h3, h4⟩
  · have hy : y k = d k := by
      have := ha.1 k hk
      rwa [Nat.zero_add] at this
    have r0 : rd (nF y) 32 (nI k) = some (nI (d k)) := by rw [rd_nF (by omega) (by decide), hy]
    rw [h3, h4, bnd1_some, bnd1_some, if_neg i1_0, if_neg i1_0, dustIn1 hk, r0, bnd1_some, bnd1_some]
    by_cases h0 : d k = 0
    · rw [h0]
      simp only [show (nI 0 = 0) = True from eq_true rfl, if_true]
      exact ⟨-3, d, y, na, af, nx, ac, yr, rfl, rfl, ha, hM, hR⟩
    · obtain ⟨af2, ac2, yr2, k1, k2, k3⟩ := push1 hT.1 hM ha hR
      have hd := hM.1 k
      have hn : ¬ nI (d k) = 0 := nI_ne0 (by omega) (by omega)
      have hA := ha.d (v := 0) hT.1 hk
      refine ⟨nI (d k), uN d k 0, _, min (na + 1) 14, af2, (nx + 1) % 14, ac2, yr2, ?_, ?_, hA, ⟨hM.1.u (by omega), hM.2⟩, k3⟩
      · rw [if_neg hn, k1, bnd3_some]
        unfold f_X2_empty
        rw [st1 k hk, bnd1_some, if_neg i1_0, show (0 : Int32) = nI 0 from rfl, wr_nF hk (by decide), bnd1_some, bnd1_some]
      · rw [if_neg hn, k2, bnd3_some, bnd1_some, show (0 : Int32) = nI 0 from rfl, wr_nF (by omega) (by decide), bnd1_some, Nat.zero_add]
  · rw [h3, h4, bnd1_some, bnd1_some, if_pos rfl, if_pos rfl]
    exact ⟨-1, d, y, na, af, nx, ac, yr, rfl, rfl, ha, hM, hR⟩
end ACT
