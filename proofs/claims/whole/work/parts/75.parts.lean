/-! the parts of a text on both sides -/
def PB (b : Nat) (fp st kd : Nat → Nat) (rb : Nat → Int32) : Prop := ∀ k, k < b → rb (3 * k) = nI (fp k) ∧ rb (3 * k + 1) = nI (st k) ∧ rb (3 * k + 2) = nI (kd k) ∧ fp k < 8 ∧ st k < 10 ∧ kd k < 4
def PF (f : Nat) (fs fl : Nat → Nat) (rf : Nat → Int32) : Prop := ∀ k, k < f → rf (2 * k) = nI (fs k) ∧ rf (2 * k + 1) = nI (fl k) ∧ fs k < 8 ∧ fl k < 10
theorem PB.s {b x y z : Nat} {fp st kd : Nat → Nat} {rb : Nat → Int32} (h : PB b fp st kd rb) (hx : x < 8) (hy : y < 10) (hz : z < 4) : PB (b + 1) (uN fp b x) (uN st b y) (uN kd b z) (upd (upd (upd rb (3 * b) (nI x)) (3 * b + 1) (nI y)) (3 * b + 2) (nI z)) := by
  intro k hk
  by_cases e : k = b
  · subst e
    rw [uN_s, uN_s, uN_s]
    refine ⟨?_, ?_, pk_us, hx, hy, hz⟩
    · rw [pk_un (by omega), pk_un (by omega), pk_us]
    · rw [pk_un (by omega), pk_us]
  · obtain ⟨a1, a2, a3, a4⟩ := h k (by omega)
    rw [uN_n e, uN_n e, uN_n e, pk_un (by omega), pk_un (by omega), pk_un (by omega), pk_un (by omega), pk_un (by omega), pk_un (by omega), pk_un (by omega), pk_un (by omega), pk_un (by omega)]
    exact ⟨a1, a2, a3, a4⟩
theorem PF.s {f x y : Nat} {fs fl : Nat → Nat} {rf : Nat → Int32} (h : PF f fs fl rf) (hx : x < 8) (hy : y < 10) : PF (f + 1) (uN fs f x) (uN fl f y) (upd (upd rf (2 * f) (nI x)) (2 * f + 1) (nI y)) := by
  intro k hk
  by_cases e : k = f
  · subst e
    rw [uN_s, uN_s]
    refine ⟨?_, pk_us, hx, hy⟩
    rw [pk_un (by omega), pk_us]
  · obtain ⟨a1, a2, a3⟩ := h k (by omega)
    rw [uN_n e, uN_n e, pk_un (by omega), pk_un (by omega), pk_un (by omega), pk_un (by omega)]
    exact ⟨a1, a2, a3⟩
section PRT
variable {len : Nat} {tx : Nat → Nat}
theorem a2 (a : Nat) : nI a + 2 = nI (a + 2) := nI_add a 2
theorem a3 (a : Nat) : nI a + 3 = nI (a + 3) := nI_add a 3
theorem a4 (a : Nat) : nI a + 4 = nI (a + 4) := nI_add a 4
theorem m3 (b : Nat) : (3 : Int32) * nI b = nI (3 * b) := pk_mul 3 b
theorem m2 (b : Nat) : (2 : Int32) * nI b = nI (2 * b) := pk_mul 2 b
theorem part_N {a b f : Nat} {rb rf : Nat → Int32} (hl : len ≤ 48) (ht : ∀ k, tx k ≤ 255) (ha : a < len) (hb : b < 5) : (∃ (q : Nat) (x3 : Int32) (r' : Nat → Int32), q < 100 ∧ f_X3_faultOfBroom (nI len) (nF tx) (nI a) = some (nI q) ∧ f_X6_readPart (nI b) (nI f) (nI len) (nI a) (-9) rb rf (nF tx) 78 = some (nI (b + 1), nI f, x3, nI q, r', rf)) ∨ (ok len tx (a + 1) 0 7 = true ∧ ok len tx (a + 2) 1 9 = true ∧ ok len tx (a + 3) 0 3 = true ∧ f_X3_faultOfBroom (nI len) (nF tx) (nI a) = some (-9) ∧ f_X6_readPart (nI b) (nI f) (nI len) (nI a) (-9) rb rf (nF tx) 78 = some (nI (b + 1), nI f, nI (a + 4), -9, upd (upd (upd rb (3 * b) (nI (tx (a + 1) - 48))) (3 * b + 1) (nI (tx (a + 2) - 48))) (3 * b + 2) (nI (tx (a + 3) - 48)), rf)) := by
  unfold f_X3_faultOfBroom f_X6_readPart
  rw [if_pos (show (78 : Int32) = 78 from rfl), if_neg (show ¬ (5 : Int32) ≤ nI b from nI_ge (b := 5) hb (by decide)), nI_1, nI_1, a2, a3, m3, nI_1, a2]
  cases h1 : ok len tx (a + 1) 0 7
  · left
    obtain ⟨v, v1, v2⟩ := figC_out hl ht (by decide) (by decide) (show a + 1 < 100 by omega) h1
    refine ⟨a + 1, nI (a + 1), upd (upd (upd rb (3 * b) 0) (3 * b + 1) 0) (3 * b + 2) 0, by omega, ?_, ?_⟩
    · rw [v1, bnd1_some, stW, within_out v2, bnd1_some, if_pos rfl]
    · rw [show f_X6_figureOf (nI len) (nI (a + 1)) (-9) (nF tx) (0 : Int32) (7 : Int32) = _ from mf_out (lo := 0) (hi := 7) hl ht (by decide) (by decide) (by omega) h1, bnd3_some, wr_in (by omega) (by decide), bnd1_some, mf_fau _ _ _ (by omega), bnd3_some, wr_in (by omega) (by decide), bnd1_some, mf_fau _ _ _ (by omega), bnd3_some, wr_in (by omega) (by decide), bnd1_some]
  · obtain ⟨v1, v2⟩ := figC_in hl (by decide) h1
    have hk := ok_t.mp h1
    rw [v1, bnd1_some, stW, v2, bnd1_some, if_neg i1_0, show f_X6_figureOf (nI len) (nI (a + 1)) (-9) (nF tx) (0 : Int32) (7 : Int32) = _ from mf_in (lo := 0) (hi := 7) hl (by decide) (by decide) h1, bnd3_some, wr_in (by omega) (by decide), bnd1_some]
    cases h2 : ok len tx (a + 2) 1 9
    · left
      obtain ⟨w, w1, w2⟩ := figC_out hl ht (by decide) (by decide) (show a + 2 < 100 by omega) h2
      refine ⟨a + 2, nI (a + 2), upd (upd (upd rb (3 * b) (nI (tx (a + 1) - 48))) (3 * b + 1) 0) (3 * b + 2) 0, by omega, ?_, ?_⟩
      · rw [w1, bnd1_some, show f_X5_within w (1 : Int32) (9 : Int32) = some 0 from within_out w2, bnd1_some, if_pos rfl]
      · rw [show f_X6_figureOf (nI len) (nI (a + 1 + 1)) (-9) (nF tx) (1 : Int32) (9 : Int32) = _ from mf_out (lo := 1) (hi := 9) hl ht (by decide) (by decide) (by omega) h2, bnd3_some, wr_in (by omega) (by decide), bnd1_some, mf_fau _ _ _ (by omega), bnd3_some, wr_in (by omega) (by decide), bnd1_some]
    · obtain ⟨w1, w2⟩ := figC_in hl (by decide) h2
      have hk2 := ok_t.mp h2
      rw [w1, bnd1_some, show f_X5_within (nI (tx (a + 2) - 48)) (1 : Int32) (9 : Int32) = some 1 from w2, bnd1_some, if_neg i1_0, show f_X6_figureOf (nI len) (nI (a + 1 + 1)) (-9) (nF tx) (1 : Int32) (9 : Int32) = _ from mf_in (lo := 1) (hi := 9) hl (by decide) (by decide) h2, bnd3_some, wr_in (by omega) (by decide), bnd1_some]
      cases h3 : ok len tx (a + 3) 0 3
      · left
        obtain ⟨z, z1, z2⟩ := figC_out hl ht (by decide) (by decide) (show a + 3 < 100 by omega) h3
        refine ⟨a + 3, nI (a + 3), upd (upd (upd rb (3 * b) (nI (tx (a + 1) - 48))) (3 * b + 1) (nI (tx (a + 2) - 48))) (3 * b + 2) 0, by omega, ?_, ?_⟩
        · rw [z1, bnd1_some, show f_X5_within z (0 : Int32) (3 : Int32) = some 0 from within_out z2, bnd1_some, if_pos rfl]
        · rw [show f_X6_figureOf (nI len) (nI (a + 2 + 1)) (-9) (nF tx) (0 : Int32) (3 : Int32) = _ from mf_out (lo := 0) (hi := 3) hl ht (by decide) (by decide) (by omega) h3, bnd3_some, wr_in (by omega) (by decide), bnd1_some]
      · right
        obtain ⟨z1, z2⟩ := figC_in hl (by decide) h3
        refine ⟨rfl, rfl, rfl, ?_, ?_⟩
        · rw [z1, bnd1_some, show f_X5_within (nI (tx (a + 3) - 48)) (0 : Int32) (3 : Int32) = some 1 from z2, bnd1_some, if_neg i1_0]
        · rw [show f_X6_figureOf (nI len) (nI (a + 2 + 1)) (-9) (nF tx) (0 : Int32) (3 : Int32) = _ from mf_in (lo := 0) (hi := 3) hl (by decide) (by decide) h3, bnd3_some, wr_in (by omega) (by decide), bnd1_some]
theorem part_F {a b f : Nat} {rb rf : Nat → Int32} (hl : len ≤ 48) (ht : ∀ k, tx k ≤ 255) (ha : a < len) (hf : f < 5) : (∃ (q : Nat) (x3 : Int32) (r' : Nat → Int32), q < 100 ∧ f_X3_faultOfFall (nI len) (nF tx) (nI a) = some (nI q) ∧ f_X6_readPart (nI b) (nI f) (nI len) (nI a) (-9) rb rf (nF tx) 70 = some (nI b, nI (f + 1), x3, nI q, rb, r')) ∨ (ok len tx (a + 1) 0 7 = true ∧ ok len tx (a + 2) 0 9 = true ∧ f_X3_faultOfFall (nI len) (nF tx) (nI a) = some (-9) ∧ f_X6_readPart (nI b) (nI f) (nI len) (nI a) (-9) rb rf (nF tx) 70 = some (nI b, nI (f + 1), nI (a + 3), -9, rb, upd (upd rf (2 * f) (nI (tx (a + 1) - 48))) (2 * f + 1) (nI (tx (a + 2) - 48)))) := by
  unfold f_X3_faultOfFall f_X6_readPart f_X6_readPart_94
  rw [if_neg (show ¬ (70 : Int32) = 78 by decide), if_pos (show (70 : Int32) = 70 from rfl), if_neg (show ¬ (5 : Int32) ≤ nI f from nI_ge (b := 5) hf (by decide)), nI_1, nI_1, a2, m2, nI_1]
  cases h1 : ok len tx (a + 1) 0 7
  · left
    obtain ⟨v, v1, v2⟩ := figC_out hl ht (by decide) (by decide) (show a + 1 < 100 by omega) h1
    refine ⟨a + 1, nI (a + 1), upd (upd rf (2 * f) 0) (2 * f + 1) 0, by omega, ?_, ?_⟩
    · rw [v1, bnd1_some, stW, within_out v2, bnd1_some, if_pos rfl]
    · rw [show f_X6_figureOf (nI len) (nI (a + 1)) (-9) (nF tx) (0 : Int32) (7 : Int32) = _ from mf_out (lo := 0) (hi := 7) hl ht (by decide) (by decide) (by omega) h1, bnd3_some, wr_in (by omega) (by decide), bnd1_some, mf_fau _ _ _ (by omega), bnd3_some, wr_in (by omega) (by decide), bnd1_some]
  · obtain ⟨v1, v2⟩ := figC_in hl (by decide) h1
    have hk := ok_t.mp h1
    rw [v1, bnd1_some, stW, v2, bnd1_some, if_neg i1_0, show f_X6_figureOf (nI len) (nI (a + 1)) (-9) (nF tx) (0 : Int32) (7 : Int32) = _ from mf_in (lo := 0) (hi := 7) hl (by decide) (by decide) h1, bnd3_some, wr_in (by omega) (by decide), bnd1_some]
    cases h2 : ok len tx (a + 2) 0 9
    · left
      obtain ⟨w, w1, w2⟩ := figC_out hl ht (by decide) (by decide) (show a + 2 < 100 by omega) h2
      refine ⟨a + 2, nI (a + 2), upd (upd rf (2 * f) (nI (tx (a + 1) - 48))) (2 * f + 1) 0, by omega, ?_, ?_⟩
      · rw [w1, bnd1_some, show f_X5_within w (0 : Int32) (9 : Int32) = some 0 from within_out w2, bnd1_some, if_pos rfl]
      · rw [show f_X6_figureOf (nI len) (nI (a + 1 + 1)) (-9) (nF tx) (0 : Int32) (9 : Int32) = _ from mf_out (lo := 0) (hi := 9) hl ht (by decide) (by decide) (by omega) h2, bnd3_some, wr_in (by omega) (by decide), bnd1_some]
    · right
      obtain ⟨w1, w2⟩ := figC_in hl (by decide) h2
      refine ⟨rfl, rfl, ?_, ?_⟩
      · rw [w1, bnd1_some, show f_X5_within (nI (tx (a + 2) - 48)) (0 : Int32) (9 : Int32) = some 1 from w2, bnd1_some, if_neg i1_0]
      · rw [show f_X6_figureOf (nI len) (nI (a + 1 + 1)) (-9) (nF tx) (0 : Int32) (9 : Int32) = _ from mf_in (lo := 0) (hi := 9) hl (by decide) (by decide) h2, bnd3_some, wr_in (by omega) (by decide), bnd1_some]
theorem addB {a b : Nat} {fp st kd : Nat → Nat} (hl : len ≤ 48) (hb : b < 5) (h1 : ok len tx (a + 1) 0 7 = true) (h2 : ok len tx (a + 2) 1 9 = true) (h3 : ok len tx (a + 3) 0 3 = true) : f_X4_addBroom (nI b) (nF fp) (nF st) (nF kd) (nI len) (nF tx) (nI a) = some (nI (b + 1), nF (uN fp b (tx (a + 1) - 48)), nF (uN st b (tx (a + 2) - 48)), nF (uN kd b (tx (a + 3) - 48))) := by
  unfold f_X4_addBroom
  rw [if_neg (show ¬ (5 : Int32) ≤ nI b from nI_ge (b := 5) hb (by decide)), nI_1, nI_1, a2, a3, (figC_in hl (by decide) h1).1, bnd1_some, wr_nF hb (by decide), bnd1_some, (figC_in hl (by decide) h2).1, bnd1_some, wr_nF hb (by decide), bnd1_some, (figC_in hl (by decide) h3).1, bnd1_some, wr_nF hb (by decide), bnd1_some]
theorem addF {a f : Nat} {fs fl : Nat → Nat} (hl : len ≤ 48) (hf : f < 5) (h1 : ok len tx (a + 1) 0 7 = true) (h2 : ok len tx (a + 2) 0 9 = true) : f_X4_addFall (nI f) (nF fs) (nF fl) (nI len) (nF tx) (nI a) = some (nI (f + 1), nF (uN fs f (tx (a + 1) - 48)), nF (uN fl f (tx (a + 2) - 48))) := by
  unfold f_X4_addFall
  rw [if_neg (show ¬ (5 : Int32) ≤ nI f from nI_ge (b := 5) hf (by decide)), nI_1, nI_1, a2, (figC_in hl (by decide) h1).1, bnd1_some, wr_nF hf (by decide), bnd1_some, (figC_in hl (by decide) h2).1, bnd1_some, wr_nF hf (by decide), bnd1_some]
end PRT
