/-! arguments: in range or out of it, on both sides -/
theorem cmp_gt {x y : Int64} : 0 < lg_cmp x y ↔ y < x := by
  unfold lg_cmp
  by_cases h1 : x > y
  · rw [if_pos h1]
    exact ⟨fun _ => h1, fun _ => by decide⟩
  · rw [if_neg h1]
    by_cases h2 : x = y
    · rw [if_pos h2]
      exact ⟨fun h => absurd h (by decide), fun h => absurd h h1⟩
    · rw [if_neg h2]
      exact ⟨fun h => absurd h (by decide), fun h => absurd h h1⟩
theorem mIn_in {k a b : Nat} (h1 : a ≤ k) (h2 : k ≤ b) (hb : b < 2 ^ 31) : f_X6_in (nI k).toInt64 (lN a) (lN b) = some 1 := by
  unfold f_X6_in
  rw [nI_l (show k < 2 ^ 31 by omega), if_neg, if_neg]
  · rw [cmp_gt, lN_lt (by omega) (by omega)]
    omega
  · rw [cmp_lt, lN_lt (by omega) (by omega)]
    omega
theorem mIn_out {u : Int32} {a b : Nat} (ha : a < 2 ^ 31) (hb : b < 2 ^ 31) (h : u < nI a ∨ nI b < u) : f_X6_in u.toInt64 (lN a) (lN b) = some 0 := by
  unfold f_X6_in
  by_cases h1 : u < nI a
  · rw [if_pos]
    rw [cmp_lt, ← nI_l ha, i64_lt]
    exact h1
  · rw [if_neg, if_pos]
    · rw [cmp_gt, ← nI_l hb, i64_lt]
      exact h.resolve_left h1
    · rw [cmp_lt, ← nI_l ha, i64_lt]
      exact h1
theorem st0 {u : Int32} (h : u < nI 0 ∨ nI 7 < u) : f_X5_isStreet u = some 0 := by
  unfold f_X5_isStreet
  by_cases h1 : u < 0
  · rw [if_pos h1]
  · rw [if_neg h1, if_pos]
    have h2 : nI 7 < u := h.resolve_left h1
    have h3 := Int32.lt_iff_toInt_lt.mp h2
    apply Int32.le_iff_toInt_le.mpr
    have h4 : (nI 7).toInt = 7 := by decide
    have h5 : (8 : Int32).toInt = 8 := by decide
    omega
theorem stM1 {k : Nat} (h : k < 8) : f_X6_isStreet (nI k) = some 1 := by
  unfold f_X6_isStreet
  rw [show f_X6_in (nI k).toInt64 (0 : Int64) (7 : Int64) = some 1 from mIn_in (a := 0) (b := 7) (Nat.zero_le _) (by omega) (by decide), bnd1_some, zr_1, bnd1_some]
theorem stM0 {u : Int32} (h : u < nI 0 ∨ nI 7 < u) : f_X6_isStreet u = some 0 := by
  unfold f_X6_isStreet
  rw [show f_X6_in u.toInt64 (0 : Int64) (7 : Int64) = some 0 from mIn_out (a := 0) (b := 7) (by decide) (by decide) h, bnd1_some, zr_0, bnd1_some]
theorem brm (u : Int32) {br : Nat} (hbr : br < 6) : (∃ b, b < br ∧ u = nI b) ∨ (u < 0 ∨ nI br ≤ u) := by
  by_cases h1 : u < 0
  · exact Or.inr (Or.inl h1)
  · by_cases h2 : nI br ≤ u
    · exact Or.inr (Or.inr h2)
    · left
      have h3 := Int32.lt_iff_toInt_lt.mp (Int32.not_le.mp h2)
      rw [nI_toInt (by omega)] at h3
      have h4 := Int32.le_iff_toInt_le.mp (Int32.not_lt.mp h1)
      have h5 : (0 : Int32).toInt = 0 := by decide
      refine ⟨u.toInt.toNat, by omega, ?_⟩
      apply Int32.toInt_inj.mp
      rw [nI_toInt (by omega)]
      omega
theorem hasB0 {u : Int32} {br : Nat} (h : u < 0 ∨ nI br ≤ u) : f_X4_hasBroom (nI br) u = some 0 := by
  unfold f_X4_hasBroom
  by_cases h1 : u < 0
  · rw [if_pos h1]
  · rw [if_neg h1, if_pos (h.resolve_left h1)]
theorem isB1 {br b : Nat} (hbr : br < 6) (hb : b < br) : f_X6_isBroom (nI br) (nI b) = some 1 := by
  unfold f_X6_isBroom
  rw [show nI br - 1 = nI (br - 1) from pk_sub (b := 1) (by omega), nI_l (n := br - 1) (by omega), show f_X6_in (nI b).toInt64 (0 : Int64) (lN (br - 1)) = some 1 from mIn_in (a := 0) (Nat.zero_le _) (by omega) (by omega), bnd1_some, zr_1, bnd1_some]
theorem isB0 {u : Int32} {br : Nat} (hbr : br < 6) (h : u < 0 ∨ nI br ≤ u) : f_X6_isBroom (nI br) u = some 0 := by
  have key : f_X6_in u.toInt64 (0 : Int64) ((nI br - 1).toInt64) = some 0 := by
    unfold f_X6_in
    by_cases h1 : u < 0
    · rw [if_pos]
      rw [cmp_lt, show (0 : Int64) = (0 : Int32).toInt64 from rfl, i64_lt]
      exact h1
    · rw [if_neg, if_pos]
      · rw [cmp_gt, i64_lt]
        have h2 := h.resolve_left h1
        have h3 := Int32.le_iff_toInt_le.mp h2
        rw [nI_toInt (by omega)] at h3
        apply Int32.lt_iff_toInt_lt.mpr
        rcases (show br = 0 ∨ br = 1 ∨ br = 2 ∨ br = 3 ∨ br = 4 ∨ br = 5 by omega) with rfl | rfl | rfl | rfl | rfl | rfl
        · have : (nI 0 - 1).toInt = -1 := by decide
          omega
        · have : (nI 1 - 1).toInt = 0 := by decide
          omega
        · have : (nI 2 - 1).toInt = 1 := by decide
          omega
        · have : (nI 3 - 1).toInt = 2 := by decide
          omega
        · have : (nI 4 - 1).toInt = 3 := by decide
          omega
        · have : (nI 5 - 1).toInt = 4 := by decide
          omega
      · rw [cmp_lt, show (0 : Int64) = (0 : Int32).toInt64 from rfl, i64_lt]
        exact h1
  unfold f_X6_isBroom
  rw [key, bnd1_some, zr_0, bnd1_some]
/-- a range test of both sides at once: within, or neither -/
theorem both (u : Int32) {a b : Nat} (hab : a ≤ b) (hb : b < 2 ^ 31) : (∃ k, a ≤ k ∧ k ≤ b ∧ u = nI k ∧ f_X5_within u (nI a) (nI b) = some 1 ∧ f_X6_in u.toInt64 (lN a) (lN b) = some 1) ∨ (f_X5_within u (nI a) (nI b) = some 0 ∧ f_X6_in u.toInt64 (lN a) (lN b) = some 0) := by
  rcases rng u hab hb with ⟨k, h1, h2, rfl⟩ | h
  · exact Or.inl ⟨k, h1, h2, rfl, within_in h1 h2 hb, mIn_in h1 h2 hb⟩
  · exact Or.inr ⟨within_out h, mIn_out (by omega) hb h⟩
theorem bothS (u : Int32) : (∃ k, k < 8 ∧ u = nI k ∧ f_X5_isStreet u = some 1 ∧ f_X6_isStreet u = some 1) ∨ (f_X5_isStreet u = some 0 ∧ f_X6_isStreet u = some 0) := by
  rcases rng u (a := 0) (b := 7) (by decide) (by decide) with ⟨k, h1, h2, rfl⟩ | h
  · exact Or.inl ⟨k, by omega, rfl, st1 k (by omega), stM1 (by omega)⟩
  · exact Or.inr ⟨st0 h, stM0 h⟩
theorem bothB (u : Int32) {br : Nat} (hbr : br < 6) : (∃ b, b < br ∧ u = nI b ∧ f_X4_hasBroom (nI br) u = some 1 ∧ f_X6_isBroom (nI br) u = some 1) ∨ (f_X4_hasBroom (nI br) u = some 0 ∧ f_X6_isBroom (nI br) u = some 0) := by
  rcases brm u hbr with ⟨b, h1, rfl⟩ | h
  · exact Or.inl ⟨b, h1, rfl, hasB1 br hbr b h1, isB1 hbr h1⟩
  · exact Or.inr ⟨hasB0 h, isB0 hbr h⟩
