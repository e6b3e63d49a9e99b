/-! the text: figures on both sides -/
def ok (len : Nat) (tx : Nat → Nat) (i lo hi : Nat) : Bool := decide (i < len) && decide (lo + 48 ≤ tx i) && decide (tx i ≤ hi + 48)
theorem ok_t {len i lo hi : Nat} {tx : Nat → Nat} : ok len tx i lo hi = true ↔ i < len ∧ lo + 48 ≤ tx i ∧ tx i ≤ hi + 48 := by
  unfold ok
  simp only [Bool.and_eq_true, decide_eq_true_eq, and_assoc]
section TXT
variable {len : Nat} {tx : Nat → Nat}
theorem let1 {i : Nat} (hl : len ≤ 48) (h : i < len) : f_X3_letterAt (nI len) (nF tx) (nI i) = some (nI (tx i)) := by
  unfold f_X3_letterAt
  rw [if_neg (nI_pos (by omega)), if_neg (nI_ge h (by omega)), if_neg (show ¬ (48 : Int32) ≤ nI i from nI_ge (b := 48) (by omega) (by decide)), rd_nF (by omega) (by decide), bnd1_some]
theorem let0 {i : Nat} (hl : len ≤ 48) (h : len ≤ i) (h2 : i < 100) : f_X3_letterAt (nI len) (nF tx) (nI i) = some (-9) := by
  unfold f_X3_letterAt
  rw [if_neg (nI_pos (by omega)), if_pos (nI_le h (by omega))]
theorem fv_in {i lo hi : Nat} (h : ok len tx i lo hi = true) : nI (tx i) - 48 = nI (tx i - 48) := pk_sub (b := 48) (by have := ok_t.mp h; omega)
theorem fv_out {i lo hi : Nat} (ht : ∀ k, tx k ≤ 255) (hl : lo < 100) (hh : hi < 100) (h : ok len tx i lo hi = false) (hil : i < len) : nI (tx i) - 48 < nI lo ∨ nI hi < nI (tx i) - 48 := by
  have hx := ht i
  have e : (nI (tx i) - 48).toInt = (tx i : Int) - 48 := pk_sub_toInt (b := 48) (by omega) (by decide)
  by_cases h1 : tx i < lo + 48
  · left
    apply Int32.lt_iff_toInt_lt.mpr
    rw [e, nI_toInt (by omega)]
    omega
  · right
    apply Int32.lt_iff_toInt_lt.mpr
    rw [e, nI_toInt (by omega)]
    have : ¬ ok len tx i lo hi = true := by rw [h]; decide
    rw [ok_t] at this
    omega
theorem figC_in {i lo hi : Nat} (hl : len ≤ 48) (hh : hi < 100) (h : ok len tx i lo hi = true) : f_X3_figureAt (nI len) (nF tx) (nI i) = some (nI (tx i - 48)) ∧ f_X5_within (nI (tx i - 48)) (nI lo) (nI hi) = some 1 := by
  have hk := ok_t.mp h
  unfold f_X3_figureAt
  rw [let1 hl hk.1, bnd1_some, fv_in h]
  exact ⟨rfl, within_in (by omega) (by omega) (by omega)⟩
theorem figC_out {i lo hi : Nat} (hl : len ≤ 48) (ht : ∀ k, tx k ≤ 255) (h1 : lo < 100) (h2 : hi < 100) (h3 : i < 100) (h : ok len tx i lo hi = false) : ∃ v : Int32, f_X3_figureAt (nI len) (nF tx) (nI i) = some v ∧ (v < nI lo ∨ nI hi < v) := by
  unfold f_X3_figureAt
  by_cases hil : i < len
  · rw [let1 hl hil, bnd1_some]
    exact ⟨_, rfl, fv_out ht h1 h2 h hil⟩
  · rw [let0 hl (by omega) h3, bnd1_some]
    refine ⟨_, rfl, Or.inl ?_⟩
    apply Int32.lt_iff_toInt_lt.mpr
    rw [nI_toInt (by omega), show ((-9 : Int32) - 48).toInt = -57 by decide]
    omega
theorem stW (v : Int32) : f_X5_isStreet v = f_X5_within v (nI 0) (nI 7) := by
  rcases rng v (a := 0) (b := 7) (by decide) (by decide) with ⟨k, h1, h2, rfl⟩ | h
  · rw [st1 k (by omega), within_in h1 h2 (by decide)]
  · rw [st0 h, within_out h]
theorem mf_in {i lo hi : Nat} (hl : len ≤ 48) (h1 : lo < 100) (hh : hi < 100) (h : ok len tx i lo hi = true) : f_X6_figureOf (nI len) (nI i) (-9) (nF tx) (nI lo) (nI hi) = some (nI (tx i - 48), nI (i + 1), -9) := by
  have hk := ok_t.mp h
  unfold f_X6_figureOf f_X6_figureOf_25 f_X6_figureOf_46
  rw [if_pos rfl, if_neg (nI_ge hk.1 (by omega)), if_neg i1_0, rd_nF (by omega) (by decide), bnd1_some, if_neg i1_0, fv_in h, nI_l (show lo < 2 ^ 31 by omega), nI_l (show hi < 2 ^ 31 by omega), mIn_in (by omega) (by omega) (by omega), bnd1_some, if_neg i1_0, nI_1]
theorem mf_out {i lo hi : Nat} (hl : len ≤ 48) (ht : ∀ k, tx k ≤ 255) (h1 : lo < 100) (h2 : hi < 100) (h3 : i < 100) (h : ok len tx i lo hi = false) : f_X6_figureOf (nI len) (nI i) (-9) (nF tx) (nI lo) (nI hi) = some (0, nI i, nI i) := by
  unfold f_X6_figureOf f_X6_figureOf_24 f_X6_figureOf_25 f_X6_figureOf_46 f_X6_figureOf_65
  rw [if_pos rfl]
  by_cases hil : i < len
  · rw [if_neg (nI_ge hil (by omega)), if_neg i1_0, rd_nF (by omega) (by decide), bnd1_some, if_neg i1_0, nI_l (show lo < 2 ^ 31 by omega), nI_l (show hi < 2 ^ 31 by omega), mIn_out (by omega) (by omega) (fv_out ht h1 h2 h hil), bnd1_some, if_pos rfl, if_pos rfl]
  · rw [if_pos (nI_le (by omega) (by omega)), if_pos rfl, if_pos rfl, if_pos rfl]
theorem n9 {q : Nat} (h : q < 100) : ¬ nI q = -9 := by
  intro e
  have e2 := congrArg Int32.toInt e
  rw [nI_toInt (by omega), show (-9 : Int32).toInt = -9 by decide] at e2
  omega
theorem mf_fau {q : Nat} (at' lo hi : Int32) (h : q < 100) : f_X6_figureOf (nI len) at' (nI q) (nF tx) lo hi = some (0, at', nI q) := by
  unfold f_X6_figureOf f_X6_figureOf_24 f_X6_figureOf_25 f_X6_figureOf_46 f_X6_figureOf_65
  rw [if_neg (n9 h), if_pos rfl, if_pos rfl, if_neg (n9 h)]
/-- the first eight figures, a fault found -/
theorem t48f {q : Nat} {a b at' : Int32} {rb rf : Nat → Int32} (hq : q < 100) : ∀ (n j fu : Nat) (r : Nat → Int32), j + n = 8 → n < fu → ∃ r' : Nat → Int32, f_X6_readText_48 (nI len) (nF tx) fu (nI j) a b at' (nI q) r rb rf = some (nI q, a, b, at', nI q, r', rb, rf)
  | 0, j, 0, r, _, hf => absurd hf (Nat.not_lt_zero _)
  | 0, j, fu + 1, r, hi, _ => by
    obtain rfl : j = 8 := by omega
    refine ⟨r, ?_⟩
    rw [f_X6_readText_48, if_pos (by decide), f_X6_readText_73, if_neg (n9 hq)]
  | n + 1, j, 0, r, _, hf => absurd hf (Nat.not_lt_zero _)
  | n + 1, j, fu + 1, r, hi, hf => by
    obtain ⟨r', h⟩ := t48f (a := a) (b := b) (at' := at') (rb := rb) (rf := rf) hq n (j + 1) fu (upd r j 0) (by omega) (by omega)
    refine ⟨r', ?_⟩
    rw [f_X6_readText_48, if_neg (show ¬ (8 : Int32) ≤ nI j from nI_ge (b := 8) (by omega) (by decide)), mf_fau _ _ _ hq, bnd3_some, wr_in (by omega) (by decide), bnd1_some, nI_1, h]
/-- the first eight figures on both sides -/
theorem t48 {rb rf : Nat → Int32} (hl : len ≤ 48) (ht : ∀ k, tx k ≤ 255) : ∀ (n j fu fv : Nat) (r : Nat → Int32), j + n = 8 → n < fu → n < fv → (∀ k, k < j → r k = nI (tx (1 + k) - 48) ∧ ok len tx (1 + k) 0 9 = true) → (∃ (q : Nat) (a b at' f' : Int32) (r' : Nat → Int32), q < 49 ∧ f_X3_firstFault_14 (nI len) (nF tx) fu (nI (1 + j)) = some (nI q) ∧ f_X6_readText_48 (nI len) (nF tx) fv (nI j) 0 0 (nI (1 + j)) (-9) r rb rf = some (nI q, a, b, at', f', r', rb, rf)) ∨ (∃ r' : Nat → Int32, f_X3_firstFault_14 (nI len) (nF tx) fu (nI (1 + j)) = (bnd1 (f_X3_firstFaultOfParts (nI len) (nF tx)) fun z => some z) ∧ f_X6_readText_48 (nI len) (nF tx) fv (nI j) 0 0 (nI (1 + j)) (-9) r rb rf = f_X6_readText_73 (nI len) (nF tx) 130 0 0 (nI 9) (-9) r' rb rf ∧ ∀ k, k < 8 → r' k = nI (tx (1 + k) - 48) ∧ ok len tx (1 + k) 0 9 = true)
  | 0, j, 0, fv, r, _, hf, _, _ => absurd hf (Nat.not_lt_zero _)
  | 0, j, fu + 1, 0, r, _, _, hf, _ => absurd hf (Nat.not_lt_zero _)
  | 0, j, fu + 1, fv + 1, r, hi, _, _, hr => by
    obtain rfl : j = 8 := by omega
    right
    refine ⟨r, ?_, ?_, hr⟩
    · rw [f_X3_firstFault_14, if_pos (by decide)]
    · rw [f_X6_readText_48, if_pos (by decide)]
  | n + 1, j, 0, fv, r, _, hf, _, _ => absurd hf (Nat.not_lt_zero _)
  | n + 1, j, fu + 1, 0, r, _, _, hf, _ => absurd hf (Nat.not_lt_zero _)
  | n + 1, j, fu + 1, fv + 1, r, hi, hf, hf2, hr => by
    rw [f_X3_firstFault_14, if_neg (show ¬ (9 : Int32) ≤ nI (1 + j) from nI_ge (b := 9) (by omega) (by decide)), f_X6_readText_48, if_neg (show ¬ (8 : Int32) ≤ nI j from nI_ge (b := 8) (by omega) (by decide))]
    cases h : ok len tx (1 + j) 0 9
    · left
      obtain ⟨v, v1, v2⟩ := figC_out hl ht (by decide) (by decide) (show 1 + j < 100 by omega) h
      obtain ⟨r', h'⟩ := t48f (len := len) (tx := tx) (q := 1 + j) (a := 0) (b := 0) (at' := nI (1 + j)) (rb := rb) (rf := rf) (by omega) n (j + 1) fv (upd r j 0) (by omega) (by omega)
      refine ⟨1 + j, 0, 0, nI (1 + j), nI (1 + j), r', by omega, ?_, ?_⟩
      · rw [v1, bnd1_some, show f_X5_within v (0 : Int32) (9 : Int32) = some 0 from within_out v2, bnd1_some, if_pos rfl]
      · rw [show f_X6_figureOf (nI len) (nI (1 + j)) (-9) (nF tx) (0 : Int32) (9 : Int32) = _ from mf_out (lo := 0) (hi := 9) hl ht (by decide) (by decide) (by omega) h, bnd3_some, wr_in (by omega) (by decide), bnd1_some, nI_1]
        exact h'
    · obtain ⟨v1, v2⟩ := figC_in hl (by decide) h
      rw [v1, bnd1_some, show f_X5_within (nI (tx (1 + j) - 48)) (0 : Int32) (9 : Int32) = some 1 from v2, bnd1_some, if_neg i1_0, show f_X6_figureOf (nI len) (nI (1 + j)) (-9) (nF tx) (0 : Int32) (9 : Int32) = _ from mf_in (lo := 0) (hi := 9) hl (by decide) (by decide) h, bnd3_some, wr_in (by omega) (by decide), bnd1_some, nI_1, nI_1]
      refine t48 hl ht n (j + 1) fu fv (upd r j (nI (tx (1 + j) - 48))) (by omega) (by omega) (by omega) (fun k hk => ?_)
      by_cases hkj : k = j
      · subst hkj
        exact ⟨pk_us, h⟩
      · rw [pk_un hkj]
        exact hr k (by omega)
end TXT
