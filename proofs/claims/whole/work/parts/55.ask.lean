/-! what is asked of a moment, on both sides -/
def smN (d : Nat → Nat) : Nat → Nat → Nat
  | 0, _ => 0
  | n + 1, i => d i + smN d n (i + 1)
theorem allDust_l {d : Nat → Nat} : ∀ (n i fu a : Nat), i + n = 8 → n < fu → f_X2_allDust_4 (nF d) fu (nI a) (nI i) = some (nI (a + smN d n i))
  | 0, i, 0, a, _, hf => absurd hf (Nat.not_lt_zero _)
  | 0, i, fu + 1, a, hi, _ => by
    obtain rfl : i = 8 := by omega
    rw [f_X2_allDust_4, if_pos (by decide)]
    rfl
  | n + 1, i, 0, a, _, hf => absurd hf (Nat.not_lt_zero _)
  | n + 1, i, fu + 1, a, hi, hf => by
    have hi8 : i < 8 := by omega
    rw [f_X2_allDust_4, if_neg (show ¬ (8 : Int32) ≤ nI i from nI_ge hi8 (by decide)), rd_nF hi8 (by decide), bnd1_some, nI_add, nI_1, allDust_l n (i + 1) fu _ (by omega) (by omega), smN, Nat.add_assoc]
theorem allDust1 (d : Nat → Nat) : f_X2_allDust (nF d) = some (nI (smN d 8 0)) := by
  have h := allDust_l (d := d) 8 0 130 0 rfl (by decide)
  rw [Nat.zero_add] at h
  exact h
theorem dustOn_l {d y : Nat → Nat} {lv : Nat} (hlv : lv < 2) (hy : ∀ k, k < 8 → y (16 * lv + k) = d k) : ∀ (n i fu a : Nat), i + n = 8 → n < fu → f_X6_dustOn_4 (nF y) fu (nI lv) (nI a) (nI i) = some (nI (a + smN d n i))
  | 0, i, 0, a, _, hf => absurd hf (Nat.not_lt_zero _)
  | 0, i, fu + 1, a, hi, _ => by
    obtain rfl : i = 8 := by omega
    rw [f_X6_dustOn_4, if_pos (by decide)]
    rfl
  | n + 1, i, 0, a, _, hf => absurd hf (Nat.not_lt_zero _)
  | n + 1, i, fu + 1, a, hi, hf => by
    have hi8 : i < 8 := by omega
    rw [f_X6_dustOn_4, if_neg (show ¬ (8 : Int32) ≤ nI i from nI_ge hi8 (by decide)), at16, rd_nF (by omega) (by decide), bnd1_some, hy i hi8, nI_add, nI_1, dustOn_l hlv hy n (i + 1) fu _ (by omega) (by omega), smN, Nat.add_assoc]
theorem dustOn1 {d y : Nat → Nat} {lv : Nat} (hlv : lv < 2) (hy : ∀ k, k < 8 → y (16 * lv + k) = d k) : f_X6_dustOn (nF y) (nI lv) = some (nI (smN d 8 0)) := by
  have h := dustOn_l hlv hy 8 0 130 0 rfl (by decide)
  rw [Nat.zero_add] at h
  exact h
theorem smN_le {d : Nat → Nat} (h : B99 d) : ∀ n i, smN d n i ≤ 99 * n
  | 0, _ => Nat.zero_le _
  | n + 1, i => by
    have h1 := smN_le h n (i + 1)
    have h2 := h i
    rw [smN]
    omega
theorem isDeep1 {d : Nat → Nat} {k : Nat} (hk : k < 8) (hd : d k ≤ 99) : f_X2_isDeep (nF d) (nI k) = some (if dpN d k = 0 then 0 else 1) := by
  unfold f_X2_isDeep
  rw [dustIn1 hk, bnd1_some]
  by_cases h : dpN d k = 0
  · rw [if_pos ((dp_lt hd).mpr h), if_pos h]
  · rw [if_neg (fun q => h ((dp_lt hd).mp q)), if_neg h]
theorem deep_l {d : Nat → Nat} (hd : B99 d) : ∀ (n i fu : Nat) (a : Int32), i + n = 8 → n < fu → f_X2_deepStreets_4 (nF d) fu a (nI i) = some (orI (dpN d) n i a)
  | 0, i, 0, a, _, hf => absurd hf (Nat.not_lt_zero _)
  | 0, i, fu + 1, a, hi, _ => by
    obtain rfl : i = 8 := by omega
    rw [f_X2_deepStreets_4, if_pos (by decide)]
    rfl
  | n + 1, i, 0, a, _, hf => absurd hf (Nat.not_lt_zero _)
  | n + 1, i, fu + 1, a, hi, hf => by
    have hi8 : i < 8 := by omega
    rw [f_X2_deepStreets_4, if_neg (show ¬ (8 : Int32) ≤ nI i from nI_ge hi8 (by decide)), isDeep1 hi8 (hd i), bnd1_some, orI]
    unfold f_X2_deepStreets_26
    rw [nI_1]
    by_cases h : dpN d i = 0
    · rw [if_pos h, if_pos rfl, if_pos h, deep_l hd n (i + 1) fu _ (by omega) (by omega)]
    · rw [if_neg h, if_neg i1_0, if_neg h, deep_l hd n (i + 1) fu _ (by omega) (by omega)]
theorem deepStreets1 {d : Nat → Nat} (hd : B99 d) : f_X2_deepStreets (nF d) = some (kn (dpN d)) := deep_l hd 8 0 130 0 rfl (by decide)
def fsL (f : Nat → Nat) : Nat → Nat → Int32
  | 0, _ => -9
  | n + 1, i => if f i = 0 then fsL f n (i + 1) else nI i
theorem fsL_8 (f : Nat → Nat) : fsL f 8 0 = fsN f := by
  simp only [fsL, fsN, fsB, knL]
  by_cases h0 : f 0 = 0 <;> simp only [h0, if_true, if_false, beq_self_eq_true, Bool.not_true, Bool.false_eq_true, beq_iff_eq, Bool.not_eq_true', beq_eq_false_iff_ne, ne_eq, not_false_eq_true, Nat.zero_add, Nat.reduceAdd]
  · by_cases h1 : f 1 = 0 <;> simp [h1]
    · by_cases h2 : f 2 = 0 <;> simp [h2]
      · by_cases h3 : f 3 = 0 <;> simp [h3]
        · by_cases h4 : f 4 = 0 <;> simp [h4]
          · by_cases h5 : f 5 = 0 <;> simp [h5]
            · by_cases h6 : f 6 = 0 <;> simp [h6]
              · by_cases h7 : f 7 = 0 <;> simp [h7]
                rfl
              · rfl
            · rfl
          · rfl
        · rfl
      · rfl
    · rfl
  · rfl
theorem first_l {d : Nat → Nat} (hd : B99 d) : ∀ (n i fu : Nat), i + n = 8 → n < fu → f_X2_firstDeep_2 (nF d) fu (nI i) = some (fsL (dpN d) n i)
  | 0, i, 0, _, hf => absurd hf (Nat.not_lt_zero _)
  | 0, i, fu + 1, hi, _ => by
    obtain rfl : i = 8 := by omega
    rw [f_X2_firstDeep_2, if_pos (by decide)]
    rfl
  | n + 1, i, 0, _, hf => absurd hf (Nat.not_lt_zero _)
  | n + 1, i, fu + 1, hi, hf => by
    have hi8 : i < 8 := by omega
    rw [f_X2_firstDeep_2, if_neg (show ¬ (8 : Int32) ≤ nI i from nI_ge hi8 (by decide)), isDeep1 hi8 (hd i), bnd1_some, fsL, nI_1]
    by_cases h : dpN d i = 0
    · rw [if_pos h, if_pos rfl, if_pos h, first_l hd n (i + 1) fu (by omega) (by omega)]
    · rw [if_neg h, if_neg i1_0, if_neg h]
theorem firstDeep1 {d : Nat → Nat} (hd : B99 d) : f_X2_firstDeep (nF d) = some (fsN (dpN d)) := by
  rw [← fsL_8]
  exact first_l hd 8 0 130 rfl (by decide)
def inS (p : Nat → Nat) (s b : Nat) : Nat := if p b = s then 1 else 0
theorem brooms_l {p : Nat → Nat} {br s : Nat} (hbr : br < 6) (hs : s < 8) (hp : ∀ b, b < br → p b < 8) : ∀ (n b fu : Nat) (a : Int32), b + n = br → n < fu → f_X2_broomsIn_4 (nF p) (nI br) fu (nI s) a (nI b) = some (orI (inS p s) n b a)
  | 0, i, 0, a, _, hf => absurd hf (Nat.not_lt_zero _)
  | 0, i, fu + 1, a, hi, _ => by
    obtain rfl : i = br := by omega
    rw [f_X2_broomsIn_4, if_pos (nI_le (Nat.le_refl _) (by omega))]
    rfl
  | n + 1, i, 0, a, _, hf => absurd hf (Nat.not_lt_zero _)
  | n + 1, i, fu + 1, a, hi, hf => by
    have hlt : i < br := by omega
    have h8 := hp i hlt
    rw [f_X2_broomsIn_4, if_neg (nI_ge hlt (by omega)), placeOf1 hbr hlt, bnd1_some, orI]
    unfold f_X2_broomsIn_32
    rw [nI_1]
    by_cases h : p i = s
    · rw [if_pos (by rw [h]), if_neg (show ¬ inS p s i = 0 by simp [inS, h]), brooms_l hbr hs hp n (i + 1) fu _ (by omega) (by omega)]
    · rw [if_neg (fun q => h ((nI_eq (by omega) (by omega)).mp q)), if_pos (show inS p s i = 0 by simp [inS, h]), brooms_l hbr hs hp n (i + 1) fu _ (by omega) (by omega)]
theorem broomsM_l {p y : Nat → Nat} {br s : Nat} (hbr : br < 6) (hs : s < 8) (hp : ∀ b, b < br → p b < 8) (hy : ∀ b, b < br → y (8 + b) = p b) : ∀ (n b fu : Nat) (a : Int32), b + n = br → n < fu → f_X6_broomsIn_4 (nI br) (nF y) fu (nI s) a (nI b) = some (orI (inS p s) n b a)
  | 0, i, 0, a, _, hf => absurd hf (Nat.not_lt_zero _)
  | 0, i, fu + 1, a, hi, _ => by
    obtain rfl : i = br := by omega
    rw [f_X6_broomsIn_4, if_pos (nI_le (Nat.le_refl _) (by omega))]
    rfl
  | n + 1, i, 0, a, _, hf => absurd hf (Nat.not_lt_zero _)
  | n + 1, i, fu + 1, a, hi, hf => by
    have hlt : i < br := by omega
    have h8 := hp i hlt
    rw [f_X6_broomsIn_4, if_neg (nI_ge hlt (by omega)), show (8 : Int32) = nI 8 from rfl, nI_add, rd_nF (by omega) (by decide), bnd1_some, hy i hlt, orI]
    unfold f_X6_broomsIn_33
    rw [nI_1]
    by_cases h : p i = s
    · rw [if_pos (by rw [h]), if_neg (show ¬ inS p s i = 0 by simp [inS, h]), broomsM_l hbr hs hp hy n (i + 1) fu _ (by omega) (by omega)]
    · rw [if_neg (fun q => h ((nI_eq (by omega) (by omega)).mp q)), if_pos (show inS p s i = 0 by simp [inS, h]), broomsM_l hbr hs hp hy n (i + 1) fu _ (by omega) (by omega)]
