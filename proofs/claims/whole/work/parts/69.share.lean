/-! fractions on both sides; shares -/
theorem cmp_z {x : Int64} : lg_cmp x 0 = 0 ↔ x = 0 := by
  unfold lg_cmp
  by_cases h1 : x > 0
  · rw [if_pos h1]
    exact ⟨fun h => absurd h (by decide), fun h => by subst h; exact absurd h1 (by decide)⟩
  · rw [if_neg h1]
    by_cases h2 : x = 0
    · rw [if_pos h2]
      exact ⟨fun _ => h2, fun _ => rfl⟩
    · rw [if_neg h2]
      exact ⟨fun h => absurd h (by decide), fun h => absurd h h2⟩
theorem eu0 {fu a i : Nat} (hi : i < 100) : f_X5_commonDivisor_9 (fu + 1) (lN a) (lN 0) (nI i) = some (lN a) := by
  rw [f_X5_commonDivisor_9, if_neg (show ¬ (100 : Int32) ≤ nI i from nI_ge (b := 100) hi (by decide)), if_pos (show lg_cmp (lN 0) 0 = 0 from cmp_z.mpr rfl)]
theorem eu1 {fu a b i : Nat} (hi : i < 100) (ha : a < 2 ^ 20) (h0 : 0 < b) (hb : b < 2 ^ 20) : f_X5_commonDivisor_9 (fu + 1) (lN a) (lN b) (nI i) = f_X5_commonDivisor_9 fu (lN b) (lN (a % b)) (nI (i + 1)) := by
  have hz : ¬ lN b = 0 := by
    rw [show (0 : Int64) = lN 0 from rfl, pk_lEQ (by omega) (by decide)]
    omega
  rw [f_X5_commonDivisor_9, if_neg (show ¬ (100 : Int32) ≤ nI i from nI_ge (b := 100) hi (by decide)), if_neg (fun q => hz (cmp_z.mp q)), if_neg hz, pk_lRem (by omega) h0 (by omega), nI_1]
theorem em0 {fu a : Nat} : f_X6_common_13 (fu + 1) (nI a) (nI 0) = some (nI a) := by
  rw [f_X6_common_13, if_pos (show nI 0 = 0 from rfl)]
theorem em1 {fu a b : Nat} (ha : a < 2 ^ 20) (h0 : 0 < b) (hb : b < 2 ^ 20) : f_X6_common_13 (fu + 1) (nI a) (nI b) = f_X6_common_13 fu (nI b) (nI (a % b)) := by
  rw [f_X6_common_13, if_neg (nI_ne0 h0 (by omega)), if_neg (nI_ne0 h0 (by omega)), pk_rem (by omega) h0 (by omega)]
theorem eu : ∀ (k a b fu fv i : Nat), b < 2 ^ k → a < 2 ^ 20 → b < 2 ^ 20 → 2 * k + 1 < fu → 2 * k + 1 < fv → i + 2 * k + 1 < 100 → ∃ g, f_X5_commonDivisor_9 fu (lN a) (lN b) (nI i) = some (lN g) ∧ f_X6_common_13 fv (nI a) (nI b) = some (nI g) ∧ g < 2 ^ 20 ∧ (0 < a ∨ 0 < b → 0 < g)
  | k, a, b, 0, fv, i, _, _, _, hf, _, _ => absurd hf (Nat.not_lt_zero _)
  | k, a, b, fu + 1, 0, i, _, _, _, _, hf, _ => absurd hf (Nat.not_lt_zero _)
  | 0, a, b, fu + 1, fv + 1, i, hb, ha, hb2, _, _, hi => by
    obtain rfl : b = 0 := by omega
    exact ⟨a, eu0 (by omega), em0, ha, fun h => by omega⟩
  | k + 1, a, b, 1, fv + 1, i, hb, ha, hb2, hf, _, hi => by omega
  | k + 1, a, b, fu + 1, 1, i, hb, ha, hb2, _, hf, hi => by omega
  | k + 1, a, b, fu + 2, fv + 2, i, hb, ha, hb2, hf, hf2, hi => by
    by_cases h0 : b = 0
    · subst h0
      exact ⟨a, eu0 (by omega), em0, ha, fun h => by omega⟩
    · have hc : a % b < b := Nat.mod_lt _ (by omega)
      rw [eu1 (by omega) ha (by omega) hb2, em1 ha (by omega) hb2]
      generalize a % b = c at hc
      by_cases h1 : c = 0
      · subst h1
        exact ⟨b, eu0 (by omega), em0, hb2, fun _ => by omega⟩
      · rw [eu1 (by omega) hb2 (by omega) (by omega), em1 hb2 (by omega) (by omega)]
        have hm : b % c < c := Nat.mod_lt _ (by omega)
        have hd := Nat.div_add_mod b c
        have hq : 1 ≤ b / c := (Nat.one_le_div_iff (by omega)).mpr (by omega)
        have hq2 : c * 1 ≤ c * (b / c) := Nat.mul_le_mul_left c hq
        rw [Nat.pow_succ] at hb
        obtain ⟨g, a1, a2, a3, a4⟩ := eu k c (b % c) fu fv (i + 1 + 1) (by omega) (by omega) (by omega) (by omega) (by omega) (by omega)
        exact ⟨g, a1, a2, a3, fun _ => a4 (Or.inl (by omega))⟩
theorem bm {x : Int} {m : Nat} (h1 : -(m / 2 : Int) ≤ x) (h2 : x < ((m : Int) + 1) / 2) : x.bmod m = x := Int.bmod_eq_of_le h1 h2
theorem ab4 {S : Int} {v : Int64} (h : v.toInt = S) (h1 : -1048576 < S) (h2 : S < 1048576) : (if 0 < v then v else -v) = lN S.natAbs := by
  apply Int64.toInt_inj.mp
  rw [pk_lT (by omega)]
  by_cases h0 : 0 < v
  · rw [if_pos h0, h]
    have h3 := Int64.lt_iff_toInt_lt.mp h0
    have h4 : (0 : Int64).toInt = 0 := by decide
    omega
  · rw [if_neg h0, Int64.toInt_neg, h, bm (by omega) (by omega)]
    have h3 : ¬ (0 : Int64).toInt < v.toInt := fun q => h0 (Int64.lt_iff_toInt_lt.mpr q)
    have h4 : (0 : Int64).toInt = 0 := by decide
    omega
theorem ab3 {S : Int} {v F : Int32} (h : v.toInt = S) (h1 : -1048576 < S) (h2 : S < 1048576) : f_X6_common v F = f_X6_common_13 130 (nI S.natAbs) F := by
  have h4 : (0 : Int32).toInt = 0 := by decide
  unfold f_X6_common f_X6_common_10
  by_cases h0 : 0 ≤ v
  · have h3 := Int32.le_iff_toInt_le.mp h0
    rw [if_pos h0, show v = nI S.natAbs from Int32.toInt_inj.mp (by rw [nI_toInt (by omega)]; omega)]
  · have h3 : ¬ (0 : Int32).toInt ≤ v.toInt := fun q => h0 (Int32.le_iff_toInt_le.mpr q)
    rw [if_neg h0, show -v = nI S.natAbs from Int32.toInt_inj.mp (by rw [nI_toInt (by omega), Int32.toInt_neg, h, bm (by omega) (by omega)]; omega)]
theorem dv {S : Int} {v4 : Int64} {v3 : Int32} {g : Nat} (h4 : v4.toInt = S) (h3 : v3.toInt = S) (hg : g < 2 ^ 20) : (v4 / lN g).toInt32 = v3 / nI g := by
  apply Int32.toInt_inj.mp
  rw [Int64.toInt_toInt32, Int64.toInt_div, Int32.toInt_div, h4, h3, pk_lT (by omega), nI_toInt (by omega), Int.bmod_bmod_of_dvd (by decide)]
theorem frac {S : Int} {F : Nat} {v4 : Int64} {v3 u : Int32} (h4 : v4.toInt = S) (h3 : v3.toInt = S) (h1 : -1048576 < S) (h2 : S < 1048576) (hF : 0 < F) (hF2 : F < 2 ^ 20) : ∃ g : Nat, 0 < g ∧ g < 2 ^ 20 ∧ f_X5_fraction v4 (lN F) u = some (if u = 0 then nI (F / g) else v3 / nI g) ∧ f_X6_common v3 (nI F) = some (nI g) := by
  obtain ⟨g, a1, a2, a3, a4⟩ := eu 20 S.natAbs F 130 130 0 hF2 (by omega) hF2 (by decide) (by decide) (by decide)
  have g0 := a4 (Or.inr hF)
  have l1 : ¬ lN g < 1 := by
    rw [show (1 : Int64) = lN 1 from rfl, pk_lLT (by omega) (by decide)]
    omega
  have l0 : ¬ lN g = 0 := by
    rw [show (0 : Int64) = lN 0 from rfl, pk_lEQ (by omega) (by decide)]
    omega
  refine ⟨g, g0, a3, ?_, ?_⟩
  · unfold f_X5_fraction f_X5_commonDivisor
    rw [ab4 h4 h1 h2, show f_X5_commonDivisor_9 130 (lN S.natAbs) (lN F) (0 : Int32) = _ from a1, bnd1_some, if_neg l1, if_neg l0, if_neg l0, pk_lDiv (by omega) g0 (by omega), lN_i, dv h4 h3 a3]
    by_cases hu : u = 0
    · rw [if_pos hu, if_pos hu]
    · rw [if_neg hu, if_neg hu]
  · rw [ab3 h3 h1 h2, a2]
def faN : Nat → Nat
  | 0 => 1
  | n + 1 => (n + 1) * faN n
theorem fac5 : ∀ k, k < 6 → (f_X5_factorial (nI k) = some (lN (faN k)) ∧ 0 < faN k ∧ faN k < 121) := by decide +kernel
theorem fac6 : ∀ k, k < 6 → f_X6_factorial (nI k) = some (nI (faN k)) := by decide +kernel
theorem ord5 : ∀ br, br < 6 → ∀ c, c < br → (f_X5_ordersWith (nI br) (nI c) = some (lN (faN c * faN (br - 1 - c))) ∧ faN c * faN (br - 1 - c) < 25) := by decide +kernel
theorem msk : ∀ br, br < 6 → ∀ b, b < br → ∀ m, m < 2 ^ br → (((nI m &&& nI (2 ^ b)) = 0 ↔ bitN m b = false) ∧ (bitN m b = false → pcN m < br)) := by decide +kernel
theorem up4 {S : Int} {v4 : Int64} {A B o : Nat} (h4 : v4.toInt = S) (h1 : -1048576 < S) (h2 : S < 1048576) (hA : A ≤ 792) (hB : B ≤ 792) (ho : o < 25) : (v4 + (nI A - nI B).toInt64 * lN o).toInt = S + ((A : Int) - B) * o := by
  have p1 : ((A : Int) - B) * o ≤ 792 * o := Int.mul_le_mul_of_nonneg_right (by omega) (by omega)
  have p2 : -792 * (o : Int) ≤ ((A : Int) - B) * o := Int.mul_le_mul_of_nonneg_right (by omega) (by omega)
  rw [Int64.toInt_add, Int64.toInt_mul, h4, Int32.toInt_toInt64, pk_sub_toInt (by omega) (by omega), pk_lT (by omega)]
  rw [bm (x := ((A : Int) - B) * o) (by omega) (by omega), bm (by omega) (by omega)]
theorem up3 {S : Int} {v3 : Int32} {A B o : Nat} (h3 : v3.toInt = S) (h1 : -1048576 < S) (h2 : S < 1048576) (hA : A ≤ 792) (hB : B ≤ 792) (ho : o < 25) : (v3 + nI o * (nI A - nI B)).toInt = S + ((A : Int) - B) * o := by
  have p1 : ((A : Int) - B) * o ≤ 792 * o := Int.mul_le_mul_of_nonneg_right (by omega) (by omega)
  have p2 : -792 * (o : Int) ≤ ((A : Int) - B) * o := Int.mul_le_mul_of_nonneg_right (by omega) (by omega)
  rw [Int32.toInt_add, Int32.toInt_mul, h3, pk_sub_toInt (by omega) (by omega), nI_toInt (by omega), Int.mul_comm (o : Int)]
  rw [bm (x := ((A : Int) - B) * o) (by omega) (by omega), bm (by omega) (by omega)]
theorem upB {S : Int} {A B o i : Nat} (h1 : -(19008 * (i : Int)) ≤ S) (h2 : S ≤ 19008 * (i : Int)) (hA : A ≤ 792) (hB : B ≤ 792) (ho : o < 25) : -(19008 * ((i + 1 : Nat) : Int)) ≤ S + ((A : Int) - B) * o ∧ S + ((A : Int) - B) * o ≤ 19008 * ((i + 1 : Nat) : Int) := by
  have p1 : ((A : Int) - B) * o ≤ 792 * o := Int.mul_le_mul_of_nonneg_right (by omega) (by omega)
  have p2 : -792 * (o : Int) ≤ ((A : Int) - B) * o := Int.mul_le_mul_of_nonneg_right (by omega) (by omega)
  omega
