/-! who it was, by heaps -/
section WHO
variable {hs : Nat} {hb hl hw : Nat → Nat}
def fitL (hb hl hw : Nat → Nat) (q s : Nat) : Nat → Nat → Bool
  | 0, _ => true
  | n + 1, i => decide (hl i = hb i - min (hb i) s) && (decide (hw i = (if q = 1 then min (hb i) s else 0)) && fitL hb hl hw q s n (i + 1))
theorem fit_l {q s : Nat} (h : HOK hs hb hl hw) (hq : q < 2) (hs9 : s < 10) : ∀ (n i fu : Nat), i + n = hs → n < fu → f_X1_fit_2 (nI hs) (nF hb) (nF hl) (nF hw) fu (nI q) (nI s) (nI i) = some (if fitL hb hl hw q s n i then 1 else 0)
  | 0, i, 0, _, hf => absurd hf (Nat.not_lt_zero _)
  | 0, i, fu + 1, hi, _ => by
    obtain rfl : i = hs := by omega
    have := h.1
    rw [f_X1_fit_2, if_pos (nI_le (Nat.le_refl _) (by omega))]
    rfl
  | n + 1, i, 0, _, hf => absurd hf (Nat.not_lt_zero _)
  | n + 1, i, fu + 1, hi, hf => by
    have h6 := h.1
    have b1 := h.2.1 i
    have b2 := h.2.2.1 i
    have b3 := h.2.2.2 i
    have hi6 : i < 6 := by omega
    have rb : rd (nF hb) 6 (nI i) = some (nI (hb i)) := rd_nF hi6 (by decide)
    have rl : rd (nF hl) 6 (nI i) = some (nI (hl i)) := rd_nF hi6 (by decide)
    have rw_ : rd (nF hw) 6 (nI i) = some (nI (hw i)) := rd_nF hi6 (by decide)
    have hmin : (if nI (hb i) < nI s then nI (hb i) else nI s) = nI (min (hb i) s) := nI_min (by omega) (by omega)
    have ih := fit_l h hq hs9 n (i + 1) fu (by omega) (by omega)
    rw [f_X1_fit_2, if_neg (nI_ge (by omega) (by omega)), if_neg (show ¬ (6 : Int32) ≤ nI i from nI_ge hi6 (by decide)), rb, bnd1_some, hmin]
    unfold f_X1_fit_39
    rw [rl, rb, rw_, nI_1, ih]
    simp only [bnd1_some]
    rw [pk_sub (Nat.min_le_left _ _), fitL]
    have e1 : (nI (hl i) = nI (hb i - min (hb i) s)) ↔ (hl i = hb i - min (hb i) s) := nI_eq (by omega) (by omega)
    by_cases c1 : hl i = hb i - min (hb i) s
    · simp only [if_pos (e1.mpr c1), c1, decide_true, Bool.true_and]
      rcases (show q = 0 ∨ q = 1 by omega) with rfl | rfl
      · rw [if_neg (by decide)]
        by_cases c2 : hw i = 0
        · rw [c2, if_pos (by decide)]
          rfl
        · rw [if_neg (nI_ne0 (by omega) (by omega))]
          simp [c2]
      · rw [if_pos (by decide)]
        have e2 : (nI (hw i) = nI (min (hb i) s)) ↔ (hw i = min (hb i) s) := nI_eq (by omega) (by omega)
        by_cases c2 : hw i = min (hb i) s
        · rw [if_pos (e2.mpr c2)]
          simp [c2]
        · rw [if_neg (fun z => c2 (e2.mp z))]
          simp [c2]
    · have c1' : ¬ nI (hl i) = nI (hb i - min (hb i) s) := fun z => c1 (e1.mp z)
      simp only [if_neg c1', c1, decide_false, Bool.false_and]
      split <;> rfl
theorem fit1 {q s : Nat} (h : HOK hs hb hl hw) (hq : q < 2) (hs9 : s < 10) : f_X1_fit (nI hs) (nF hb) (nF hl) (nF hw) (nI q) (nI s) = some (if fitL hb hl hw q s hs 0 then 1 else 0) := by
  have := h.1
  exact fit_l h hq hs9 hs 0 130 (Nat.zero_add _) (by omega)
def whoN (hs : Nat) (hb hl hw : Nat → Nat) : Nat → Nat → Nat → Int32 → Nat × Int32
  | 0, _, n, F => (n, F)
  | m + 1, k, n, F => if fitL hb hl hw (k / 9) (1 + k % 9) hs 0 then whoN hs hb hl hw m (k + 1) (n + 1) (if n = 0 then nI (10 * (k / 9) + (1 + k % 9)) else F) else whoN hs hb hl hw m (k + 1) n F
/-- the first side: one kind's nine strengths -/
theorem who_a {q : Nat} {u : Int32} {k20 : Int32 → Int32 → Int32 → Int32 → Option Int32} (h : HOK hs hb hl hw) (hq : q < 2) : ∀ (m s fu n : Nat) (F : Int32), s + m = 10 → 1 ≤ s → m < fu → (F = -9 ↔ n = 0) → f_X5_whose_29 (nI hs) (nF hb) (nF hl) (nF hw) k20 fu u (nI n) F (nI q) (nI s) = k20 u (nI (whoN hs hb hl hw m (9 * q + s - 1) n F).1) (whoN hs hb hl hw m (9 * q + s - 1) n F).2 (nI (q + 1)) ∧ ((whoN hs hb hl hw m (9 * q + s - 1) n F).2 = -9 ↔ (whoN hs hb hl hw m (9 * q + s - 1) n F).1 = 0)
  | 0, s, 0, n, F, _, _, hf, _ => absurd hf (Nat.not_lt_zero _)
  | 0, s, fu + 1, n, F, hs1, _, _, hF => by
    obtain rfl : s = 10 := by omega
    rw [f_X5_whose_29, if_pos (by decide), nI_1]
    exact ⟨rfl, hF⟩
  | m + 1, s, 0, n, F, _, _, hf, _ => absurd hf (Nat.not_lt_zero _)
  | m + 1, s, fu + 1, n, F, hs1, hs2, hf, hF => by
    have k1 : (9 * q + s - 1) / 9 = q := by omega
    have k2 : 1 + (9 * q + s - 1) % 9 = s := by omega
    have k3 : 9 * q + s - 1 + 1 = 9 * q + (s + 1) - 1 := by omega
    rw [f_X5_whose_29, if_neg (show ¬ (9 : Int32) < nI s from nI_nlt (a := 9) (b := s) (by omega) (by decide)), fit1 h hq (by omega), bnd1_some, whoN, k1, k2, k3]
    unfold f_X5_whose_71 f_X5_whose_72
    rw [nI_1, nI_1, show (10 : Int32) = nI 10 from rfl, pk_mul, nI_add]
    cases hfit : fitL hb hl hw q s hs 0
    · rw [if_pos (by decide)]
      simp only [Bool.false_eq_true, if_false]
      exact who_a h hq m (s + 1) fu n F (by omega) (by omega) (by omega) hF
    · rw [if_pos rfl, if_neg (by decide), if_pos rfl]
      by_cases hn : n = 0
      · rw [if_pos (hF.mpr hn), if_pos hn]
        refine who_a h hq m (s + 1) fu (n + 1) _ (by omega) (by omega) (by omega) ⟨fun z => ?_, fun z => absurd z (by omega)⟩
        have := congrArg Int32.toInt z
        rw [nI_toInt (by omega)] at this
        have h9 : (-9 : Int32).toInt = -9 := by decide
        omega
      · rw [if_neg (fun z => hn (hF.mp z)), if_neg hn]
        exact who_a h hq m (s + 1) fu (n + 1) F (by omega) (by omega) (by omega) ⟨fun z => absurd (hF.mp z) hn, fun z => absurd z (by omega)⟩
theorem whoN_add {hs : Nat} {hb hl hw : Nat → Nat} : ∀ (a b k n : Nat) (F : Int32), whoN hs hb hl hw (a + b) k n F = whoN hs hb hl hw b (k + a) (whoN hs hb hl hw a k n F).1 (whoN hs hb hl hw a k n F).2
  | 0, b, k, n, F => by rw [Nat.zero_add]; rfl
  | a + 1, b, k, n, F => by
    rw [show a + 1 + b = (a + b) + 1 by omega, whoN, whoN]
    split
    · rw [whoN_add a b, show k + 1 + a = k + (a + 1) by omega]
    · rw [whoN_add a b, show k + 1 + a = k + (a + 1) by omega]
theorem who1 (u : Int32) (h : HOK hs hb hl hw) : f_X5_whose_20 (nI hs) (nF hb) (nF hl) (nF hw) 130 u 0 (-9) 0 = (if u = 0 then some (nI (whoN hs hb hl hw 18 0 0 (-9)).1) else some (whoN hs hb hl hw 18 0 0 (-9)).2) := by
  obtain ⟨a1, a2⟩ := who_a (q := 0) (u := u) (k20 := f_X5_whose_20 (nI hs) (nF hb) (nF hl) (nF hw) 129) h (by decide) 9 1 130 0 (-9) rfl (by decide) (by decide) ⟨fun _ => rfl, fun _ => rfl⟩
  obtain ⟨b1, b2⟩ := who_a (q := 1) (u := u) (k20 := f_X5_whose_20 (nI hs) (nF hb) (nF hl) (nF hw) 128) h (by decide) 9 1 130 _ _ rfl (by decide) (by decide) a2
  have w := whoN_add (hs := hs) (hb := hb) (hl := hl) (hw := hw) 9 9 0 0 (-9)
  have s1 : f_X5_whose_20 (nI hs) (nF hb) (nF hl) (nF hw) 130 u 0 (-9) 0 = f_X5_whose_29 (nI hs) (nF hb) (nF hl) (nF hw) (f_X5_whose_20 (nI hs) (nF hb) (nF hl) (nF hw) 129) 130 u (nI 0) (-9) (nI 0) (nI 1) := by
    rw [f_X5_whose_20, if_neg (by decide)]
    rfl
  have s2 : ∀ (n : Nat) (F : Int32), f_X5_whose_20 (nI hs) (nF hb) (nF hl) (nF hw) 129 u (nI n) F (nI 1) = f_X5_whose_29 (nI hs) (nF hb) (nF hl) (nF hw) (f_X5_whose_20 (nI hs) (nF hb) (nF hl) (nF hw) 128) 130 u (nI n) F (nI 1) (nI 1) := by
    intro n F
    rw [f_X5_whose_20, if_neg (by decide)]
    rfl
  have s3 : ∀ (n : Nat) (F : Int32), f_X5_whose_20 (nI hs) (nF hb) (nF hl) (nF hw) 128 u (nI n) F (nI 2) = (if u = 0 then some (nI n) else some F) := by
    intro n F
    rw [f_X5_whose_20, if_pos (by decide)]
  rw [s1, a1, s2, b1, s3, show (18 : Nat) = 9 + 9 from rfl, w]
/-- the second side: one kind and strength over the heaps -/
theorem who_b {k n : Nat} {u F : Int32} {kk : Int32 → Int32 → Int32 → Int32 → Option Int32} (h : HOK hs hb hl hw) (hk : k < 18) (hn : n < 100) : ∀ (m i fu : Nat) (b : Bool), i + m = hs → m < fu → f_X6_whose_43 (nI hs) (nF hb) (nF hl) (nF hw) kk fu u (nI n) F (nI k) (nI (1 + k % 9)) (if b then 1 else 0) (nI i) = (if (b && fitL hb hl hw (k / 9) (1 + k % 9) m i) then kk u (nI (n + 1)) (if n = 0 then nI (10 * (k / 9) + (1 + k % 9)) else F) (nI (k + 1)) else kk u (nI n) F (nI (k + 1)))
  | 0, i, 0, b, _, hf => absurd hf (Nat.not_lt_zero _)
  | 0, i, fu + 1, b, hi, _ => by
    obtain rfl : i = hs := by omega
    have := h.1
    have e0 : nI n + 0 = nI n := nI_add n 0
    rw [f_X6_whose_43, if_pos (nI_le (Nat.le_refl _) (by omega))]
    unfold f_X6_whose_162 f_X6_whose_163 f_X6_whose_175
    rw [nI_1, nI_1, e0]
    cases b
    · simp only [Bool.false_eq_true, if_false, if_true, Bool.false_and]
    · simp only [if_true, if_neg i1_0, Bool.true_and, fitL]
      rw [show (9 : Int32) = nI 9 from rfl, pk_div (by omega) (by decide) (by decide), show (10 : Int32) = nI 10 from rfl, pk_mul, nI_add]
      by_cases h0 : n = 0
      · subst h0
        rw [if_pos rfl, if_pos (show nI 0 = 0 from rfl)]
      · rw [if_neg (nI_ne0 (by omega) (by omega)), if_neg h0]
  | m + 1, i, 0, b, _, hf => absurd hf (Nat.not_lt_zero _)
  | m + 1, i, fu + 1, b, hi, hf => by
    have h6 := h.1
    have b1 := h.2.1 i
    have b2 := h.2.2.1 i
    have b3 := h.2.2.2 i
    have hi6 : i < 6 := by omega
    have hs9 : 1 + k % 9 < 10 := by omega
    have rb : rd (nF hb) 6 (nI i) = some (nI (hb i)) := rd_nF hi6 (by decide)
    have rl : rd (nF hl) 6 (nI i) = some (nI (hl i)) := rd_nF hi6 (by decide)
    have rw_ : rd (nF hw) 6 (nI i) = some (nI (hw i)) := rd_nF hi6 (by decide)
    have ihT := who_b (k := k) (n := n) (u := u) (F := F) (kk := kk) h hk hn m (i + 1) fu true (by omega) (by omega)
    have ihF := who_b (k := k) (n := n) (u := u) (F := F) (kk := kk) h hk hn m (i + 1) fu false (by omega) (by omega)
    simp only [if_true, Bool.true_and] at ihT
    simp only [Bool.false_eq_true, if_false, Bool.false_and] at ihF
    have step : ∀ z : Int32, z = nI (min (hb i) (1 + k % 9)) → f_X6_whose_76 (nI hs) (nF hb) (nF hl) (nF hw) kk (f_X6_whose_43 (nI hs) (nF hb) (nF hl) (nF hw) kk fu) u (nI n) F (nI k) (nI (1 + k % 9)) (if b then 1 else 0) (nI i) z = (if (b && fitL hb hl hw (k / 9) (1 + k % 9) (m + 1) i) then kk u (nI (n + 1)) (if n = 0 then nI (10 * (k / 9) + (1 + k % 9)) else F) (nI (k + 1)) else kk u (nI n) F (nI (k + 1))) := by
      intro z hz
      subst hz
      unfold f_X6_whose_76 f_X6_whose_123 f_X6_whose_130 f_X6_whose_131
      rw [nI_1, rl, rb, rw_]
      simp only [bnd1_some]
      rw [ihF, ihT, pk_sub (Nat.min_le_left _ _)]
      cases b
      · simp only [Bool.false_eq_true, if_false, if_true, Bool.false_and]
      · simp only [if_true, if_neg i1_0, Bool.true_and]
        rw [fitL]
        have e1 : (nI (hl i) = nI (hb i - min (hb i) (1 + k % 9))) ↔ (hl i = hb i - min (hb i) (1 + k % 9)) := nI_eq (by omega) (by omega)
        by_cases c1 : hl i = hb i - min (hb i) (1 + k % 9)
        · rw [if_pos (e1.mpr c1), decide_eq_true c1, Bool.true_and]
          by_cases c9 : 9 ≤ k
          · have q1 : k / 9 = 1 := by omega
            rw [if_pos (show (9 : Int32) ≤ nI k from nI_le (a := 9) c9 (by omega)), q1, if_pos rfl]
            have e2 : (nI (hw i) = nI (min (hb i) (1 + k % 9))) ↔ (hw i = min (hb i) (1 + k % 9)) := nI_eq (by omega) (by omega)
            by_cases c2 : hw i = min (hb i) (1 + k % 9)
            · rw [if_pos (e2.mpr c2), decide_eq_true c2, Bool.true_and]
            · rw [if_neg (fun q => c2 (e2.mp q)), decide_eq_false c2, Bool.false_and, if_neg (by decide)]
          · have q0 : k / 9 = 0 := by omega
            rw [if_neg (show ¬ (9 : Int32) ≤ nI k from nI_ge (b := 9) (by omega) (by decide)), q0, if_neg (show ¬ (0 : Nat) = 1 by decide)]
            by_cases c2 : hw i = 0
            · rw [c2, if_pos (show nI 0 = 0 from rfl), decide_eq_true rfl, Bool.true_and]
            · rw [if_neg (nI_ne0 (by omega) (by omega)), decide_eq_false c2, Bool.false_and, if_neg (by decide)]
        · rw [if_neg (fun q => c1 (e1.mp q)), decide_eq_false c1, Bool.false_and, if_neg (by decide)]
    rw [f_X6_whose_43, if_neg (nI_ge (by omega) (by omega)), rb, bnd1_some, bnd1_some]
    by_cases hle : 1 + k % 9 ≤ hb i
    · rw [if_pos (nI_le hle (by omega))]
      exact step _ (by rw [Nat.min_eq_right hle])
    · rw [if_neg (nI_ge (by omega) (by omega))]
      exact step _ (by rw [Nat.min_eq_left (by omega)])
theorem who_c {u : Int32} (h : HOK hs hb hl hw) : ∀ (m k fu n : Nat) (F : Int32), k + m = 18 → m < fu → n ≤ k → f_X6_whose_21 (nI hs) (nF hb) (nF hl) (nF hw) fu u (nI n) F (nI k) = (if u = 0 then some (nI (whoN hs hb hl hw m k n F).1) else some (whoN hs hb hl hw m k n F).2)
  | 0, k, 0, n, F, _, hf, _ => absurd hf (Nat.not_lt_zero _)
  | 0, k, fu + 1, n, F, hk, _, _ => by
    obtain rfl : k = 18 := by omega
    rw [f_X6_whose_21, if_pos (by decide)]
    rfl
  | m + 1, k, 0, n, F, _, hf, _ => absurd hf (Nat.not_lt_zero _)
  | m + 1, k, fu + 1, n, F, hk, hf, hn => by
    have h6 := h.1
    have w := who_b (k := k) (n := n) (u := u) (F := F) (kk := f_X6_whose_21 (nI hs) (nF hb) (nF hl) (nF hw) fu) h (by omega) (by omega) hs 0 130 true (Nat.zero_add _) (by omega)
    simp only [if_true, Bool.true_and] at w
    rw [f_X6_whose_21, if_neg (show ¬ (18 : Int32) ≤ nI k from nI_ge (b := 18) (by omega) (by decide)), show (9 : Int32) = nI 9 from rfl, pk_rem (by omega) (by decide) (by decide), show (1 : Int32) + nI (k % 9) = nI (1 + k % 9) from nI_add 1 _, show (0 : Int32) = nI 0 from rfl, w, whoN]
    cases hfit : fitL hb hl hw (k / 9) (1 + k % 9) hs 0
    · simp only [Bool.false_eq_true, if_false]
      exact who_c h m (k + 1) fu n F (by omega) (by omega) (by omega)
    · simp only [if_true]
      exact who_c h m (k + 1) fu (n + 1) _ (by omega) (by omega) (by omega)
theorem sim_whose (u : Int32) (h : HOK hs hb hl hw) : ∃ r : Int32, f_X5_whose (nI hs) (nF hb) (nF hl) (nF hw) u = some r ∧ f_X6_whose (nI hs) (nF hb) (nF hl) (nF hw) u = some r := by
  unfold f_X5_whose f_X6_whose
  rcases both u (a := 0) (b := 1) (by decide) (by decide) with ⟨k, q1, q2, rfl, q3, q4⟩ | ⟨q3, q4⟩
  · rw [show f_X5_within (nI k) (0 : Int32) (1 : Int32) = some 1 from q3, show f_X6_in (nI k).toInt64 (0 : Int64) (1 : Int64) = some 1 from q4, bnd1_some, bnd1_some, if_neg i1_0, if_neg i1_0, who1 (nI k) h, show f_X6_whose_21 (nI hs) (nF hb) (nF hl) (nF hw) 130 (nI k) 0 (-9) 0 = _ from who_c h 18 0 130 0 (-9) rfl (by decide) (by decide)]
    by_cases hz : nI k = 0
    · rw [if_pos hz]
      exact ⟨_, rfl, rfl⟩
    · rw [if_neg hz]
      exact ⟨_, rfl, rfl⟩
  · rw [show f_X5_within u (0 : Int32) (1 : Int32) = some 0 from q3, show f_X6_in u.toInt64 (0 : Int64) (1 : Int64) = some 0 from q4, bnd1_some, bnd1_some, if_pos rfl, if_pos rfl]
    exact ⟨_, rfl, rfl⟩
end WHO
