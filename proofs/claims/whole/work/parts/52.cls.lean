theorem rd_in {f : Nat → Int32} {n i : Nat} (h : i < n) (hn : n < 2 ^ 31) : rd f n (nI i) = some (f i) := by
  unfold rd
  rw [if_neg (nI_in h hn), nI_clamp (by omega)]
theorem wr_in {f : Nat → Int32} {n i : Nat} {x : Int32} (h : i < n) (hn : n < 2 ^ 31) : wr f n (nI i) x = some (upd f i x) := by
  unfold wr
  rw [if_neg (nI_in h hn), nI_clamp (by omega)]
theorem spr_a {d : Nat → Nat} (hd : B99 d) : ∀ (n i fu : Nat) (de : Nat → Int32), i + n = 8 → n < fu → (∀ k, k < i → de k = nI (dpN d k)) → ∃ de' : Nat → Int32, (∀ k, k < 8 → de' k = nI (dpN d k)) ∧ f_X2_spread_2 fu (nI i) (nF d) de = f_X2_spread_38 130 0 (nF d) de'
  | 0, i, 0, de, _, hf, _ => absurd hf (Nat.not_lt_zero _)
  | 0, i, fu + 1, de, hi, _, hk => by
    obtain rfl : i = 8 := by omega
    refine ⟨de, hk, ?_⟩
    rw [f_X2_spread_2, if_pos (by decide)]
  | n + 1, i, 0, de, _, hf, _ => absurd hf (Nat.not_lt_zero _)
  | n + 1, i, fu + 1, de, hi, hf, hk => by
    have hi8 : i < 8 := by omega
    rw [f_X2_spread_2, if_neg (show ¬ (8 : Int32) ≤ nI i from nI_ge hi8 (by decide)), rd_nF hi8 (by decide), bnd1_some]
    have key : ∀ q : Int32, q = nI (dpN d i) → ∀ k, k < i + 1 → upd de i q k = nI (dpN d k) := by
      intro q hq k hk2
      unfold upd
      split
      · next h => rw [hq, h]
      · exact hk k (by omega)
    by_cases h10 : d i < 10
    · rw [if_pos (show nI (d i) < (10 : Int32) from nI_lt h10 (by decide))]
      unfold f_X2_spread_29
      rw [wr_in hi8 (by decide), bnd1_some, nI_1]
      exact spr_a hd n (i + 1) fu _ (by omega) (by omega) (key _ (by simp only [dpN, show ¬ 10 ≤ d i by omega, if_false]; decide))
    · rw [if_neg (show ¬ nI (d i) < (10 : Int32) from nI_nlt (a := d i) (b := 10) (by omega) (by have := hd i; omega))]
      unfold f_X2_spread_29
      rw [wr_in hi8 (by decide), bnd1_some, nI_1]
      exact spr_a hd n (i + 1) fu _ (by omega) (by omega) (key _ (by simp only [dpN, show 10 ≤ d i by omega, if_true]; decide))
theorem sp1_0 {f d : Nat → Nat} {i : Nat} (h : f i = 0) : sp1 f i d = d := by
  funext k
  simp only [sp1, h]
  repeat' split
  all_goals omega
theorem sp1_1 {f d : Nat → Nat} {i : Nat} (hi : i < 8) (h : f i = 1) : uN (uN (uN d i (d i - 2)) ((i + 7) % 8) (uN d i (d i - 2) ((i + 7) % 8) + 1)) ((i + 1) % 8) (uN (uN d i (d i - 2)) ((i + 7) % 8) (uN d i (d i - 2) ((i + 7) % 8) + 1) ((i + 1) % 8) + 1) = sp1 f i d := by
  have h1 : (i + 7) % 8 ≠ i := by omega
  have h2 : (i + 1) % 8 ≠ i := by omega
  have h3 : (i + 1) % 8 ≠ (i + 7) % 8 := by omega
  rw [uN_n h1, uN_n h3, uN_n h2]
  funext k
  simp only [sp1, h, uN]
  by_cases k1 : k = (i + 1) % 8
  · subst k1
    simp only [if_true, h2, h3, if_false]
    omega
  · by_cases k2 : k = (i + 7) % 8
    · subst k2
      simp only [if_true, h1, Ne.symm h3, if_false]
      omega
    · by_cases k3 : k = i
      · subst k3
        simp only [if_true, Ne.symm h1, Ne.symm h2, if_false]
        omega
      · simp only [k1, k2, k3, if_false]
        omega
theorem spr_b {f : Nat → Nat} {de : Nat → Int32} (hde : ∀ k, k < 8 → de k = nI (f k)) (hf1 : ∀ k, f k ≤ 1) : ∀ (n i fu : Nat) (d : Nat → Nat), i + n = 8 → n < fu → (∀ k, i ≤ k → 2 * f k ≤ d k) → f_X2_spread_38 fu (nI i) (nF d) de = some (nF (spN f n i d), de)
  | 0, i, 0, d, _, hf, _ => absurd hf (Nat.not_lt_zero _)
  | 0, i, fu + 1, d, hi, _, _ => by
    obtain rfl : i = 8 := by omega
    rw [f_X2_spread_38, if_pos (by decide)]
    rfl
  | n + 1, i, 0, d, _, hf, _ => absurd hf (Nat.not_lt_zero _)
  | n + 1, i, fu + 1, d, hi, hf, hk => by
    have hi8 : i < 8 := by omega
    have h8 : ∀ x, (x % 8 < 8) := fun x => Nat.mod_lt x (by decide)
    have hstep : ∀ k, i + 1 ≤ k → 2 * f k ≤ sp1 f i d k := by
      intro k hk2
      have := hk k (by omega)
      simp only [sp1, show ¬ k = i by omega, if_false]
      omega
    rw [f_X2_spread_38, if_neg (show ¬ (8 : Int32) ≤ nI i from nI_ge hi8 (by decide)), rd_in hi8 (by decide), bnd1_some, hde i hi8, spN]
    rcases (show f i = 0 ∨ f i = 1 by have := hf1 i; omega) with h0 | h0
    · rw [h0, if_pos (by decide)]
      unfold f_X2_spread_89
      rw [nI_1, spr_b hde hf1 n (i + 1) fu d (by omega) (by omega) (fun k hk2 => hk k (by omega)), sp1_0 h0]
    · have hd2 := hk i (Nat.le_refl _)
      rw [h0, if_neg (by decide), rd_nF hi8 (by decide), bnd1_some, show (2 : Int32) = nI 2 from rfl, pk_sub (by omega), wr_nF hi8 (by decide), bnd1_some, left1 i hi8, bnd1_some, rd_nF (h8 _) (by decide), bnd1_some, nI_1, wr_nF (h8 _) (by decide), bnd1_some, right1 i hi8, bnd1_some, rd_nF (h8 _) (by decide), bnd1_some, nI_1, wr_nF (h8 _) (by decide), bnd1_some, sp1_1 hi8 h0]
      unfold f_X2_spread_89
      rw [nI_1, spr_b hde hf1 n (i + 1) fu _ (by omega) (by omega) hstep]
theorem dpN_le (d : Nat → Nat) (k : Nat) : dpN d k ≤ 1 := by
  unfold dpN
  split <;> omega
theorem dpN_ok (d : Nat → Nat) (k : Nat) : 2 * dpN d k ≤ d k := by
  unfold dpN
  split <;> omega
theorem spread1 {d : Nat → Nat} (hd : B99 d) (de : Nat → Int32) : ∃ de' : Nat → Int32, f_X2_spread (nF d) de = some (nF (spN (dpN d) 8 0 d), de') := by
  obtain ⟨de', h1, h2⟩ := spr_a hd 8 0 130 de rfl (by decide) (fun k h => absurd h (Nat.not_lt_zero _))
  refine ⟨de', ?_⟩
  unfold f_X2_spread
  rw [show (0 : Int32) = nI 0 from rfl, h2, show (0 : Int32) = nI 0 from rfl, spr_b h1 (dpN_le d) 8 0 130 d rfl (by decide) (fun k _ => dpN_ok d k)]
/-- what the spreading comes to, street by street -/
theorem spN_8 {f d : Nat → Nat} (hf : ∀ k, 2 * f k ≤ d k) {k : Nat} (hk : k < 8) : spN f 8 0 d k = d k - 2 * f k + f ((k + 1) % 8) + f ((k + 7) % 8) := by
  have h0 := hf 0
  have h1 := hf 1
  have h2 := hf 2
  have h3 := hf 3
  have h4 := hf 4
  have h5 := hf 5
  have h6 := hf 6
  have h7 := hf 7
  rcases (show k = 0 ∨ k = 1 ∨ k = 2 ∨ k = 3 ∨ k = 4 ∨ k = 5 ∨ k = 6 ∨ k = 7 by omega) with rfl | rfl | rfl | rfl | rfl | rfl | rfl | rfl <;> simp [spN, sp1] <;> omega
theorem spN_out {f d : Nat → Nat} {k : Nat} (hk : 8 ≤ k) : spN f 8 0 d k = d k := by
  have h : ∀ i, i < 8 → k ≠ i := fun i hi => by omega
  simp [spN, sp1, h 0 (by decide), h 1 (by decide), h 2 (by decide), h 3 (by decide), h 4 (by decide), h 5 (by decide), h 6 (by decide), h 7 (by decide)]
theorem B99.spread {d : Nat → Nat} (h : B99 d) : B99 (spN (dpN d) 8 0 d) := by
  intro k
  by_cases hk : k < 8
  · rw [spN_8 (dpN_ok d) hk]
    have h1 := dpN_le d ((k + 1) % 8)
    have h2 := dpN_le d ((k + 7) % 8)
    have h3 := h k
    have h4 : d k - 2 * dpN d k ≤ 97 := by
      unfold dpN
      split <;> omega
    omega
  · rw [spN_out (by omega)]
    exact h k
theorem come1 {d fs fl : Nat → Nat} {fa t times : Nat} (hd : B99 d) (hfa : fa < 6) (ht : t < 2 ^ 31) (hs : ∀ f, f < fa → fs f < 8) (hl : ∀ f, f < fa → fl f < 10) (hti : times ≤ 2) : f_X2_comeDown (nI t) (nF d) (nI fa) (nF fs) (nF fl) (nI times) = some (nF (comeN fa fs fl t times d)) := by
  unfold f_X2_comeDown comeN
  by_cases h0 : fa = 0
  · subst h0
    rw [if_pos (by decide), if_pos rfl]
  · have hm : t % fa < fa := Nat.mod_lt _ (by omega)
    have hx : fl (t % fa) * times ≤ 99 := by
      have := hl _ hm
      calc fl (t % fa) * times ≤ 9 * 2 := Nat.mul_le_mul (by omega) hti
        _ ≤ 99 := by decide
    rw [if_neg (nI_nle (by omega) (by omega)), if_neg (show ¬ (5 : Int32) < nI fa from nI_nlt (a := 5) (b := fa) (by omega) (by decide)), if_neg (nI_pos ht), if_neg (nI_ne0 (by omega) (by omega)), pk_rem ht (by omega) (by omega), rd_nF (by omega) (by decide), bnd1_some, rd_nF (by omega) (by decide), bnd1_some, pk_mul, pour1 (hs _ hm) (hd _) hx, bnd1_some, if_neg h0]
theorem wk1 {p st kd fs fl : Nat → Nat} {g e w br fa t : Nat} {de : Nat → Int32} (hbr : br < 6) (hp : ∀ b, b < br → p b < 8) (hs : ∀ b, b < br → st b < 10) (hk : ∀ b, b < br → kd b < 4) (hg : g < 2) (he : e < 32) (hw : w < 32) : ∀ (n b fu : Nat) (d : Nat → Nat), b + n = br → n < fu → B99 d → f_X2_passDawn_7 (nI g) (nI e) (nF p) (nI br) (nI fa) (nF st) (nF kd) (nF fs) (nF fl) fu (nI w) (nI b) (nI t) (nF d) de = bnd2 (f_X2_spread (nF (wkN st kd p g e w n b d)) de) (fun x y => some (nI t + 1, x, y))
  | 0, b, 0, d, _, hf, _ => absurd hf (Nat.not_lt_zero _)
  | 0, b, fu + 1, d, hb, _, _ => by
    obtain rfl : b = br := by omega
    rw [f_X2_passDawn_7, if_pos (nI_le (Nat.le_refl _) (by omega))]
    rfl
  | n + 1, b, 0, d, _, hf, _ => absurd hf (Nat.not_lt_zero _)
  | n + 1, b, fu + 1, d, hb, hf, hd => by
    have hlt : b < br := by omega
    rw [f_X2_passDawn_7, if_neg (nI_ge hlt (by omega)), wkN]
    by_cases hbt : bitN w b = true
    · rw [if_pos ((bit1 w hw b (by omega)).mpr hbt), work1 hbr hlt (hp b hlt) (hs b hlt) (hk b hlt) hg he hd, bnd1_some]
      unfold f_X2_passDawn_32
      rw [nI_1, wk1 hbr hp hs hk hg he hw n (b + 1) fu _ (by omega) (by omega) (hd.work _ _ _), if_pos hbt]
    · rw [if_neg (fun q => hbt ((bit1 w hw b (by omega)).mp q))]
      unfold f_X2_passDawn_32
      rw [nI_1, wk1 hbr hp hs hk hg he hw n (b + 1) fu d (by omega) (by omega) hd, if_neg hbt]
theorem passDawn1 {d p st kd fs fl : Nat → Nat} {g e w br fa t times : Nat} (de : Nat → Int32) (hd : B99 d) (hbr : br < 6) (hfa : fa < 6) (hp : ∀ b, b < br → p b < 8) (hs : ∀ b, b < br → st b < 10) (hk : ∀ b, b < br → kd b < 4) (hfs : ∀ f, f < fa → fs f < 8) (hfl : ∀ f, f < fa → fl f < 10) (hg : g < 2) (he : e < 32) (hw : w < 32) (ht : t < 2 ^ 31) (hti : times ≤ 2) : ∃ de' : Nat → Int32, f_X2_passDawn (nI g) (nI e) (nI t) (nF d) (nF p) de (nI br) (nI fa) (nF st) (nF kd) (nF fs) (nF fl) (nI w) (nI times) = some (nI (t + 1), nF (dawnN br fa st kd fs fl p g e t w times d), de') := by
  obtain ⟨de', h⟩ := spread1 (B99.wk (st := st) (kd := kd) (p := p) (g := g) (e := e) (w := w) br 0 _ (B99.come (fs := fs) (fl := fl) (fa := fa) (t := t) (times := times) hd)) de
  refine ⟨de', ?_⟩
  unfold f_X2_passDawn dawnN
  rw [come1 hd hfa ht hfs hfl hti, bnd1_some, show (0 : Int32) = nI 0 from rfl, wk1 hbr hp hs hk hg he hw br 0 130 _ (by omega) (by omega) hd.come, h, bnd2_some, nI_1]
theorem B99.dawn {d p st kd fs fl : Nat → Nat} {g e w br fa t times : Nat} (hd : B99 d) : B99 (dawnN br fa st kd fs fl p g e t w times d) := (B99.wk _ _ _ hd.come).spread
