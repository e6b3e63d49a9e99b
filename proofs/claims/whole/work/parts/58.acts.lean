/-! moments laid into rows, and read back -/
def saveN (d p : Nat → Nat) (g e t : Nat) (a : Nat → Nat) (s : Nat) : Nat → Nat := uN (uN (uN (cN p (cN d a 0 s 8) 0 (s + 8) 5) (s + 8 + 5) g) (s + 8 + 5 + 1) e) (s + 8 + 5 + 2) t
theorem save1 {d p a : Nat → Nat} {g e t n s : Nat} (hs : s + 16 ≤ n) (hn : n < 2 ^ 31) (hg : g < 2) : f_X2_save n (nI g) (nI e) (nI t) (nF d) (nF p) (nF a) (nI s) = some (nF (saveN d p g e t a s)) := by
  have hle : nI s ≤ Int32.ofNat n - 16 := by
    show nI s ≤ nI n - nI 16
    rw [pk_sub (by omega)]
    exact nI_le (by omega) (by omega)
  unfold f_X2_save
  rw [if_neg (nI_pos (by omega)), if_pos hle]
  unfold f_X2_save_61
  rw [show (0 : Int32) = nI 0 from rfl, show (8 : Int32) = nI 8 from rfl, show (5 : Int32) = nI 5 from rfl, show (1 : Int32) = nI 1 from rfl, show (2 : Int32) = nI 2 from rfl, cp_nF (by omega) (by omega) (by decide) hn, bnd1_some, nI_add, cp_nF (by omega) (by omega) (by decide) hn, bnd1_some, nI_add, nI_add, nI_add]
  rcases (show g = 0 ∨ g = 1 by omega) with rfl | rfl
  · rw [if_pos rfl, wr_nF (by omega) hn, bnd1_some, wr_nF (by omega) hn, bnd1_some, wr_nF (by omega) hn, bnd1_some]
    rfl
  · rw [if_neg (by decide), wr_nF (by omega) hn, bnd1_some, wr_nF (by omega) hn, bnd1_some, wr_nF (by omega) hn, bnd1_some]
    rfl
theorem load1 {a d p : Nat → Nat} {g e t : Int32} {n s : Nat} (hs : s + 16 ≤ n) (hn : n < 2 ^ 31) (hg : a (s + 13) < 2) : f_X2_load n g e t (nF d) (nF p) (nF a) (nI s) = some (nI (a (s + 13)), nI (a (s + 14)), nI (a (s + 15)), nF (cN a d s 0 8), nF (cN a p (s + 8) 0 5)) := by
  have hle : nI s ≤ Int32.ofNat n - 16 := by
    show nI s ≤ nI n - nI 16
    rw [pk_sub (by omega)]
    exact nI_le (by omega) (by omega)
  unfold f_X2_load
  rw [if_neg (nI_pos (by omega)), if_pos hle]
  unfold f_X2_load_60
  have r13 : rd (nF a) n (nI (s + 8 + 5)) = some (nI (a (s + 13))) := by rw [rd_nF (by omega) hn]
  have r14 : rd (nF a) n (nI (s + 8 + 5 + 1)) = some (nI (a (s + 14))) := by rw [rd_nF (by omega) hn]
  have r15 : rd (nF a) n (nI (s + 8 + 5 + 2)) = some (nI (a (s + 15))) := by rw [rd_nF (by omega) hn]
  rw [show (0 : Int32) = nI 0 from rfl, show (8 : Int32) = nI 8 from rfl, show (5 : Int32) = nI 5 from rfl, show (1 : Int32) = nI 1 from rfl, show (2 : Int32) = nI 2 from rfl, cp_nF (by omega) (by omega) hn (by decide), bnd1_some, nI_add, cp_nF (by omega) (by omega) hn (by decide), bnd1_some, nI_add, nI_add, nI_add, r13, bnd1_some, r14, r15]
  generalize a (s + 13) = q at hg
  rcases (show q = 0 ∨ q = 1 by omega) with rfl | rfl
  · rw [if_neg (by decide), zr_nI (by decide), bnd1_some, bnd1_some, bnd1_some]
  · rw [if_pos rfl, zr_nI (by decide), bnd1_some, bnd1_some, bnd1_some]
/-- one row on each side holds the same moment -/
def RR (br bd : Nat) (a : Nat → Nat) (i : Nat) (b : Nat → Nat) (j : Nat) : Prop := (∀ k, k < 8 → b (j + k) = a (i + k) ∧ a (i + k) ≤ 99) ∧ (∀ k, k < br → b (j + 8 + k) = a (i + 8 + k) ∧ a (i + 8 + k) < 8) ∧ (b (j + 13) = a (i + 13) ∧ a (i + 13) < 2) ∧ (b (j + 14) = a (i + 14) ∧ a (i + 14) < 32) ∧ (b (j + 15) = a (i + 15) ∧ a (i + 15) ≤ bd)
theorem RR.up {br bd bd2 : Nat} {a b : Nat → Nat} {i j : Nat} (h : RR br bd a i b j) (hb : bd ≤ bd2) : RR br bd2 a i b j := ⟨h.1, h.2.1, h.2.2.1, h.2.2.2.1, h.2.2.2.2.1, Nat.le_trans h.2.2.2.2.2 hb⟩
theorem RR.cg {br bd : Nat} {a a2 b b2 : Nat → Nat} {i j : Nat} (hbr : br < 6) (h : RR br bd a i b j) (ha : ∀ k, k < 16 → a2 (i + k) = a (i + k)) (hb : ∀ k, k < 16 → b2 (j + k) = b (j + k)) : RR br bd a2 i b2 j := by
  refine ⟨fun k hk => ?_, fun k hk => ?_, ?_, ?_, ?_⟩
  · rw [ha k (by omega), hb k (by omega)]
    exact h.1 k hk
  · rw [Nat.add_assoc i, Nat.add_assoc j, ha (8 + k) (by omega), hb (8 + k) (by omega), ← Nat.add_assoc, ← Nat.add_assoc]
    exact h.2.1 k hk
  · rw [ha 13 (by omega), hb 13 (by omega)]
    exact h.2.2.1
  · rw [ha 14 (by omega), hb 14 (by omega)]
    exact h.2.2.2.1
  · rw [ha 15 (by omega), hb 15 (by omega)]
    exact h.2.2.2.2
theorem saveN_out {d p a : Nat → Nat} {g e t s k : Nat} (h : k < s ∨ s + 16 ≤ k) : saveN d p g e t a s k = a k := by
  unfold saveN
  rw [uN_n (by omega), uN_n (by omega), uN_n (by omega), cN_out (by omega), cN_out (by omega)]
theorem RR.save {br bd : Nat} {d p a y b : Nat → Nat} {g e t s j : Nat} (hbr : br < 6) (hM : MOK br bd d p g e t) (ha : AG br d p g e t y 0) : RR br bd (saveN d p g e t a s) s (cN y b 0 j 16) j := by
  obtain ⟨m1, m2, m3, m4, m5⟩ := hM
  have hd : ∀ k, k < 8 → saveN d p g e t a s (s + k) = d k := by
    intro k hk
    unfold saveN
    rw [uN_n (by omega), uN_n (by omega), uN_n (by omega), cN_out (by omega), cN_in (by omega) (by omega)]
    congr 1
    omega
  have hp : ∀ k, k < br → saveN d p g e t a s (s + 8 + k) = p k := by
    intro k hk
    unfold saveN
    rw [uN_n (by omega), uN_n (by omega), uN_n (by omega), cN_in (by omega) (by omega)]
    congr 1
    omega
  have h13 : saveN d p g e t a s (s + 13) = g := by
    unfold saveN
    rw [uN_n (by omega), uN_n (by omega)]
    exact uN_s _ _ _
  have h14 : saveN d p g e t a s (s + 14) = e := by
    unfold saveN
    rw [uN_n (by omega)]
    exact uN_s _ _ _
  have h15 : saveN d p g e t a s (s + 15) = t := by
    unfold saveN
    exact uN_s _ _ _
  have hy : ∀ k, k < 16 → cN y b 0 j 16 (j + k) = y k := by
    intro k hk
    rw [cN_in (by omega) (by omega)]
    congr 1
    omega
  refine ⟨fun k hk => ?_, fun k hk => ?_, ?_, ?_, ?_⟩
  · rw [hd k hk, hy k (by omega), ← ha.1 k hk]
    exact ⟨by rw [Nat.zero_add], by rw [ha.1 k hk]; exact m1 k⟩
  · rw [hp k hk, Nat.add_assoc j, hy (8 + k) (by omega), ← ha.2.1 k hk]
    exact ⟨by rw [Nat.zero_add], by rw [ha.2.1 k hk]; exact m2 k hk⟩
  · rw [h13, hy 13 (by omega)]
    exact ⟨ha.2.2.1, m3⟩
  · rw [h14, hy 14 (by omega)]
    exact ⟨ha.2.2.2.1, m4⟩
  · rw [h15, hy 15 (by omega)]
    exact ⟨ha.2.2.2.2, m5⟩
/-- a moment read back from a row -/
theorem RR.load {br bd : Nat} {a b d p y : Nat → Nat} {i j : Nat} (hbr : br < 6) (hd : B99 d) (h : RR br bd a i b j) : AG br (cN a d i 0 8) (cN a p (i + 8) 0 5) (a (i + 13)) (a (i + 14)) (a (i + 15)) (cN b y j 0 16) 0 ∧ MOK br bd (cN a d i 0 8) (cN a p (i + 8) 0 5) (a (i + 13)) (a (i + 14)) (a (i + 15)) := by
  have hy : ∀ k, k < 16 → cN b y j 0 16 (0 + k) = b (j + k) := by
    intro k hk
    rw [cN_in (by omega) (by omega)]
    congr 1
    omega
  refine ⟨⟨fun k hk => ?_, fun k hk => ?_, ?_, ?_, ?_⟩, fun k => ?_, fun k hk => ?_, h.2.2.1.2, h.2.2.2.1.2, h.2.2.2.2.2⟩
  · rw [hy k (by omega), cN_in (by omega) (by omega), (h.1 k hk).1, Nat.sub_zero]
  · rw [Nat.add_assoc 0, hy (8 + k) (by omega), cN_in (by omega) (by omega), Nat.sub_zero, ← Nat.add_assoc, (h.2.1 k hk).1]
  · rw [hy 13 (by omega)]
    exact h.2.2.1.1
  · rw [hy 14 (by omega)]
    exact h.2.2.2.1.1
  · rw [hy 15 (by omega)]
    exact h.2.2.2.2.1
  · by_cases hk : k < 8
    · rw [cN_in (by omega) (by omega), Nat.sub_zero]
      exact (h.1 k hk).2
    · rw [cN_out (by omega)]
      exact hd k
  · rw [cN_in (by omega) (by omega), Nat.sub_zero]
    exact (h.2.1 k hk).2
/-- the acts that can be undone, on both sides -/
def RA (br bd n af : Nat) (ac : Nat → Nat) (nx : Nat) (yr : Nat → Nat) : Prop := n ≤ 14 ∧ af < 14 ∧ nx < 14 ∧ ∀ j, j < n → RR br bd ac (16 * ((af + (n - 1 - j)) % 14)) yr (16 * ((nx + 27 - j) % 14))
theorem RA.up {br bd bd2 n af nx : Nat} {ac yr : Nat → Nat} (h : RA br bd n af ac nx yr) (hb : bd ≤ bd2) : RA br bd2 n af ac nx yr := ⟨h.1, h.2.1, h.2.2.1, fun j hj => (h.2.2.2 j hj).up hb⟩
theorem RA.nil {br bd nx : Nat} {ac yr : Nat → Nat} (h : nx < 14) : RA br bd 0 0 ac nx yr := ⟨by omega, by omega, h, fun j hj => absurd hj (Nat.not_lt_zero _)⟩
theorem keep_l {y b : Nat → Nat} {na nx : Nat} (hn : na ≤ 14) (hx : nx < 14) : ∀ (n i fu : Nat), i + n = 16 → n < fu → f_X6_keepAct_2 (nF y) fu (nI i) (nI na) (nI nx) (nF (cN y b 0 (16 * nx) i)) = some (nI (min (na + 1) 14), nI ((nx + 1) % 14), nF (cN y b 0 (16 * nx) 16))
  | 0, i, 0, _, hf => absurd hf (Nat.not_lt_zero _)
  | 0, i, fu + 1, hi, _ => by
    obtain rfl : i = 16 := by omega
    rw [f_X6_keepAct_2, if_pos (by decide), show (1 : Int32) = nI 1 from rfl, show (14 : Int32) = nI 14 from rfl, nI_add, pk_rem (by omega) (by decide) (by decide), nI_add, nm_eq]
    by_cases h : 14 ≤ na
    · rw [if_pos (nI_le h (by omega)), Nat.min_eq_right (by omega)]
    · rw [if_neg (nI_ge (a := na) (b := 14) (by omega) (by decide)), Nat.min_eq_left (by omega)]
  | n + 1, i, 0, _, hf => absurd hf (Nat.not_lt_zero _)
  | n + 1, i, fu + 1, hi, hf => by
    have hstep : uN (cN y b 0 (16 * nx) i) (16 * nx + i) (y i) = cN y b 0 (16 * nx) (i + 1) := by
      funext k
      unfold uN cN
      by_cases h : k = 16 * nx + i
      · subst h
        rw [if_pos rfl, if_pos (by omega)]
        congr 1
        omega
      · rw [if_neg h]
        by_cases h2 : 16 * nx ≤ k ∧ k < 16 * nx + i
        · rw [if_pos h2, if_pos (by omega)]
        · rw [if_neg h2, if_neg (by omega)]
    rw [f_X6_keepAct_2, if_neg (show ¬ (16 : Int32) ≤ nI i from nI_ge (b := 16) (by omega) (by decide)), rd_nF (by omega) (by decide), bnd1_some, at16, wr_nF (by omega) (by decide), bnd1_some, nI_1, hstep, keep_l hn hx n (i + 1) fu (by omega) (by omega)]
theorem keepAct1 {y b : Nat → Nat} {na nx : Nat} (hn : na ≤ 14) (hx : nx < 14) : f_X6_keepAct (nI na) (nI nx) (nF y) (nF b) = some (nI (min (na + 1) 14), nI ((nx + 1) % 14), nF (cN y b 0 (16 * nx) 16)) := by
  have h := keep_l (y := y) (b := b) hn hx 16 0 130 rfl (by decide)
  have e : cN y b 0 (16 * nx) 0 = b := by
    funext k
    exact cN_out (by omega)
  rw [e] at h
  exact h
theorem spot1 {k : Nat} (h : k < 2 ^ 20) : f_X0_spotOf (nI k) = some (nI (16 * (k % 14))) := by
  unfold f_X0_spotOf
  rw [show (14 : Int32) = nI 14 from rfl, show (16 : Int32) = nI 16 from rfl, pk_rem (by omega) (by decide) (by decide), pk_mul, Nat.mul_comm]
/-- an act is kept, on both sides -/
theorem push1 {br bd na af nx : Nat} {ac yr d p y : Nat → Nat} {g e t : Nat} (hbr : br < 6) (hM : MOK br bd d p g e t) (ha : AG br d p g e t y 0) (hR : RA br bd na af ac nx yr) : ∃ (af2 : Nat) (ac2 yr2 : Nat → Nat), f_X0_push (nI af) (nI na) (nF ac) (nI g) (nI e) (nI t) (nF d) (nF p) = some (nI af2, nI (min (na + 1) 14), nF ac2) ∧ f_X6_keepAct (nI na) (nI nx) (nF y) (nF yr) = some (nI (min (na + 1) 14), nI ((nx + 1) % 14), nF yr2) ∧ RA br bd (min (na + 1) 14) af2 ac2 ((nx + 1) % 14) yr2 := by
  obtain ⟨h1, h2, h3, h4⟩ := hR
  have hm : (af + na) % 14 < 14 := Nat.mod_lt _ (by decide)
  have hnew := RR.save (a := ac) (b := yr) (s := 16 * ((af + na) % 14)) (j := 16 * nx) hbr hM ha
  have hold : ∀ j, 1 ≤ j → j ≤ na → j < 14 → RR br bd (saveN d p g e t ac (16 * ((af + na) % 14))) (16 * ((af + na - j) % 14)) (cN y yr 0 (16 * nx) 16) (16 * ((nx + 28 - j) % 14)) := by
    intro j j1 j2 j3
    have q := h4 (j - 1) (by omega)
    rw [show af + (na - 1 - (j - 1)) = af + na - j by omega, show nx + 27 - (j - 1) = nx + 28 - j by omega] at q
    refine q.cg hbr (fun k hk => saveN_out ?_) (fun k hk => cN_out ?_)
    · omega
    · omega
  by_cases hn : na < 14
  · refine ⟨af, saveN d p g e t ac (16 * ((af + na) % 14)), cN y yr 0 (16 * nx) 16, ?_, keepAct1 h1 h3, by omega, h2, Nat.mod_lt _ (by decide), ?_⟩
    · unfold f_X0_push
      rw [nI_add, spot1 (by omega), bnd1_some, save1 (by omega) (by decide) hM.2.2.1, bnd1_some, if_neg (show ¬ (14 : Int32) ≤ nI na from nI_ge hn (by decide)), show (1 : Int32) = nI 1 from rfl, nI_add, Nat.min_eq_left (by omega)]
    · rw [Nat.min_eq_left (by omega)]
      intro j hj
      rcases Nat.eq_zero_or_pos j with rfl | hj0
      · rw [show af + (na + 1 - 1 - 0) = af + na by omega, show ((nx + 1) % 14 + 27 - 0) % 14 = nx by omega]
        exact hnew
      · have q := hold j hj0 (by omega) (by omega)
        rw [show af + (na + 1 - 1 - j) = af + na - j by omega, show ((nx + 1) % 14 + 27 - j) % 14 = (nx + 28 - j) % 14 by omega]
        exact q
  · obtain rfl : na = 14 := by omega
    refine ⟨(af + 1) % 14, saveN d p g e t ac (16 * ((af + 14) % 14)), cN y yr 0 (16 * nx) 16, ?_, keepAct1 h1 h3, by omega, Nat.mod_lt _ (by decide), Nat.mod_lt _ (by decide), ?_⟩
    · unfold f_X0_push
      rw [nI_add, spot1 (by omega), bnd1_some, save1 (by omega) (by decide) hM.2.2.1, bnd1_some, if_pos (by decide), show (1 : Int32) = nI 1 from rfl, nI_add, show (14 : Int32) = nI 14 from rfl, pk_rem (by omega) (by decide) (by decide)]
      rfl
    · rw [show min (14 + 1) 14 = 14 from rfl]
      intro j hj
      rcases Nat.eq_zero_or_pos j with rfl | hj0
      · rw [show ((af + 1) % 14 + (14 - 1 - 0)) % 14 = (af + 14) % 14 by omega, show ((nx + 1) % 14 + 27 - 0) % 14 = nx by omega]
        exact hnew
      · have q := hold j hj0 (by omega) (by omega)
        rw [show ((af + 1) % 14 + (14 - 1 - j)) % 14 = (af + 14 - j) % 14 by omega, show ((nx + 1) % 14 + 27 - j) % 14 = (nx + 28 - j) % 14 by omega]
        exact q
theorem undo_l {b y : Nat → Nat} {na nx : Nat} (hx : nx < 14) : ∀ (n i fu : Nat), i + n = 16 → n < fu → f_X6_undo_36 (nF b) fu (nI i) (nI na) (nI nx) (nF (cN b y (16 * nx) 0 i)) = some (nI na, nI na, nI nx, nF (cN b y (16 * nx) 0 16))
  | 0, i, 0, _, hf => absurd hf (Nat.not_lt_zero _)
  | 0, i, fu + 1, hi, _ => by
    obtain rfl : i = 16 := by omega
    rw [f_X6_undo_36, if_pos (by decide)]
  | n + 1, i, 0, _, hf => absurd hf (Nat.not_lt_zero _)
  | n + 1, i, fu + 1, hi, hf => by
    have hstep : uN (cN b y (16 * nx) 0 i) i (b (16 * nx + i)) = cN b y (16 * nx) 0 (i + 1) := by
      funext k
      unfold uN cN
      by_cases h : k = i
      · subst h
        rw [if_pos rfl, if_pos (by omega)]
        congr 1
      · rw [if_neg h]
        by_cases h2 : 0 ≤ k ∧ k < 0 + i
        · rw [if_pos h2, if_pos (by omega)]
        · rw [if_neg h2, if_neg (by omega)]
    rw [f_X6_undo_36, if_neg (show ¬ (16 : Int32) ≤ nI i from nI_ge (b := 16) (by omega) (by decide)), at16, rd_nF (by omega) (by decide), bnd1_some, wr_nF (by omega) (by decide), bnd1_some, nI_1, hstep, undo_l hx n (i + 1) fu (by omega) (by omega)]
/-- the last act is taken back, on both sides -/
theorem pop1 {br bd na af nx : Nat} {ac yr d p y : Nat → Nat} {g e t : Nat} (hbr : br < 6) (hd : B99 d) (hR : RA br bd (na + 1) af ac nx yr) : ∃ (d2 p2 y2 : Nat → Nat) (g2 e2 t2 nx2 : Nat), f_X5_undo (nI g) (nI e) (nI t) (nF d) (nF p) (nI af) (nI (na + 1)) (nF ac) = some (nI na, nI g2, nI e2, nI t2, nF d2, nF p2, nI na) ∧ f_X6_undo (nI (na + 1)) (nI nx) (nF y) (nF yr) = some (nI na, nI na, nI nx2, nF y2) ∧ AG br d2 p2 g2 e2 t2 y2 0 ∧ MOK br bd d2 p2 g2 e2 t2 ∧ RA br bd na af ac nx2 yr := by
  obtain ⟨h1, h2, h3, h4⟩ := hR
  have hm : (af + na) % 14 < 14 := Nat.mod_lt _ (by decide)
  have hmx : (nx + 13) % 14 < 14 := Nat.mod_lt _ (by decide)
  have q := h4 0 (by omega)
  rw [show af + (na + 1 - 1 - 0) = af + na by omega, show (nx + 27 - 0) % 14 = (nx + 13) % 14 by omega] at q
  obtain ⟨l1, l2⟩ := q.load (d := d) (p := p) (y := y) hbr hd
  refine ⟨_, _, _, _, _, _, (nx + 13) % 14, ?_, ?_, l1, l2, by omega, h2, hmx, fun j hj => ?_⟩
  · unfold f_X5_undo f_X0_pop
    rw [if_neg (nI_ne0 (by omega) (by omega)), if_neg (nI_nle (by omega) (by omega)), show nI (na + 1) - 1 = nI na from nI_pred na, nI_add, spot1 (by omega), bnd1_some, load1 (by omega) (by decide) q.2.2.1.2]
    rfl
  · have u := undo_l (b := yr) (y := y) (na := na) hmx 16 0 130 rfl (by decide)
    have e0 : cN yr y (16 * ((nx + 13) % 14)) 0 0 = y := by
      funext k
      exact cN_out (by omega)
    rw [e0] at u
    unfold f_X6_undo
    rw [if_neg (nI_ne0 (by omega) (by omega)), show nI (na + 1) - 1 = nI na from nI_pred na, show (13 : Int32) = nI 13 from rfl, nI_add, show (14 : Int32) = nI 14 from rfl, pk_rem (by omega) (by decide) (by decide), show (0 : Int32) = nI 0 from rfl, nm_eq, u]
  · have w := h4 (j + 1) (by omega)
    rw [show af + (na + 1 - 1 - (j + 1)) = af + (na - 1 - j) by omega, show (nx + 27 - (j + 1)) % 14 = ((nx + 13) % 14 + 27 - j) % 14 by omega] at w
    exact w
