def orI (f : Nat → Nat) : Nat → Nat → Int32 → Int32
  | 0, _, a => a
  | n + 1, i, a => orI f n (i + 1) (a ||| (if f i = 0 then 0 else (1 : Int32) <<< (nI i &&& 31)))
/-- the set of knee-deep streets, as both sides write it -/
def kn (f : Nat → Nat) : Int32 := orI f 8 0 0
def knB (a0 a1 a2 a3 a4 a5 a6 a7 : Bool) : Int32 := ((((((((0 : Int32) ||| (if a0 then (1 : Int32) <<< (nI 0 &&& 31) else 0)) ||| (if a1 then (1 : Int32) <<< (nI 1 &&& 31) else 0)) ||| (if a2 then (1 : Int32) <<< (nI 2 &&& 31) else 0)) ||| (if a3 then (1 : Int32) <<< (nI 3 &&& 31) else 0)) ||| (if a4 then (1 : Int32) <<< (nI 4 &&& 31) else 0)) ||| (if a5 then (1 : Int32) <<< (nI 5 &&& 31) else 0)) ||| (if a6 then (1 : Int32) <<< (nI 6 &&& 31) else 0)) ||| (if a7 then (1 : Int32) <<< (nI 7 &&& 31) else 0)
def knL (f : Nat → Nat) (k : Nat) : Bool := !(f k == 0)
theorem kn_B (f : Nat → Nat) : kn f = knB (knL f 0) (knL f 1) (knL f 2) (knL f 3) (knL f 4) (knL f 5) (knL f 6) (knL f 7) := by
  have h : ∀ (k : Nat) (x : Int32), (if f k = 0 then 0 else x) = (if knL f k then x else 0) := by
    intro k x
    unfold knL
    by_cases h : f k = 0 <;> simp [h]
  simp only [kn, orI, knB, h]
theorem knB_bit : ∀ a0 a1 a2 a3 a4 a5 a6 a7 : Bool, ∀ s, s < 8 → f_X6_has (knB a0 a1 a2 a3 a4 a5 a6 a7) (nI s) = some (if [a0, a1, a2, a3, a4, a5, a6, a7].getD s false then 1 else 0) := by decide +kernel
def fsB (a0 a1 a2 a3 a4 a5 a6 a7 : Bool) : Int32 := if a0 then 0 else if a1 then 1 else if a2 then 2 else if a3 then 3 else if a4 then 4 else if a5 then 5 else if a6 then 6 else if a7 then 7 else -9
theorem knB_least : ∀ a0 a1 a2 a3 a4 a5 a6 a7 : Bool, f_X6_leastOf (knB a0 a1 a2 a3 a4 a5 a6 a7) = some (fsB a0 a1 a2 a3 a4 a5 a6 a7) := by decide +kernel
theorem knB_0 : ∀ a0 a1 a2 a3 a4 a5 a6 a7 : Bool, (knB a0 a1 a2 a3 a4 a5 a6 a7 = 0 ↔ fsB a0 a1 a2 a3 a4 a5 a6 a7 = -9) := by decide +kernel
def fsN (f : Nat → Nat) : Int32 := fsB (knL f 0) (knL f 1) (knL f 2) (knL f 3) (knL f 4) (knL f 5) (knL f 6) (knL f 7)
theorem kn_least (f : Nat → Nat) : f_X6_leastOf (kn f) = some (fsN f) := by
  rw [kn_B]
  exact knB_least _ _ _ _ _ _ _ _
theorem kn_0 (f : Nat → Nat) : kn f = 0 ↔ fsN f = -9 := by
  rw [kn_B]
  exact knB_0 _ _ _ _ _ _ _ _
theorem kn_bit {f : Nat → Nat} (hf : ∀ k, f k ≤ 1) {s : Nat} (hs : s < 8) : f_X6_has (kn f) (nI s) = some (nI (f s)) := by
  rw [kn_B, knB_bit _ _ _ _ _ _ _ _ s hs]
  have h : ∀ k, (if knL f k then (1 : Int32) else 0) = nI (f k) := by
    intro k
    unfold knL
    rcases (show f k = 0 ∨ f k = 1 by have := hf k; omega) with h | h <;> rw [h] <;> decide
  rw [← h s]
  rcases (show s = 0 ∨ s = 1 ∨ s = 2 ∨ s = 3 ∨ s = 4 ∨ s = 5 ∨ s = 6 ∨ s = 7 by omega) with rfl | rfl | rfl | rfl | rfl | rfl | rfl | rfl <;> rfl
theorem dp_lt {d : Nat → Nat} {k : Nat} (hd : d k ≤ 99) : (nI (d k) < (10 : Int32)) ↔ dpN d k = 0 := by
  unfold dpN
  by_cases h : 10 ≤ d k
  · rw [if_pos h]
    constructor
    · intro q
      exact absurd q (show ¬ nI (d k) < nI 10 from nI_nlt h (by omega))
    · intro q
      cases q
  · rw [if_neg h]
    constructor
    · intro _
      rfl
    · intro _
      exact show nI (d k) < nI 10 from nI_lt (by omega) (by decide)
theorem knees1 {d y : Nat → Nat} {lv : Nat} (hlv : lv < 2) (hd : B99 d) (hy : ∀ k, k < 8 → y (16 * lv + k) = d k) : ∀ (n i fu : Nat) (a : Int32), i + n = 8 → n < fu → f_X6_kneesOn_4 (nF y) fu (nI lv) a (nI i) = some (orI (dpN d) n i a)
  | 0, i, 0, a, _, hf => absurd hf (Nat.not_lt_zero _)
  | 0, i, fu + 1, a, hi, _ => by
    obtain rfl : i = 8 := by omega
    rw [f_X6_kneesOn_4, if_pos (by decide)]
    rfl
  | n + 1, i, 0, a, _, hf => absurd hf (Nat.not_lt_zero _)
  | n + 1, i, fu + 1, a, hi, hf => by
    have hi8 : i < 8 := by omega
    rw [f_X6_kneesOn_4, if_neg (show ¬ (8 : Int32) ≤ nI i from nI_ge hi8 (by decide)), at16, rd_nF (by omega) (by decide), bnd1_some, hy i hi8, orI]
    unfold f_X6_kneesOn_34
    rw [nI_1]
    by_cases h : dpN d i = 0
    · rw [if_pos ((dp_lt (hd i)).mpr h), if_pos h, knees1 hlv hd hy n (i + 1) fu _ (by omega) (by omega)]
    · rw [if_neg (fun q => h ((dp_lt (hd i)).mp q)), if_neg h, knees1 hlv hd hy n (i + 1) fu _ (by omega) (by omega)]
theorem kneesOn1 {d y : Nat → Nat} {lv : Nat} (hlv : lv < 2) (hd : B99 d) (hy : ∀ k, k < 8 → y (16 * lv + k) = d k) : f_X6_kneesOn (nF y) (nI lv) = some (kn (dpN d)) := by
  unfold f_X6_kneesOn
  exact knees1 hlv hd hy 8 0 130 0 rfl (by decide)
def sbN (f : Nat → Nat) (i : Nat) (d : Nat → Nat) : Nat → Nat := fun k => if k < i then d k - 2 * f k else d k
theorem sbN_s {f d : Nat → Nat} {i : Nat} : uN (sbN f i d) i (d i - 2 * f i) = sbN f (i + 1) d := by
  funext k
  unfold uN sbN
  by_cases h : k = i
  · subst h
    rw [if_pos rfl, if_pos (by omega)]
  · rw [if_neg h]
    by_cases h2 : k < i
    · rw [if_pos h2, if_pos (by omega)]
    · rw [if_neg h2, if_neg (by omega)]
def adS (f : Nat → Nat) (i : Nat) (D : Nat → Nat) : Nat → Nat := fun k => if k = (i + 7) % 8 ∨ k = (i + 1) % 8 then min (D k + f i) 99 else D k
def adN (f : Nat → Nat) : Nat → Nat → (Nat → Nat) → (Nat → Nat)
  | 0, _, D => D
  | n + 1, i, D => adN f n (i + 1) (adS f i D)
theorem B99.ad {f D : Nat → Nat} {i : Nat} (h : B99 D) : B99 (adS f i D) := by
  intro k
  unfold adS
  split
  · omega
  · exact h k
theorem adS_0 {f D : Nat → Nat} {i : Nat} (hD : B99 D) (h : f i = 0) : adS f i D = D := by
  funext k
  have := hD k
  unfold adS
  rw [h]
  split <;> omega
theorem adS_1 {f D : Nat → Nat} {i : Nat} (hi : i < 8) (hD : B99 D) (h : f i = 1) : pourN (pourN D ((i + 7) % 8) 1) ((i + 1) % 8) 1 = adS f i D := by
  have h3 : (i + 1) % 8 ≠ (i + 7) % 8 := by omega
  funext k
  unfold pourN adS
  rw [h, uN_n h3]
  unfold uN
  by_cases k1 : k = (i + 1) % 8
  · rw [if_pos k1, if_pos (Or.inr k1), k1]
  · rw [if_neg k1]
    by_cases k2 : k = (i + 7) % 8
    · rw [if_pos k2, if_pos (Or.inl k2), k2]
    · rw [if_neg k2, if_neg (fun q => q.elim k2 k1)]
theorem adN_8 {f d : Nat → Nat} (hd : B99 d) (hf : ∀ k, f k ≤ 1) (hf2 : ∀ k, f k = 1 → 10 ≤ d k) (hf3 : ∀ k, f k = 0 → d k ≤ 9) {k : Nat} (hk : k < 8) : adN f 8 0 (sbN f 8 d) k = spN f 8 0 d k := by
  have hok : ∀ k, 2 * f k ≤ d k := by
    intro k
    have h1 := hf k
    rcases (show f k = 0 ∨ f k = 1 by omega) with h | h
    · omega
    · have := hf2 k h
      omega
  rw [spN_8 hok hk]
  have hc : d k - 2 * f k ≤ 97 := by
    have h0 := hd k
    have h1 := hf k
    rcases (show f k = 0 ∨ f k = 1 by omega) with h | h
    · have := hf3 k h
      omega
    · omega
  have g1 := hf ((k + 1) % 8)
  have g2 := hf ((k + 7) % 8)
  rcases (show k = 0 ∨ k = 1 ∨ k = 2 ∨ k = 3 ∨ k = 4 ∨ k = 5 ∨ k = 6 ∨ k = 7 by omega) with rfl | rfl | rfl | rfl | rfl | rfl | rfl | rfl <;> simp [adN, adS, sbN] at hc g1 g2 ⊢ <;> omega
section PSN
variable {p st kd fs fl : Nat → Nat} {g e t w br fa lv : Nat}
theorem sub1 {f d : Nat → Nat} (hlv : lv < 2) (hbr : br < 6) (hf : ∀ k, f k ≤ 1) (hok : ∀ k, 2 * f k ≤ d k) : ∀ (n i fu : Nat) (y : Nat → Nat), i + n = 8 → n < fu → AG br (sbN f i d) p g e t y (16 * lv) → ∃ y1 : Nat → Nat, f_X6_passOn_84 (nI br) (nI fa) (nI w) (nF st) (nF kd) (nF fs) (nF fl) fu (nI lv) (nI (16 * lv)) (kn f) (nI i) (nF y) = f_X6_passOn_127 (nI br) (nI fa) (nI w) (nF st) (nF kd) (nF fs) (nF fl) 130 (nI lv) (nI (16 * lv)) (kn f) 0 (nF y1) ∧ AG br (sbN f 8 d) p g e t y1 (16 * lv) ∧ FR y y1 (16 * lv)
  | 0, i, 0, y, _, hf', _ => absurd hf' (Nat.not_lt_zero _)
  | 0, i, fu + 1, y, hi, _, ha => by
    obtain rfl : i = 8 := by omega
    refine ⟨y, ?_, ha, FR.rf⟩
    rw [f_X6_passOn_84, if_pos (by decide)]
  | n + 1, i, 0, y, _, hf', _ => absurd hf' (Nat.not_lt_zero _)
  | n + 1, i, fu + 1, y, hi, hf', ha => by
    have hi8 : i < 8 := by omega
    have hyi : y (16 * lv + i) = d i := by
      rw [ha.1 i hi8]
      simp [sbN]
    have hstep := ha.d (v := d i - 2 * f i) hbr hi8
    rw [sbN_s] at hstep
    obtain ⟨y1, e1, e2, e3⟩ := sub1 hlv hbr hf hok n (i + 1) fu (uN y (16 * lv + i) (d i - 2 * f i)) (by omega) (by omega) hstep
    refine ⟨y1, ?_, e2, (FR.u (by omega)).tr e3⟩
    rw [f_X6_passOn_84, if_neg (show ¬ (8 : Int32) ≤ nI i from nI_ge hi8 (by decide)), nI_add, rd_nF (by omega) (by decide), bnd1_some, kn_bit hf hi8, bnd1_some, hyi]
    unfold f_X6_passOn_116
    rw [← e1, show (0 : Int32) = nI 0 from rfl, show (2 : Int32) = nI 2 from rfl, nI_1]
    rcases (show f i = 0 ∨ f i = 1 by have := hf i; omega) with h | h
    · rw [h, if_pos rfl, pk_sub (Nat.zero_le _), wr_nF (by omega) (by decide), bnd1_some]
    · have := hok i
      rw [h] at this ⊢
      rw [if_neg (by decide), pk_sub (by omega), wr_nF (by omega) (by decide), bnd1_some]
theorem addL {f : Nat → Nat} (hlv : lv < 2) (hbr : br < 6) (hf : ∀ k, f k ≤ 1) : ∀ (n i fu : Nat) (D y : Nat → Nat), i + n = 8 → n < fu → B99 D → AG br D p g e t y (16 * lv) → ∃ y1 : Nat → Nat, f_X6_passOn_127 (nI br) (nI fa) (nI w) (nF st) (nF kd) (nF fs) (nF fl) fu (nI lv) (nI (16 * lv)) (kn f) (nI i) (nF y) = some (nF y1) ∧ AG br (adN f n i D) p g e (t + 1) y1 (16 * lv) ∧ FR y y1 (16 * lv)
  | 0, i, 0, D, y, _, hf', _, _ => absurd hf' (Nat.not_lt_zero _)
  | 0, i, fu + 1, D, y, hi, _, _, ha => by
    obtain rfl : i = 8 := by omega
    refine ⟨uN y (16 * lv + 15) (t + 1), ?_, ?_, FR.u (by omega)⟩
    · rw [f_X6_passOn_127, if_pos (by decide), show (15 : Int32) = nI 15 from rfl, nI_add, rd_nF (by omega) (by decide), bnd1_some, nI_1, wr_nF (by omega) (by decide), bnd1_some, ha.2.2.2.2]
    · refine ⟨fun k hk => ?_, fun b hb => ?_, ?_, ?_, ?_⟩
      · rw [uN_n (by omega)]
        exact ha.1 k hk
      · rw [uN_n (by omega)]
        exact ha.2.1 b hb
      · rw [uN_n (by omega)]
        exact ha.2.2.1
      · rw [uN_n (by omega)]
        exact ha.2.2.2.1
      · rw [uN_s]
  | n + 1, i, 0, D, y, _, hf', _, _ => absurd hf' (Nat.not_lt_zero _)
  | n + 1, i, fu + 1, D, y, hi, hf', hD, ha => by
    have hi8 : i < 8 := by omega
    have h8 : ∀ x, (x % 8 < 8) := fun x => Nat.mod_lt x (by decide)
    rw [f_X6_passOn_127, if_neg (show ¬ (8 : Int32) ≤ nI i from nI_ge hi8 (by decide)), kn_bit hf hi8, bnd1_some, adN]
    rcases (show f i = 0 ∨ f i = 1 by have := hf i; omega) with h | h
    · rw [h, if_pos (by decide)]
      unfold f_X6_passOn_164
      rw [nI_1, adS_0 hD h]
      exact addL hlv hbr hf n (i + 1) fu D y (by omega) (by omega) hD ha
    · have y7 : y (16 * lv + (i + 7) % 8) = D ((i + 7) % 8) := ha.1 _ (h8 _)
      have ha1 : AG br (pourN D ((i + 7) % 8) 1) p g e t (uN y (16 * lv + (i + 7) % 8) (min (y (16 * lv + (i + 7) % 8) + 1) 99)) (16 * lv) := by
        rw [y7]
        exact ha.d hbr (h8 _)
      have q7 := add1 (y := y) (u := nI i - 1) (lv := lv) (q := i + 7) (v := 1) hlv (wrap7 i hi8) (by omega) (by rw [y7]; exact hD _) (by decide)
      rw [h, if_neg (by decide), show f_X6_add (nF y) (nI lv) (nI i - 1) 1 = _ from q7, bnd1_some]
      have f7 : FR y (uN y (16 * lv + (i + 7) % 8) (min (y (16 * lv + (i + 7) % 8) + 1) 99)) (16 * lv) := FR.u (by have := h8 (i + 7); omega)
      generalize uN y (16 * lv + (i + 7) % 8) (min (y (16 * lv + (i + 7) % 8) + 1) 99) = y1 at ha1 f7
      have e9 : (i + 9) % 8 = (i + 1) % 8 := by omega
      have y9 : y1 (16 * lv + (i + 9) % 8) = pourN D ((i + 7) % 8) 1 ((i + 1) % 8) := by rw [e9]; exact ha1.1 _ (h8 _)
      have q9 := add1 (y := y1) (u := nI i + 1) (lv := lv) (q := i + 9) (v := 1) hlv (wrap9 i hi8) (by omega) (by rw [y9]; exact hD.pour _ _ _) (by decide)
      rw [show f_X6_add (nF y1) (nI lv) (nI i + 1) 1 = _ from q9, bnd1_some]
      have ha2 : AG br (adS f i D) p g e t (uN y1 (16 * lv + (i + 9) % 8) (min (y1 (16 * lv + (i + 9) % 8) + 1) 99)) (16 * lv) := by
        rw [y9, e9, ← adS_1 hi8 hD h]
        exact ha1.d hbr (h8 _)
      have f9 : FR y1 (uN y1 (16 * lv + (i + 9) % 8) (min (y1 (16 * lv + (i + 9) % 8) + 1) 99)) (16 * lv) := FR.u (by have := h8 (i + 9); omega)
      unfold f_X6_passOn_164
      rw [nI_1]
      obtain ⟨y2, g1, g2, g3⟩ := addL hlv hbr hf n (i + 1) fu (adS f i D) _ (by omega) (by omega) hD.ad ha2
      exact ⟨y2, g1, g2, (f7.tr f9).tr g3⟩
theorem wkM (hlv : lv < 2) (hbr : br < 6) (hp : ∀ b, b < br → p b < 8) (hs : ∀ b, b < br → st b < 10) (hk : ∀ b, b < br → kd b < 4) (hg : g < 2) (he : e < 32) (hw : w < 32) : ∀ (n b fu : Nat) (d y : Nat → Nat), b + n = br → n < fu → B99 d → AG br d p g e t y (16 * lv) → ∃ y1 : Nat → Nat, f_X6_passOn_52 (nI br) (nI fa) (nI w) (nF st) (nF kd) (nF fs) (nF fl) fu (nI lv) (nI (16 * lv)) (nI b) (nF y) = bnd1 (f_X6_kneesOn (nF y1) (nI lv)) (fun r => f_X6_passOn_84 (nI br) (nI fa) (nI w) (nF st) (nF kd) (nF fs) (nF fl) 130 (nI lv) (nI (16 * lv)) r 0 (nF y1)) ∧ AG br (wkN st kd p g e w n b d) p g e t y1 (16 * lv) ∧ FR y y1 (16 * lv)
  | 0, b, 0, d, y, _, hf, _, _ => absurd hf (Nat.not_lt_zero _)
  | 0, b, fu + 1, d, y, hb, _, _, ha => by
    obtain rfl : b = br := by omega
    refine ⟨y, ?_, ha, FR.rf⟩
    rw [f_X6_passOn_52, if_pos (nI_le (Nat.le_refl _) (by omega))]
  | n + 1, b, 0, d, y, _, hf, _, _ => absurd hf (Nat.not_lt_zero _)
  | n + 1, b, fu + 1, d, y, hb, hf, hd, ha => by
    have hlt : b < br := by omega
    obtain ⟨y1, e1, e2, e3⟩ := sweepM hlv hbr hlt (hp b hlt) (hs b hlt) (hk b hlt) hg he hw hd ha
    have hd1 : B99 (if bitN w b then workN d (p b) (st b) (asN (kd b) g e b) else d) := by
      split
      · exact hd.work _ _ _
      · exact hd
    obtain ⟨y2, g1, g2, g3⟩ := wkM hlv hbr hp hs hk hg he hw n (b + 1) fu _ y1 (by omega) (by omega) hd1 e2
    refine ⟨y2, ?_, ?_, e3.tr g3⟩
    · rw [f_X6_passOn_52, if_neg (nI_ge hlt (by omega)), e1, bnd1_some, nI_1, g1]
    · rw [wkN]
      exact g2
theorem passOn1 {d y : Nat → Nat} {times : Nat} (hlv : lv < 2) (hbr : br < 6) (hfa : fa < 6) (hp : ∀ b, b < br → p b < 8) (hs : ∀ b, b < br → st b < 10) (hk : ∀ b, b < br → kd b < 4) (hfs : ∀ f, f < fa → fs f < 8) (hfl : ∀ f, f < fa → fl f < 10) (hg : g < 2) (he : e < 32) (hw : w < 32) (ht : t < 2 ^ 31) (hti : times ≤ 2) (hd : B99 d) (ha : AG br d p g e t y (16 * lv)) : ∃ y1 : Nat → Nat, f_X6_passOn (nI br) (nI fa) (nI w) (nF st) (nF kd) (nF fs) (nF fl) (nF y) (nI lv) (nI times) = some (nF y1) ∧ AG br (dawnN br fa st kd fs fl p g e t w times d) p g e (t + 1) y1 (16 * lv) ∧ FR y y1 (16 * lv) := by
  have h8 : ∀ x, (x % 8 < 8) := fun x => Nat.mod_lt x (by decide)
  have main : ∀ y0 : Nat → Nat, AG br (comeN fa fs fl t times d) p g e t y0 (16 * lv) → ∃ y1 : Nat → Nat, f_X6_passOn_49 (nI br) (nI fa) (nI w) (nF st) (nF kd) (nF fs) (nF fl) (nI lv) (nI (16 * lv)) (nF y0) = some (nF y1) ∧ AG br (dawnN br fa st kd fs fl p g e t w times d) p g e (t + 1) y1 (16 * lv) ∧ FR y0 y1 (16 * lv) := by
    intro y0 h0
    have hdc : B99 (comeN fa fs fl t times d) := hd.come
    obtain ⟨y1, e1, e2, e3⟩ := wkM (fa := fa) (fs := fs) (fl := fl) hlv hbr hp hs hk hg he hw br 0 130 _ y0 (by omega) (by omega) hdc h0
    have hdw : B99 (wkN st kd p g e w br 0 (comeN fa fs fl t times d)) := B99.wk _ _ _ hdc
    generalize hD : wkN st kd p g e w br 0 (comeN fa fs fl t times d) = D at e2 hdw
    have hz : AG br (sbN (dpN D) 0 D) p g e t y1 (16 * lv) := e2.cg (fun k _ => by simp [sbN])
    obtain ⟨y2, g1, g2, g3⟩ := sub1 (st := st) (kd := kd) (fs := fs) (fl := fl) (fa := fa) (w := w) hlv hbr (dpN_le D) (dpN_ok D) 8 0 130 y1 rfl (by decide) hz
    have hb2 : B99 (sbN (dpN D) 8 D) := by
      intro k
      have := hdw k
      unfold sbN
      split <;> omega
    obtain ⟨y3, k1, k2, k3⟩ := addL (st := st) (kd := kd) (fs := fs) (fl := fl) (fa := fa) (w := w) hlv hbr (dpN_le D) 8 0 130 _ y2 rfl (by decide) hb2 g2
    refine ⟨y3, ?_, ?_, (e3.tr g3).tr k3⟩
    · unfold f_X6_passOn_49
      rw [show (0 : Int32) = nI 0 from rfl, e1, kneesOn1 hlv hdw e2.1, bnd1_some, show (0 : Int32) = nI 0 from rfl, g1, show (0 : Int32) = nI 0 from rfl, k1]
    · unfold dawnN
      simp only [hD]
      refine k2.cg (fun k hk => (adN_8 hdw (dpN_le D) (fun k h => ?_) (fun k h => ?_) hk).symm)
      · unfold dpN at h
        split at h
        · assumption
        · cases h
      · unfold dpN at h
        split at h
        · cases h
        · omega
  unfold f_X6_passOn
  rw [show (16 : Int32) * nI lv = nI (16 * lv) from by rw [show (16 : Int32) = nI 16 from rfl, pk_mul]]
  by_cases h0 : fa = 0
  · subst h0
    rw [if_pos (by decide)]
    exact main y (ha.cg (fun k _ => by simp [comeN]))
  · have hm : t % fa < fa := Nat.mod_lt _ (by omega)
    have hx : fl (t % fa) * times ≤ 99 := by
      have := hfl _ hm
      calc fl (t % fa) * times ≤ 9 * 2 := Nat.mul_le_mul (by omega) hti
        _ ≤ 99 := by decide
    have hs8 := hfs _ hm
    have e8 : (fs (t % fa) + 8) % 8 = fs (t % fa) := by omega
    have hy8 : y (16 * lv + (fs (t % fa) + 8) % 8) = d (fs (t % fa)) := by rw [e8]; exact ha.1 _ hs8
    have q := add1 (y := y) (u := nI (fs (t % fa))) (lv := lv) (q := fs (t % fa) + 8) (v := times * fl (t % fa)) hlv (by rw [show (8 : Int32) = nI 8 from rfl, nI_add]) (by omega) (by rw [hy8]; exact hd _) (by rw [Nat.mul_comm]; exact hx)
    rw [if_neg (nI_nle (by omega) (by omega)), show (15 : Int32) = nI 15 from rfl, nI_add, rd_nF (by omega) (by decide), bnd1_some, if_neg (nI_ne0 (by omega) (by omega)), ha.2.2.2.2, pk_rem ht (by omega) (by omega), rd_nF (by omega) (by decide), bnd1_some, rd_nF (by omega) (by decide), bnd1_some, pk_mul, q, bnd1_some]
    obtain ⟨y1, e1, e2, e3⟩ := main _ (show AG br (comeN fa fs fl t times d) p g e t (uN y (16 * lv + (fs (t % fa) + 8) % 8) (min (y (16 * lv + (fs (t % fa) + 8) % 8) + times * fl (t % fa)) 99)) (16 * lv) by
      rw [hy8, e8]
      unfold comeN
      rw [if_neg h0, Nat.mul_comm times]
      exact ha.d hbr hs8)
    exact ⟨y1, e1, e2, (FR.u (by have := h8 (fs (t % fa) + 8); omega)).tr e3⟩
end PSN
