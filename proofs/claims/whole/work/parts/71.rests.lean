/-! two who sweep or lean, at rest -/
def mk (a b x z : Nat) : Nat := 31 - 2 ^ a - 2 ^ b + x * 2 ^ a + z * 2 ^ b
theorem mkM1 : ∀ a, a < 5 → ∀ b, b < 5 → a ≠ b → ∀ x, x < 2 → ∀ z, z < 2 → ((((((31 : Int32) &&& (((1 : Int32) <<< (nI a &&& 31)) ^^^ ((-1) : Int32))) &&& (((1 : Int32) <<< (nI b &&& 31)) ^^^ ((-1) : Int32))) ||| (nI x <<< (nI a &&& 31))) ||| (nI z <<< (nI b &&& 31))) = nI (mk a b x z)) := by decide +kernel
theorem mkM2 : ∀ a, a < 5 → ∀ b, b < 5 → a ≠ b → ∀ x, x < 2 → ∀ z, z < 2 → mk a b x z < 32 := by decide +kernel
theorem mkC : ∀ a, a < 5 → ∀ b, b < 5 → a ≠ b → ∀ x, x < 2 → ∀ z, z < 2 → ((((31 : Int32) &&& ((((1 : Int32) <<< (nI a &&& 31)) ||| ((1 : Int32) <<< (nI b &&& 31))) ^^^ ((-1) : Int32))) ||| (nI x <<< (nI a &&& 31))) ||| (nI z <<< (nI b &&& 31))) = nI (mk a b x z) := by decide +kernel
theorem mkX1 : ∀ a, a < 5 → ∀ b, b < 5 → a ≠ b → ∀ x, x < 2 → ∀ z, z < 2 → nI (mk a b x z) ^^^ ((1 : Int32) <<< (nI a &&& 31)) = nI (mk a b (1 - x) z) := by decide +kernel
theorem mkX2 : ∀ a, a < 5 → ∀ b, b < 5 → a ≠ b → ∀ x, x < 2 → ∀ z, z < 2 → nI (mk a b x z) ^^^ ((1 : Int32) <<< (nI b &&& 31)) = nI (mk a b x (1 - z)) := by decide +kernel
theorem mkX3 : ∀ a, a < 5 → ∀ b, b < 5 → a ≠ b → ∀ x, x < 2 → ∀ z, z < 2 → mk b a z x = mk a b x z := by decide +kernel
theorem mkB : ∀ a, a < 5 → ∀ b, b < 5 → a ≠ b → ∀ x, x < 2 → ∀ z, z < 2 → ((nI (mk a b x z) >>> (nI a &&& 31)) &&& (1 : Int32)) = nI x := by decide +kernel
theorem q4 : ∀ x, x < 2 → ∀ z, z < 2 → (nI (2 * x + z) / 2 = nI x ∧ nI (2 * x + z) - nI (2 * x + z) / 2 * 2 = nI z ∧ (10 : Int32) * nI x + nI z ≠ -9) := by decide +kernel
theorem x4 : ∀ x, x < 2 → (4 : Int32) * nI x = (if x = 1 then 4 else 0) := by decide +kernel
section RST
variable {br fa : Nat} {st kd fs fl : Nat → Nat} {bd g e t : Nat} {d p : Nat → Nat}
theorem gain1 {a b x z : Nat} {ra rb y : Nat → Nat} {rg re rt wk : Int32} (de : Nat → Int32) (hT : TOK br fa st kd fs fl) (hM : MOK br bd d p g e t) (hbd : bd < 2 ^ 29) (ha5 : a < br) (hb5 : b < br) (hab : a ≠ b) (hx : x < 2) (hz : z < 2) (hra : B99 ra) (ha : AG br d p g e t y 0) : ∃ (G : Int32) (D y1 : Nat → Nat) (de' : Nat → Int32), f_X5_gain (nI br) (nI fa) (nF st) (nF kd) (nF fs) (nF fl) (nI g) (nI e) (nI t) (nF d) (nF p) rg re rt (nF ra) (nF rb) de (nI a) (nI (mk a b x z)) = some (G, nI g, nI e, nI (t + 3), nF D, nF (cN p rb 0 0 5), de') ∧ f_X6_gain (nI br) (nI fa) wk (nF st) (nF kd) (nF fs) (nF fl) (nF y) (nI a) (nI b) (nI x) (nI z) = some (G, 31, nF y1) ∧ B99 D ∧ FR y y1 16 := by
  have hbr := hT.1
  have w1 := mkM1 a (by omega) b (by omega) hab x hx z hz
  have w2 := mkM2 a (by omega) b (by omega) hab x hx z hz
  have w3 : ((nI (mk a b x z) >>> (nI a &&& 31)) &&& (1 : Int32)) = (1 : Int32) ↔ x = 1 := by
    rw [mkB a (by omega) b (by omega) hab x hx z hz]
    exact nI_eq (b := 1) (by omega) (by decide)
  obtain ⟨D, y1, de1, c1, c2, c3, c4, c5⟩ := behind1 (w := mk a b x z) (n := 3) (rp := rb) (rg := rg) (re := re) (rt := rt) de hT hM hra w2 (by decide) (by omega) ha
  have hp := hM.2.1 a ha5
  have hP : cN p rb 0 0 5 a = p a := by
    rw [cN_in (by omega) (by omega)]
    congr 1
    omega
  refine ⟨(20 : Int32) - nI (D (p a)) - (if x = 1 then 4 else 0), D, y1, de1, ?_, ?_, c5.1, c4⟩
  · unfold f_X5_gain f_X5_gain_21
    rw [show (3 : Int32) = nI 3 from rfl, c1, bnd6_some, placeOf1 hbr ha5, hP]
    simp only [bnd1_some, dustIn1 hp]
    by_cases h1 : x = 1
    · rw [if_pos (w3.mpr h1), if_pos h1]
    · rw [if_neg (fun q => h1 (w3.mp q)), if_neg h1]
  · unfold f_X6_gain
    rw [lay1, bnd1_some] at c2
    have y8 : y1 (8 + a) = p a := by
      rw [c4 (8 + a) (by omega)]
      have := ha.2.1 a ha5
      rw [Nat.zero_add] at this
      exact this
    rw [nm_eq, w1, lay1, bnd1_some, show (3 : Int32) = nI 3 from rfl, c2, bnd1_some, show (8 : Int32) = nI 8 from rfl, nI_add, rd_nF (by omega) (by decide), bnd1_some, y8, show (16 : Int32) = nI 16 from rfl, nI_add, rd_nF (by omega) (by decide), bnd1_some, c3.1 (p a) hp, x4 x hx]
theorem rest1 {a b x z : Nat} {ra rb y : Nat → Nat} {rg re rt : Int32} (de : Nat → Int32) (hT : TOK br fa st kd fs fl) (hM : MOK br bd d p g e t) (hbd : bd < 2 ^ 29) (ha5 : a < br) (hb5 : b < br) (hab : a ≠ b) (hx : x < 2) (hz : z < 2) (hra : B99 ra) (ha : AG br d p g e t y 0) : ∃ (r : Nat) (g2 e2 t2 : Int32) (D P y1 : Nat → Nat) (de' : Nat → Int32), r < 2 ∧ f_X5_isAtRest (nI br) (nI fa) (nF st) (nF kd) (nF fs) (nF fl) (nI g) (nI e) (nI t) (nF d) (nF p) rg re rt (nF ra) (nF rb) de (nI a) (nI b) (nI (mk a b x z)) = some (nI r, g2, e2, t2, nF D, nF P, de') ∧ f_X6_isRest (nI br) (nI fa) 31 (nF st) (nF kd) (nF fs) (nF fl) (nF y) (nI a) (nI b) (nI x) (nI z) = some (nI r, 31, nF y1) ∧ B99 D ∧ FR y y1 16 := by
  have hbr := hT.1
  have m1 := mkX1 a (by omega) b (by omega) hab x hx z hz
  have m2 := mkX2 a (by omega) b (by omega) hab x hx z hz
  have m3 := mkX3 a (by omega) b (by omega) hab x hx z hz
  have m4 := mkX3 a (by omega) b (by omega) hab x hx (1 - z) (by omega)
  obtain ⟨G1, D1, z1, de1, c1, _, c3, _⟩ := gain1 (b := b) (x := x) (z := z) (rb := rb) (rg := rg) (re := re) (rt := rt) (wk := 31) de hT hM hbd ha5 hb5 hab hx hz hra ha
  obtain ⟨G2, D2, y1, de2, f1, f2, f3, f4⟩ := gain1 (b := b) (x := 1 - x) (z := z) (rb := cN p rb 0 0 5) (rg := nI g) (re := nI e) (rt := nI (t + 3)) (wk := 31) de1 hT hM hbd ha5 hb5 hab (by omega) hz c3 ha
  obtain ⟨G1', D1', y2, de1', h1, h2, h3, h4⟩ := gain1 (b := b) (x := x) (z := z) (rb := rb) (rg := rg) (re := re) (rt := rt) (wk := 31) de hT hM hbd ha5 hb5 hab hx hz hra (ha.fr hbr f4)
  have e1 : G1' = G1 := (Prod.mk.inj (Option.some.inj (h1.symm.trans c1))).1
  subst e1
  have n1 : (1 : Int32) - nI x = nI (1 - x) := pk_sub (a := 1) (by omega)
  have n2 : (1 : Int32) - nI z = nI (1 - z) := pk_sub (a := 1) (by omega)
  unfold f_X5_isAtRest f_X6_isRest
  rw [c1, bnd7_some, m1, f1, bnd7_some, n1, f2, bnd3_some, h2, bnd3_some]
  by_cases hlt : G1' < G2
  · rw [if_pos hlt, if_pos hlt]
    exact ⟨0, _, _, _, D2, _, y2, de2, by decide, rfl, rfl, f3, f4.tr h4⟩
  · rw [if_neg hlt, if_neg hlt]
    have haa := (ha.fr hbr f4).fr hbr h4
    obtain ⟨G3, D3, z3, de3, i1, _, i3, _⟩ := gain1 (a := b) (b := a) (x := z) (z := x) (rb := cN p (cN p rb 0 0 5) 0 0 5) (rg := nI g) (re := nI e) (rt := nI (t + 3)) (wk := 31) de2 hT hM hbd hb5 ha5 (fun q => hab q.symm) hz hx f3 haa
    obtain ⟨G4, D4, y3, de4, j1, j2, j3, j4⟩ := gain1 (a := b) (b := a) (x := 1 - z) (z := x) (rb := cN p (cN p (cN p rb 0 0 5) 0 0 5) 0 0 5) (rg := nI g) (re := nI e) (rt := nI (t + 3)) (wk := 31) de3 hT hM hbd hb5 ha5 (fun q => hab q.symm) (by omega) hx i3 haa
    obtain ⟨G3', D3', y4, de3', k1, k2, k3, k4⟩ := gain1 (a := b) (b := a) (x := z) (z := x) (rb := cN p (cN p rb 0 0 5) 0 0 5) (rg := nI g) (re := nI e) (rt := nI (t + 3)) (wk := 31) de2 hT hM hbd hb5 ha5 (fun q => hab q.symm) hz hx f3 (haa.fr hbr j4)
    have e3 : G3' = G3 := (Prod.mk.inj (Option.some.inj (k1.symm.trans i1))).1
    subst e3
    rw [m3] at i1
    rw [m4] at j1
    rw [i1, bnd7_some, m2, j1, bnd7_some, n2, j2, bnd3_some, k2, bnd3_some]
    by_cases hl2 : G3' < G4
    · rw [if_pos hl2, if_pos hl2]
      exact ⟨0, _, _, _, D4, _, y4, de4, by decide, rfl, rfl, j3, ((f4.tr h4).tr j4).tr k4⟩
    · rw [if_neg hl2, if_neg hl2]
      exact ⟨1, _, _, _, D4, _, y4, de4, by decide, rfl, rfl, j3, ((f4.tr h4).tr j4).tr k4⟩
theorem rest_s {kk : Int32 → Int32 → Int32 → Int32 → Int32 → Int32 → Int32 → Int32 → Int32 → Int32 → (Nat → Int32) → (Nat → Int32) → (Nat → Int32) → Option (Int32 × Int32 × Int32 × Int32 × (Nat → Int32) × (Nat → Int32) × (Nat → Int32))} {a b x z n fu fv : Nat} {ra rb y : Nat → Nat} {u M F rg re rt : Int32} (de : Nat → Int32) (hT : TOK br fa st kd fs fl) (hM : MOK br bd d p g e t) (hbd : bd < 2 ^ 29) (ha5 : a < br) (hb5 : b < br) (hab : a ≠ b) (hx : x < 2) (hz : z < 2) (hMk : ((M ||| (nI x <<< (nI a &&& 31))) ||| (nI z <<< (nI b &&& 31))) = nI (mk a b x z)) (hF : F = -9 ↔ n = 0) (hn : n < 100) (hra : B99 ra) (ha : AG br d p g e t y 0) : ∃ (n2 : Nat) (F2 g2 e2 t2 : Int32) (ra2 rb2 y2 : Nat → Nat) (de2 : Nat → Int32), f_X5_rests_74 (nI br) (nI fa) (nF st) (nF kd) (nF fs) (nF fl) (nI g) (nI e) (nI t) (nF d) (nF p) kk (fu + 1) (nI a) (nI b) u M (nI n) F (nI x) (nI z) rg re rt (nF ra) (nF rb) de = f_X5_rests_74 (nI br) (nI fa) (nF st) (nF kd) (nF fs) (nF fl) (nI g) (nI e) (nI t) (nF d) (nF p) kk fu (nI a) (nI b) u M (nI n2) F2 (nI x) (nI (z + 1)) g2 e2 t2 (nF ra2) (nF rb2) de2 ∧ f_X6_rests_46 (nI br) (nI fa) (nF st) (nF kd) (nF fs) (nF fl) (fv + 1) (nI a) (nI b) u (nI n) F (nI (2 * x + z)) 31 (nF y) = f_X6_rests_46 (nI br) (nI fa) (nF st) (nF kd) (nF fs) (nF fl) fv (nI a) (nI b) u (nI n2) F2 (nI (2 * x + z + 1)) 31 (nF y2) ∧ (F2 = -9 ↔ n2 = 0) ∧ n2 ≤ n + 1 ∧ B99 ra2 ∧ FR y y2 16 := by
  obtain ⟨r, g2, e2, t2, D, P, y1, de2, r2, c1, c2, c3, c4⟩ := rest1 (rb := rb) (rg := rg) (re := re) (rt := rt) de hT hM hbd ha5 hb5 hab hx hz hra ha
  obtain ⟨d1, d2, d3⟩ := q4 x hx z hz
  rw [f_X5_rests_74, if_neg (show ¬ (1 : Int32) < nI z from nI_nlt (a := 1) (by omega) (by decide)), hMk, c1, bnd7_some, f_X6_rests_46, if_neg (show ¬ (4 : Int32) ≤ nI (2 * x + z) from nI_ge (b := 4) (by omega) (by decide)), d2, d1, c2, bnd3_some]
  unfold f_X5_rests_124 f_X5_rests_126 f_X6_rests_91 f_X6_rests_96
  rw [nI_1, nI_1, nI_1]
  rcases (show r = 0 ∨ r = 1 by omega) with rfl | rfl
  · rw [if_pos (show nI 0 = 0 from rfl), if_pos (show nI 0 = 0 from rfl)]
    exact ⟨n, F, g2, e2, t2, D, P, y1, de2, rfl, rfl, hF, by omega, c3, c4⟩
  · rw [if_neg (show ¬ nI 1 = 0 by decide), if_neg (show ¬ nI 1 = 0 by decide)]
    by_cases h0 : n = 0
    · subst h0
      rw [if_pos (hF.mpr rfl), if_pos (show nI 0 = 0 from rfl)]
      exact ⟨0 + 1, 10 * nI x + nI z, g2, e2, t2, D, P, y1, de2, rfl, rfl, ⟨fun q => absurd q d3, fun q => absurd q (by decide)⟩, by omega, c3, c4⟩
    · rw [if_neg (fun q => h0 (hF.mp q)), if_neg (nI_ne0 (by omega) (by omega))]
      exact ⟨n + 1, F, g2, e2, t2, D, P, y1, de2, rfl, rfl, ⟨fun q => absurd (hF.mp q) h0, fun q => absurd q (by omega)⟩, by omega, c3, c4⟩
end RST
