/-! the trial: laid from now, gone on -/
theorem bnd4_some {A B C D γ : Type} (x0 : A) (x1 : B) (x2 : C) (x3 : D) (k : A → B → C → D → Option γ) : bnd4 (some (x0, x1, x2, x3)) k = k x0 x1 x2 x3 := rfl
theorem bnd5_some {A B C D E γ : Type} (x0 : A) (x1 : B) (x2 : C) (x3 : D) (x4 : E) (k : A → B → C → D → E → Option γ) : bnd5 (some (x0, x1, x2, x3, x4)) k = k x0 x1 x2 x3 x4 := rfl
theorem bnd6_some {A B C D E F γ : Type} (x0 : A) (x1 : B) (x2 : C) (x3 : D) (x4 : E) (x5 : F) (k : A → B → C → D → E → F → Option γ) : bnd6 (some (x0, x1, x2, x3, x4, x5)) k = k x0 x1 x2 x3 x4 x5 := rfl
theorem bnd7_some {A B C D E F G γ : Type} (x0 : A) (x1 : B) (x2 : C) (x3 : D) (x4 : E) (x5 : F) (x6 : G) (k : A → B → C → D → E → F → G → Option γ) : bnd7 (some (x0, x1, x2, x3, x4, x5, x6)) k = k x0 x1 x2 x3 x4 x5 x6 := rfl
theorem bnd8_some {A B C D E F G H γ : Type} (x0 : A) (x1 : B) (x2 : C) (x3 : D) (x4 : E) (x5 : F) (x6 : G) (x7 : H) (k : A → B → C → D → E → F → G → H → Option γ) : bnd8 (some (x0, x1, x2, x3, x4, x5, x6, x7)) k = k x0 x1 x2 x3 x4 x5 x6 x7 := rfl
theorem cN_in {a b : Nat → Nat} {sp dp n k : Nat} (h : dp ≤ k) (h2 : k < dp + n) : cN a b sp dp n k = a (sp + (k - dp)) := by
  unfold cN
  rw [if_pos ⟨h, h2⟩]
theorem cN_out {a b : Nat → Nat} {sp dp n k : Nat} (h : k < dp ∨ dp + n ≤ k) : cN a b sp dp n k = b k := by
  unfold cN
  rw [if_neg (by omega)]
theorem B99.cp {a b : Nat → Nat} (ha : B99 a) (hb : B99 b) (sp dp n : Nat) : B99 (cN a b sp dp n) := by
  intro k
  unfold cN
  split
  · exact ha _
  · exact hb _
theorem copy1 {d p rd rp : Nat → Nat} {g e t : Nat} {rg re rt : Int32} (hg : g < 2) : f_X5_fromNow (nI g) (nI e) (nI t) (nF d) (nF p) rg re rt (nF rd) (nF rp) = some (nI g, nI e, nI t, nF (cN d rd 0 0 8), nF (cN p rp 0 0 5)) := by
  unfold f_X5_fromNow f_X2_copy
  rw [show (0 : Int32) = nI 0 from rfl, show (8 : Int32) = nI 8 from rfl, show (5 : Int32) = nI 5 from rfl, cp_nF (by decide) (by decide) (by decide) (by decide), bnd1_some, cp_nF (by decide) (by decide) (by decide) (by decide), bnd1_some, zr_nI (by omega), bnd1_some]
  rfl
theorem lay_l {y : Nat → Nat} : ∀ (n i fu : Nat), i + n = 16 → n < fu → f_X6_layTrial_2 fu (nI i) (nF (cN y y 0 16 i)) = some (nF (cN y y 0 16 16))
  | 0, i, 0, _, hf => absurd hf (Nat.not_lt_zero _)
  | 0, i, fu + 1, hi, _ => by
    obtain rfl : i = 16 := by omega
    rw [f_X6_layTrial_2, if_pos (by decide)]
  | n + 1, i, 0, _, hf => absurd hf (Nat.not_lt_zero _)
  | n + 1, i, fu + 1, hi, hf => by
    have hstep : uN (cN y y 0 16 i) (16 + i) (cN y y 0 16 i i) = cN y y 0 16 (i + 1) := by
      rw [cN_out (by omega)]
      funext k
      unfold uN cN
      by_cases h : k = 16 + i
      · subst h
        rw [if_pos rfl, if_pos (by omega)]
        congr 1
        omega
      · rw [if_neg h]
        by_cases h2 : 16 ≤ k ∧ k < 16 + i
        · rw [if_pos h2, if_pos (by omega)]
        · rw [if_neg h2, if_neg (by omega)]
    rw [f_X6_layTrial_2, if_neg (show ¬ (16 : Int32) ≤ nI i from nI_ge (b := 16) (by omega) (by decide)), rd_nF (by omega) (by decide), bnd1_some, show (16 : Int32) = nI 16 from rfl, nI_add, wr_nF (by omega) (by decide), bnd1_some, nI_1, hstep, lay_l n (i + 1) fu (by omega) (by omega)]
theorem lay1 (y : Nat → Nat) : f_X6_layTrial (nF y) = some (nF (cN y y 0 16 16)) := by
  have h := lay_l (y := y) 16 0 130 rfl (by decide)
  have e : cN y y 0 16 0 = y := by
    funext k
    exact cN_out (by omega)
  rw [e] at h
  exact h
theorem AG.lay {br : Nat} {d p rd rp : Nat → Nat} {g e t : Nat} {y : Nat → Nat} (hbr : br < 6) (h : AG br d p g e t y 0) : AG br (cN d rd 0 0 8) (cN p rp 0 0 5) g e t (cN y y 0 16 16) 16 := by
  refine ⟨fun k hk => ?_, fun b hb => ?_, ?_, ?_, ?_⟩
  · rw [cN_in (by omega) (by omega), cN_in (by omega) (by omega), show 0 + (k - 0) = k by omega, ← h.1 k hk]
    congr 1
    omega
  · rw [cN_in (by omega) (by omega), cN_in (by omega) (by omega), show 0 + (b - 0) = b by omega, ← h.2.1 b hb]
    congr 1
    omega
  · rw [cN_in (by omega) (by omega)]
    exact h.2.2.1
  · rw [cN_in (by omega) (by omega)]
    exact h.2.2.2.1
  · rw [cN_in (by omega) (by omega)]
    exact h.2.2.2.2
theorem FR.lay {y : Nat → Nat} : FR y (cN y y 0 16 16) 16 := fun k hk => cN_out (by omega)
theorem AG.fr {br : Nat} {d p : Nat → Nat} {g e t : Nat} {y y1 : Nat → Nat} (hbr : br < 6) (h : AG br d p g e t y 0) (hf : FR y y1 16) : AG br d p g e t y1 0 := by
  refine ⟨fun k hk => ?_, fun b hb => ?_, ?_, ?_, ?_⟩
  · rw [hf _ (by omega)]
    exact h.1 k hk
  · rw [hf _ (by omega)]
    exact h.2.1 b hb
  · rw [hf _ (by omega)]
    exact h.2.2.1
  · rw [hf _ (by omega)]
    exact h.2.2.2.1
  · rw [hf _ (by omega)]
    exact h.2.2.2.2
/-- what was told is as it must be -/
def TOK (br fa : Nat) (st kd fs fl : Nat → Nat) : Prop := br < 6 ∧ fa < 6 ∧ (∀ b, b < br → st b < 10) ∧ (∀ b, b < br → kd b < 4) ∧ (∀ f, f < fa → fs f < 8) ∧ (∀ f, f < fa → fl f < 10)
def MOK (br bd : Nat) (d p : Nat → Nat) (g e t : Nat) : Prop := B99 d ∧ (∀ b, b < br → p b < 8) ∧ g < 2 ∧ e < 32 ∧ t ≤ bd
section TRI
variable {br fa : Nat} {st kd fs fl : Nat → Nat}
/-- a dawn on both sides -/
theorem dawn1 {bd : Nat} {d p y : Nat → Nat} {g e t w times lv : Nat} (hT : TOK br fa st kd fs fl) (hM : MOK br bd d p g e t) (hbd : bd < 2 ^ 30) (hlv : lv < 2) (hw : w < 32) (hti : times ≤ 2) (ha : AG br d p g e t y (16 * lv)) (de : Nat → Int32) : ∃ (D y1 : Nat → Nat) (de' : Nat → Int32), f_X2_passDawn (nI g) (nI e) (nI t) (nF d) (nF p) de (nI br) (nI fa) (nF st) (nF kd) (nF fs) (nF fl) (nI w) (nI times) = some (nI (t + 1), nF D, de') ∧ f_X6_passOn (nI br) (nI fa) (nI w) (nF st) (nF kd) (nF fs) (nF fl) (nF y) (nI lv) (nI times) = some (nF y1) ∧ AG br D p g e (t + 1) y1 (16 * lv) ∧ FR y y1 (16 * lv) ∧ MOK br (bd + 1) D p g e (t + 1) := by
  obtain ⟨h1, h2, h3, h4, h5, h6⟩ := hT
  obtain ⟨m1, m2, m3, m4, m5⟩ := hM
  obtain ⟨de', c1⟩ := passDawn1 (times := times) de m1 h1 h2 m2 h3 h4 h5 h6 m3 m4 hw (show t < 2 ^ 31 by omega) hti
  obtain ⟨y1, e1, e2, e3⟩ := passOn1 (times := times) hlv h1 h2 m2 h3 h4 h5 h6 m3 m4 hw (show t < 2 ^ 31 by omega) hti m1 ha
  exact ⟨_, y1, de', c1, e1, e2, e3, m1.dawn, m2, m3, m4, by omega⟩
/-- n dawns on the trial of both sides -/
theorem behind_l {p : Nat → Nat} {g e w N : Nat} {ng ne nt : Int32} {nd np : Nat → Int32} (hT : TOK br fa st kd fs fl) (hw : w < 32) (hN : N < 2 ^ 31) : ∀ (n i fu fv bd t : Nat) (d y : Nat → Nat) (de : Nat → Int32), i + n = N → n < fu → n < fv → bd + n < 2 ^ 30 → MOK br bd d p g e t → AG br d p g e t y 16 → ∃ (D y1 : Nat → Nat) (de' : Nat → Int32), f_X5_behind_8 (nI br) (nI fa) (nF st) (nF kd) (nF fs) (nF fl) ng ne nt nd np fu (nI N) (nI w) (nI i) (nI g) (nI e) (nI t) (nF d) (nF p) de = some (nI g, nI e, nI (t + n), nF D, nF p, de') ∧ f_X6_goOn_2 (nI br) (nI fa) (nI w) (nF st) (nF kd) (nF fs) (nF fl) fv (nI N) (nI i) (nF y) = some (nF y1) ∧ AG br D p g e (t + n) y1 16 ∧ FR y y1 16 ∧ MOK br (bd + n) D p g e (t + n)
  | 0, i, 0, fv, bd, t, d, y, de, _, hf, _, _, _, _ => absurd hf (Nat.not_lt_zero _)
  | 0, i, fu + 1, 0, bd, t, d, y, de, _, _, hf, _, _, _ => absurd hf (Nat.not_lt_zero _)
  | 0, i, fu + 1, fv + 1, bd, t, d, y, de, hi, _, _, _, hM, ha => by
    obtain rfl : i = N := by omega
    refine ⟨d, y, de, ?_, ?_, ha, FR.rf, hM⟩
    · rw [f_X5_behind_8, if_pos (nI_le (Nat.le_refl _) hN)]
      rfl
    · rw [f_X6_goOn_2, if_pos (nI_le (Nat.le_refl _) hN)]
  | n + 1, i, 0, fv, bd, t, d, y, de, _, hf, _, _, _, _ => absurd hf (Nat.not_lt_zero _)
  | n + 1, i, fu + 1, 0, bd, t, d, y, de, _, _, hf, _, _, _ => absurd hf (Nat.not_lt_zero _)
  | n + 1, i, fu + 1, fv + 1, bd, t, d, y, de, hi, hf, hf2, hb, hM, ha => by
    obtain ⟨D, y1, de1, c1, c2, c3, c4, c5⟩ := dawn1 (times := 1) (lv := 1) hT hM (by omega) (by decide) hw (by decide) ha de
    obtain ⟨D2, y2, de2, k1, k2, k3, k4, k5⟩ := behind_l (p := p) (ng := ng) (ne := ne) (nt := nt) (nd := nd) (np := np) hT hw hN n (i + 1) fu fv (bd + 1) (t + 1) D y1 de1 (by omega) (by omega) (by omega) (by omega) c5 c3
    refine ⟨D2, y2, de2, ?_, ?_, ?_, c4.tr k4, ?_⟩
    · rw [f_X5_behind_8, if_neg (nI_ge (by omega) hN), show (1 : Int32) = nI 1 from rfl, c1, bnd3_some, nI_add, k1, show t + 1 + n = t + (n + 1) by omega]
    · rw [f_X6_goOn_2, if_neg (nI_ge (by omega) hN), show (1 : Int32) = nI 1 from rfl, c2, bnd1_some, nI_add, k2]
    · rw [show t + (n + 1) = t + 1 + n by omega]
      exact k3
    · rw [show t + (n + 1) = t + 1 + n by omega, show bd + (n + 1) = bd + 1 + n by omega]
      exact k5
/-- n dawns behind now, by some workers -/
theorem behind1 {d p rd rp y : Nat → Nat} {g e t w n bd : Nat} {rg re rt : Int32} (de : Nat → Int32) (hT : TOK br fa st kd fs fl) (hM : MOK br bd d p g e t) (hrd : B99 rd) (hw : w < 32) (hn : n < 128) (hbd : bd + n < 2 ^ 30) (ha : AG br d p g e t y 0) : ∃ (D y1 : Nat → Nat) (de' : Nat → Int32), f_X5_behind (nI br) (nI fa) (nF st) (nF kd) (nF fs) (nF fl) (nI g) (nI e) (nI t) (nF d) (nF p) rg re rt (nF rd) (nF rp) de (nI n) (nI w) = some (nI g, nI e, nI (t + n), nF D, nF (cN p rp 0 0 5), de') ∧ (bnd1 (f_X6_layTrial (nF y)) fun q => f_X6_goOn (nI br) (nI fa) (nI w) (nF st) (nF kd) (nF fs) (nF fl) q (nI n)) = some (nF y1) ∧ AG br D (cN p rp 0 0 5) g e (t + n) y1 16 ∧ FR y y1 16 ∧ MOK br (bd + n) D (cN p rp 0 0 5) g e (t + n) := by
  obtain ⟨m1, m2, m3, m4, m5⟩ := hM
  have hM' : MOK br bd (cN d rd 0 0 8) (cN p rp 0 0 5) g e t := ⟨m1.cp hrd 0 0 8, fun b hb => by rw [cN_in (by omega) (by have := hT.1; omega), show 0 + (b - 0) = b by omega]; exact m2 b hb, m3, m4, m5⟩
  obtain ⟨D, y1, de', c1, c2, c3, c4, c5⟩ := behind_l (ng := nI g) (ne := nI e) (nt := nI t) (nd := nF d) (np := nF p) hT hw (show n < 2 ^ 31 by omega) n 0 130 130 bd t _ _ de (Nat.zero_add n) (by omega) (by omega) hbd hM' (ha.lay (rd := rd) (rp := rp) hT.1)
  refine ⟨D, y1, de', ?_, ?_, c3, FR.lay.tr c4, c5⟩
  · unfold f_X5_behind
    rw [copy1 m3, bnd5_some, show (0 : Int32) = nI 0 from rfl, c1]
  · unfold f_X6_goOn
    rw [lay1, bnd1_some, show (0 : Int32) = nI 0 from rfl, c2]
end TRI
