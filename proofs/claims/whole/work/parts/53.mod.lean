/-! the same moment on the second side: sixteen numbers from a place on -/
def AG (br : Nat) (d p : Nat → Nat) (g e t : Nat) (y : Nat → Nat) (B : Nat) : Prop := (∀ k, k < 8 → y (B + k) = d k) ∧ (∀ b, b < br → y (B + 8 + b) = p b) ∧ y (B + 13) = g ∧ y (B + 14) = e ∧ y (B + 15) = t
def FR (y y1 : Nat → Nat) (B : Nat) : Prop := ∀ k, (k < B ∨ B + 16 ≤ k) → y1 k = y k
theorem FR.rf {y : Nat → Nat} {B : Nat} : FR y y B := fun _ _ => rfl
theorem FR.tr {y y1 y2 : Nat → Nat} {B : Nat} (h : FR y y1 B) (h2 : FR y1 y2 B) : FR y y2 B := fun k hk => (h2 k hk).trans (h k hk)
theorem FR.u {y : Nat → Nat} {B q v : Nat} (h : B ≤ q ∧ q < B + 16) : FR y (uN y q v) B := fun k hk => uN_n (by omega)
theorem AG.cg {br : Nat} {d d' p : Nat → Nat} {g e t : Nat} {y : Nat → Nat} {B : Nat} (h : AG br d p g e t y B) (hd : ∀ k, k < 8 → d' k = d k) : AG br d' p g e t y B := ⟨fun k hk => (h.1 k hk).trans (hd k hk).symm, h.2⟩
theorem AG.d {br : Nat} {d p : Nat → Nat} {g e t : Nat} {y : Nat → Nat} {B s v : Nat} (hbr : br < 6) (hs : s < 8) (h : AG br d p g e t y B) : AG br (uN d s v) p g e t (uN y (B + s) v) B := by
  refine ⟨fun k hk => ?_, fun b hb => ?_, ?_, ?_, ?_⟩
  · unfold uN
    by_cases hks : k = s
    · rw [if_pos hks, if_pos (by omega)]
    · rw [if_neg hks, if_neg (by omega)]
      exact h.1 k hk
  · rw [uN_n (by omega)]
    exact h.2.1 b hb
  · rw [uN_n (by omega)]
    exact h.2.2.1
  · rw [uN_n (by omega)]
    exact h.2.2.2.1
  · rw [uN_n (by omega)]
    exact h.2.2.2.2
theorem has1 : ∀ e, e < 32 → ∀ b, b < 5 → f_X6_has (nI e) (nI b) = some (if bitN e b then 1 else 0) := by decide +kernel
theorem wrap7 : ∀ s, s < 8 → nI s - 1 + 8 = nI (s + 7) := by decide +kernel
theorem wrap9 : ∀ s, s < 8 → nI s + 1 + 8 = nI (s + 9) := by decide +kernel
theorem place1 {u : Int32} {lv q : Nat} (hq : u + 8 = nI q) (hb : q < 2 ^ 31) : (16 : Int32) * nI lv + (u + 8 - (u + 8) / 8 * 8) = nI (16 * lv + q % 8) := by
  rw [hq, show (8 : Int32) = nI 8 from rfl, pk_rem hb (by decide) (by decide), show (16 : Int32) = nI 16 from rfl, pk_mul, nI_add]
theorem add1 {y : Nat → Nat} {u : Int32} {lv q v : Nat} (hlv : lv < 2) (hq : u + 8 = nI q) (hb : q < 2 ^ 31) (hy : y (16 * lv + q % 8) ≤ 99) (hv : v ≤ 99) : f_X6_add (nF y) (nI lv) u (nI v) = some (nF (uN y (16 * lv + q % 8) (min (y (16 * lv + q % 8) + v) 99))) := by
  have hm : q % 8 < 8 := Nat.mod_lt _ (by decide)
  unfold f_X6_add
  rw [nm_eq, place1 hq hb, rd_nF (by omega) (by decide), bnd1_some, nI_add, bnd1_some, nI_add, wr_nF (by omega) (by decide), bnd1_some]
  by_cases h : y (16 * lv + q % 8) + v ≤ 99
  · rw [if_pos (show nI (y (16 * lv + q % 8) + v) ≤ (99 : Int32) from nI_le h (by decide)), Nat.min_eq_left h]
  · rw [if_neg (show ¬ nI (y (16 * lv + q % 8) + v) ≤ (99 : Int32) from nI_ge (a := 99) (b := y (16 * lv + q % 8) + v) (by omega) (by omega)), show (99 : Int32) = nI 99 from rfl, wr_nF (by omega) (by decide), bnd1_some, Nat.min_eq_right (by omega)]
theorem takeOff1 {y : Nat → Nat} {u : Int32} {lv q v : Nat} (hlv : lv < 2) (hq : u + 8 = nI q) (hb : q < 2 ^ 31) (hy : y (16 * lv + q % 8) ≤ 99) (hv : v ≤ 99) : f_X6_takeOff (nF y) (nI lv) u (nI v) = some (nI (min (y (16 * lv + q % 8)) v), nF (uN y (16 * lv + q % 8) (y (16 * lv + q % 8) - min (y (16 * lv + q % 8)) v))) := by
  have hm : q % 8 < 8 := Nat.mod_lt _ (by decide)
  unfold f_X6_takeOff
  rw [nm_eq, place1 hq hb, rd_nF (by omega) (by decide), bnd1_some, bnd1_some]
  unfold f_X6_takeOff_36
  rw [rd_nF (by omega) (by decide), bnd1_some, bnd1_some]
  by_cases h : v ≤ y (16 * lv + q % 8)
  · rw [if_pos (nI_le h (by omega)), pk_sub h, wr_nF (by omega) (by decide), bnd1_some, Nat.min_eq_right h]
  · rw [if_neg (nI_ge (by omega) (by omega)), pk_sub (Nat.le_refl _), wr_nF (by omega) (by decide), bnd1_some, Nat.min_eq_left (by omega)]
theorem at16 (lv k : Nat) : (16 : Int32) * nI lv + nI k = nI (16 * lv + k) := by
  rw [show (16 : Int32) = nI 16 from rfl, pk_mul, nI_add]
theorem worksAsM {y kd : Nat → Nat} {lv b g e : Nat} (hlv : lv < 2) (hb : b < 5) (hk : kd b < 4) (hg : y (16 * lv + 13) = g) (he : y (16 * lv + 14) = e) (hg2 : g < 2) (he2 : e < 32) : f_X6_worksAs (nF kd) (nF y) (nI lv) (nI b) = some (nI (asN (kd b) g e b)) := by
  unfold f_X6_worksAs f_X6_worksAs_35 f_X6_worksAs_40
  have r1 : rd (nF y) 32 (nI (16 * lv + 13)) = some (nI g) := by rw [rd_nF (by omega) (by decide), hg]
  have r2 : rd (nF y) 32 (nI (16 * lv + 14)) = some (nI e) := by rw [rd_nF (by omega) (by decide), he]
  have r3 : rd (nF kd) 5 (nI b) = some (nI (kd b)) := rd_nF hb (by decide)
  rw [show (13 : Int32) = nI 13 from rfl, at16, show (14 : Int32) = nI 14 from rfl, at16]
  simp only [r1, r2, r3, bnd1_some, has1 e he2 b hb]
  unfold asN
  generalize kd b = q at hk
  rcases (show q = 0 ∨ q = 1 ∨ q = 2 ∨ q = 3 by omega) with rfl | rfl | rfl | rfl <;> rcases (show g = 0 ∨ g = 1 by omega) with rfl | rfl <;> cases bitN e b <;> decide
theorem sweepM {d p st kd y : Nat → Nat} {g e t w br b lv : Nat} (hlv : lv < 2) (hbr : br < 6) (hb : b < br) (hp : p b < 8) (hs : st b < 10) (hk : kd b < 4) (hg : g < 2) (he : e < 32) (hw : w < 32) (hd : B99 d) (ha : AG br d p g e t y (16 * lv)) : ∃ y1 : Nat → Nat, f_X6_sweep (nI w) (nF st) (nF kd) (nF y) (nI lv) (nI b) = some (nF y1) ∧ AG br (if bitN w b then workN d (p b) (st b) (asN (kd b) g e b) else d) p g e t y1 (16 * lv) ∧ FR y y1 (16 * lv) := by
  have h8 : ∀ x, (x % 8 < 8) := fun x => Nat.mod_lt x (by decide)
  have hq : asN (kd b) g e b < 4 := by
    unfold asN
    repeat' split
    all_goals omega
  unfold f_X6_sweep
  rw [show (8 : Int32) = nI 8 from rfl, at16, nI_add, rd_nF (by omega) (by decide), bnd1_some, worksAsM hlv (by omega) hk ha.2.2.1 ha.2.2.2.1 hg he, bnd1_some, has1 w hw b (by omega), bnd1_some, ha.2.1 b hb]
  by_cases hbt : bitN w b = true
  · simp only [hbt, if_true, if_neg i1_0]
    have e8 : (p b + 8) % 8 = p b := by omega
    have hy0 : y (16 * lv + (p b + 8) % 8) = d (p b) := by rw [e8]; exact ha.1 _ hp
    have ha1 : AG br (takeN d (p b) (st b)) p g e t (uN y (16 * lv + (p b + 8) % 8) (y (16 * lv + (p b + 8) % 8) - min (y (16 * lv + (p b + 8) % 8)) (st b))) (16 * lv) := by
      rw [hy0, e8]
      exact ha.d hbr hp
    have hf1 : FR y (uN y (16 * lv + (p b + 8) % 8) (y (16 * lv + (p b + 8) % 8) - min (y (16 * lv + (p b + 8) % 8)) (st b))) (16 * lv) := FR.u (by have := h8 (p b + 8); omega)
    have ht := takeOff1 (y := y) (u := nI (p b)) (lv := lv) (q := p b + 8) (v := st b) hlv (by rw [show (8 : Int32) = nI 8 from rfl, nI_add]) (by omega) (by rw [hy0]; exact hd _) (by omega)
    have hh := half1 (st b) hs
    unfold workN
    generalize asN (kd b) g e b = q at hq
    generalize (uN y (16 * lv + (p b + 8) % 8) (y (16 * lv + (p b + 8) % 8) - min (y (16 * lv + (p b + 8) % 8)) (st b))) = y1 at ha1 hf1 ht
    rw [hy0] at ht
    rcases (show q = 0 ∨ q = 1 ∨ q = 2 ∨ q = 3 by omega) with rfl | rfl | rfl | rfl
    · rw [if_neg (by decide), rd_nF (by omega) (by decide), bnd1_some, ht, bnd2_some, if_neg (by decide)]
      unfold f_X6_sweep_71
      rw [if_neg (by decide), if_pos rfl]
      exact ⟨y1, rfl, ha1, hf1⟩
    · have e9 : (p b + 9) % 8 = (p b + 1) % 8 := by omega
      have hy1 : y1 (16 * lv + (p b + 9) % 8) = takeN d (p b) (st b) ((p b + 1) % 8) := by rw [e9]; exact ha1.1 _ (h8 _)
      rw [if_neg (by decide), rd_nF (by omega) (by decide), bnd1_some, ht, bnd2_some, if_pos (by decide), add1 (q := p b + 9) hlv (wrap9 _ hp) (by omega) (by rw [hy1]; exact hd.take _ _ _) (by have := hd (p b); omega), bnd1_some]
      unfold f_X6_sweep_71
      rw [if_neg (by decide), if_neg (by decide), if_pos rfl]
      refine ⟨_, rfl, ?_, hf1.tr (FR.u (by have := h8 (p b + 9); omega))⟩
      rw [hy1, e9]
      exact ha1.d hbr (h8 _)
    · have e7 : y1 (16 * lv + (p b + 7) % 8) = takeN d (p b) (st b) ((p b + 7) % 8) := ha1.1 _ (h8 _)
      have e9 : (p b + 9) % 8 = (p b + 1) % 8 := by omega
      rw [if_neg (by decide), rd_nF (by omega) (by decide), bnd1_some, ht, bnd2_some, if_neg (by decide)]
      unfold f_X6_sweep_71
      rw [if_pos (by decide), rd_nF (by omega) (by decide), bnd1_some, hh, takeOff1 (q := p b + 7) hlv (wrap7 _ hp) (by omega) (by rw [e7]; exact hd.take _ _ _) (by omega), bnd2_some, bnd1_some, hh]
      have ha2 : AG br (takeN (takeN d (p b) (st b)) ((p b + 7) % 8) (st b / 2)) p g e t (uN y1 (16 * lv + (p b + 7) % 8) (y1 (16 * lv + (p b + 7) % 8) - min (y1 (16 * lv + (p b + 7) % 8)) (st b / 2))) (16 * lv) := by
        rw [e7]
        exact ha1.d hbr (h8 _)
      have hf2 : FR y1 (uN y1 (16 * lv + (p b + 7) % 8) (y1 (16 * lv + (p b + 7) % 8) - min (y1 (16 * lv + (p b + 7) % 8)) (st b / 2))) (16 * lv) := FR.u (by have := h8 (p b + 7); omega)
      generalize (uN y1 (16 * lv + (p b + 7) % 8) (y1 (16 * lv + (p b + 7) % 8) - min (y1 (16 * lv + (p b + 7) % 8)) (st b / 2))) = y2 at ha2 hf2
      have hy2 : y2 (16 * lv + (p b + 9) % 8) = takeN (takeN d (p b) (st b)) ((p b + 7) % 8) (st b / 2) ((p b + 1) % 8) := by rw [e9]; exact ha2.1 _ (h8 _)
      rw [takeOff1 (q := p b + 9) hlv (wrap9 _ hp) (by omega) (by rw [hy2]; exact (hd.take _ _).take _ _ _) (by omega), bnd2_some, if_neg (by decide), if_neg (by decide), if_pos rfl]
      refine ⟨_, rfl, ?_, (hf1.tr hf2).tr (FR.u (by have := h8 (p b + 9); omega))⟩
      rw [hy2, e9]
      exact ha2.d hbr (h8 _)
    · rw [if_pos (by decide), if_neg (by decide), if_neg (by decide), if_neg (by decide)]
      exact ⟨y, rfl, ha, FR.rf⟩
  · simp only [hbt, if_false, if_true]
    exact ⟨y, rfl, ha, FR.rf⟩
