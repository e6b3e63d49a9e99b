/-! the moment of the first side, in naturals -/
def bitN (e b : Nat) : Bool := e / 2 ^ b % 2 == 1
def pourN (d : Nat → Nat) (s m : Nat) : Nat → Nat := uN d s (min (d s + m) 99)
def takeN (d : Nat → Nat) (s v : Nat) : Nat → Nat := uN d s (d s - min (d s) v)
def workN (d : Nat → Nat) (s st as : Nat) : Nat → Nat :=
  if as = 0 then takeN d s st
  else if as = 1 then pourN (takeN d s st) ((s + 1) % 8) (min (d s) st)
  else if as = 2 then takeN (takeN (takeN d s st) ((s + 7) % 8) (st / 2)) ((s + 1) % 8) (st / 2)
  else d
def asN (kd g e b : Nat) : Nat := if kd = 2 then 2 else if kd = 0 then 0 else if g = 1 then 0 else if bitN e b then 0 else kd
def wkN (st kd p : Nat → Nat) (g e w : Nat) : Nat → Nat → (Nat → Nat) → (Nat → Nat)
  | 0, _, d => d
  | n + 1, b, d => wkN st kd p g e w n (b + 1) (if bitN w b then workN d (p b) (st b) (asN (kd b) g e b) else d)
def comeN (fa : Nat) (fs fl : Nat → Nat) (t times : Nat) (d : Nat → Nat) : Nat → Nat := if fa = 0 then d else pourN d (fs (t % fa)) (fl (t % fa) * times)
def dpN (d : Nat → Nat) (k : Nat) : Nat := if 10 ≤ d k then 1 else 0
def sp1 (f : Nat → Nat) (i : Nat) (d : Nat → Nat) : Nat → Nat := fun k => d k - (if k = i then 2 * f i else 0) + (if k = (i + 7) % 8 then f i else 0) + (if k = (i + 1) % 8 then f i else 0)
def spN (f : Nat → Nat) : Nat → Nat → (Nat → Nat) → (Nat → Nat)
  | 0, _, d => d
  | n + 1, i, d => spN f n (i + 1) (sp1 f i d)
def dawnN (br fa : Nat) (st kd fs fl p : Nat → Nat) (g e t w times : Nat) (d : Nat → Nat) : Nat → Nat :=
  let d1 := wkN st kd p g e w br 0 (comeN fa fs fl t times d)
  spN (dpN d1) 8 0 d1
def B99 (d : Nat → Nat) : Prop := ∀ k, d k ≤ 99
theorem B99.u {d : Nat → Nat} (h : B99 d) {s v : Nat} (hv : v ≤ 99) : B99 (uN d s v) := by
  intro k
  unfold uN
  split
  · exact hv
  · exact h k
theorem B99.pour {d : Nat → Nat} (h : B99 d) (s m : Nat) : B99 (pourN d s m) := h.u (by omega)
theorem B99.take {d : Nat → Nat} (h : B99 d) (s v : Nat) : B99 (takeN d s v) := h.u (by have := h s; omega)
theorem B99.work {d : Nat → Nat} (h : B99 d) (s st as : Nat) : B99 (workN d s st as) := by
  unfold workN
  split
  · exact h.take _ _
  · split
    · exact (h.take _ _).pour _ _
    · split
      · exact ((h.take _ _).take _ _).take _ _
      · exact h
theorem B99.wk {st kd p : Nat → Nat} {g e w : Nat} : ∀ (n b : Nat) (d : Nat → Nat), B99 d → B99 (wkN st kd p g e w n b d)
  | 0, _, _, h => h
  | n + 1, b, d, h => by
    unfold wkN
    refine B99.wk n (b + 1) _ ?_
    split
    · exact h.work _ _ _
    · exact h
theorem B99.come {d fs fl : Nat → Nat} {fa t times : Nat} (h : B99 d) : B99 (comeN fa fs fl t times d) := by
  unfold comeN
  split
  · exact h
  · exact h.pour _ _
theorem st1 : ∀ k, k < 8 → f_X5_isStreet (nI k) = some 1 := by decide +kernel
theorem left1 : ∀ k, k < 8 → f_X2_leftOf (nI k) = some (nI ((k + 7) % 8)) := by decide +kernel
theorem right1 : ∀ k, k < 8 → f_X2_rightOf (nI k) = some (nI ((k + 1) % 8)) := by decide +kernel
theorem half1 : ∀ k, k < 10 → nI k / 2 = nI (k / 2) := by decide +kernel
theorem hasB1 : ∀ br, br < 6 → ∀ b, b < br → f_X4_hasBroom (nI br) (nI b) = some 1 := by decide +kernel
theorem bent1 : ∀ e, e < 32 → ∀ b, b < 5 → f_X2_isBent (nI e) (nI b) = some (if bitN e b then 1 else 0) := by decide +kernel
theorem bit1 : ∀ e, e < 32 → ∀ b, b < 5 → (((nI e >>> (nI b &&& 31)) &&& 1) = 1 ↔ bitN e b = true) := by decide +kernel
theorem dustIn1 {d : Nat → Nat} {k : Nat} (h : k < 8) : f_X2_dustIn (nF d) (nI k) = some (nI (d k)) := by
  unfold f_X2_dustIn
  rw [st1 k h, bnd1_some, if_neg i1_0, rd_nF h (by decide), bnd1_some]
theorem pour1 {d : Nat → Nat} {s m : Nat} (hs : s < 8) (hd : d s ≤ 99) (hm : m ≤ 99) : f_X2_pour (nF d) (nI s) (nI m) = some (nF (pourN d s m)) := by
  unfold f_X2_pour
  rw [st1 s hs, bnd1_some, if_neg i1_0, rd_nF hs (by decide), bnd1_some, nI_add, show (99 : Int32) = nI 99 from rfl, nI_min (by omega) (by omega), wr_nF hs (by decide), bnd1_some]
  rfl
theorem sweep1 {d : Nat → Nat} {s v : Nat} (hs : s < 8) (hd : d s ≤ 99) (hv : v ≤ 99) : f_X2_sweep (nF d) (nI s) (nI v) = some (nI (min (d s) v), nF (takeN d s v)) := by
  unfold f_X2_sweep
  rw [st1 s hs, bnd1_some, if_neg i1_0, rd_nF hs (by decide), bnd1_some, bnd1_some, nI_min (by omega) (by omega), pk_sub (by omega), wr_nF hs (by decide), bnd1_some]
  rfl
theorem placeOf1 {p : Nat → Nat} {br b : Nat} (hbr : br < 6) (hb : b < br) : f_X2_placeOf (nF p) (nI br) (nI b) = some (nI (p b)) := by
  unfold f_X2_placeOf
  rw [hasB1 br hbr b hb, bnd1_some, if_neg i1_0, rd_nF (by omega) (by decide), bnd1_some]
theorem strengthOf1 {st : Nat → Nat} {b : Nat} (hb : b < 5) : f_X4_strengthOf (nF st) (nI b) = some (nI (st b)) := by
  unfold f_X4_strengthOf
  rw [if_neg (nI_pos (by omega)), if_neg (show ¬ (5 : Int32) ≤ nI b from nI_ge hb (by decide)), rd_nF hb (by decide), bnd1_some]
theorem kindOf1 {st : Nat → Nat} {b : Nat} (hb : b < 5) : f_X4_kindOf (nF st) (nI b) = some (nI (st b)) := by
  unfold f_X4_kindOf
  rw [if_neg (nI_pos (by omega)), if_neg (show ¬ (5 : Int32) ≤ nI b from nI_ge hb (by decide)), rd_nF hb (by decide), bnd1_some]
theorem worksAs1 {kd : Nat → Nat} {g e b : Nat} (hb : b < 5) (hk : kd b < 4) (hg : g < 2) (he : e < 32) : f_X2_worksAs (nI g) (nI e) (nF kd) (nI b) = some (nI (asN (kd b) g e b)) := by
  unfold f_X2_worksAs asN
  rw [kindOf1 hb, bnd1_some, bent1 e he b hb, bnd1_some]
  generalize kd b = q at hk
  rcases (show q = 0 ∨ q = 1 ∨ q = 2 ∨ q = 3 by omega) with rfl | rfl | rfl | rfl <;> rcases (show g = 0 ∨ g = 1 by omega) with rfl | rfl <;> cases bitN e b <;> decide
theorem work1 {d p st kd : Nat → Nat} {g e br b : Nat} (hbr : br < 6) (hb : b < br) (hp : p b < 8) (hs : st b < 10) (hk : kd b < 4) (hg : g < 2) (he : e < 32) (hd : B99 d) : f_X2_work (nI g) (nI e) (nF d) (nF p) (nI br) (nF st) (nF kd) (nI b) = some (nF (workN d (p b) (st b) (asN (kd b) g e b))) := by
  unfold f_X2_work
  rw [placeOf1 hbr hb, bnd1_some, strengthOf1 (by omega), bnd1_some, worksAs1 (by omega) hk hg he, bnd1_some]
  have h8 : ∀ x, (x % 8 < 8) := fun x => Nat.mod_lt x (by decide)
  have hq : asN (kd b) g e b < 4 := by
    unfold asN
    repeat' split
    all_goals omega
  unfold workN
  generalize asN (kd b) g e b = q at hq
  have hh := half1 (st b) hs
  rcases (show q = 0 ∨ q = 1 ∨ q = 2 ∨ q = 3 by omega) with rfl | rfl | rfl | rfl
  · rw [if_pos (by decide), sweep1 hp (hd _) (by omega), bnd2_some, if_pos rfl]
  · rw [if_neg (by decide), if_pos (by decide), right1 _ hp, bnd1_some, sweep1 hp (hd _) (by omega), bnd2_some, pour1 (h8 _) (hd.take _ _ _) (by have := hd (p b); omega), bnd1_some, if_neg (by decide), if_pos rfl]
  · rw [if_neg (by decide), if_neg (by decide), if_pos (by decide), sweep1 hp (hd _) (by omega), bnd2_some, left1 _ hp, bnd1_some, hh, sweep1 (h8 _) (hd.take _ _ _) (by omega), bnd2_some, right1 _ hp, bnd1_some, sweep1 (h8 _) ((hd.take _ _).take _ _ _) (by omega), bnd2_some, if_neg (by decide), if_neg (by decide), if_pos rfl]
  · rw [if_neg (by decide), if_neg (by decide), if_neg (by decide), if_neg (by decide), if_neg (by decide), if_neg (by decide)]
