/-! numbers: arrays of naturals as arrays of ints -/
def nF (d : Nat → Nat) : Nat → Int32 := fun k => nI (d k)
def uN (d : Nat → Nat) (k v : Nat) : Nat → Nat := fun j => if j = k then v else d j
def cN (a b : Nat → Nat) (sp dp n : Nat) : Nat → Nat := fun k => if dp ≤ k ∧ k < dp + n then a (sp + (k - dp)) else b k
theorem uN_s (d : Nat → Nat) (k v : Nat) : uN d k v k = v := by simp [uN]
theorem uN_n {d : Nat → Nat} {k v j : Nat} (h : j ≠ k) : uN d k v j = d j := by simp [uN, h]
theorem nF_0 : (fun _ => 0 : Nat → Int32) = nF (fun _ => 0) := by
  funext k
  exact nI_0.symm
theorem upd_nF (d : Nat → Nat) (k v : Nat) : upd (nF d) k (nI v) = nF (uN d k v) := by
  funext j
  show (if j = k then nI v else nI (d j)) = nI (if j = k then v else d j)
  split <;> rfl
theorem rd_nF {d : Nat → Nat} {n i : Nat} (h : i < n) (hn : n < 2 ^ 31) : rd (nF d) n (nI i) = some (nI (d i)) := by
  unfold rd
  rw [if_neg (nI_in h hn), nI_clamp (by omega)]
  rfl
theorem wr_nF {d : Nat → Nat} {n i v : Nat} (h : i < n) (hn : n < 2 ^ 31) : wr (nF d) n (nI i) (nI v) = some (nF (uN d i v)) := by
  unfold wr
  rw [if_neg (nI_in h hn), nI_clamp (by omega), upd_nF]
theorem cp_nF {a b : Nat → Nat} {n0 n1 sp dp n : Nat} (h0 : sp + n ≤ n0) (h1 : dp + n ≤ n1) (g0 : n0 < 2 ^ 31) (g1 : n1 < 2 ^ 31) : cp (nF a) n0 (nI sp) (nF b) n1 (nI dp) (nI n) = some (nF (cN a b sp dp n)) := by
  unfold cp
  rw [nI_clamp (n := sp) (by omega), nI_clamp (n := dp) (by omega), nI_clamp (n := n) (by omega), if_neg]
  · congr 1
    funext k
    show (if dp ≤ k ∧ k < dp + n then nI (a (sp + (k - dp))) else nI (b k)) = nI (if dp ≤ k ∧ k < dp + n then a (sp + (k - dp)) else b k)
    split <;> rfl
  · intro h
    rcases h with h | h | h | h | h
    · exact nI_pos (by omega) h
    · exact nI_pos (by omega) h
    · exact nI_pos (by omega) h
    · omega
    · omega
theorem bnd1_some {α γ : Type} (a : α) (k : α → Option γ) : bnd1 (some a) k = k a := rfl
theorem bnd2_some {α β γ : Type} (a : α) (b : β) (k : α → β → Option γ) : bnd2 (some (a, b)) k = k a b := rfl
theorem bnd3_some {α β δ γ : Type} (a : α) (b : β) (c : δ) (k : α → β → δ → Option γ) : bnd3 (some (a, b, c)) k = k a b c := rfl
theorem nm_eq {α β : Type} (a : α) (k : α → β) : nm a k = k a := rfl
theorem zr_0 : zr 0 = some 0 := by decide
theorem zr_1 : zr 1 = some 1 := by decide
theorem zr_nI {n : Nat} (h : n ≤ 1) : zr (nI n) = some (nI n) := by
  rcases (show n = 0 ∨ n = 1 by omega) with rfl | rfl <;> decide
theorem i1_0 : ¬ ((1 : Int32) = 0) := by decide
theorem nI_min {a b : Nat} (ha : a < 2 ^ 31) (hb : b < 2 ^ 31) : (if nI a < nI b then nI a else nI b) = nI (min a b) := by
  by_cases h : a < b
  · rw [if_pos (nI_lt h hb), Nat.min_eq_left (Nat.le_of_lt h)]
  · rw [if_neg (nI_nlt (by omega) ha), Nat.min_eq_right (by omega)]
/-- ints between two bounds, seen as naturals -/
theorem in_of {u : Int32} {a b : Nat} (hab : a ≤ b) (hb : b < 2 ^ 31) (h1 : nI a ≤ u) (h2 : u ≤ nI b) : ∃ k, a ≤ k ∧ k ≤ b ∧ u = nI k := by
  have ha : (nI b).toInt = b := nI_toInt hb
  have h2' : u.toInt ≤ b := by rw [← ha]; exact Int32.le_iff_toInt_le.mp h2
  have h1' : (nI a).toInt ≤ u.toInt := Int32.le_iff_toInt_le.mp h1
  rw [nI_toInt (by omega)] at h1'
  refine ⟨u.toInt.toNat, by omega, by omega, ?_⟩
  apply Int32.toInt_inj.mp
  rw [nI_toInt (by omega)]
  omega
theorem rng (u : Int32) {a b : Nat} (hab : a ≤ b) (hb : b < 2 ^ 31) : (∃ k, a ≤ k ∧ k ≤ b ∧ u = nI k) ∨ (u < nI a ∨ nI b < u) := by
  by_cases h1 : u < nI a
  · exact Or.inr (Or.inl h1)
  · by_cases h2 : nI b < u
    · exact Or.inr (Or.inr h2)
    · exact Or.inl (in_of hab hb (Int32.not_lt.mp h1) (Int32.not_lt.mp h2))
theorem within_in {k a b : Nat} (h1 : a ≤ k) (h2 : k ≤ b) (hb : b < 2 ^ 31) : f_X5_within (nI k) (nI a) (nI b) = some 1 := by
  unfold f_X5_within
  rw [if_neg (nI_nlt h1 (by omega)), if_neg (nI_nlt h2 hb)]
theorem within_out {u : Int32} {a b : Nat} (h : u < nI a ∨ nI b < u) : f_X5_within u (nI a) (nI b) = some 0 := by
  unfold f_X5_within
  by_cases h1 : u < nI a
  · rw [if_pos h1]
  · rw [if_neg h1, if_pos (h.resolve_left h1)]
theorem cmp_lt {x y : Int64} : lg_cmp x y < 0 ↔ x < y := by
  have h := lg_cmp_ge x y
  constructor
  · intro q
    exact Int64.not_le.mp (fun z => Int32.not_le.mpr q (h.mpr z))
  · intro q
    exact Int32.not_le.mp (fun z => Int64.not_le.mpr q (h.mp z))
theorem i64_lt {x y : Int32} : x.toInt64 < y.toInt64 ↔ x < y := by
  rw [Int64.lt_iff_toInt_lt, Int32.lt_iff_toInt_lt, Int32.toInt_toInt64, Int32.toInt_toInt64]
