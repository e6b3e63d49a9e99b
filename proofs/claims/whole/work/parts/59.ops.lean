/-! calls that read, and acts: the same answer on both sides -/
theorem sim_write {len : Nat} {tx : Nat → Nat} (u : Int32) (hl : len ≤ 48) (ht : ∀ k, tx k ≤ 255) : ∃ (r : Int32) (len2 : Nat) (tx2 : Nat → Nat), f_X5_write (nI len) (nF tx) u = some (r, nI len2, nF tx2) ∧ f_X6_write (nI len) (nF tx) u = some (r, nI len2, nF tx2) ∧ len2 ≤ 48 ∧ ∀ k, tx2 k ≤ 255 := by
  unfold f_X5_write f_X6_write f_X3_add
  rcases both u (a := 0) (b := 255) (by decide) (by decide) with ⟨k, h1, h2, rfl, h3, h4⟩ | ⟨h3, h4⟩
  · rw [show f_X5_within (nI k) (0 : Int32) (255 : Int32) = some 1 from h3, show f_X6_in (nI k).toInt64 (0 : Int64) (255 : Int64) = some 1 from h4, bnd1_some, bnd1_some, if_neg i1_0, if_neg i1_0]
    by_cases hf : len = 48
    · subst hf
      exact ⟨_, 48, tx, by rfl, by rfl, by decide, ht⟩
    · have e1 : nI len < (48 : Int32) := nI_lt (b := 48) (by omega) (by decide)
      have e2 : ¬ (48 : Int32) ≤ nI len := nI_ge (a := len) (b := 48) (by omega) (by decide)
      have e3 : ¬ nI len = (48 : Int32) := fun q => hf ((nI_eq (a := len) (b := 48) (by omega) (by decide)).mp q)
      refine ⟨nI (len + 1), len + 1, uN tx len k, ?_, ?_, by omega, fun j => ?_⟩
      · rw [if_pos e1, if_neg e2, wr_nF (by omega) (by decide), bnd1_some, show (1 : Int32) = nI 1 from rfl, nI_add]
        rfl
      · rw [if_neg e3, wr_nF (by omega) (by decide), bnd1_some, show (1 : Int32) = nI 1 from rfl, nI_add]
      · unfold uN
        split
        · omega
        · exact ht j
  · rw [show f_X5_within u (0 : Int32) (255 : Int32) = some 0 from h3, show f_X6_in u.toInt64 (0 : Int64) (255 : Int64) = some 0 from h4, bnd1_some, bnd1_some, if_pos rfl, if_pos rfl]
    exact ⟨_, len, tx, rfl, rfl, hl, ht⟩
section OPS
variable {br fa bd : Nat} {st kd fs fl d p y : Nat → Nat} {g e t : Nat}
theorem rdy {k : Nat} (hk : k < 32) : rd (nF y) 32 (nI k) = some (nI (y k)) := rd_nF hk (by decide)
theorem sim_street (u v : Int32) (hT : TOK br fa st kd fs fl) (hM : MOK br bd d p g e t) (ha : AG br d p g e t y 0) : ∃ r : Int32, f_X5_street (nI br) (nF d) (nF p) u v = some r ∧ f_X6_street (nI br) (nF y) u v = some r := by
  unfold f_X5_street f_X6_street
  rcases bothS u with ⟨k, hk, rfl, h3, h4⟩ | ⟨h3, h4⟩
  · have hy : y k = d k := by
      have := ha.1 k hk
      rwa [Nat.zero_add] at this
    have r0 : rd (nF y) 32 (nI k) = some (nI (d k)) := by rw [rdy (by omega), hy]
    have hd := hM.1 k
    have b1 : f_X2_broomsIn (nF p) (nI br) (nI k) = some (orI (inS p k) br 0 0) := brooms_l hT.1 hk hM.2.1 br 0 130 0 (Nat.zero_add _) (by have := hT.1; omega)
    have b2 : f_X6_broomsIn (nI br) (nF y) (nI k) = some (orI (inS p k) br 0 0) := broomsM_l hT.1 hk hM.2.1 (fun b hb => by have := ha.2.1 b hb; rwa [Nat.zero_add] at this) br 0 130 0 (Nat.zero_add _) (by have := hT.1; omega)
    rw [h3, h4, bnd1_some, bnd1_some, if_neg i1_0, if_neg i1_0, dustIn1 hk, isDeep1 hk hd, b1, b2, r0]
    simp only [bnd1_some]
    by_cases c0 : v = 0
    · first | rw [if_pos c0, if_pos c0] | rw [if_pos c0]
      exact ⟨_, rfl, rfl⟩
    · first | rw [if_neg c0, if_neg c0] | rw [if_neg c0]
      by_cases c1 : v = 1
      · first | rw [if_pos c1, if_pos c1] | rw [if_pos c1]
        by_cases hq : dpN d k = 0
        · rw [if_pos hq, if_pos rfl, if_pos ((dp_lt hd).mpr hq)]
          exact ⟨_, rfl, rfl⟩
        · rw [if_neg hq, if_neg i1_0, if_neg (fun q => hq ((dp_lt hd).mp q))]
          exact ⟨_, rfl, rfl⟩
      · first | rw [if_neg c1, if_neg c1] | rw [if_neg c1]
        by_cases c2 : v = 2
        · first | rw [if_pos c2, if_pos c2] | rw [if_pos c2]
          exact ⟨_, rfl, rfl⟩
        · first | rw [if_neg c2, if_neg c2] | rw [if_neg c2]
          exact ⟨_, rfl, rfl⟩
  · rw [h3, h4, bnd1_some, bnd1_some, if_pos rfl, if_pos rfl]
    exact ⟨_, rfl, rfl⟩
theorem shr1 : ∀ e, e < 32 → ∀ b, b < 5 → ((nI e >>> (nI b &&& 31)) &&& 1) = (if bitN e b then 1 else 0) := by decide +kernel
theorem sim_broom (u v : Int32) (hT : TOK br fa st kd fs fl) (hM : MOK br bd d p g e t) (ha : AG br d p g e t y 0) : ∃ r : Int32, f_X5_broom (nI br) (nF st) (nF kd) (nI g) (nI e) (nF p) u v = some r ∧ f_X6_broom (nI br) (nF st) (nF kd) (nF y) u v = some r := by
  unfold f_X5_broom f_X6_broom
  rcases bothB u hT.1 with ⟨b, hb, rfl, h3, h4⟩ | ⟨h3, h4⟩
  · have hb5 : b < 5 := by have := hT.1; omega
    have r0 : rd (nF y) 32 ((8 : Int32) + nI b) = some (nI (p b)) := by
      rw [show (8 : Int32) = nI 8 from rfl, nI_add, rdy (by omega), ← ha.2.1 b hb, Nat.zero_add]
    have r14 : rd (nF y) 32 (14 : Int32) = some (nI e) := by
      rw [show (14 : Int32) = nI 14 from rfl, rdy (by omega), ← ha.2.2.2.1]
    have w2 : f_X6_worksAs (nF kd) (nF y) (0 : Int32) (nI b) = some (nI (asN (kd b) g e b)) := worksAsM (lv := 0) (by decide) hb5 (hT.2.2.2.1 b hb) ha.2.2.1 ha.2.2.2.1 hM.2.2.1 hM.2.2.2.1
    rw [h3, h4, bnd1_some, bnd1_some, if_neg i1_0, if_neg i1_0, placeOf1 hT.1 hb, strengthOf1 hb5, kindOf1 hb5, bent1 e hM.2.2.2.1 b hb5, worksAs1 hb5 (hT.2.2.2.1 b hb) hM.2.2.1 hM.2.2.2.1, r0, r14, w2, rd_nF hb5 (by decide), rd_nF hb5 (by decide)]
    simp only [bnd1_some, shr1 e hM.2.2.2.1 b hb5]
    by_cases c0 : v = 0
    · first | rw [if_pos c0, if_pos c0] | rw [if_pos c0]
      exact ⟨_, rfl, rfl⟩
    · first | rw [if_neg c0, if_neg c0] | rw [if_neg c0]
      by_cases c1 : v = 1
      · first | rw [if_pos c1, if_pos c1] | rw [if_pos c1]
        exact ⟨_, rfl, rfl⟩
      · first | rw [if_neg c1, if_neg c1] | rw [if_neg c1]
        by_cases c2 : v = 2
        · first | rw [if_pos c2, if_pos c2] | rw [if_pos c2]
          exact ⟨_, rfl, rfl⟩
        · first | rw [if_neg c2, if_neg c2] | rw [if_neg c2]
          by_cases c3 : v = 3
          · first | rw [if_pos c3, if_pos c3] | rw [if_pos c3]
            cases bitN e b
            · exact ⟨0, by rfl, by rfl⟩
            · exact ⟨1, by rfl, by rfl⟩
          · first | rw [if_neg c3, if_neg c3] | rw [if_neg c3]
            by_cases c4 : v = 4
            · first | rw [if_pos c4, if_pos c4] | rw [if_pos c4]
              exact ⟨_, rfl, rfl⟩
            · first | rw [if_neg c4, if_neg c4] | rw [if_neg c4]
              exact ⟨_, rfl, rfl⟩
  · rw [h3, h4, bnd1_some, bnd1_some, if_pos rfl, if_pos rfl]
    exact ⟨_, rfl, rfl⟩
theorem sim_count {len na hs : Nat} (u : Int32) (hM : MOK br bd d p g e t) (ha : AG br d p g e t y 0) : ∃ r : Int32, f_X5_count (nI len) (nI br) (nI fa) (nI g) (nI e) (nI t) (nF d) (nI na) (nI hs) u = some r ∧ f_X6_count (nI br) (nI fa) (nI len) (nI na) (nI hs) (nF y) u = some r := by
  have hy : ∀ k, k < 8 → y (16 * 0 + k) = d k := fun k hk => ha.1 k hk
  have r13 : rd (nF y) 32 (13 : Int32) = some (nI g) := by
    rw [show (13 : Int32) = nI 13 from rfl, rdy (by omega), ← ha.2.2.1]
  have r14 : rd (nF y) 32 (14 : Int32) = some (nI e) := by
    rw [show (14 : Int32) = nI 14 from rfl, rdy (by omega), ← ha.2.2.2.1]
  have r15 : rd (nF y) 32 (15 : Int32) = some (nI t) := by
    rw [show (15 : Int32) = nI 15 from rfl, rdy (by omega), ← ha.2.2.2.2]
  have s1 : f_X6_dustOn (nF y) (0 : Int32) = some (nI (smN d 8 0)) := dustOn1 (lv := 0) (by decide) hy
  have s2 : f_X6_kneesOn (nF y) (0 : Int32) = some (kn (dpN d)) := kneesOn1 (lv := 0) (by decide) hM.1 hy
  unfold f_X5_count f_X6_count
  rw [allDust1, deepStreets1 hM.1, s1, s2, r13, r14, r15]
  simp only [bnd1_some]
  have hg : (if nI g = 0 then some (0 : Int32) else some 1) = some (nI g) := by
    rcases (show g = 0 ∨ g = 1 by have := hM.2.2.1; omega) with rfl | rfl
    · rfl
    · rfl
  rw [hg]
  by_cases c0 : u = 0
  · first | rw [if_pos c0, if_pos c0] | rw [if_pos c0]
    exact ⟨_, rfl, rfl⟩
  · first | rw [if_neg c0, if_neg c0] | rw [if_neg c0]
    by_cases c1 : u = 1
    · first | rw [if_pos c1, if_pos c1] | rw [if_pos c1]
      exact ⟨_, rfl, rfl⟩
    · first | rw [if_neg c1, if_neg c1] | rw [if_neg c1]
      by_cases c2 : u = 2
      · first | rw [if_pos c2, if_pos c2] | rw [if_pos c2]
        exact ⟨_, rfl, rfl⟩
      · first | rw [if_neg c2, if_neg c2] | rw [if_neg c2]
        by_cases c3 : u = 3
        · first | rw [if_pos c3, if_pos c3] | rw [if_pos c3]
          exact ⟨_, rfl, rfl⟩
        · first | rw [if_neg c3, if_neg c3] | rw [if_neg c3]
          by_cases c4 : u = 4
          · first | rw [if_pos c4, if_pos c4] | rw [if_pos c4]
            exact ⟨_, rfl, rfl⟩
          · first | rw [if_neg c4, if_neg c4] | rw [if_neg c4]
            by_cases c5 : u = 5
            · first | rw [if_pos c5, if_pos c5] | rw [if_pos c5]
              exact ⟨_, rfl, rfl⟩
            · first | rw [if_neg c5, if_neg c5] | rw [if_neg c5]
              by_cases c6 : u = 6
              · first | rw [if_pos c6, if_pos c6] | rw [if_pos c6]
                exact ⟨_, rfl, rfl⟩
              · first | rw [if_neg c6, if_neg c6] | rw [if_neg c6]
                by_cases c7 : u = 7
                · first | rw [if_pos c7, if_pos c7] | rw [if_pos c7]
                  exact ⟨_, rfl, rfl⟩
                · first | rw [if_neg c7, if_neg c7] | rw [if_neg c7]
                  by_cases c8 : u = 8
                  · first | rw [if_pos c8, if_pos c8] | rw [if_pos c8]
                    exact ⟨_, rfl, rfl⟩
                  · first | rw [if_neg c8, if_neg c8] | rw [if_neg c8]
                    by_cases c9 : u = 9
                    · first | rw [if_pos c9, if_pos c9] | rw [if_pos c9]
                      exact ⟨_, rfl, rfl⟩
                    · first | rw [if_neg c9, if_neg c9] | rw [if_neg c9]
                      exact ⟨_, rfl, rfl⟩
end OPS
