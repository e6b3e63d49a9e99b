section CTY
variable {len : Nat} {tx : Nat → Nat}
theorem read_l {br fa : Int32} {fp st kd fs fl : Nat → Int32} (hl : len ≤ 48) (hk : ∀ k, k < 8 → ok len tx (1 + k) 0 9 = true) : ∀ (n j fu : Nat) (fd : Nat → Nat), j + n = 8 → n < fu → (∀ k, k < j → fd k = tx (1 + k) - 48) → ∃ fd' : Nat → Nat, f_X4_read_2 (nI len) (nF tx) fu (nI j) br fa (nF fd) fp st kd fs fl = f_X4_read_40 (nI len) (nF tx) 130 9 0 0 (nF fd') fp st kd fs fl ∧ ∀ k, k < 8 → fd' k = tx (1 + k) - 48
  | 0, j, 0, fd, _, hf, _ => absurd hf (Nat.not_lt_zero _)
  | 0, j, fu + 1, fd, hi, _, h => by
    obtain rfl : j = 8 := by omega
    refine ⟨fd, ?_, h⟩
    rw [f_X4_read_2, if_pos (by decide)]
  | n + 1, j, 0, fd, _, hf, _ => absurd hf (Nat.not_lt_zero _)
  | n + 1, j, fu + 1, fd, hi, hf, h => by
    rw [f_X4_read_2, if_neg (show ¬ (8 : Int32) ≤ nI j from nI_ge (b := 8) (by omega) (by decide)), show (1 : Int32) + nI j = nI (1 + j) from nI_add 1 j, (figC_in hl (by decide) (hk j (by omega))).1, bnd1_some, wr_nF (by omega) (by decide), bnd1_some, nI_1]
    refine read_l hl hk n (j + 1) fu (uN fd j (tx (1 + j) - 48)) (by omega) (by omega) (fun k hk2 => ?_)
    by_cases e : k = j
    · subst e
      exact uN_s _ _ _
    · rw [uN_n e]
      exact h k (by omega)
theorem text1 {br fa xb xf xa xu : Int32} {fd fp st kd fs fl : Nat → Nat} {r8 rb rf : Nat → Int32} (hl : len ≤ 48) (ht : ∀ k, tx k ≤ 255) : (∃ (q : Nat) (x1 x2 x3 x4 : Int32) (r8' rb' rf' : Nat → Int32), q < 100 ∧ f_X3_firstFault (nI len) (nF tx) = some (nI q) ∧ f_X6_readText xb xf (nI len) xa xu r8 rb rf (nF tx) = some (nI q, x1, x2, x3, x4, r8', rb', rf')) ∨ (∃ (B F : Nat) (fd' fp' st' kd' fs' fl' : Nat → Nat) (x3 : Int32) (r8' rb' rf' : Nat → Int32), f_X3_firstFault (nI len) (nF tx) = some (-9) ∧ f_X4_read br fa (nF fd) (nF fp) (nF st) (nF kd) (nF fs) (nF fl) (nI len) (nF tx) = some (nI B, nI F, nF fd', nF fp', nF st', nF kd', nF fs', nF fl') ∧ f_X6_readText xb xf (nI len) xa xu r8 rb rf (nF tx) = some (-9, nI B, nI F, x3, -9, r8', rb', rf') ∧ B ≤ 5 ∧ F ≤ 5 ∧ PB B fp' st' kd' rb' ∧ PF F fs' fl' rf' ∧ (∀ k, B ≤ k → st' k = st k ∧ kd' k = kd k) ∧ (∀ k, F ≤ k → fs' k = fs k ∧ fl' k = fl k) ∧ ∀ k, k < 8 → r8' k = nI (fd' k) ∧ fd' k ≤ 9) := by
  unfold f_X3_firstFault f_X6_readText
  by_cases h0 : len = 0
  · subst h0
    left
    refine ⟨0, 0, 0, 0, -9, r8, rb, rf, by decide, ?_, ?_⟩
    · rw [show f_X3_letterAt (nI 0) (nF tx) (0 : Int32) = some (-9) from let0 (i := 0) hl (Nat.le_refl _) (by decide), bnd1_some, if_neg (show ¬ (-9 : Int32) = 66 by decide)]
      rfl
    · rw [if_pos (show nI 0 = 0 from rfl)]
      rfl
  · have e1 := e78 (n := 66) (ht 0) (by decide)
    rw [show f_X3_letterAt (nI len) (nF tx) (0 : Int32) = some (nI (tx 0)) from let1 (i := 0) hl (by omega), bnd1_some, if_neg (nI_ne0 (by omega) (by omega)), show rd (nF tx) 48 (0 : Int32) = some (nI (tx 0)) from rd_nF (i := 0) (by decide) (by decide), bnd1_some]
    by_cases h66 : tx 0 = 66
    · rw [if_pos (show nI (tx 0) = 66 from e1.mpr h66), if_pos (show nI (tx 0) = 66 from e1.mpr h66)]
      rcases t48 (rb := rb) (rf := rf) hl ht 8 0 130 130 r8 rfl (by decide) (by decide) (fun k hk => absurd hk (Nat.not_lt_zero _)) with ⟨q, a, b, x3, x4, r', q1, q2, q3⟩ | ⟨r', q2, q3, q4⟩
      · exact Or.inl ⟨q, a, b, x3, x4, r', rb, rf, by omega, q2, q3⟩
      · have hk7 := ok_t.mp (q4 7 (by decide)).2
        obtain ⟨fd', g1, g2⟩ := read_l (br := br) (fa := fa) (fp := nF fp) (st := nF st) (kd := nF kd) (fs := nF fs) (fl := nF fl) hl (fun k hk => (q4 k hk).2) 8 0 130 fd rfl (by decide) (fun k hk => absurd hk (Nat.not_lt_zero _))
        have hp := parts_l hl ht (len - 9) 9 130 130 130 0 0 fp st kd fs fl (nF fd') rb rf r' (by omega) (by omega) (by omega) (by omega) (by decide) (by decide) (fun k hk => absurd hk (Nat.not_lt_zero _)) (fun k hk => absurd hk (Nat.not_lt_zero _))
        rcases hp with ⟨q, x1, x2, x3, x4, rb', rf', p1, p2, p3⟩ | ⟨B, F, fp', st', kd', fs', fl', x3, rb', rf', p1, p2, p3, p4, p5, p6, p7, p8, p9, p10, p11⟩
        · left
          refine ⟨q, x1, x2, x3, x4, r', rb', rf', p1, ?_, q3.trans p3⟩
          refine q2.trans ?_
          unfold f_X3_firstFaultOfParts
          rw [show f_X3_firstFaultOfParts_7 (nI len) (nF tx) 130 (0 : Int32) (0 : Int32) (9 : Int32) = _ from p2, bnd1_some]
        · right
          refine ⟨B, F, fd', fp', st', kd', fs', fl', x3, r', rb', rf', ?_, ?_, q3.trans p3, p4, p5, p6, p7, p10, p11, fun k hk => ?_⟩
          · refine q2.trans ?_
            unfold f_X3_firstFaultOfParts
            rw [show f_X3_firstFaultOfParts_7 (nI len) (nF tx) 130 (0 : Int32) (0 : Int32) (9 : Int32) = _ from p1, bnd1_some]
          · unfold f_X4_read
            exact Eq.trans g1 p2
          · obtain ⟨w1, w2⟩ := q4 k hk
            have w3 := ok_t.mp w2
            rw [g2 k hk]
            exact ⟨w1, by omega⟩
    · left
      rw [if_neg (show ¬ nI (tx 0) = 66 from fun z => h66 (e1.mp z)), if_neg (show ¬ nI (tx 0) = 66 from fun z => h66 (e1.mp z))]
      exact ⟨0, 0, 0, 0, -9, r8, rb, rf, by decide, rfl, rfl⟩
theorem sim_fault {xb xf xa xu : Int32} {r8 rb rf : Nat → Int32} (hl : len ≤ 48) (ht : ∀ k, tx k ≤ 255) : ∃ (r x1 x2 x3 x4 : Int32) (r8' rb' rf' : Nat → Int32), f_X5_fault (nI len) (nF tx) = some r ∧ f_X6_fault xb xf (nI len) xa xu r8 rb rf (nF tx) = some (r, x1, x2, x3, x4, r8', rb', rf') := by
  unfold f_X5_fault f_X6_fault
  rcases text1 (br := 0) (fa := 0) (xb := xb) (xf := xf) (xa := xa) (xu := xu) (fd := fun _ => 0) (fp := fun _ => 0) (st := fun _ => 0) (kd := fun _ => 0) (fs := fun _ => 0) (fl := fun _ => 0) (r8 := r8) (rb := rb) (rf := rf) hl ht with ⟨q, x1, x2, x3, x4, r8', rb', rf', q1, q2, q3⟩ | ⟨B, F, fd', fp', st', kd', fs', fl', x3, r8', rb', rf', p1, p2, p3, _⟩
  · rw [q2, bnd1_some, q3, bnd8_some]
    exact ⟨_, _, _, _, _, _, _, _, rfl, rfl⟩
  · rw [p1, bnd1_some, p3, bnd8_some]
    exact ⟨_, _, _, _, _, _, _, _, rfl, rfl⟩
end CTY
