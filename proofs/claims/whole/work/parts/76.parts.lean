section PRL
variable {len : Nat} {tx : Nat → Nat}
/-- outcome of the parts: a fault, or all read -/
def PO (len : Nat) (tx : Nat → Nat) (a fu fv fw b f : Nat) (fp st kd fs fl : Nat → Nat) (fd rb rf r8 : Nat → Int32) : Prop :=
  (∃ (q : Nat) (x1 x2 x3 x4 : Int32) (rb' rf' : Nat → Int32), q < 100 ∧ f_X3_firstFaultOfParts_7 (nI len) (nF tx) fu (nI b) (nI f) (nI a) = some (nI q) ∧ f_X6_readText_73 (nI len) (nF tx) fv (nI b) (nI f) (nI a) (-9) r8 rb rf = some (nI q, x1, x2, x3, x4, r8, rb', rf')) ∨
  (∃ (B F : Nat) (fp' st' kd' fs' fl' : Nat → Nat) (x3 : Int32) (rb' rf' : Nat → Int32), f_X3_firstFaultOfParts_7 (nI len) (nF tx) fu (nI b) (nI f) (nI a) = some (-9) ∧ f_X4_read_40 (nI len) (nF tx) fw (nI a) (nI b) (nI f) fd (nF fp) (nF st) (nF kd) (nF fs) (nF fl) = some (nI B, nI F, fd, nF fp', nF st', nF kd', nF fs', nF fl') ∧ f_X6_readText_73 (nI len) (nF tx) fv (nI b) (nI f) (nI a) (-9) r8 rb rf = some (-9, nI B, nI F, x3, -9, r8, rb', rf') ∧ B ≤ 5 ∧ F ≤ 5 ∧ PB B fp' st' kd' rb' ∧ PF F fs' fl' rf' ∧ b ≤ B ∧ f ≤ F ∧ (∀ k, B ≤ k → st' k = st k ∧ kd' k = kd k) ∧ (∀ k, F ≤ k → fs' k = fs k ∧ fl' k = fl k))
theorem e78 {c n : Nat} (h : c ≤ 255) (hn : n ≤ 255) : nI c = nI n ↔ c = n := nI_eq (by omega) (by omega)
theorem parts_l (hl : len ≤ 48) (ht : ∀ k, tx k ≤ 255) : ∀ (m a fu fv fw b f : Nat) (fp st kd fs fl : Nat → Nat) (fd rb rf r8 : Nat → Int32), a + m = len → m < fu → m < fv → m < fw → b ≤ 5 → f ≤ 5 → PB b fp st kd rb → PF f fs fl rf → PO len tx a fu fv fw b f fp st kd fs fl fd rb rf r8
  | m, a, 0, fv, fw, b, f, fp, st, kd, fs, fl, fd, rb, rf, r8, _, hf, _, _, _, _, _, _ => absurd hf (Nat.not_lt_zero _)
  | m, a, fu + 1, 0, fw, b, f, fp, st, kd, fs, fl, fd, rb, rf, r8, _, _, hf, _, _, _, _, _ => absurd hf (Nat.not_lt_zero _)
  | m, a, fu + 1, fv + 1, 0, b, f, fp, st, kd, fs, fl, fd, rb, rf, r8, _, _, _, hf, _, _, _, _ => absurd hf (Nat.not_lt_zero _)
  | 0, a, fu + 1, fv + 1, fw + 1, b, f, fp, st, kd, fs, fl, fd, rb, rf, r8, hi, _, _, _, hb, hf, hB, hF => by
    right
    refine ⟨b, f, fp, st, kd, fs, fl, nI a, rb, rf, ?_, ?_, ?_, hb, hf, hB, hF, Nat.le_refl _, Nat.le_refl _, fun k _ => ⟨rfl, rfl⟩, fun k _ => ⟨rfl, rfl⟩⟩
    · rw [f_X3_firstFaultOfParts_7, if_pos (nI_le (by omega) (by omega))]
    · rw [f_X4_read_40, if_pos (nI_le (by omega) (by omega))]
    · rw [f_X6_readText_73, if_pos rfl, if_pos (nI_le (by omega) (by omega))]
  | m + 1, a, fu + 1, fv + 1, fw + 1, b, f, fp, st, kd, fs, fl, fd, rb, rf, r8, hi, hu, hv, hw, hb, hf, hB, hF => by
    have hal : a < len := by omega
    have hx := ht a
    have e1 := e78 (n := 78) hx (by decide)
    have e2 := e78 (n := 70) hx (by decide)
    unfold PO
    rw [f_X3_firstFaultOfParts_7, if_neg (nI_ge hal (by omega)), let1 hl hal, bnd1_some, f_X6_readText_73, if_pos rfl, if_neg (nI_ge hal (by omega)), rd_nF (by omega) (by decide), bnd1_some, f_X4_read_40, if_neg (nI_ge hal (by omega)), let1 hl hal, bnd1_some]
    by_cases c1 : tx a = 78 ∧ b < 5
    · obtain ⟨c1, c2⟩ := c1
      have s78 : ∀ (z : Int32), nI (tx a) = z → z = 78 → f_X3_firstFaultOfParts_35 (nI len) (nF tx) (f_X3_firstFaultOfParts_7 (nI len) (nF tx) fu) (nI b) (nI f) (nI a) 1 = bnd1 (f_X3_faultOfBroom (nI len) (nF tx) (nI a)) (fun rr => f_X3_firstFaultOfParts_89 (nI len) (nF tx) (f_X3_firstFaultOfParts_7 (nI len) (nF tx) fu) (nI b) (nI f) (nI a) 1 0 rr) := by
        intro z h1 h2
        unfold f_X3_firstFaultOfParts_35 f_X3_firstFaultOfParts_56 f_X3_firstFaultOfParts_57 f_X3_firstFaultOfParts_71
        rw [let1 hl hal, bnd1_some, h1, h2, if_neg (show ¬ (78 : Int32) = 70 by decide), if_neg i1_0, if_neg i1_0]
      rw [if_pos (show nI (tx a) = 78 from e1.mpr c1), if_neg (show ¬ (5 : Int32) ≤ nI b from nI_ge (b := 5) c2 (by decide)), s78 _ (show nI (tx a) = 78 from e1.mpr c1) rfl, if_pos (show nI (tx a) = 78 from e1.mpr c1), show nI (tx a) = 78 from e1.mpr c1]
      rcases part_N (f := f) (rb := rb) (rf := rf) hl ht hal c2 with ⟨q, x3, r', q1, q2, q3⟩ | ⟨o1, o2, o3, q2, q3⟩
      · left
        refine ⟨q, nI (b + 1), nI f, x3, nI q, r', rf, q1, ?_, ?_⟩
        · unfold f_X3_firstFaultOfParts_89
          rw [q2, bnd1_some, if_neg (n9 q1)]
        · rw [q3, bnd6_some]
          cases fv with
          | zero => omega
          | succ w => rw [f_X6_readText_73, if_neg (n9 q1)]
      · have k1 := ok_t.mp o1
        have k2 := ok_t.mp o2
        have k3 := ok_t.mp o3
        have hr := parts_l hl ht (m - 3) (a + 4) fu fv fw (b + 1) f (uN fp b (tx (a + 1) - 48)) (uN st b (tx (a + 2) - 48)) (uN kd b (tx (a + 3) - 48)) fs fl fd (upd (upd (upd rb (3 * b) (nI (tx (a + 1) - 48))) (3 * b + 1) (nI (tx (a + 2) - 48))) (3 * b + 2) (nI (tx (a + 3) - 48))) rf r8 (by omega) (by omega) (by omega) (by omega) (by omega) hf (hB.s (by omega) (by omega) (by omega)) hF
        have E1 : f_X3_firstFaultOfParts_89 (nI len) (nF tx) (f_X3_firstFaultOfParts_7 (nI len) (nF tx) fu) (nI b) (nI f) (nI a) 1 0 (-9) = f_X3_firstFaultOfParts_7 (nI len) (nF tx) fu (nI (b + 1)) (nI f) (nI (a + 4)) := by
          unfold f_X3_firstFaultOfParts_89 f_X3_firstFaultOfParts_112 f_X3_firstFaultOfParts_125 f_X3_firstFaultOfParts_143
          rw [if_pos rfl, if_neg i1_0, if_pos rfl, let1 hl hal, bnd1_some, if_pos (show nI (tx a) = 78 from e1.mpr c1), nI_1, a4, show nI f + 0 = nI f from nI_add f 0]
        rw [q2, bnd1_some, E1, q3, bnd6_some, addB hl c2 o1 o2 o3, bnd4_some, a4]
        rcases hr with h | ⟨B, F, fp', st', kd', fs', fl', x3, rb', rf', g1, g2, g3, g4, g5, g6, g7, g8, g9, g10, g11⟩
        · exact Or.inl h
        · refine Or.inr ⟨B, F, fp', st', kd', fs', fl', x3, rb', rf', g1, g2, g3, g4, g5, g6, g7, by omega, g9, fun k hk => ?_, g11⟩
          obtain ⟨i1, i2⟩ := g10 k hk
          rw [i1, i2, uN_n (by omega), uN_n (by omega)]
          exact ⟨rfl, rfl⟩
    · by_cases c3 : tx a = 70 ∧ f < 5
      · obtain ⟨c3, c4⟩ := c3
        have n78 : ¬ nI (tx a) = 78 := fun z => by
          have := e1.mp z
          omega
        have s70 : f_X3_firstFaultOfParts_34 (nI len) (nF tx) (f_X3_firstFaultOfParts_7 (nI len) (nF tx) fu) (nI b) (nI f) (nI a) = bnd1 (f_X3_faultOfFall (nI len) (nF tx) (nI a)) (fun rr => f_X3_firstFaultOfParts_89 (nI len) (nF tx) (f_X3_firstFaultOfParts_7 (nI len) (nF tx) fu) (nI b) (nI f) (nI a) 0 1 rr) := by
          unfold f_X3_firstFaultOfParts_34 f_X3_firstFaultOfParts_35 f_X3_firstFaultOfParts_57 f_X3_firstFaultOfParts_71
          rw [let1 hl hal, bnd1_some, if_pos (show nI (tx a) = 70 from e2.mpr c3), if_neg (show ¬ (5 : Int32) ≤ nI f from nI_ge (b := 5) c4 (by decide)), if_pos rfl, if_neg i1_0, if_pos rfl]
        rw [if_neg n78, s70, if_neg n78, show nI (tx a) = 70 from e2.mpr c3]
        rcases part_F (b := b) (rb := rb) (rf := rf) hl ht hal c4 with ⟨q, x3, r', q1, q2, q3⟩ | ⟨o1, o2, q2, q3⟩
        · left
          refine ⟨q, nI b, nI (f + 1), x3, nI q, rb, r', q1, ?_, ?_⟩
          · unfold f_X3_firstFaultOfParts_89
            rw [q2, bnd1_some, if_neg (n9 q1)]
          · rw [q3, bnd6_some]
            cases fv with
            | zero => omega
            | succ w => rw [f_X6_readText_73, if_neg (n9 q1)]
        · have k1 := ok_t.mp o1
          have k2 := ok_t.mp o2
          have hr := parts_l hl ht (m - 2) (a + 3) fu fv fw b (f + 1) fp st kd (uN fs f (tx (a + 1) - 48)) (uN fl f (tx (a + 2) - 48)) fd rb (upd (upd rf (2 * f) (nI (tx (a + 1) - 48))) (2 * f + 1) (nI (tx (a + 2) - 48))) r8 (by omega) (by omega) (by omega) (by omega) hb (by omega) hB (hF.s (by omega) (by omega))
          have E1 : f_X3_firstFaultOfParts_89 (nI len) (nF tx) (f_X3_firstFaultOfParts_7 (nI len) (nF tx) fu) (nI b) (nI f) (nI a) 0 1 (-9) = f_X3_firstFaultOfParts_7 (nI len) (nF tx) fu (nI b) (nI (f + 1)) (nI (a + 3)) := by
            unfold f_X3_firstFaultOfParts_89 f_X3_firstFaultOfParts_112 f_X3_firstFaultOfParts_125 f_X3_firstFaultOfParts_143
            rw [if_pos rfl, if_pos rfl, if_neg i1_0, let1 hl hal, bnd1_some, if_neg n78, nI_1, a3, show nI b + 0 = nI b from nI_add b 0]
          rw [q2, bnd1_some, E1, q3, bnd6_some, addF hl c4 o1 o2, bnd3_some, a3]
          rcases hr with h | ⟨B, F, fp', st', kd', fs', fl', x3, rb', rf', g1, g2, g3, g4, g5, g6, g7, g8, g9, g10, g11⟩
          · exact Or.inl h
          · refine Or.inr ⟨B, F, fp', st', kd', fs', fl', x3, rb', rf', g1, g2, g3, g4, g5, g6, g7, g8, by omega, g10, fun k hk => ?_⟩
            obtain ⟨i1, i2⟩ := g11 k hk
            rw [i1, i2, uN_n (by omega), uN_n (by omega)]
            exact ⟨rfl, rfl⟩
      · left
        have s0 : f_X3_firstFaultOfParts_34 (nI len) (nF tx) (f_X3_firstFaultOfParts_7 (nI len) (nF tx) fu) (nI b) (nI f) (nI a) = some (nI a) := by
          unfold f_X3_firstFaultOfParts_34 f_X3_firstFaultOfParts_35 f_X3_firstFaultOfParts_56 f_X3_firstFaultOfParts_57
          rw [let1 hl hal, bnd1_some]
          by_cases h70 : tx a = 70
          · rw [if_pos (show nI (tx a) = 70 from e2.mpr h70), if_pos (show (5 : Int32) ≤ nI f from nI_le (a := 5) (by omega) (by omega)), if_pos rfl, if_pos rfl]
          · rw [if_neg (show ¬ nI (tx a) = 70 from fun z => h70 (e2.mp z)), if_pos rfl, if_pos rfl]
        have p0 : f_X6_readPart_94 (nI len) (nF tx) (nI (tx a)) (nI b) (nI f) (nI a) (-9) rb rf = some (nI b, nI f, nI a, nI a, rb, rf) := by
          unfold f_X6_readPart_94
          by_cases h70 : tx a = 70
          · rw [if_pos (show nI (tx a) = 70 from e2.mpr h70), if_pos (show (5 : Int32) ≤ nI f from nI_le (a := 5) (by omega) (by omega))]
          · rw [if_neg (show ¬ nI (tx a) = 70 from fun z => h70 (e2.mp z))]
        refine ⟨a, nI b, nI f, nI a, nI a, rb, rf, by omega, ?_, ?_⟩
        · by_cases h78 : tx a = 78
          · rw [if_pos (show nI (tx a) = 78 from e1.mpr h78), if_pos (show (5 : Int32) ≤ nI b from nI_le (a := 5) (by omega) (by omega)), s0]
          · rw [if_neg (show ¬ nI (tx a) = 78 from fun z => h78 (e1.mp z)), s0]
        · have R : f_X6_readPart (nI b) (nI f) (nI len) (nI a) (-9) rb rf (nF tx) (nI (tx a)) = some (nI b, nI f, nI a, nI a, rb, rf) := by
            unfold f_X6_readPart
            by_cases h78 : tx a = 78
            · rw [if_pos (show nI (tx a) = 78 from e1.mpr h78), if_pos (show (5 : Int32) ≤ nI b from nI_le (a := 5) (by omega) (by omega)), p0]
            · rw [if_neg (show ¬ nI (tx a) = 78 from fun z => h78 (e1.mp z)), p0]
          rw [R, bnd6_some]
          cases fv with
          | zero => omega
          | succ w => rw [f_X6_readText_73, if_neg (n9 (show a < 100 by omega))]
end PRL
