section RST2
variable {br fa : Nat} {st kd fs fl : Nat → Nat} {bd g e t : Nat} {d p : Nat → Nat}
theorem sim_rests {rd rp y : Nat → Nat} {rg re rt : Int32} {de : Nat → Int32} (u v w : Int32) (hT : TOK br fa st kd fs fl) (hM : MOK br bd d p g e t) (hrd : B99 rd) (hbd : bd < 2 ^ 29) (ha : AG br d p g e t y 0) : ∃ (r g2 e2 t2 : Int32) (rd2 rp2 y2 : Nat → Nat) (de2 : Nat → Int32), f_X5_rests (nI br) (nI fa) (nF st) (nF kd) (nF fs) (nF fl) (nI g) (nI e) (nI t) (nF d) (nF p) rg re rt (nF rd) (nF rp) de u v w = some (r, g2, e2, t2, nF rd2, nF rp2, de2) ∧ f_X6_rests (nI br) (nI fa) 31 (nF st) (nF kd) (nF fs) (nF fl) (nF y) u v w = some (r, 31, nF y2) ∧ B99 rd2 ∧ FR y y2 16 := by
  have hbr := hT.1
  have bad : ∀ r : Int32, ∃ (r' g2 e2 t2 : Int32) (rd2 rp2 y2 : Nat → Nat) (de2 : Nat → Int32), some (r, rg, re, rt, nF rd, nF rp, de) = some (r', g2, e2, t2, nF rd2, nF rp2, de2) ∧ some (r, (31 : Int32), nF y) = some (r', 31, nF y2) ∧ B99 rd2 ∧ FR y y2 16 := fun r => ⟨r, rg, re, rt, rd, rp, y, de, rfl, rfl, hrd, FR.rf⟩
  unfold f_X5_rests f_X6_rests
  rcases bothB u hbr with ⟨a, ha5, rfl, h3, h4⟩ | ⟨h3, h4⟩
  · rw [h3, h4, bnd1_some, bnd1_some, if_neg i1_0, if_neg i1_0]
    rcases bothB v hbr with ⟨b, hb5, rfl, h5, h6⟩ | ⟨h5, h6⟩
    · rw [h5, h6, bnd1_some, bnd1_some, if_neg i1_0, if_neg i1_0]
      by_cases hab : a = b
      · subst hab
        rw [if_pos rfl, if_pos rfl]
        exact bad _
      · have hne : ¬ nI a = nI b := fun q => hab ((nI_eq (by omega) (by omega)).mp q)
        rw [if_neg hne, if_neg hne]
        rcases both w (a := 0) (b := 1) (by decide) (by decide) with ⟨k, q1, q2, rfl, q3, q4⟩ | ⟨q3, q4⟩
        · rw [show f_X5_within (nI k) (0 : Int32) (1 : Int32) = some 1 from q3, show f_X6_in (nI k).toInt64 (0 : Int64) (1 : Int64) = some 1 from q4, bnd1_some, bnd1_some, if_neg i1_0, if_neg i1_0, nm_eq]
          have mC := mkC a (by omega) b (by omega) hab
          generalize (31 : Int32) &&& ((((1 : Int32) <<< (nI a &&& 31)) ||| ((1 : Int32) <<< (nI b &&& 31))) ^^^ ((-1) : Int32)) = M at mC
          have ra : ∀ (fu x : Nat) (n F rg re rt : Int32) (r1 r2 r3 : Nat → Int32), x < 2 → f_X5_rests_65 (nI br) (nI fa) (nF st) (nF kd) (nF fs) (nF fl) (nI g) (nI e) (nI t) (nF d) (nF p) (fu + 1) (nI a) (nI b) (nI k) M n F (nI x) rg re rt r1 r2 r3 = f_X5_rests_74 (nI br) (nI fa) (nF st) (nF kd) (nF fs) (nF fl) (nI g) (nI e) (nI t) (nF d) (nF p) (f_X5_rests_65 (nI br) (nI fa) (nF st) (nF kd) (nF fs) (nF fl) (nI g) (nI e) (nI t) (nF d) (nF p) fu) 130 (nI a) (nI b) (nI k) M n F (nI x) (nI 0) rg re rt r1 r2 r3 := by
            intro fu x n F rg re rt r1 r2 r3 hx
            rw [f_X5_rests_65, if_neg (show ¬ (1 : Int32) < nI x from nI_nlt (a := 1) (by omega) (by decide))]
            rfl
          have rb : ∀ (fu : Nat) (n F rg re rt : Int32) (r1 r2 r3 : Nat → Int32), f_X5_rests_65 (nI br) (nI fa) (nF st) (nF kd) (nF fs) (nF fl) (nI g) (nI e) (nI t) (nF d) (nF p) (fu + 1) (nI a) (nI b) (nI k) M n F (nI 2) rg re rt r1 r2 r3 = some (if nI k = 0 then n else F, rg, re, rt, r1, r2, r3) := by
            intro fu n F rg re rt r1 r2 r3
            rw [f_X5_rests_65, if_pos (show (1 : Int32) < nI 2 by decide)]
            by_cases hk : nI k = 0
            · rw [if_pos hk, if_pos hk]
            · rw [if_neg hk, if_neg hk]
          have rc : ∀ (kk : Int32 → Int32 → Int32 → Int32 → Int32 → Int32 → Int32 → Int32 → Int32 → Int32 → (Nat → Int32) → (Nat → Int32) → (Nat → Int32) → Option (Int32 × Int32 × Int32 × Int32 × (Nat → Int32) × (Nat → Int32) × (Nat → Int32))) (fu x : Nat) (n F rg re rt : Int32) (r1 r2 r3 : Nat → Int32), f_X5_rests_74 (nI br) (nI fa) (nF st) (nF kd) (nF fs) (nF fl) (nI g) (nI e) (nI t) (nF d) (nF p) kk (fu + 1) (nI a) (nI b) (nI k) M n F (nI x) (nI (1 + 1)) rg re rt r1 r2 r3 = kk (nI a) (nI b) (nI k) M n F (nI (x + 1)) rg re rt r1 r2 r3 := by
            intro kk fu x n F rg re rt r1 r2 r3
            rw [f_X5_rests_74, if_pos (show (1 : Int32) < nI (1 + 1) by decide), nI_1]
          have md : ∀ (fu : Nat) (n F : Int32) (z : Nat → Int32), f_X6_rests_46 (nI br) (nI fa) (nF st) (nF kd) (nF fs) (nF fl) (fu + 1) (nI a) (nI b) (nI k) n F (nI (2 * 1 + 1 + 1)) 31 z = some (if nI k = 0 then n else F, 31, z) := by
            intro fu n F z
            rw [f_X6_rests_46, if_pos (show (4 : Int32) ≤ nI (2 * 1 + 1 + 1) by decide)]
            by_cases hk : nI k = 0
            · rw [if_pos hk, if_pos hk]
            · rw [if_neg hk, if_neg hk]
          obtain ⟨n1, F1, g1, e1, t1, r1, p1, y1, de1, c1, c2, c3, c4, c5, c6⟩ := rest_s (kk := f_X5_rests_65 (nI br) (nI fa) (nF st) (nF kd) (nF fs) (nF fl) (nI g) (nI e) (nI t) (nF d) (nF p) 129) (fu := 129) (fv := 129) (u := nI k) (x := 0) (z := 0) (n := 0) (F := -9) (rb := rp) (rg := rg) (re := re) (rt := rt) de hT hM hbd ha5 hb5 hab (by decide) (by decide) (mC 0 (by decide) 0 (by decide)) ⟨fun _ => rfl, fun _ => rfl⟩ (by decide) hrd ha
          obtain ⟨n2, F2, g2, e2, t2, r2, p2, y2, de2, d1, d2, d3, d4, d5, d6⟩ := rest_s (kk := f_X5_rests_65 (nI br) (nI fa) (nF st) (nF kd) (nF fs) (nF fl) (nI g) (nI e) (nI t) (nF d) (nF p) 129) (fu := 128) (fv := 128) (u := nI k) (x := 0) (z := 1) (rb := p1) (rg := g1) (re := e1) (rt := t1) de1 hT hM hbd ha5 hb5 hab (by decide) (by decide) (mC 0 (by decide) 1 (by decide)) c3 (by omega) c5 (ha.fr hbr c6)
          have a2 := (ha.fr hbr c6).fr hbr d6
          obtain ⟨n3, F3, g3, e3, t3, r3, p3, y3, de3, i1, i2, i3, i4, i5, i6⟩ := rest_s (kk := f_X5_rests_65 (nI br) (nI fa) (nF st) (nF kd) (nF fs) (nF fl) (nI g) (nI e) (nI t) (nF d) (nF p) 128) (fu := 129) (fv := 127) (u := nI k) (x := 1) (z := 0) (rb := p2) (rg := g2) (re := e2) (rt := t2) de2 hT hM hbd ha5 hb5 hab (by decide) (by decide) (mC 1 (by decide) 0 (by decide)) d3 (by omega) d5 a2
          obtain ⟨n4, F4, g4, e4, t4, r4, p4, y4, de4, j1, j2, j3, j4, j5, j6⟩ := rest_s (kk := f_X5_rests_65 (nI br) (nI fa) (nF st) (nF kd) (nF fs) (nF fl) (nI g) (nI e) (nI t) (nF d) (nF p) 128) (fu := 128) (fv := 126) (u := nI k) (x := 1) (z := 1) (rb := p3) (rg := g3) (re := e3) (rt := t3) de3 hT hM hbd ha5 hb5 hab (by decide) (by decide) (mC 1 (by decide) 1 (by decide)) i3 (by omega) i5 (a2.fr hbr i6)
          refine ⟨if nI k = 0 then nI n4 else F4, g4, e4, t4, r4, p4, y4, de4, ?_, ?_, j5, ((c6.tr d6).tr i6).tr j6⟩
          · exact (ra 129 0 _ _ _ _ _ _ _ _ (by decide)).trans (c1.trans (d1.trans ((rc _ 127 0 _ _ _ _ _ _ _ _).trans ((ra 128 1 _ _ _ _ _ _ _ _ (by decide)).trans (i1.trans (j1.trans ((rc _ 127 1 _ _ _ _ _ _ _ _).trans (rb 127 _ _ _ _ _ _ _ _))))))))
          · exact c2.trans (d2.trans (i2.trans (j2.trans (md 125 _ _ _))))
        · rw [show f_X5_within w (0 : Int32) (1 : Int32) = some 0 from q3, show f_X6_in w.toInt64 (0 : Int64) (1 : Int64) = some 0 from q4, bnd1_some, bnd1_some, if_pos rfl, if_pos rfl]
          exact bad _
    · rw [h5, h6, bnd1_some, bnd1_some, if_pos rfl, if_pos rfl]
      exact bad _
  · rw [h3, h4, bnd1_some, bnd1_some, if_pos rfl, if_pos rfl]
    exact bad _
end RST2
