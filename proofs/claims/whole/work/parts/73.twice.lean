/-! dust that falls twice by chance -/
def pwp (pr m : Nat) : Nat → Nat
  | 0 => 1
  | j + 1 => pwp pr m j * (if bitN m j then pr else 10 - pr)
def sw (n pr : Nat) : Nat → Nat
  | 0 => 0
  | i + 1 => sw n pr i + pwp pr i n
theorem has6 : ∀ e, e < 64 → ∀ b, b < 6 → f_X6_has (nI e) (nI b) = some (if bitN e b then 1 else 0) := by decide +kernel
theorem sh6 : ∀ e, e < 64 → ∀ b, b < 6 → (1 : Int32) + ((nI e >>> (nI b &&& 31)) &&& (1 : Int32)) = nI (if bitN e b then 2 else 1) := by decide +kernel
theorem pw10 : ∀ a, a < 11 → ∀ k, k < 7 → f_X5_power (nI a) (nI k) = some (lN (a ^ k)) := by decide +kernel
theorem pwp1 : ∀ n, n < 7 → ∀ m, m < 64 → m < 2 ^ n → ∀ pr, pr < 11 → pwp pr m n = pr ^ pcN m * (10 - pr) ^ (n - pcN m) := by decide +kernel
theorem sw1 : ∀ n, n < 7 → ∀ pr, pr < 11 → sw n pr (2 ^ n) = 10 ^ n := by decide +kernel
theorem pc6 : ∀ n, n < 7 → ∀ m, m < 64 → m < 2 ^ n → pcN m ≤ n := by decide +kernel
theorem shl6 : ∀ b, b < 7 → (1 : Int32) <<< (nI b &&& 31) = nI (2 ^ b) := by decide +kernel
theorem p26 : ∀ n, n < 7 → 2 ^ n ≤ 64 := by decide
theorem p10 : ∀ n, n < 7 → 0 < 10 ^ n := by decide
theorem p11 : ∀ n, n < 7 → 10 ^ n < 2 ^ 20 := by decide
section TWC
variable {br fa : Nat} {st kd fs fl : Nat → Nat} {g e : Nat} {p : Nat → Nat}
theorem tw_l {ng ne nt : Int32} {nd np : Nat → Int32} {kk : Int32 → Int32 → Int32 → Int32 → Int32 → Int32 → Int32 → (Nat → Int32) → Option (Int32 × (Nat → Int32))} {s n m pr A B : Nat} {u : Int32} (hT : TOK br fa st kd fs fl) (hs : s < 8) (hn : n < 7) (hm : m < 64) (hpr : pr < 11) : ∀ (k j fu fv bd t : Nat) (d y : Nat → Nat) (de : Nat → Int32), j + k = n → k < fu → k < fv → bd + k < 2 ^ 30 → MOK br bd d p g e t → AG br d p g e t y 16 → ∃ (r : Nat) (t2 : Int32) (D y1 : Nat → Nat) (de' : Nat → Int32), r < 2 ∧ f_X5_isDeepBehind_9 (nI br) (nI fa) (nF st) (nF kd) (nF fs) (nF fl) ng ne nt nd np fu (nI s) (nI n) (nI m) (nI j) (nI g) (nI e) (nI t) (nF d) (nF p) de = some (nI r, nI g, nI e, t2, nF D, nF p, de') ∧ f_X6_twice_63 (nI br) (nI fa) 31 (nF st) (nF kd) (nF fs) (nF fl) kk fv (nI s) (nI n) (nI pr) u (nI A) (nI B) (nI m) (nI (pwp pr m j)) (nI j) (nF y) = kk (nI s) (nI n) (nI pr) u (nI (A + r * pwp pr m n)) (nI (B + pwp pr m n)) (nI (m + 1)) (nF y1) ∧ B99 D ∧ FR y y1 16
  | 0, j, 0, fv, bd, t, d, y, de, _, hf, _, _, _, _ => absurd hf (Nat.not_lt_zero _)
  | 0, j, fu + 1, 0, bd, t, d, y, de, _, _, hf, _, _, _ => absurd hf (Nat.not_lt_zero _)
  | 0, j, fu + 1, fv + 1, bd, t, d, y, de, hi, _, _, _, hM, ha => by
    obtain rfl : j = n := by omega
    have hd := hM.1 s
    rw [f_X5_isDeepBehind_9, if_pos (nI_le (Nat.le_refl _) (by omega)), isDeep1 hs hd, bnd1_some, f_X6_twice_63, if_pos (nI_le (Nat.le_refl _) (by omega)), show (16 : Int32) = nI 16 from rfl, nI_add, rd_nF (by omega) (by decide), bnd1_some, ha.1 s hs]
    unfold f_X6_twice_147
    rw [nI_1, nI_add]
    by_cases hq : dpN d s = 0
    · refine ⟨0, nI t, d, y, de, by decide, ?_, ?_, hM.1, FR.rf⟩
      · rw [if_pos hq, zr_0, bnd1_some]
        rfl
      · rw [if_pos ((dp_lt hd).mpr hq), show (0 : Int32) = nI 0 from rfl, nI_add, Nat.zero_mul]
    · refine ⟨1, nI t, d, y, de, by decide, ?_, ?_, hM.1, FR.rf⟩
      · rw [if_neg hq, zr_1, bnd1_some]
        rfl
      · rw [if_neg (fun q => hq ((dp_lt hd).mp q)), nI_add, Nat.one_mul]
  | k + 1, j, 0, fv, bd, t, d, y, de, _, hf, _, _, _, _ => absurd hf (Nat.not_lt_zero _)
  | k + 1, j, fu + 1, 0, bd, t, d, y, de, _, _, hf, _, _, _ => absurd hf (Nat.not_lt_zero _)
  | k + 1, j, fu + 1, fv + 1, bd, t, d, y, de, hi, hf, hf2, hb, hM, ha => by
    obtain ⟨D, y1, de1, c1, c2, c3, c4, c5⟩ := dawn1 (times := if bitN m j then 2 else 1) (lv := 1) (w := 31) hT hM (by omega) (by decide) (by decide) (by split <;> decide) ha de
    obtain ⟨r, t2, D2, y2, de2, r2, k1, k2, k3, k4⟩ := tw_l (ng := ng) (ne := ne) (nt := nt) (nd := nd) (np := np) (kk := kk) (A := A) (B := B) (u := u) hT hs hn hm hpr k (j + 1) fu fv (bd + 1) (t + 1) D y1 de1 (by omega) (by omega) (by omega) (by omega) c5 c3
    refine ⟨r, t2, D2, y2, de2, r2, ?_, ?_, k3, FR.tr c4 k4⟩
    · rw [f_X5_isDeepBehind_9, if_neg (nI_ge (by omega) (by omega)), sh6 m hm j (by omega), show (31 : Int32) = nI 31 from rfl, c1, bnd3_some, nI_1, k1]
    · have e1 : (10 : Int32) - nI pr = nI (10 - pr) := pk_sub (a := 10) (by omega)
      rw [f_X6_twice_63, if_neg (nI_ge (by omega) (by omega)), has6 m hm j (by omega), bnd1_some]
      unfold f_X6_twice_89 f_X6_twice_109
      rw [has6 m hm j (by omega), bnd1_some, e1, nI_1]
      rw [pwp] at k2
      cases hbit : bitN m j
      · rw [hbit] at c2 k2
        rw [if_pos (by decide), if_pos (by decide), pk_mul, show f_X6_passOn (nI br) (nI fa) 31 (nF st) (nF kd) (nF fs) (nF fl) (nF y) 1 1 = some (nF y1) from c2, bnd1_some]
        exact k2
      · rw [hbit] at c2 k2
        rw [if_pos (show true = true from rfl), if_neg i1_0, bnd1_some, if_neg i1_0, pk_mul, show f_X6_passOn (nI br) (nI fa) 31 (nF st) (nF kd) (nF fs) (nF fl) (nF y) 1 2 = some (nF y1) from c2, bnd1_some]
        exact k2
theorem tw_o {bd t s n pr : Nat} {d : Nat → Nat} {u : Int32} (hT : TOK br fa st kd fs fl) (hM : MOK br bd d p g e t) (hbd : bd < 2 ^ 29) (hs : s < 8) (hn : n < 7) (hpr : pr < 11) : ∀ (k i fu fv A : Nat) (ra rb y : Nat → Nat) (rg re rt : Int32) (de : Nat → Int32), i + k = 2 ^ n → k < fu → k < fv → A ≤ sw n pr i → B99 ra → AG br d p g e t y 0 → ∃ (r g2 e2 t2 : Int32) (rd2 rp2 y2 : Nat → Nat) (de2 : Nat → Int32), f_X5_twice_38 (nI br) (nI fa) (nF st) (nF kd) (nF fs) (nF fl) (nI g) (nI e) (nI t) (nF d) (nF p) fu (nI s) (nI n) (nI pr) u (lN A) (nI i) rg re rt (nF ra) (nF rb) de = some (r, g2, e2, t2, nF rd2, nF rp2, de2) ∧ f_X6_twice_45 (nI br) (nI fa) 31 (nF st) (nF kd) (nF fs) (nF fl) fv (nI s) (nI n) (nI pr) u (nI A) (nI (sw n pr i)) (nI i) (nF y) = some (r, nF y2) ∧ B99 rd2 ∧ FR y y2 16
  | 0, i, 0, fv, A, ra, rb, y, rg, re, rt, de, _, hf, _, _, _, _ => absurd hf (Nat.not_lt_zero _)
  | 0, i, fu + 1, 0, A, ra, rb, y, rg, re, rt, de, _, _, hf, _, _, _ => absurd hf (Nat.not_lt_zero _)
  | 0, i, fu + 1, fv + 1, A, ra, rb, y, rg, re, rt, de, hi, _, _, hA, hra, ha => by
    obtain rfl : i = 2 ^ n := by omega
    have h64 := p26 n hn
    have e1 := sw1 n hn pr hpr
    have f2 := p10 n hn
    have f3 := p11 n hn
    rw [e1] at hA
    obtain ⟨gg, q1, q2, q3, q4⟩ := frac (S := (A : Int)) (v4 := lN A) (v3 := nI A) (u := u) (pk_lT (by omega)) (nI_toInt (by omega)) (by omega) (by omega) f2 f3
    refine ⟨if u = 0 then nI (10 ^ n / gg) else nI A / nI gg, rg, re, rt, ra, rb, y, de, ?_, ?_, hra, FR.rf⟩
    · rw [f_X5_twice_38, shl6 n hn, if_pos (nI_le (Nat.le_refl _) (by omega)), show (10 : Int32) = nI 10 from rfl, pw10 10 (by decide) n hn, bnd1_some, q3, bnd1_some]
    · rw [f_X6_twice_45, shl6 n hn, if_pos (nI_le (Nat.le_refl _) (by omega)), e1]
      simp only [bnd1_some, q4, if_neg (nI_ne0 q1 (show gg < 2 ^ 31 by omega)), pk_div (show 10 ^ n < 2 ^ 31 by omega) q1 (show gg < 2 ^ 31 by omega)]
      by_cases hu : u = 0
      · rw [if_pos hu, if_pos hu]
      · rw [if_neg hu, if_neg hu]
  | k + 1, i, 0, fv, A, ra, rb, y, rg, re, rt, de, _, hf, _, _, _, _ => absurd hf (Nat.not_lt_zero _)
  | k + 1, i, fu + 1, 0, A, ra, rb, y, rg, re, rt, de, _, _, hf, _, _, _ => absurd hf (Nat.not_lt_zero _)
  | k + 1, i, fu + 1, fv + 1, A, ra, rb, y, rg, re, rt, de, hi, hf, hf2, hA, hra, ha => by
    have h64 := p26 n hn
    have hm : i < 64 := by omega
    have hm2 : i < 2 ^ n := by omega
    have e1 : (10 : Int32) - nI pr = nI (10 - pr) := pk_sub (a := 10) (by omega)
    obtain ⟨r, t2, D, y1, de1, r2, c1, c2, c3, c4⟩ := tw_l (ng := nI g) (ne := nI e) (nt := nI t) (nd := nF d) (np := nF p) (kk := f_X6_twice_45 (nI br) (nI fa) 31 (nF st) (nF kd) (nF fs) (nF fl) fv) (A := A) (B := sw n pr i) (u := u) hT hs hn hm hpr n 0 130 130 bd t _ _ de (Nat.zero_add n) (by omega) (by omega) (by omega) (trialM (rd := ra) (rp := rb) hT hM hra) (ha.lay (rd := ra) (rp := rb) hT.1)
    have hdb : f_X5_isDeepBehind (nI br) (nI fa) (nF st) (nF kd) (nF fs) (nF fl) (nI g) (nI e) (nI t) (nF d) (nF p) rg re rt (nF ra) (nF rb) de (nI s) (nI n) (nI i) = some (nI r, nI g, nI e, t2, nF D, nF (cN p rb 0 0 5), de1) := by
      unfold f_X5_isDeepBehind
      rw [copy1 hM.2.2.1, bnd5_some, show (0 : Int32) = nI 0 from rfl, c1]
    have hfr : FR y y1 16 := FR.lay.tr c4
    have hw := pwp1 n hn i hm hm2 pr hpr
    have hc := pc6 n hn i hm hm2
    have hA2 : A + r * pwp pr i n ≤ sw n pr (i + 1) := by
      rw [sw]
      rcases (show r = 0 ∨ r = 1 by omega) with rfl | rfl <;> omega
    obtain ⟨r', g2, e2, t3, D2, P2, y2, de2, k1, k2, k3, k4⟩ := tw_o (u := u) hT hM hbd hs hn hpr k (i + 1) fu fv (A + r * pwp pr i n) D (cN p rb 0 0 5) y1 (nI g) (nI e) t2 de1 (by omega) (by omega) (by omega) hA2 c3 (ha.fr hT.1 hfr)
    refine ⟨r', g2, e2, t3, D2, P2, y2, de2, ?_, ?_, k3, hfr.tr k4⟩
    · rw [f_X5_twice_38, shl6 n hn, if_neg (nI_ge (by omega) (by omega)), hdb, bnd7_some]
      unfold f_X5_twice_87
      rw [nI_1]
      rcases (show r = 0 ∨ r = 1 by omega) with rfl | rfl
      · rw [if_pos (show nI 0 = 0 from rfl)]
        rw [Nat.zero_mul, Nat.add_zero] at k1
        exact k1
      · rw [if_neg (show ¬ nI 1 = 0 by decide), pc1 i hm, bnd1_some, pw10 pr hpr (pcN i) (by omega), bnd1_some, e1, pk_sub hc, pw10 (10 - pr) (by omega) (n - pcN i) (by omega), bnd1_some, lN_mul, lN_add, ← hw]
        rw [Nat.one_mul] at k1
        exact k1
    · rw [f_X6_twice_45, shl6 n hn, if_neg (nI_ge (by omega) (by omega)), lay1, bnd1_some, show (1 : Int32) = nI (pwp pr i 0) from rfl, show (0 : Int32) = nI 0 from rfl, c2]
      exact k2
theorem sim_twice {bd t : Nat} {d rd rp y : Nat → Nat} {rg re rt : Int32} {de : Nat → Int32} (u v w x : Int32) (hT : TOK br fa st kd fs fl) (hM : MOK br bd d p g e t) (hrd : B99 rd) (hbd : bd < 2 ^ 29) (ha : AG br d p g e t y 0) : ∃ (r g2 e2 t2 : Int32) (rd2 rp2 y2 : Nat → Nat) (de2 : Nat → Int32), f_X5_twice (nI br) (nI fa) (nF st) (nF kd) (nF fs) (nF fl) (nI g) (nI e) (nI t) (nF d) (nF p) rg re rt (nF rd) (nF rp) de u v w x = some (r, g2, e2, t2, nF rd2, nF rp2, de2) ∧ f_X6_twice (nI br) (nI fa) 31 (nF st) (nF kd) (nF fs) (nF fl) (nF y) u v w x = some (r, nF y2) ∧ B99 rd2 ∧ FR y y2 16 := by
  have bad : ∀ r : Int32, ∃ (r' g2 e2 t2 : Int32) (rd2 rp2 y2 : Nat → Nat) (de2 : Nat → Int32), some (r, rg, re, rt, nF rd, nF rp, de) = some (r', g2, e2, t2, nF rd2, nF rp2, de2) ∧ some (r, nF y) = some (r', nF y2) ∧ B99 rd2 ∧ FR y y2 16 := fun r => ⟨r, rg, re, rt, rd, rp, y, de, rfl, rfl, hrd, FR.rf⟩
  unfold f_X5_twice f_X6_twice
  rcases bothS u with ⟨s, hs, rfl, h3, h4⟩ | ⟨h3, h4⟩
  · rw [h3, h4, bnd1_some, bnd1_some, if_neg i1_0, if_neg i1_0]
    rcases both v (a := 1) (b := 6) (by decide) (by decide) with ⟨n, q1, q2, rfl, q3, q4⟩ | ⟨q3, q4⟩
    · rw [show f_X5_within (nI n) (1 : Int32) (6 : Int32) = some 1 from q3, show f_X6_in (nI n).toInt64 (1 : Int64) (6 : Int64) = some 1 from q4, bnd1_some, bnd1_some, if_neg i1_0, if_neg i1_0]
      rcases both w (a := 0) (b := 10) (by decide) (by decide) with ⟨pr, o1, o2, rfl, o3, o4⟩ | ⟨o3, o4⟩
      · have h64 := p26 n (by omega)
        rw [show f_X5_within (nI pr) (0 : Int32) (10 : Int32) = some 1 from o3, show f_X6_in (nI pr).toInt64 (0 : Int64) (10 : Int64) = some 1 from o4, bnd1_some, bnd1_some, if_neg i1_0, if_neg i1_0, show (0 : Int64) = lN 0 from rfl, show (0 : Int32) = nI 0 from rfl]
        exact tw_o hT hM hbd hs (show n < 7 by omega) (show pr < 11 by omega) (2 ^ n) 0 130 130 0 rd rp y rg re rt de (Nat.zero_add _) (by omega) (by omega) (Nat.zero_le _) hrd ha
      · rw [show f_X5_within w (0 : Int32) (10 : Int32) = some 0 from o3, show f_X6_in w.toInt64 (0 : Int64) (10 : Int64) = some 0 from o4, bnd1_some, bnd1_some, if_pos rfl, if_pos rfl]
        exact bad _
    · rw [show f_X5_within v (1 : Int32) (6 : Int32) = some 0 from q3, show f_X6_in v.toInt64 (1 : Int64) (6 : Int64) = some 0 from q4, bnd1_some, bnd1_some, if_pos rfl, if_pos rfl]
      exact bad _
  · rw [h3, h4, bnd1_some, bnd1_some, if_pos rfl, if_pos rfl]
    exact bad _
end TWC
