/-! the state of both sides at the law's head -/
abbrev SF (G : Gt) (ad : Nat → Nat) (ch : Int64) (len : Nat) (tx : Nat → Nat) (br : Nat) (fa : Nat) (fd : Nat → Nat) (fp : Nat → Nat) (st : Nat → Nat) (kd : Nat → Nat) (fs : Nat → Nat) (fl : Nat → Nat) (g : Nat) (e : Nat) (t : Nat) (d : Nat → Nat) (p : Nat → Nat) (nde : Nat → Int32) (rg : Int32) (re : Int32) (rt : Int32) (rd : Nat → Nat) (rp : Nat → Nat) (rde : Nat → Int32) (af : Nat) (na : Nat) (ac : Nat → Nat) (hs : Nat) (hb : Nat → Nat) (hl : Nat → Nat) (hw : Nat → Nat) (ks : Nat → Nat) (jf : Nat → Nat) : va_W := W_F G (ad 0) (ad 1) (ad 2) (ad 3) (ad 4) (ad 5) (ad 6) (ad 7) (ad 8) (ad 9) (ad 10) (ad 11) (ad 12) (ad 13) (ad 14) (ad 15) (ad 16) (ad 17) (ad 18) (ad 19) (ad 20) (ad 21) (ad 22) (ad 23) (ad 24) (ad 25) ch (nI len) (nF tx) (nI br) (nI fa) (nF fd) (nF fp) (nF st) (nF kd) (nF fs) (nF fl) (nI g) (nI e) (nI t) (nF d) (nF p) nde rg re rt (nF rd) (nF rp) rde (nI af) (nI na) (nF ac) (nI hs) (nF hb) (nF hl) (nF hw) (nF ks) (nF jf)
abbrev SY (G : Gt) (ay : Nat → Nat) (ch : Int64) (len : Nat) (tx : Nat → Nat) (br : Nat) (fa : Nat) (st : Nat → Nat) (kd : Nat → Nat) (fs : Nat → Nat) (fl : Nat → Nat) (na : Nat) (nx : Nat) (hs : Nat) (y : Nat → Nat) (yr : Nat → Nat) (hb : Nat → Nat) (hl : Nat → Nat) (hw : Nat → Nat) (jf : Nat → Nat) (kp : Nat → Nat) (xb : Int32) (xf : Int32) (xa : Int32) (xu : Int32) (r8 : Nat → Int32) (rb : Nat → Int32) (rf : Nat → Int32) : va_W := W_Y G (ay 0) (ay 1) (ay 2) (ay 3) (ay 4) (ay 5) (ay 6) (ay 7) (ay 8) (ay 9) (ay 10) (ay 11) (ay 12) (ay 13) (ay 14) (ay 15) (nI br) (nI fa) xb xf (nI len) xa xu 31 (nI na) (nI nx) (nI hs) ch (nF st) (nF kd) (nF fs) (nF fl) (nF y) r8 rb rf (nF tx) (nF yr) (nF hb) (nF hl) (nF hw) (nF jf) (nF kp)
def ST (G : Gt) (ad ay : Nat → Nat) (bd : Nat) (w v : va_W) : Prop := ∃ (ch : Int64) (len : Nat) (tx : Nat → Nat) (br : Nat) (fa : Nat) (fd : Nat → Nat) (fp : Nat → Nat) (st : Nat → Nat) (kd : Nat → Nat) (fs : Nat → Nat) (fl : Nat → Nat) (g : Nat) (e : Nat) (t : Nat) (d : Nat → Nat) (p : Nat → Nat) (nde : Nat → Int32) (rg : Int32) (re : Int32) (rt : Int32) (rd : Nat → Nat) (rp : Nat → Nat) (rde : Nat → Int32) (af : Nat) (na : Nat) (ac : Nat → Nat) (hs : Nat) (hb : Nat → Nat) (hl : Nat → Nat) (hw : Nat → Nat) (ks : Nat → Nat) (jf : Nat → Nat) (xb : Int32) (xf : Int32) (xa : Int32) (xu : Int32) (nx : Nat) (y : Nat → Nat) (r8 : Nat → Int32) (rb : Nat → Int32) (rf : Nat → Int32) (yr : Nat → Nat) (kp : Nat → Nat), w = SF G ad ch len tx br fa fd fp st kd fs fl g e t d p nde rg re rt rd rp rde af na ac hs hb hl hw ks jf ∧ v = SY G ay ch len tx br fa st kd fs fl na nx hs y yr hb hl hw jf kp xb xf xa xu r8 rb rf ∧ (len ≤ 48) ∧ (∀ k, tx k ≤ 255) ∧ (TOK br fa st kd fs fl) ∧ (MOK br bd d p g e t) ∧ (AG br d p g e t y 0) ∧ (B99 rd) ∧ (RA br bd na af ac nx yr) ∧ (HOK hs hb hl hw) ∧ (RK br bd jf ks kp)
def AD (ad : Nat → Nat) : List Nat := [ad 0, ad 1, ad 2, ad 3, ad 4, ad 5, ad 6, ad 7, ad 8, ad 9, ad 10, ad 11, ad 12, ad 13, ad 14, ad 15, ad 16, ad 17, ad 18, ad 19, ad 20, ad 21, ad 22, ad 23, ad 24, ad 25]
def AY (ay : Nat → Nat) : List Nat := [ay 0, ay 1, ay 2, ay 3, ay 4, ay 5, ay 6, ay 7, ay 8, ay 9, ay 10, ay 11, ay 12, ay 13, ay 14, ay 15]
theorem ST.x {G : Gt} {ad ay : Nat → Nat} {bd : Nat} {w v : va_W} (h : ST G ad ay bd w v) : (∃ fs, w[0]? = some (ad 0, .inr (5, fs))) ∧ (∃ fs, v[0]? = some (ay 0, .inr (6, fs))) ∧ w.map Prod.fst = AD ad ∧ v.map Prod.fst = AY ay := by
  obtain ⟨ch, len, tx, br, fa, fd, fp, st, kd, fs, fl, g, e, t, d, p, nde, rg, re, rt, rd, rp, rde, af, na, ac, hs, hb, hl, hw, ks, jf, xb, xf, xa, xu, nx, y, r8, rb, rf, yr, kp, rfl, rfl, P1, P2, PT, PM, PA, PB, PR, PH, PK⟩ := h
  exact ⟨⟨_, rfl⟩, ⟨_, rfl⟩, rfl, rfl⟩
theorem keptP {A : Nat → Prop} {D : va_G} {cl : List vw_C} {wc wr : va_W} {H H1 : Heap} (hP : va_P D cl wr H) (hD : va_D A (wc ++ wr)) (hk : ∀ q : Nat, q < H.size → ¬ va_A wc H.size q → H1[q]? = H[q]?) : va_P D cl wr H1 := by
  intro k q hq
  have hat := hP k q hq
  have hlt := hat.lt
  refine hat.kept (hk q.1 hlt ?_)
  intro hh
  rcases hh with ⟨j, e, hj⟩ | hj
  · have h1 : (wc ++ wr)[j]? = some (q.1, e) := by
      rw [List.getElem?_append_left (List.getElem?_eq_some_iff.mp hj).1]
      exact hj
    have h2 : (wc ++ wr)[wc.length + k]? = some q := by
      rw [List.getElem?_append_right (by omega), show wc.length + k - wc.length = k by omega]
      exact hq
    have h3 := hD.1 j (wc.length + k) (q.1, e) q h1 h2 rfl
    have h4 := (List.getElem?_eq_some_iff.mp hj).1
    omega
  · omega
theorem cLi {p : Program} {l : Launch} {e : Env} {R : Room} {s : State} {m : MethodId} {args : Array Value} {below : List Frame} {meth : Method} {c : Code} {H : Heap} {locs : List Loc} {cells slots : Nat} {Q : State → Prop} {cc bytes : ByteArray} {nL maxL index n fr lo : Nat} {own C : String} {y : MethodName} {ret : Option FieldType} {Ts wy : List Cond} {G : Gt} {A : Nat → Prop} {wc wr w1 : va_W} {b : Addr} {As rest st0 : List Value} {pc : Nat} {ls : Array Slot} {r : Int32} (S : CallFix p m c cc nL s args Ts own) (hK : KG G s) (hA : ∀ q : Nat, s.heap.size ≤ q → A q) (hP : va_P G.1 vwCl wc H) (hP2 : va_P G.1 vwCl wr H) (hD : va_D A (wc ++ wr)) (hS : va_S A s.heap H locs) (hM : CT l y wy fr lo G (.ref b :: As) wc (QI G r w1)) (cw : CallW R s args own C index y bytes maxL ret wy (rmv fr lo) 0 0 n) (ci : Nat) {q : vw_C} (hc : vwCl[ci]? = some q) (hq : q.1 = C) (he : ∃ fs, wc[0]? = some (b, .inr (ci, fs))) (hn : As.length = n) (hsz : ls.size = nL) (hst : st0 = As.reverse ++ .ref b :: rest) (hW : (rest.map fun v => v.category).sum ≤ 8) (hdg : decode cc pc = .ok (.invokevirtual index, 3)) (hf : cells ≤ R.cells ∧ slots ≤ R.slots)
    (kk : ∀ (H1 : Heap) (locs1 : List Loc), va_P G.1 vwCl w1 H1 → va_P G.1 vwCl wr H1 → va_S A s.heap H1 locs1 → W p l e R s m args below meth c H1 locs1 cells slots Q (F0 m (pc + 3) ls (.int r :: rest))) : W p l e R s m args below meth c H locs cells slots Q (F0 m pc ls st0) := by
  obtain ⟨fs, he⟩ := he
  have at1 : ∀ (k : Nat) (q : Nat × va_E), wc[k]? = some q → (wc ++ wr)[k]? = some q := fun k q h => by
    rw [List.getElem?_append_left (List.getElem?_eq_some_iff.mp h).1]
    exact h
  have hFc : ∀ q, va_A wc H.size q → A q := by
    intro q h
    rcases h with ⟨k, e, h⟩ | h
    · exact hD.2 k (q, e) (at1 k _ h)
    · exact hA q (Nat.le_trans hS.1 h)
  have hDc : va_D (fun _ => True) wc := ⟨fun i j p q hp hq h => hD.1 i j p q (at1 i p hp) (at1 j q hq) h, fun _ _ _ => trivial⟩
  refine va_calli (va_runV (As := As) (rest := rest) S (hM H.size) cw ⟨fb, by rw [← hq]; exact va_recv hK.1 hP hc he, fun U hU hW => ⟨rfl, by rw [hU], by rw [hU]; exact hP, KG.moved hW hK, hDc⟩⟩ rfl hn hsz hst (lv_room hW) hdg hf) hS (fun q _ h => hFc q h) hFc (fun r' u t H1 locs1 ht hvm hw hB hz1 hk1 hS1 => ?_)
  obtain rfl : r' = r := hw
  exact kk H1 locs1 (by rw [← ht]; exact hB) (keptP hP2 hD hk1) hS1
theorem cLl {p : Program} {l : Launch} {e : Env} {R : Room} {s : State} {m : MethodId} {args : Array Value} {below : List Frame} {meth : Method} {c : Code} {H : Heap} {locs : List Loc} {cells slots : Nat} {Q : State → Prop} {cc bytes : ByteArray} {nL maxL index n fr lo : Nat} {own C : String} {y : MethodName} {ret : Option FieldType} {Ts wy : List Cond} {G : Gt} {A : Nat → Prop} {wc wr w1 : va_W} {b : Addr} {As rest st0 : List Value} {pc : Nat} {ls : Array Slot} {r : Int64} (S : CallFix p m c cc nL s args Ts own) (hK : KG G s) (hA : ∀ q : Nat, s.heap.size ≤ q → A q) (hP : va_P G.1 vwCl wc H) (hP2 : va_P G.1 vwCl wr H) (hD : va_D A (wc ++ wr)) (hS : va_S A s.heap H locs) (hM : CT l y wy fr lo G (.ref b :: As) wc (QL G r w1)) (cw : CallW R s args own C index y bytes maxL ret wy (rmv fr lo) 0 0 n) (ci : Nat) {q : vw_C} (hc : vwCl[ci]? = some q) (hq : q.1 = C) (he : ∃ fs, wc[0]? = some (b, .inr (ci, fs))) (hn : As.length = n) (hsz : ls.size = nL) (hst : st0 = As.reverse ++ .ref b :: rest) (hW : (rest.map fun v => v.category).sum ≤ 8) (hdg : decode cc pc = .ok (.invokevirtual index, 3)) (hf : cells ≤ R.cells ∧ slots ≤ R.slots)
    (kk : ∀ (H1 : Heap) (locs1 : List Loc), va_P G.1 vwCl w1 H1 → va_P G.1 vwCl wr H1 → va_S A s.heap H1 locs1 → W p l e R s m args below meth c H1 locs1 cells slots Q (F0 m (pc + 3) ls (.long r :: rest))) : W p l e R s m args below meth c H locs cells slots Q (F0 m pc ls st0) := by
  obtain ⟨fs, he⟩ := he
  have at1 : ∀ (k : Nat) (q : Nat × va_E), wc[k]? = some q → (wc ++ wr)[k]? = some q := fun k q h => by
    rw [List.getElem?_append_left (List.getElem?_eq_some_iff.mp h).1]
    exact h
  have hFc : ∀ q, va_A wc H.size q → A q := by
    intro q h
    rcases h with ⟨k, e, h⟩ | h
    · exact hD.2 k (q, e) (at1 k _ h)
    · exact hA q (Nat.le_trans hS.1 h)
  have hDc : va_D (fun _ => True) wc := ⟨fun i j p q hp hq h => hD.1 i j p q (at1 i p hp) (at1 j q hq) h, fun _ _ _ => trivial⟩
  refine va_calll (va_runV (As := As) (rest := rest) S (hM H.size) cw ⟨fb, by rw [← hq]; exact va_recv hK.1 hP hc he, fun U hU hW => ⟨rfl, by rw [hU], by rw [hU]; exact hP, KG.moved hW hK, hDc⟩⟩ rfl hn hsz hst (lv_room hW) hdg hf) hS (fun q _ h => hFc q h) hFc (fun r' u t H1 locs1 ht hvm hw hB hz1 hk1 hS1 => ?_)
  obtain rfl : r' = r := hw
  exact kk H1 locs1 (by rw [← ht]; exact hB) (keptP hP2 hD hk1) hS1
