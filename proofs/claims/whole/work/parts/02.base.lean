/-! the shape of all contracts here: a world of known cells, a pure outcome -/
def nestF : List (String × Nat × String × String × String × String) := [("DustVote", 65, "DustVote$Script", "length", "I", "DustVote"), ("DustVote$Told", 43, "DustVote$Script", "length", "I", "DustVote"), ("DustVote$Moment", 37, "DustVote$Told", "firstDust", "[I", "DustVote"), ("DustVote$Moment", 48, "DustVote$Told", "firstPlace", "[I", "DustVote"), ("DustVote$Moment", 100, "DustVote$Told", "fallStreet", "[I", "DustVote"), ("DustVote$Moment", 103, "DustVote$Told", "fallDust", "[I", "DustVote"), ("DustVote", 87, "DustVote$Told", "brooms", "I", "DustVote"), ("DustVote$Moment", 65, "DustVote$Told", "brooms", "I", "DustVote"), ("DustVote", 90, "DustVote$Told", "falls", "I", "DustVote"), ("DustVote$Moment", 97, "DustVote$Told", "falls", "I", "DustVote"), ("DustVote", 142, "DustVote$Moment", "given", "Z", "DustVote"), ("DustVote", 149, "DustVote$Moment", "bent", "I", "DustVote"), ("DustVote", 241, "DustVote$Moment", "dawns", "I", "DustVote"), ("DustVote", 160, "DustVote$ActRow", "size", "I", "DustVote"), ("DustVote", 203, "DustVote$Heaps", "size", "I", "DustVote")]
def nestM : List (String × Nat × MethodName × String) := [("DustVote", 11, ⟨"DustVote$Script", "<init>", "()V"⟩, "DustVote"), ("DustVote", 18, ⟨"DustVote$Told", "<init>", "()V"⟩, "DustVote"), ("DustVote", 37, ⟨"DustVote$ActRow", "<init>", "()V"⟩, "DustVote"), ("DustVote", 44, ⟨"DustVote$Heaps", "<init>", "()V"⟩, "DustVote"), ("DustVote$Script", 26, ⟨"DustVote", "within", "(III)Z"⟩, "DustVote"), ("DustVote$Script", 40, ⟨"DustVote", "isStreet", "(I)Z"⟩, "DustVote"), ("DustVote$Moment", 51, ⟨"DustVote", "isStreet", "(I)Z"⟩, "DustVote")]
abbrev Gt : Type := va_G × ClassId × ClassId
def KG (G : Gt) (U : State) : Prop := va_K G.1 vwCl [(G.2.1, .int), (G.2.2, .boolean)] U ∧ (∀ q ∈ nestF, va_Nw (.fieldLinkNest q.1 q.2.1 q.2.2.1 q.2.2.2.1 q.2.2.2.2.1 q.2.2.2.2.2) U) ∧ (∀ q ∈ nestM, va_Nw (.methodLinkNest q.1 q.2.1 q.2.2.1 q.2.2.2) U)
theorem KG.moved {G : Gt} {s U : State} (hW : s.WarmedH U.vm) (h : KG G s) : KG G U := ⟨va_K.moved hW.alike h.1, fun q hq => va_Nw.warmF hW (h.2.1 q hq), fun q hq => va_Nw.warmM hW (h.2.2 q hq)⟩
theorem KG.same {G : Gt} {s U : State} (hv : s.vm = U.vm) (h : KG G s) : KG G U := ⟨va_K.moved (hv ▸ Vm.Alike.refl s.vm) h.1, fun q hq => va_Nw.same rfl hv (h.2.1 q hq), fun q hq => va_Nw.same rfl hv (h.2.2 q hq)⟩
theorem KG.f {G : Gt} {s : State} {args : Array Value} (h : KG G s) {a : String} {i : Nat} {b n d t : String} (hm : (a, i, b, n, d, t) ∈ nestF) : (Cond.fieldLinkNest a i b n d t).before args s = true := va_Nw.use rfl (h.2.1 _ hm)
theorem KG.m {G : Gt} {s : State} (h : KG G s) {a : String} {i : Nat} {y : MethodName} {t : String} (hm : (a, i, y, t) ∈ nestM) : va_Nw (.methodLinkNest a i y t) s := h.2.2 _ hm
def PR (G : Gt) (ws : va_W) (sz : Nat) (U : State) : Prop := U.heap.size = sz ∧ va_P G.1 vwCl ws U.heap ∧ KG G U ∧ va_D (fun _ => True) ws
theorem fb {G : Gt} {av : List Value} {ws : va_W} {sz : Nat} : FrameBlind (va_Pc av (PR G ws sz)) := fun a U g mk q => ⟨q.1, q.2.1, q.2.2.1, KG.same (s := U) (U := U.calling g mk a) rfl q.2.2.2.1, q.2.2.2.2⟩
abbrev QI (G : Gt) (r : Int32) (w1 : va_W) (A : Nat → Prop) : Array Value → State → Outcome → State → Prop := va_Qi (fun (r' : Int32) (_ : Unit) => r' = r) (fun _ t => va_P G.1 vwCl w1 t.heap) A
abbrev QL (G : Gt) (r : Int64) (w1 : va_W) (A : Nat → Prop) : Array Value → State → Outcome → State → Prop := va_Ql (fun (r' : Int64) (_ : Unit) => r' = r) (fun _ t => va_P G.1 vwCl w1 t.heap) A
abbrev QV (G : Gt) (w1 : va_W) (A : Nat → Prop) : Array Value → State → Outcome → State → Prop := va_Qv (fun (_ : Unit) => True) (fun _ t => va_P G.1 vwCl w1 t.heap) A
abbrev QR (G : Gt) (a : Nat) (w1 : va_W) (A : Nat → Prop) : Array Value → State → Outcome → State → Prop := va_Qr (fun (_ : Unit) => True) (fun _ a' t => a' = a ∧ va_P G.1 vwCl w1 t.heap) A
abbrev rmv (fr lo : Nat) : Room := { frames := fr, cells := 0, slots := 0, locals := lo }
def CT (l : Launch) (y : MethodName) (wy : List Cond) (fr lo : Nat) (G : Gt) (av : List Value) (w0 : va_W) (Qc : (Nat → Prop) → Array Value → State → Outcome → State → Prop) : Prop := ∀ sz : Nat, Met l y wy (rmv fr lo) (va_Pc av (PR G w0 sz)) (Qc (va_A w0 sz)) 0 0 (va_A w0 sz)
theorem met_of {l : Launch} {y : MethodName} {wy wy' : List Cond} {fr lo : Nat} {G : Gt} {av : List Value} {w0 : va_W} {Qc : (Nat → Prop) → Array Value → State → Outcome → State → Prop} (cc : ByteArray) (maxL : Nat) (ret : Option FieldType) (hy : plainName y.cls = true) (hw : wy = Cond.code y cc maxL ret :: wy') (hlen : (lg_sl av).length ≤ maxL)
    (body : ∀ (p : Program) (e : Env) (s : State) (m : MethodId) (below : List Frame) (meth : Method) (c : Code) (A : Nat → Prop) (ls : Array Slot), p.tables.exec = Jvm.exec → c.code = cc → meth.sig.returnType = ret → c.maxLocals = maxL → (∀ w ∈ wy, w.before av.toArray s = true) → s.vm.findClass y.cls = some m.cls → meth.locks = false → KG G s → (∀ q : Nat, s.heap.size ≤ q → A q) → va_D A w0 → va_P G.1 vwCl w0 s.heap → va_S A s.heap s.heap [] → lv_has ls maxL (lv_args 0 av) →
      W p l e (rmv fr lo) s m av.toArray below meth c s.heap [] 0 0 (MQ below (Qc A) av.toArray s 0 0 A) (F0 m 0 ls [])) : CT l y wy fr lo G av w0 Qc := by
  intro sz
  refine Met.ofW (cc := cc) (maxL := maxL) (ret := ret) hy hw ?_
  intro p e s m args below meth c s₁ B hml hv
  obtain ⟨rfl, hsz, hP, hK, hD0⟩ := hv
  subst hsz
  have hD := hD0.self (sz := s.heap.size)
  rw [lg_entry_eq]
  exact body p e s m below meth c _ _ B.exec B.bytes B.returns hml (atoms_spec (ws := wy) B.pre) (findClass_of_methodNamed B.named) B.notSynchronized hK (fun q h => Or.inr h) hD hP va_S.rf (lv_entry av hlen)
theorem va_D_same {A : Nat → Prop} {ws ws' : va_W} (h : va_D A ws) (e : ws.map Prod.fst = ws'.map Prod.fst) : va_D A ws' := by
  have at' : ∀ (k : Nat) (q : Nat × va_E), ws'[k]? = some q → ∃ p : Nat × va_E, ws[k]? = some p ∧ p.1 = q.1 := by
    intro k q hq
    have h1 : (ws'.map Prod.fst)[k]? = some q.1 := by rw [List.getElem?_map, hq]; rfl
    rw [← e, List.getElem?_map] at h1
    cases hk : ws[k]? with
    | none => rw [hk] at h1; cases h1
    | some p => rw [hk] at h1; exact ⟨p, rfl, Option.some.inj h1⟩
  refine ⟨fun i j p q hp hq hpq => ?_, fun k q hq => ?_⟩
  · obtain ⟨p', hp', ep⟩ := at' i p hp
    obtain ⟨q', hq', eq⟩ := at' j q hq
    exact h.1 i j p' q' hp' hq' (by rw [ep, eq, hpq])
  · obtain ⟨p', hp', ep⟩ := at' k q hq
    rw [← ep]
    exact h.2 k p' hp'
/-- the callee's cells laid back into their places -/
def look : List Nat → va_W → Nat → Option (Nat × va_E)
  | i :: is, w :: w1, k => match Nat.beq i k with
    | true => some w
    | false => look is w1 k
  | _, _, _ => none
def mrgF (isC : List Nat) (w1 : va_W) : Nat → va_W → va_W
  | _, [] => []
  | k, q :: ws => (look isC w1 k).getD q :: mrgF isC w1 (k + 1) ws
def mrg (ws : va_W) (isC : List Nat) (w1 : va_W) : va_W := mrgF isC w1 0 ws
theorem look_none : ∀ (is : List Nat) (w1 : va_W) (k : Nat), is.length ≤ w1.length → look is w1 k = none → k ∉ is
  | [], _, _, _, _ => List.not_mem_nil
  | i :: is, [], _, hl, _ => absurd hl (by simp)
  | i :: is, w :: w1, k, hl, h => by
    unfold look at h
    cases hb : Nat.beq i k with
    | true => rw [hb] at h; cases h
    | false =>
      rw [hb] at h
      intro hm
      rcases List.mem_cons.mp hm with e | e
      · subst e
        rw [Nat.beq_refl] at hb
        cases hb
      · exact look_none is w1 k (by simpa using hl) h e
theorem look_some : ∀ (is : List Nat) (w1 : va_W) (k : Nat) (w : Nat × va_E), look is w1 k = some w → w ∈ w1
  | [], _, _, _, h => by cases h
  | i :: is, [], _, _, h => by cases h
  | i :: is, x :: w1, k, w, h => by
    unfold look at h
    cases hb : Nat.beq i k with
    | true => rw [hb] at h; cases h; exact List.mem_cons_self
    | false => rw [hb] at h; exact List.mem_cons_of_mem _ (look_some is w1 k w h)
theorem mrgF_at (is : List Nat) (w1 : va_W) (hl : is.length ≤ w1.length) : ∀ (ws : va_W) (j k : Nat) (q : Nat × va_E), (mrgF is w1 j ws)[k]? = some q → (ws[k]? = some q ∧ (j + k) ∉ is) ∨ q ∈ w1
  | [], _, _, _, h => by simp [mrgF] at h
  | p :: ws, j, 0, q, h => by
    have h' : (look is w1 j).getD p = q := by simpa [mrgF] using h
    cases hk : look is w1 j with
    | none =>
      rw [hk] at h'
      have h2 : p = q := h'
      subst h2
      exact Or.inl ⟨rfl, look_none is w1 j hl hk⟩
    | some w =>
      rw [hk] at h'
      have h2 : w = q := h'
      subst h2
      exact Or.inr (look_some is w1 j w hk)
  | p :: ws, j, k + 1, q, h => by
    have h' : (mrgF is w1 (j + 1) ws)[k]? = some q := by simpa [mrgF] using h
    rcases mrgF_at is w1 hl ws (j + 1) k q h' with ⟨h1, h2⟩ | h1
    · exact Or.inl ⟨by simpa using h1, by rw [show j + (k + 1) = j + 1 + k by omega]; exact h2⟩
    · exact Or.inr h1
theorem mrg_at (is : List Nat) (w1 ws : va_W) (k : Nat) (q : Nat × va_E) (hl : is.length ≤ w1.length) (h : (mrg ws is w1)[k]? = some q) : (ws[k]? = some q ∧ k ∉ is) ∨ q ∈ w1 := by
  rcases mrgF_at is w1 hl ws 0 k q h with ⟨h1, h2⟩ | h1
  · exact Or.inl ⟨h1, by rw [Nat.zero_add] at h2; exact h2⟩
  · exact Or.inr h1
theorem pick_at {ws wc : va_W} {isC : List Nat} (hC : isC.map (fun i => ws[i]?) = wc.map some) {k : Nat} {q : Nat × va_E} (hq : wc[k]? = some q) : ∃ i, isC[k]? = some i ∧ ws[i]? = some q := by
  have h1 : (isC.map (fun i => ws[i]?))[k]? = some (some q) := by rw [hC, List.getElem?_map, hq]; rfl
  rw [List.getElem?_map] at h1
  cases hi : isC[k]? with
  | none => rw [hi] at h1; cases h1
  | some i => rw [hi] at h1; exact ⟨i, rfl, Option.some.inj h1⟩
theorem pick_P {D : va_G} {cl : List vw_C} {ws wc : va_W} {isC : List Nat} {H : Heap} (hP : va_P D cl ws H) (hC : isC.map (fun i => ws[i]?) = wc.map some) : va_P D cl wc H := by
  intro k q hq
  obtain ⟨i, -, h2⟩ := pick_at hC hq
  exact hP i q h2
theorem mrg_P {A : Nat → Prop} {D : va_G} {cl : List vw_C} {ws wc w1 : va_W} {H H1 : Heap} {isC : List Nat} (hP : va_P D cl ws H) (hD : va_D A ws) (hC : isC.map (fun i => ws[i]?) = wc.map some) (hl : isC.length ≤ w1.length) (hk : ∀ q : Nat, q < H.size → ¬ va_A wc H.size q → H1[q]? = H[q]?) (hP1 : va_P D cl w1 H1) : va_P D cl (mrg ws isC w1) H1 := by
  intro k q hq
  rcases mrg_at isC w1 ws k q hl hq with ⟨h1, h2⟩ | h
  · have hat := hP k q h1
    have hlt := hat.lt
    refine hat.kept (hk q.1 hlt ?_)
    intro hh
    rcases hh with ⟨j, e, hj⟩ | hj
    · obtain ⟨i, h3, h4⟩ := pick_at hC hj
      have hij := hD.1 k i q (q.1, e) h1 h4 rfl
      subst hij
      exact h2 (List.mem_of_getElem? h3)
    · omega
  · obtain ⟨j, hj⟩ := List.getElem?_of_mem h
    exact hP1 j q hj

section MYC
variable {p : Program} {l : Launch} {e : Env} {R : Room} {s : State} {m : MethodId} {args : Array Value} {below : List Frame} {meth : Method} {c : Code} {H : Heap} {locs : List Loc} {cells slots : Nat} {Q : State → Prop} {cc bytes : ByteArray} {nL maxL index n fr lo : Nat} {own C host : String} {y : MethodName} {ret : Option FieldType} {Ts wy : List Cond} {G : Gt} {A : Nat → Prop} {ws wc w1 : va_W} {b : Addr} {As rest st0 : List Value} {pc : Nat} {ls : Array Slot}
theorem cVi {r : Int32} (S : CallFix p m c cc nL s args Ts own) (hK : KG G s) (hA : ∀ q : Nat, s.heap.size ≤ q → A q) (hP : va_P G.1 vwCl ws H) (hD : va_D A ws) (hS : va_S A s.heap H locs) (isC : List Nat) (hM : CT l y wy fr lo G (.ref b :: As) wc (QI G r w1)) (cw : CallW R s args own C index y bytes maxL ret wy (rmv fr lo) 0 0 n) (hC : isC.map (fun i => ws[i]?) = wc.map some) (hnd : va_nd isC = true) (hl : isC.length ≤ w1.length) (ci q0 : Nat) {q : vw_C} {fs : List Value} (hc : vwCl[ci]? = some q) (hq : q.1 = C) (he : wc[q0]? = some (b, .inr (ci, fs))) (hn : As.length = n) (hsz : ls.size = nL) (hst : st0 = As.reverse ++ .ref b :: rest) (hW : (rest.map fun v => v.category).sum ≤ 8) (hdg : decode cc pc = .ok (.invokevirtual index, 3)) (hf : cells ≤ R.cells ∧ slots ≤ R.slots)
    (kk : ∀ (H1 : Heap) (locs1 : List Loc), va_P G.1 vwCl (mrg ws isC w1) H1 → va_S A s.heap H1 locs1 → W p l e R s m args below meth c H1 locs1 cells slots Q (F0 m (pc + 3) ls (.int r :: rest))) : W p l e R s m args below meth c H locs cells slots Q (F0 m pc ls st0) := by
  have hPc : va_P G.1 vwCl wc H := pick_P hP hC
  have hFc : ∀ q, va_A wc H.size q → A q := va_free hD hS hA isC hC
  have hDc : va_D (fun _ => True) wc := (hD.sub isC hnd hC).weaken (fun _ _ _ _ => trivial)
  refine va_calli (va_runV (As := As) (rest := rest) S (hM H.size) cw ⟨fb, by rw [← hq]; exact va_recv hK.1 hPc hc he, fun U hU hW => ⟨rfl, by rw [hU], by rw [hU]; exact hPc, KG.moved hW hK, hDc⟩⟩ rfl hn hsz hst (lv_room hW) hdg hf) hS (fun q _ h => hFc q h) hFc (fun r' u t H1 locs1 ht hvm hw hB hz1 hk1 hS1 => ?_)
  obtain rfl : r' = r := hw
  exact kk H1 locs1 (mrg_P hP hD hC hl hk1 (by rw [← ht]; exact hB)) hS1
theorem cVl {r : Int64} (S : CallFix p m c cc nL s args Ts own) (hK : KG G s) (hA : ∀ q : Nat, s.heap.size ≤ q → A q) (hP : va_P G.1 vwCl ws H) (hD : va_D A ws) (hS : va_S A s.heap H locs) (isC : List Nat) (hM : CT l y wy fr lo G (.ref b :: As) wc (QL G r w1)) (cw : CallW R s args own C index y bytes maxL ret wy (rmv fr lo) 0 0 n) (hC : isC.map (fun i => ws[i]?) = wc.map some) (hnd : va_nd isC = true) (hl : isC.length ≤ w1.length) (ci q0 : Nat) {q : vw_C} {fs : List Value} (hc : vwCl[ci]? = some q) (hq : q.1 = C) (he : wc[q0]? = some (b, .inr (ci, fs))) (hn : As.length = n) (hsz : ls.size = nL) (hst : st0 = As.reverse ++ .ref b :: rest) (hW : (rest.map fun v => v.category).sum ≤ 8) (hdg : decode cc pc = .ok (.invokevirtual index, 3)) (hf : cells ≤ R.cells ∧ slots ≤ R.slots)
    (kk : ∀ (H1 : Heap) (locs1 : List Loc), va_P G.1 vwCl (mrg ws isC w1) H1 → va_S A s.heap H1 locs1 → W p l e R s m args below meth c H1 locs1 cells slots Q (F0 m (pc + 3) ls (.long r :: rest))) : W p l e R s m args below meth c H locs cells slots Q (F0 m pc ls st0) := by
  have hPc : va_P G.1 vwCl wc H := pick_P hP hC
  have hFc : ∀ q, va_A wc H.size q → A q := va_free hD hS hA isC hC
  have hDc : va_D (fun _ => True) wc := (hD.sub isC hnd hC).weaken (fun _ _ _ _ => trivial)
  refine va_calll (va_runV (As := As) (rest := rest) S (hM H.size) cw ⟨fb, by rw [← hq]; exact va_recv hK.1 hPc hc he, fun U hU hW => ⟨rfl, by rw [hU], by rw [hU]; exact hPc, KG.moved hW hK, hDc⟩⟩ rfl hn hsz hst (lv_room hW) hdg hf) hS (fun q _ h => hFc q h) hFc (fun r' u t H1 locs1 ht hvm hw hB hz1 hk1 hS1 => ?_)
  obtain rfl : r' = r := hw
  exact kk H1 locs1 (mrg_P hP hD hC hl hk1 (by rw [← ht]; exact hB)) hS1
theorem cVv  (S : CallFix p m c cc nL s args Ts own) (hK : KG G s) (hA : ∀ q : Nat, s.heap.size ≤ q → A q) (hP : va_P G.1 vwCl ws H) (hD : va_D A ws) (hS : va_S A s.heap H locs) (isC : List Nat) (hM : CT l y wy fr lo G (.ref b :: As) wc (QV G  w1)) (cw : CallW R s args own C index y bytes maxL ret wy (rmv fr lo) 0 0 n) (hC : isC.map (fun i => ws[i]?) = wc.map some) (hnd : va_nd isC = true) (hl : isC.length ≤ w1.length) (ci q0 : Nat) {q : vw_C} {fs : List Value} (hc : vwCl[ci]? = some q) (hq : q.1 = C) (he : wc[q0]? = some (b, .inr (ci, fs))) (hn : As.length = n) (hsz : ls.size = nL) (hst : st0 = As.reverse ++ .ref b :: rest) (hW : (rest.map fun v => v.category).sum ≤ 8) (hdg : decode cc pc = .ok (.invokevirtual index, 3)) (hf : cells ≤ R.cells ∧ slots ≤ R.slots)
    (kk : ∀ (H1 : Heap) (locs1 : List Loc), va_P G.1 vwCl (mrg ws isC w1) H1 → va_S A s.heap H1 locs1 → W p l e R s m args below meth c H1 locs1 cells slots Q (F0 m (pc + 3) ls rest)) : W p l e R s m args below meth c H locs cells slots Q (F0 m pc ls st0) := by
  have hPc : va_P G.1 vwCl wc H := pick_P hP hC
  have hFc : ∀ q, va_A wc H.size q → A q := va_free hD hS hA isC hC
  have hDc : va_D (fun _ => True) wc := (hD.sub isC hnd hC).weaken (fun _ _ _ _ => trivial)
  refine va_callv (va_runV (As := As) (rest := rest) S (hM H.size) cw ⟨fb, by rw [← hq]; exact va_recv hK.1 hPc hc he, fun U hU hW => ⟨rfl, by rw [hU], by rw [hU]; exact hPc, KG.moved hW hK, hDc⟩⟩ rfl hn hsz hst (lv_room hW) hdg hf) hS (fun q _ h => hFc q h) hFc (fun u t H1 locs1 ht hvm hw hB hz1 hk1 hS1 => ?_)
  skip
  exact kk H1 locs1 (mrg_P hP hD hC hl hk1 (by rw [← ht]; exact hB)) hS1
theorem cVr {r : Nat} (S : CallFix p m c cc nL s args Ts own) (hK : KG G s) (hA : ∀ q : Nat, s.heap.size ≤ q → A q) (hP : va_P G.1 vwCl ws H) (hD : va_D A ws) (hS : va_S A s.heap H locs) (isC : List Nat) (hM : CT l y wy fr lo G (.ref b :: As) wc (QR G r w1)) (cw : CallW R s args own C index y bytes maxL ret wy (rmv fr lo) 0 0 n) (hC : isC.map (fun i => ws[i]?) = wc.map some) (hnd : va_nd isC = true) (hl : isC.length ≤ w1.length) (ci q0 : Nat) {q : vw_C} {fs : List Value} (hc : vwCl[ci]? = some q) (hq : q.1 = C) (he : wc[q0]? = some (b, .inr (ci, fs))) (hn : As.length = n) (hsz : ls.size = nL) (hst : st0 = As.reverse ++ .ref b :: rest) (hW : (rest.map fun v => v.category).sum ≤ 8) (hdg : decode cc pc = .ok (.invokevirtual index, 3)) (hf : cells ≤ R.cells ∧ slots ≤ R.slots)
    (kk : ∀ (H1 : Heap) (locs1 : List Loc), va_P G.1 vwCl (mrg ws isC w1) H1 → va_S A s.heap H1 locs1 → W p l e R s m args below meth c H1 locs1 cells slots Q (F0 m (pc + 3) ls (.ref r :: rest))) : W p l e R s m args below meth c H locs cells slots Q (F0 m pc ls st0) := by
  have hPc : va_P G.1 vwCl wc H := pick_P hP hC
  have hFc : ∀ q, va_A wc H.size q → A q := va_free hD hS hA isC hC
  have hDc : va_D (fun _ => True) wc := (hD.sub isC hnd hC).weaken (fun _ _ _ _ => trivial)
  refine va_callr (va_runV (As := As) (rest := rest) S (hM H.size) cw ⟨fb, by rw [← hq]; exact va_recv hK.1 hPc hc he, fun U hU hW => ⟨rfl, by rw [hU], by rw [hU]; exact hPc, KG.moved hW hK, hDc⟩⟩ rfl hn hsz hst (lv_room hW) hdg hf) hS (fun q _ h => hFc q h) hFc (fun u r' t H1 locs1 ht hvm hw hB hz1 hk1 hS1 => ?_)
  obtain ⟨rfl, hB⟩ := hB
  exact kk H1 locs1 (mrg_P hP hD hC hl hk1 (by rw [← ht]; exact hB)) hS1
theorem cSi {r : Int32} (S : CallFix p m c cc nL s args Ts own) (hK : KG G s) (hA : ∀ q : Nat, s.heap.size ≤ q → A q) (hP : va_P G.1 vwCl ws H) (hD : va_D A ws) (hS : va_S A s.heap H locs) (isC : List Nat) (hM : CT l y wy fr lo G As wc (QI G r w1)) (cw : CallB R s args own index y bytes maxL ret wy (rmv fr lo) 0 0 n ∧ (Cond.static y).before args s = true) (hC : isC.map (fun i => ws[i]?) = wc.map some) (hnd : va_nd isC = true) (hl : isC.length ≤ w1.length) (hn : As.length = n) (hsz : ls.size = nL) (hst : st0 = As.reverse ++ rest) (hW : (rest.map fun v => v.category).sum ≤ 8) (hdg : decode cc pc = .ok (.invokestatic index, 3)) (hf : cells ≤ R.cells ∧ slots ≤ R.slots)
    (kk : ∀ (H1 : Heap) (locs1 : List Loc), va_P G.1 vwCl (mrg ws isC w1) H1 → va_S A s.heap H1 locs1 → W p l e R s m args below meth c H1 locs1 cells slots Q (F0 m (pc + 3) ls (.int r :: rest))) : W p l e R s m args below meth c H locs cells slots Q (F0 m pc ls st0) := by
  have hPc : va_P G.1 vwCl wc H := pick_P hP hC
  have hFc : ∀ q, va_A wc H.size q → A q := va_free hD hS hA isC hC
  have hDc : va_D (fun _ => True) wc := (hD.sub isC hnd hC).weaken (fun _ _ _ _ => trivial)
  refine va_calli (va_runS (As := As) (rest := rest) S (hM H.size) cw ⟨fb, fun U hU hW => ⟨rfl, by rw [hU], by rw [hU]; exact hPc, KG.moved hW hK, hDc⟩⟩ rfl hn hsz hst (lv_room hW) hdg hf) hS (fun q _ h => hFc q h) hFc (fun r' u t H1 locs1 ht hvm hw hB hz1 hk1 hS1 => ?_)
  obtain rfl : r' = r := hw
  exact kk H1 locs1 (mrg_P hP hD hC hl hk1 (by rw [← ht]; exact hB)) hS1
theorem cSl {r : Int64} (S : CallFix p m c cc nL s args Ts own) (hK : KG G s) (hA : ∀ q : Nat, s.heap.size ≤ q → A q) (hP : va_P G.1 vwCl ws H) (hD : va_D A ws) (hS : va_S A s.heap H locs) (isC : List Nat) (hM : CT l y wy fr lo G As wc (QL G r w1)) (cw : CallB R s args own index y bytes maxL ret wy (rmv fr lo) 0 0 n ∧ (Cond.static y).before args s = true) (hC : isC.map (fun i => ws[i]?) = wc.map some) (hnd : va_nd isC = true) (hl : isC.length ≤ w1.length) (hn : As.length = n) (hsz : ls.size = nL) (hst : st0 = As.reverse ++ rest) (hW : (rest.map fun v => v.category).sum ≤ 8) (hdg : decode cc pc = .ok (.invokestatic index, 3)) (hf : cells ≤ R.cells ∧ slots ≤ R.slots)
    (kk : ∀ (H1 : Heap) (locs1 : List Loc), va_P G.1 vwCl (mrg ws isC w1) H1 → va_S A s.heap H1 locs1 → W p l e R s m args below meth c H1 locs1 cells slots Q (F0 m (pc + 3) ls (.long r :: rest))) : W p l e R s m args below meth c H locs cells slots Q (F0 m pc ls st0) := by
  have hPc : va_P G.1 vwCl wc H := pick_P hP hC
  have hFc : ∀ q, va_A wc H.size q → A q := va_free hD hS hA isC hC
  have hDc : va_D (fun _ => True) wc := (hD.sub isC hnd hC).weaken (fun _ _ _ _ => trivial)
  refine va_calll (va_runS (As := As) (rest := rest) S (hM H.size) cw ⟨fb, fun U hU hW => ⟨rfl, by rw [hU], by rw [hU]; exact hPc, KG.moved hW hK, hDc⟩⟩ rfl hn hsz hst (lv_room hW) hdg hf) hS (fun q _ h => hFc q h) hFc (fun r' u t H1 locs1 ht hvm hw hB hz1 hk1 hS1 => ?_)
  obtain rfl : r' = r := hw
  exact kk H1 locs1 (mrg_P hP hD hC hl hk1 (by rw [← ht]; exact hB)) hS1
theorem cSv  (S : CallFix p m c cc nL s args Ts own) (hK : KG G s) (hA : ∀ q : Nat, s.heap.size ≤ q → A q) (hP : va_P G.1 vwCl ws H) (hD : va_D A ws) (hS : va_S A s.heap H locs) (isC : List Nat) (hM : CT l y wy fr lo G As wc (QV G  w1)) (cw : CallB R s args own index y bytes maxL ret wy (rmv fr lo) 0 0 n ∧ (Cond.static y).before args s = true) (hC : isC.map (fun i => ws[i]?) = wc.map some) (hnd : va_nd isC = true) (hl : isC.length ≤ w1.length) (hn : As.length = n) (hsz : ls.size = nL) (hst : st0 = As.reverse ++ rest) (hW : (rest.map fun v => v.category).sum ≤ 8) (hdg : decode cc pc = .ok (.invokestatic index, 3)) (hf : cells ≤ R.cells ∧ slots ≤ R.slots)
    (kk : ∀ (H1 : Heap) (locs1 : List Loc), va_P G.1 vwCl (mrg ws isC w1) H1 → va_S A s.heap H1 locs1 → W p l e R s m args below meth c H1 locs1 cells slots Q (F0 m (pc + 3) ls rest)) : W p l e R s m args below meth c H locs cells slots Q (F0 m pc ls st0) := by
  have hPc : va_P G.1 vwCl wc H := pick_P hP hC
  have hFc : ∀ q, va_A wc H.size q → A q := va_free hD hS hA isC hC
  have hDc : va_D (fun _ => True) wc := (hD.sub isC hnd hC).weaken (fun _ _ _ _ => trivial)
  refine va_callv (va_runS (As := As) (rest := rest) S (hM H.size) cw ⟨fb, fun U hU hW => ⟨rfl, by rw [hU], by rw [hU]; exact hPc, KG.moved hW hK, hDc⟩⟩ rfl hn hsz hst (lv_room hW) hdg hf) hS (fun q _ h => hFc q h) hFc (fun u t H1 locs1 ht hvm hw hB hz1 hk1 hS1 => ?_)
  skip
  exact kk H1 locs1 (mrg_P hP hD hC hl hk1 (by rw [← ht]; exact hB)) hS1
theorem cSr {r : Nat} (S : CallFix p m c cc nL s args Ts own) (hK : KG G s) (hA : ∀ q : Nat, s.heap.size ≤ q → A q) (hP : va_P G.1 vwCl ws H) (hD : va_D A ws) (hS : va_S A s.heap H locs) (isC : List Nat) (hM : CT l y wy fr lo G As wc (QR G r w1)) (cw : CallB R s args own index y bytes maxL ret wy (rmv fr lo) 0 0 n ∧ (Cond.static y).before args s = true) (hC : isC.map (fun i => ws[i]?) = wc.map some) (hnd : va_nd isC = true) (hl : isC.length ≤ w1.length) (hn : As.length = n) (hsz : ls.size = nL) (hst : st0 = As.reverse ++ rest) (hW : (rest.map fun v => v.category).sum ≤ 8) (hdg : decode cc pc = .ok (.invokestatic index, 3)) (hf : cells ≤ R.cells ∧ slots ≤ R.slots)
    (kk : ∀ (H1 : Heap) (locs1 : List Loc), va_P G.1 vwCl (mrg ws isC w1) H1 → va_S A s.heap H1 locs1 → W p l e R s m args below meth c H1 locs1 cells slots Q (F0 m (pc + 3) ls (.ref r :: rest))) : W p l e R s m args below meth c H locs cells slots Q (F0 m pc ls st0) := by
  have hPc : va_P G.1 vwCl wc H := pick_P hP hC
  have hFc : ∀ q, va_A wc H.size q → A q := va_free hD hS hA isC hC
  have hDc : va_D (fun _ => True) wc := (hD.sub isC hnd hC).weaken (fun _ _ _ _ => trivial)
  refine va_callr (va_runS (As := As) (rest := rest) S (hM H.size) cw ⟨fb, fun U hU hW => ⟨rfl, by rw [hU], by rw [hU]; exact hPc, KG.moved hW hK, hDc⟩⟩ rfl hn hsz hst (lv_room hW) hdg hf) hS (fun q _ h => hFc q h) hFc (fun u r' t H1 locs1 ht hvm hw hB hz1 hk1 hS1 => ?_)
  obtain ⟨rfl, hB⟩ := hB
  exact kk H1 locs1 (mrg_P hP hD hC hl hk1 (by rw [← ht]; exact hB)) hS1
theorem cNi {r : Int32} (S : CallFix p m c cc nL s args Ts own) (hK : KG G s) (hA : ∀ q : Nat, s.heap.size ≤ q → A q) (hP : va_P G.1 vwCl ws H) (hD : va_D A ws) (hS : va_S A s.heap H locs) (isC : List Nat) (hM : CT l y wy fr lo G As wc (QI G r w1)) (cw : va_CN R s args own index y host bytes maxL ret wy (rmv fr lo) 0 0 n ∧ (Cond.static y).before args s = true ∧ True) (hC : isC.map (fun i => ws[i]?) = wc.map some) (hnd : va_nd isC = true) (hl : isC.length ≤ w1.length) (hn : As.length = n) (hsz : ls.size = nL) (hst : st0 = As.reverse ++ rest) (hW : (rest.map fun v => v.category).sum ≤ 8) (hdg : decode cc pc = .ok (.invokestatic index, 3)) (hf : cells ≤ R.cells ∧ slots ≤ R.slots)
    (kk : ∀ (H1 : Heap) (locs1 : List Loc), va_P G.1 vwCl (mrg ws isC w1) H1 → va_S A s.heap H1 locs1 → W p l e R s m args below meth c H1 locs1 cells slots Q (F0 m (pc + 3) ls (.int r :: rest))) : W p l e R s m args below meth c H locs cells slots Q (F0 m pc ls st0) := by
  have hPc : va_P G.1 vwCl wc H := pick_P hP hC
  have hFc : ∀ q, va_A wc H.size q → A q := va_free hD hS hA isC hC
  have hDc : va_D (fun _ => True) wc := (hD.sub isC hnd hC).weaken (fun _ _ _ _ => trivial)
  refine va_calli (va_runSN (As := As) (rest := rest) S (hM H.size) cw ⟨fb, fun U hU hW => ⟨rfl, by rw [hU], by rw [hU]; exact hPc, KG.moved hW hK, hDc⟩⟩ rfl hn hsz hst (lv_room hW) hdg hf) hS (fun q _ h => hFc q h) hFc (fun r' u t H1 locs1 ht hvm hw hB hz1 hk1 hS1 => ?_)
  obtain rfl : r' = r := hw
  exact kk H1 locs1 (mrg_P hP hD hC hl hk1 (by rw [← ht]; exact hB)) hS1
theorem cFi {r : Int32} (S : CallFix p m c cc nL s args Ts own) (hK : KG G s) (hA : ∀ q : Nat, s.heap.size ≤ q → A q) (hP : va_P G.1 vwCl ws H) (hD : va_D A ws) (hS : va_S A s.heap H locs) (hM : CT l y wy fr lo G (.ref b :: As) ws (QI G r w1)) (cw : CallW R s args own C index y bytes maxL ret wy (rmv fr lo) 0 0 n) (ci q0 : Nat) {q : vw_C} {fs : List Value} (hc : vwCl[ci]? = some q) (hq : q.1 = C) (he : ws[q0]? = some (b, .inr (ci, fs))) (hn : As.length = n) (hsz : ls.size = nL) (hst : st0 = As.reverse ++ .ref b :: rest) (hW : (rest.map fun v => v.category).sum ≤ 8) (hdg : decode cc pc = .ok (.invokevirtual index, 3)) (hf : cells ≤ R.cells ∧ slots ≤ R.slots)
    (kk : ∀ (H1 : Heap) (locs1 : List Loc), va_P G.1 vwCl w1 H1 → va_S A s.heap H1 locs1 → W p l e R s m args below meth c H1 locs1 cells slots Q (F0 m (pc + 3) ls (.int r :: rest))) : W p l e R s m args below meth c H locs cells slots Q (F0 m pc ls st0) := by
  have hFc : ∀ q, va_A ws H.size q → A q := by
    intro q h
    rcases h with ⟨k, e, h⟩ | h
    · exact hD.2 k (q, e) h
    · exact hA q (Nat.le_trans hS.1 h)
  have hDc : va_D (fun _ => True) ws := hD.weaken (fun _ _ _ _ => trivial)
  refine va_calli (va_runV (As := As) (rest := rest) S (hM H.size) cw ⟨fb, by rw [← hq]; exact va_recv hK.1 hP hc he, fun U hU hW => ⟨rfl, by rw [hU], by rw [hU]; exact hP, KG.moved hW hK, hDc⟩⟩ rfl hn hsz hst (lv_room hW) hdg hf) hS (fun q _ h => hFc q h) hFc (fun r' u t H1 locs1 ht hvm hw hB hz1 hk1 hS1 => ?_)
  obtain rfl : r' = r := hw
  exact kk H1 locs1 (by rw [← ht]; exact hB) hS1
theorem cFl {r : Int64} (S : CallFix p m c cc nL s args Ts own) (hK : KG G s) (hA : ∀ q : Nat, s.heap.size ≤ q → A q) (hP : va_P G.1 vwCl ws H) (hD : va_D A ws) (hS : va_S A s.heap H locs) (hM : CT l y wy fr lo G (.ref b :: As) ws (QL G r w1)) (cw : CallW R s args own C index y bytes maxL ret wy (rmv fr lo) 0 0 n) (ci q0 : Nat) {q : vw_C} {fs : List Value} (hc : vwCl[ci]? = some q) (hq : q.1 = C) (he : ws[q0]? = some (b, .inr (ci, fs))) (hn : As.length = n) (hsz : ls.size = nL) (hst : st0 = As.reverse ++ .ref b :: rest) (hW : (rest.map fun v => v.category).sum ≤ 8) (hdg : decode cc pc = .ok (.invokevirtual index, 3)) (hf : cells ≤ R.cells ∧ slots ≤ R.slots)
    (kk : ∀ (H1 : Heap) (locs1 : List Loc), va_P G.1 vwCl w1 H1 → va_S A s.heap H1 locs1 → W p l e R s m args below meth c H1 locs1 cells slots Q (F0 m (pc + 3) ls (.long r :: rest))) : W p l e R s m args below meth c H locs cells slots Q (F0 m pc ls st0) := by
  have hFc : ∀ q, va_A ws H.size q → A q := by
    intro q h
    rcases h with ⟨k, e, h⟩ | h
    · exact hD.2 k (q, e) h
    · exact hA q (Nat.le_trans hS.1 h)
  have hDc : va_D (fun _ => True) ws := hD.weaken (fun _ _ _ _ => trivial)
  refine va_calll (va_runV (As := As) (rest := rest) S (hM H.size) cw ⟨fb, by rw [← hq]; exact va_recv hK.1 hP hc he, fun U hU hW => ⟨rfl, by rw [hU], by rw [hU]; exact hP, KG.moved hW hK, hDc⟩⟩ rfl hn hsz hst (lv_room hW) hdg hf) hS (fun q _ h => hFc q h) hFc (fun r' u t H1 locs1 ht hvm hw hB hz1 hk1 hS1 => ?_)
  obtain rfl : r' = r := hw
  exact kk H1 locs1 (by rw [← ht]; exact hB) hS1
theorem cFv  (S : CallFix p m c cc nL s args Ts own) (hK : KG G s) (hA : ∀ q : Nat, s.heap.size ≤ q → A q) (hP : va_P G.1 vwCl ws H) (hD : va_D A ws) (hS : va_S A s.heap H locs) (hM : CT l y wy fr lo G (.ref b :: As) ws (QV G  w1)) (cw : CallW R s args own C index y bytes maxL ret wy (rmv fr lo) 0 0 n) (ci q0 : Nat) {q : vw_C} {fs : List Value} (hc : vwCl[ci]? = some q) (hq : q.1 = C) (he : ws[q0]? = some (b, .inr (ci, fs))) (hn : As.length = n) (hsz : ls.size = nL) (hst : st0 = As.reverse ++ .ref b :: rest) (hW : (rest.map fun v => v.category).sum ≤ 8) (hdg : decode cc pc = .ok (.invokevirtual index, 3)) (hf : cells ≤ R.cells ∧ slots ≤ R.slots)
    (kk : ∀ (H1 : Heap) (locs1 : List Loc), va_P G.1 vwCl w1 H1 → va_S A s.heap H1 locs1 → W p l e R s m args below meth c H1 locs1 cells slots Q (F0 m (pc + 3) ls rest)) : W p l e R s m args below meth c H locs cells slots Q (F0 m pc ls st0) := by
  have hFc : ∀ q, va_A ws H.size q → A q := by
    intro q h
    rcases h with ⟨k, e, h⟩ | h
    · exact hD.2 k (q, e) h
    · exact hA q (Nat.le_trans hS.1 h)
  have hDc : va_D (fun _ => True) ws := hD.weaken (fun _ _ _ _ => trivial)
  refine va_callv (va_runV (As := As) (rest := rest) S (hM H.size) cw ⟨fb, by rw [← hq]; exact va_recv hK.1 hP hc he, fun U hU hW => ⟨rfl, by rw [hU], by rw [hU]; exact hP, KG.moved hW hK, hDc⟩⟩ rfl hn hsz hst (lv_room hW) hdg hf) hS (fun q _ h => hFc q h) hFc (fun u t H1 locs1 ht hvm hw hB hz1 hk1 hS1 => ?_)
  skip
  exact kk H1 locs1 (by rw [← ht]; exact hB) hS1
theorem cFr {r : Nat} (S : CallFix p m c cc nL s args Ts own) (hK : KG G s) (hA : ∀ q : Nat, s.heap.size ≤ q → A q) (hP : va_P G.1 vwCl ws H) (hD : va_D A ws) (hS : va_S A s.heap H locs) (hM : CT l y wy fr lo G (.ref b :: As) ws (QR G r w1)) (cw : CallW R s args own C index y bytes maxL ret wy (rmv fr lo) 0 0 n) (ci q0 : Nat) {q : vw_C} {fs : List Value} (hc : vwCl[ci]? = some q) (hq : q.1 = C) (he : ws[q0]? = some (b, .inr (ci, fs))) (hn : As.length = n) (hsz : ls.size = nL) (hst : st0 = As.reverse ++ .ref b :: rest) (hW : (rest.map fun v => v.category).sum ≤ 8) (hdg : decode cc pc = .ok (.invokevirtual index, 3)) (hf : cells ≤ R.cells ∧ slots ≤ R.slots)
    (kk : ∀ (H1 : Heap) (locs1 : List Loc), va_P G.1 vwCl w1 H1 → va_S A s.heap H1 locs1 → W p l e R s m args below meth c H1 locs1 cells slots Q (F0 m (pc + 3) ls (.ref r :: rest))) : W p l e R s m args below meth c H locs cells slots Q (F0 m pc ls st0) := by
  have hFc : ∀ q, va_A ws H.size q → A q := by
    intro q h
    rcases h with ⟨k, e, h⟩ | h
    · exact hD.2 k (q, e) h
    · exact hA q (Nat.le_trans hS.1 h)
  have hDc : va_D (fun _ => True) ws := hD.weaken (fun _ _ _ _ => trivial)
  refine va_callr (va_runV (As := As) (rest := rest) S (hM H.size) cw ⟨fb, by rw [← hq]; exact va_recv hK.1 hP hc he, fun U hU hW => ⟨rfl, by rw [hU], by rw [hU]; exact hP, KG.moved hW hK, hDc⟩⟩ rfl hn hsz hst (lv_room hW) hdg hf) hS (fun q _ h => hFc q h) hFc (fun u r' t H1 locs1 ht hvm hw hB hz1 hk1 hS1 => ?_)
  obtain ⟨rfl, hB⟩ := hB
  exact kk H1 locs1 (by rw [← ht]; exact hB) hS1
end MYC
/-! pure readers and writers: none where the machine would throw -/
def rd (f : Nat → Int32) (n : Nat) (i : Int32) : Option Int32 := if i < 0 ∨ n ≤ i.toNatClampNeg then none else some (f i.toNatClampNeg)
def wr (f : Nat → Int32) (n : Nat) (i x : Int32) : Option (Nat → Int32) := if i < 0 ∨ n ≤ i.toNatClampNeg then none else some (upd f i.toNatClampNeg x)
def cp (f : Nat → Int32) (n0 : Nat) (sp : Int32) (g : Nat → Int32) (n1 : Nat) (dp n : Int32) : Option (Nat → Int32) := if sp < 0 ∨ dp < 0 ∨ n < 0 ∨ n0 < sp.toNatClampNeg + n.toNatClampNeg ∨ n1 < dp.toNatClampNeg + n.toNatClampNeg then none else some (va_cpy f g sp.toNatClampNeg dp.toNatClampNeg n.toNatClampNeg)
def zr (v : Int32) : Option Int32 := if v = 0 ∨ v = 1 then some v else none
def nm {α β : Type} (a : α) (k : α → β) : β := k a
theorem nm_s {α β : Type} {a v : α} {k : α → Option β} {R : β} (ev : v = a) (h : nm a k = some R) : k v = some R := by subst ev; exact h
theorem if_t {β : Type} {c : Prop} [Decidable c] {a b : Option β} {R : β} (hc : c) (h : (if c then a else b) = some R) : a = some R := by rw [if_pos hc] at h; exact h
theorem if_f {β : Type} {c : Prop} [Decidable c] {a b : Option β} {R : β} (hc : ¬ c) (h : (if c then a else b) = some R) : b = some R := by rw [if_neg hc] at h; exact h
theorem rd_s {f : Nat → Int32} {n : Nat} {i v : Int32} (h : rd f n i = some v) : vp_in i n ∧ f i.toNatClampNeg = v := by
  unfold rd at h
  split at h
  · cases h
  · next hc => exact ⟨hc, Option.some.inj h⟩
theorem wr_s {f f' : Nat → Int32} {n : Nat} {i x : Int32} (h : wr f n i x = some f') : vp_in i n ∧ upd f i.toNatClampNeg x = f' := by
  unfold wr at h
  split at h
  · cases h
  · next hc => exact ⟨hc, Option.some.inj h⟩
theorem zr_s {v v' : Int32} (h : zr v = some v') : v = v' ∧ narrow .boolean (.int v) = .int v ∧ fits .boolean (.int v) = true := by
  unfold zr at h
  split at h
  · next hc =>
    refine ⟨Option.some.inj h, ?_⟩
    rcases hc with rfl | rfl <;> exact ⟨by decide, by decide⟩
  · cases h
theorem ne_toInt {x y : Int32} {k : Int} (h : ¬ x = y) (e : y.toInt = k) : x.toInt ≠ k := fun q => h (Int32.toInt_inj.mp (q.trans e.symm))
def bnd1 {α γ : Type} (o : Option α) (k : α → Option γ) : Option γ := match o with
  | some a => k a
  | none => none
theorem bnd1_s {α γ : Type} {o : Option α} {k : α → Option γ} {R : γ} (h : bnd1 o k = some R) : ∃ a, o = some a ∧ k a = some R := by
  cases o with
  | none => cases h
  | some a => exact ⟨a, rfl, h⟩
def bnd2 {A B γ : Type} (o : Option (A × B)) (k : A → B → Option γ) : Option γ := match o with
  | some (x0, x1) => k x0 x1
  | none => none
theorem bnd2_s {A B γ : Type} {o : Option (A × B)} {k : A → B → Option γ} {R : γ} (h : bnd2 o k = some R) : ∃ x0 x1, o = some (x0, x1) ∧ k x0 x1 = some R := by
  cases o with
  | none => cases h
  | some a => obtain ⟨x0, x1⟩ := a; exact ⟨x0, x1, rfl, h⟩
def bnd3 {A B C γ : Type} (o : Option (A × B × C)) (k : A → B → C → Option γ) : Option γ := match o with
  | some (x0, x1, x2) => k x0 x1 x2
  | none => none
theorem bnd3_s {A B C γ : Type} {o : Option (A × B × C)} {k : A → B → C → Option γ} {R : γ} (h : bnd3 o k = some R) : ∃ x0 x1 x2, o = some (x0, x1, x2) ∧ k x0 x1 x2 = some R := by
  cases o with
  | none => cases h
  | some a => obtain ⟨x0, x1, x2⟩ := a; exact ⟨x0, x1, x2, rfl, h⟩
def bnd4 {A B C D γ : Type} (o : Option (A × B × C × D)) (k : A → B → C → D → Option γ) : Option γ := match o with
  | some (x0, x1, x2, x3) => k x0 x1 x2 x3
  | none => none
theorem bnd4_s {A B C D γ : Type} {o : Option (A × B × C × D)} {k : A → B → C → D → Option γ} {R : γ} (h : bnd4 o k = some R) : ∃ x0 x1 x2 x3, o = some (x0, x1, x2, x3) ∧ k x0 x1 x2 x3 = some R := by
  cases o with
  | none => cases h
  | some a => obtain ⟨x0, x1, x2, x3⟩ := a; exact ⟨x0, x1, x2, x3, rfl, h⟩
def bnd5 {A B C D E γ : Type} (o : Option (A × B × C × D × E)) (k : A → B → C → D → E → Option γ) : Option γ := match o with
  | some (x0, x1, x2, x3, x4) => k x0 x1 x2 x3 x4
  | none => none
theorem bnd5_s {A B C D E γ : Type} {o : Option (A × B × C × D × E)} {k : A → B → C → D → E → Option γ} {R : γ} (h : bnd5 o k = some R) : ∃ x0 x1 x2 x3 x4, o = some (x0, x1, x2, x3, x4) ∧ k x0 x1 x2 x3 x4 = some R := by
  cases o with
  | none => cases h
  | some a => obtain ⟨x0, x1, x2, x3, x4⟩ := a; exact ⟨x0, x1, x2, x3, x4, rfl, h⟩
def bnd6 {A B C D E F γ : Type} (o : Option (A × B × C × D × E × F)) (k : A → B → C → D → E → F → Option γ) : Option γ := match o with
  | some (x0, x1, x2, x3, x4, x5) => k x0 x1 x2 x3 x4 x5
  | none => none
theorem bnd6_s {A B C D E F γ : Type} {o : Option (A × B × C × D × E × F)} {k : A → B → C → D → E → F → Option γ} {R : γ} (h : bnd6 o k = some R) : ∃ x0 x1 x2 x3 x4 x5, o = some (x0, x1, x2, x3, x4, x5) ∧ k x0 x1 x2 x3 x4 x5 = some R := by
  cases o with
  | none => cases h
  | some a => obtain ⟨x0, x1, x2, x3, x4, x5⟩ := a; exact ⟨x0, x1, x2, x3, x4, x5, rfl, h⟩
def bnd7 {A B C D E F G γ : Type} (o : Option (A × B × C × D × E × F × G)) (k : A → B → C → D → E → F → G → Option γ) : Option γ := match o with
  | some (x0, x1, x2, x3, x4, x5, x6) => k x0 x1 x2 x3 x4 x5 x6
  | none => none
theorem bnd7_s {A B C D E F G γ : Type} {o : Option (A × B × C × D × E × F × G)} {k : A → B → C → D → E → F → G → Option γ} {R : γ} (h : bnd7 o k = some R) : ∃ x0 x1 x2 x3 x4 x5 x6, o = some (x0, x1, x2, x3, x4, x5, x6) ∧ k x0 x1 x2 x3 x4 x5 x6 = some R := by
  cases o with
  | none => cases h
  | some a => obtain ⟨x0, x1, x2, x3, x4, x5, x6⟩ := a; exact ⟨x0, x1, x2, x3, x4, x5, x6, rfl, h⟩
def bnd8 {A B C D E F G H γ : Type} (o : Option (A × B × C × D × E × F × G × H)) (k : A → B → C → D → E → F → G → H → Option γ) : Option γ := match o with
  | some (x0, x1, x2, x3, x4, x5, x6, x7) => k x0 x1 x2 x3 x4 x5 x6 x7
  | none => none
theorem bnd8_s {A B C D E F G H γ : Type} {o : Option (A × B × C × D × E × F × G × H)} {k : A → B → C → D → E → F → G → H → Option γ} {R : γ} (h : bnd8 o k = some R) : ∃ x0 x1 x2 x3 x4 x5 x6 x7, o = some (x0, x1, x2, x3, x4, x5, x6, x7) ∧ k x0 x1 x2 x3 x4 x5 x6 x7 = some R := by
  cases o with
  | none => cases h
  | some a => obtain ⟨x0, x1, x2, x3, x4, x5, x6, x7⟩ := a; exact ⟨x0, x1, x2, x3, x4, x5, x6, x7, rfl, h⟩
def bnd9 {A B C D E F G H I γ : Type} (o : Option (A × B × C × D × E × F × G × H × I)) (k : A → B → C → D → E → F → G → H → I → Option γ) : Option γ := match o with
  | some (x0, x1, x2, x3, x4, x5, x6, x7, x8) => k x0 x1 x2 x3 x4 x5 x6 x7 x8
  | none => none
theorem bnd9_s {A B C D E F G H I γ : Type} {o : Option (A × B × C × D × E × F × G × H × I)} {k : A → B → C → D → E → F → G → H → I → Option γ} {R : γ} (h : bnd9 o k = some R) : ∃ x0 x1 x2 x3 x4 x5 x6 x7 x8, o = some (x0, x1, x2, x3, x4, x5, x6, x7, x8) ∧ k x0 x1 x2 x3 x4 x5 x6 x7 x8 = some R := by
  cases o with
  | none => cases h
  | some a => obtain ⟨x0, x1, x2, x3, x4, x5, x6, x7, x8⟩ := a; exact ⟨x0, x1, x2, x3, x4, x5, x6, x7, x8, rfl, h⟩
def bnd10 {A B C D E F G H I J γ : Type} (o : Option (A × B × C × D × E × F × G × H × I × J)) (k : A → B → C → D → E → F → G → H → I → J → Option γ) : Option γ := match o with
  | some (x0, x1, x2, x3, x4, x5, x6, x7, x8, x9) => k x0 x1 x2 x3 x4 x5 x6 x7 x8 x9
  | none => none
theorem bnd10_s {A B C D E F G H I J γ : Type} {o : Option (A × B × C × D × E × F × G × H × I × J)} {k : A → B → C → D → E → F → G → H → I → J → Option γ} {R : γ} (h : bnd10 o k = some R) : ∃ x0 x1 x2 x3 x4 x5 x6 x7 x8 x9, o = some (x0, x1, x2, x3, x4, x5, x6, x7, x8, x9) ∧ k x0 x1 x2 x3 x4 x5 x6 x7 x8 x9 = some R := by
  cases o with
  | none => cases h
  | some a => obtain ⟨x0, x1, x2, x3, x4, x5, x6, x7, x8, x9⟩ := a; exact ⟨x0, x1, x2, x3, x4, x5, x6, x7, x8, x9, rfl, h⟩
def bnd11 {A B C D E F G H I J K γ : Type} (o : Option (A × B × C × D × E × F × G × H × I × J × K)) (k : A → B → C → D → E → F → G → H → I → J → K → Option γ) : Option γ := match o with
  | some (x0, x1, x2, x3, x4, x5, x6, x7, x8, x9, x10) => k x0 x1 x2 x3 x4 x5 x6 x7 x8 x9 x10
  | none => none
theorem bnd11_s {A B C D E F G H I J K γ : Type} {o : Option (A × B × C × D × E × F × G × H × I × J × K)} {k : A → B → C → D → E → F → G → H → I → J → K → Option γ} {R : γ} (h : bnd11 o k = some R) : ∃ x0 x1 x2 x3 x4 x5 x6 x7 x8 x9 x10, o = some (x0, x1, x2, x3, x4, x5, x6, x7, x8, x9, x10) ∧ k x0 x1 x2 x3 x4 x5 x6 x7 x8 x9 x10 = some R := by
  cases o with
  | none => cases h
  | some a => obtain ⟨x0, x1, x2, x3, x4, x5, x6, x7, x8, x9, x10⟩ := a; exact ⟨x0, x1, x2, x3, x4, x5, x6, x7, x8, x9, x10, rfl, h⟩
def bnd12 {A B C D E F G H I J K L γ : Type} (o : Option (A × B × C × D × E × F × G × H × I × J × K × L)) (k : A → B → C → D → E → F → G → H → I → J → K → L → Option γ) : Option γ := match o with
  | some (x0, x1, x2, x3, x4, x5, x6, x7, x8, x9, x10, x11) => k x0 x1 x2 x3 x4 x5 x6 x7 x8 x9 x10 x11
  | none => none
theorem bnd12_s {A B C D E F G H I J K L γ : Type} {o : Option (A × B × C × D × E × F × G × H × I × J × K × L)} {k : A → B → C → D → E → F → G → H → I → J → K → L → Option γ} {R : γ} (h : bnd12 o k = some R) : ∃ x0 x1 x2 x3 x4 x5 x6 x7 x8 x9 x10 x11, o = some (x0, x1, x2, x3, x4, x5, x6, x7, x8, x9, x10, x11) ∧ k x0 x1 x2 x3 x4 x5 x6 x7 x8 x9 x10 x11 = some R := by
  cases o with
  | none => cases h
  | some a => obtain ⟨x0, x1, x2, x3, x4, x5, x6, x7, x8, x9, x10, x11⟩ := a; exact ⟨x0, x1, x2, x3, x4, x5, x6, x7, x8, x9, x10, x11, rfl, h⟩
def bnd13 {A B C D E F G H I J K L M γ : Type} (o : Option (A × B × C × D × E × F × G × H × I × J × K × L × M)) (k : A → B → C → D → E → F → G → H → I → J → K → L → M → Option γ) : Option γ := match o with
  | some (x0, x1, x2, x3, x4, x5, x6, x7, x8, x9, x10, x11, x12) => k x0 x1 x2 x3 x4 x5 x6 x7 x8 x9 x10 x11 x12
  | none => none
theorem bnd13_s {A B C D E F G H I J K L M γ : Type} {o : Option (A × B × C × D × E × F × G × H × I × J × K × L × M)} {k : A → B → C → D → E → F → G → H → I → J → K → L → M → Option γ} {R : γ} (h : bnd13 o k = some R) : ∃ x0 x1 x2 x3 x4 x5 x6 x7 x8 x9 x10 x11 x12, o = some (x0, x1, x2, x3, x4, x5, x6, x7, x8, x9, x10, x11, x12) ∧ k x0 x1 x2 x3 x4 x5 x6 x7 x8 x9 x10 x11 x12 = some R := by
  cases o with
  | none => cases h
  | some a => obtain ⟨x0, x1, x2, x3, x4, x5, x6, x7, x8, x9, x10, x11, x12⟩ := a; exact ⟨x0, x1, x2, x3, x4, x5, x6, x7, x8, x9, x10, x11, x12, rfl, h⟩
def bnd14 {A B C D E F G H I J K L M N γ : Type} (o : Option (A × B × C × D × E × F × G × H × I × J × K × L × M × N)) (k : A → B → C → D → E → F → G → H → I → J → K → L → M → N → Option γ) : Option γ := match o with
  | some (x0, x1, x2, x3, x4, x5, x6, x7, x8, x9, x10, x11, x12, x13) => k x0 x1 x2 x3 x4 x5 x6 x7 x8 x9 x10 x11 x12 x13
  | none => none
theorem bnd14_s {A B C D E F G H I J K L M N γ : Type} {o : Option (A × B × C × D × E × F × G × H × I × J × K × L × M × N)} {k : A → B → C → D → E → F → G → H → I → J → K → L → M → N → Option γ} {R : γ} (h : bnd14 o k = some R) : ∃ x0 x1 x2 x3 x4 x5 x6 x7 x8 x9 x10 x11 x12 x13, o = some (x0, x1, x2, x3, x4, x5, x6, x7, x8, x9, x10, x11, x12, x13) ∧ k x0 x1 x2 x3 x4 x5 x6 x7 x8 x9 x10 x11 x12 x13 = some R := by
  cases o with
  | none => cases h
  | some a => obtain ⟨x0, x1, x2, x3, x4, x5, x6, x7, x8, x9, x10, x11, x12, x13⟩ := a; exact ⟨x0, x1, x2, x3, x4, x5, x6, x7, x8, x9, x10, x11, x12, x13, rfl, h⟩
def bnd15 {A B C D E F G H I J K L M N O γ : Type} (o : Option (A × B × C × D × E × F × G × H × I × J × K × L × M × N × O)) (k : A → B → C → D → E → F → G → H → I → J → K → L → M → N → O → Option γ) : Option γ := match o with
  | some (x0, x1, x2, x3, x4, x5, x6, x7, x8, x9, x10, x11, x12, x13, x14) => k x0 x1 x2 x3 x4 x5 x6 x7 x8 x9 x10 x11 x12 x13 x14
  | none => none
theorem bnd15_s {A B C D E F G H I J K L M N O γ : Type} {o : Option (A × B × C × D × E × F × G × H × I × J × K × L × M × N × O)} {k : A → B → C → D → E → F → G → H → I → J → K → L → M → N → O → Option γ} {R : γ} (h : bnd15 o k = some R) : ∃ x0 x1 x2 x3 x4 x5 x6 x7 x8 x9 x10 x11 x12 x13 x14, o = some (x0, x1, x2, x3, x4, x5, x6, x7, x8, x9, x10, x11, x12, x13, x14) ∧ k x0 x1 x2 x3 x4 x5 x6 x7 x8 x9 x10 x11 x12 x13 x14 = some R := by
  cases o with
  | none => cases h
  | some a => obtain ⟨x0, x1, x2, x3, x4, x5, x6, x7, x8, x9, x10, x11, x12, x13, x14⟩ := a; exact ⟨x0, x1, x2, x3, x4, x5, x6, x7, x8, x9, x10, x11, x12, x13, x14, rfl, h⟩
section MYR
variable {p : Program} {l : Launch} {e : Env} {R : Room} {s : State} {m : MethodId} {args : Array Value} {below : List Frame} {meth : Method} {c : Code} {H : Heap} {locs : List Loc} {cells slots : Nat} {Q : State → Prop} {cc bytes : ByteArray} {nL maxL index n fr lo : Nat} {own C host : String} {y : MethodName} {ret : Option FieldType} {Ts wy : List Cond} {G : Gt} {A : Nat → Prop} {ws wc w1 : va_W} {b : Addr} {As rest st0 : List Value} {pc : Nat} {ls : Array Slot}
variable {a : Nat} {f f' : Nat → Int32} {i x v : Int32}
theorem wIald (hx : p.tables.exec = Jvm.exec) (hb : c.code = cc) (hK : KG G s) (hP : va_P G.1 vwCl ws H) (q0 : Nat) (ha : ws[q0]? = some (a, .inl (G.2.1, n, .inl f))) (hr : rd f n i = some v) (hdg : decode cc pc = .ok (.iaload, 1))
    (kk : W p l e R s m args below meth c H locs cells slots Q (F0 m (pc + 1) ls (.int v :: rest))) : W p l e R s m args below meth c H locs cells slots Q (F0 m pc ls (.int i :: .ref a :: rest)) := by
  obtain ⟨hin, rfl⟩ := rd_s hr
  exact va_iald hx hb hK.1 hP q0 0 ha rfl hin hdg kk
theorem wZald (hx : p.tables.exec = Jvm.exec) (hb : c.code = cc) (hK : KG G s) (hP : va_P G.1 vwCl ws H) (q0 : Nat) (ha : ws[q0]? = some (a, .inl (G.2.2, n, .inl f))) (hr : rd f n i = some v) (hdg : decode cc pc = .ok (.baload, 1))
    (kk : W p l e R s m args below meth c H locs cells slots Q (F0 m (pc + 1) ls (.int v :: rest))) : W p l e R s m args below meth c H locs cells slots Q (F0 m pc ls (.int i :: .ref a :: rest)) := by
  obtain ⟨hin, rfl⟩ := rd_s hr
  exact va_zald hx hb hK.1 hP q0 1 ha rfl hin hdg kk
theorem wIast (hx : p.tables.exec = Jvm.exec) (hb : c.code = cc) (hK : KG G s) (hP : va_P G.1 vwCl ws H) (hD : va_D A ws) (hS : va_S A s.heap H locs) (q0 : Nat) (ha : ws[q0]? = some (a, .inl (G.2.1, n, .inl f))) (hr : wr f n i x = some f') (hdg : decode cc pc = .ok (.iastore, 1))
    (kk : ∀ (H1 : Heap) (locs1 : List Loc), va_P G.1 vwCl (ws.set q0 (a, .inl (G.2.1, n, .inl f'))) H1 → va_S A s.heap H1 locs1 → W p l e R s m args below meth c H1 locs1 cells slots Q (F0 m (pc + 1) ls rest)) : W p l e R s m args below meth c H locs cells slots Q (F0 m pc ls (.int x :: .int i :: .ref a :: rest)) := by
  obtain ⟨hin, rfl⟩ := wr_s hr
  exact va_iast hx hb hK.1 hP hD hS q0 0 ha rfl hin hdg (fun H1 locs1 h1 _ h3 => kk H1 locs1 h1 h3)
theorem wZast (hx : p.tables.exec = Jvm.exec) (hb : c.code = cc) (hK : KG G s) (hP : va_P G.1 vwCl ws H) (hD : va_D A ws) (hS : va_S A s.heap H locs) (q0 : Nat) (ha : ws[q0]? = some (a, .inl (G.2.2, n, .inl f))) (hr : wr f n i (x &&& 1) = some f') (hdg : decode cc pc = .ok (.bastore, 1))
    (kk : ∀ (H1 : Heap) (locs1 : List Loc), va_P G.1 vwCl (ws.set q0 (a, .inl (G.2.2, n, .inl f'))) H1 → va_S A s.heap H1 locs1 → W p l e R s m args below meth c H1 locs1 cells slots Q (F0 m (pc + 1) ls rest)) : W p l e R s m args below meth c H locs cells slots Q (F0 m pc ls (.int x :: .int i :: .ref a :: rest)) := by
  obtain ⟨hin, rfl⟩ := wr_s hr
  exact va_zast hx hb hK.1 hP hD hS q0 1 ha rfl hin hdg (fun H1 locs1 h1 _ h3 => kk H1 locs1 h1 h3)
theorem wCopy (hx : p.tables.exec = Jvm.exec) (hb : c.code = cc) (hml : c.maxLocals = ls.size) (hown : s.vm.findClass own = some m.cls) (hlink : (Cond.methodLink own index arraycopyName).before args s = true) (hnat : (Cond.native arraycopyName).before args s = true) (hstat : (Cond.static arraycopyName).before args s = true) (hini : (Cond.initialized "java/lang/System").before args s = true)
    (hK : KG G s) (hP : va_P G.1 vwCl ws H) (hD : va_D A ws) (hS : va_S A s.heap H locs) (q0 q1 : Nat) {a0 n0 n1 : Nat} {g : Nat → Int32} {sp dp k : Int32} (ha0 : ws[q0]? = some (a0, .inl (G.2.1, n0, .inl f))) (ha1 : ws[q1]? = some (a, .inl (G.2.1, n1, .inl g))) (hr : cp f n0 sp g n1 dp k = some f')
    (hframes : 1 ≤ R.frames) (hlocals : (rest.map fun v => v.category).sum + (nativeFrameWords "java/lang/System" "arraycopy" 5 + 11) ≤ R.locals) (hdg : decode cc pc = .ok (.invokestatic index, 3))
    (kk : ∀ (H1 : Heap) (locs1 : List Loc), va_P G.1 vwCl (ws.set q1 (a, .inl (G.2.1, n1, .inl f'))) H1 → va_S A s.heap H1 locs1 → W p l e R s m args below meth c H1 locs1 cells slots Q (F0 m (pc + 3) ls rest)) : W p l e R s m args below meth c H locs cells slots Q (F0 m pc ls (.int k :: .int dp :: .ref a :: .int sp :: .ref a0 :: rest)) := by
  unfold cp at hr
  split at hr
  · cases hr
  · next hc =>
    have hr := Option.some.inj hr
    subst hr
    have c1 : ¬ sp < 0 := fun q => hc (Or.inl q)
    have c2 : ¬ dp < 0 := fun q => hc (Or.inr (Or.inl q))
    have c3 : ¬ k < 0 := fun q => hc (Or.inr (Or.inr (Or.inl q)))
    have c4 : ¬ n0 < sp.toNatClampNeg + k.toNatClampNeg := fun q => hc (Or.inr (Or.inr (Or.inr (Or.inl q))))
    have c5 : ¬ n1 < dp.toNatClampNeg + k.toNatClampNeg := fun q => hc (Or.inr (Or.inr (Or.inr (Or.inr q))))
    exact va_copyi hx hb hml hown hlink hnat hstat hini hK.1 hP hD hS q0 q1 0 0 ha0 ha1 rfl rfl rfl c1 c2 c3 (Nat.not_lt.mp c4) (Nat.not_lt.mp c5) (fun _ _ => rfl) hframes hlocals hdg (fun H1 locs1 h1 _ h3 => kk H1 locs1 h1 h3)
end MYR
