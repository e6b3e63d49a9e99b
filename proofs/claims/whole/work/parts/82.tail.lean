/-! THE CLAIM OUT OF ONE WALK OF THE LAW'S BODY. Your part is whole_start (and what it stands on); all else here is the same for every law, but numbers. -/
def R_law : String := "DustVoteLaw"
def lw_P (b : Addr) (xs : List Int32) (args : Array Value) (s : State) : Prop := args = #[.ref b] ∧ s.IntsAt b xs ∧ xs.length ≤ 2560 ∧ (Jvm.Cond.and given_1 narrow_1).before args s = true
def lw_Q (_ : Array Value) (s : State) (o : Outcome) (t : State) : Prop := o = .returned (some (.int 1)) ∧ Framed s o t [] 42 875
def lw_Z (below : List Frame) (a : Array Value) (s : State) : State → Prop := fun t => ∃ o, t.status = .running ∧ Ended t below o ∧ lw_Q a s o t
/-- the law's own end, with 1 on the stack, nothing written that was there before, its room as the claim has it -/
theorem lw_ret {p : Program} {l : Launch} {e : Env} {s : State} {m : MethodId} {below : List Frame} {meth : Method} {c : Code} {b : Nat} (hx : p.tables.exec = Jvm.exec) (hb : c.code = code) (hr : meth.sig.returnType = ret) (hlocks : meth.locks = false) {pc : Nat} {H : Heap} {ls : Array Slot} (hdg : decode code pc = .ok (.ireturn, 1)) : W p l e room_1 s m #[Value.ref b] below meth c H [] 42 875 (lw_Z below #[Value.ref b] s) (F0 m pc ls [.int 1]) := by
  intro T hT X
  obtain ⟨fs, hret, hrun, hended, hW, hframe⟩ := X.leave (v := some (.int 1)) (hlocks := hlocks) (fun h => by rw [hr] at h; cases h)
  have hmeth' : T.vm.method? m = some meth := X.method'
  refine ⟨T.setFrames fs, ?_, .returned (some (.int 1)), hrun, hended, rfl, ⟨_, rfl⟩, hW, hframe⟩
  jvm_step X.here [X.here.top, hx, hb, hdg, hmeth', hr, ret, narrow_b1]
  (try refine ⟨rfl, ?_⟩); (try refine ⟨rfl, ?_⟩)
  first | (intro acts; rw [hret _ acts rfl rfl rfl]) | rw [hret _ _ rfl rfl rfl]
  exact Steps.refl _
/-- what holds at the law's entry: the machine, the code, the tables' words (any of lw_tbl by 'hts w (by decide +kernel)'), the script of L ints xs at the cell b, what the Statement gives of the start (any of its parts by flat_of_before) -/
def lw_At (p : Program) (s : State) (m : MethodId) (meth : Method) (c : Code) (b L : Nat) (xs : Nat → Int32) : Prop :=
  p.tables.exec = Jvm.exec ∧ c.code = code ∧ meth.sig.returnType = ret ∧ c.maxLocals = 4 ∧ s.vm.findClass R_law = some m.cls ∧ (∀ w ∈ lw_tbl, w.before #[Value.ref b] s = true) ∧ va_X b L xs s s.heap ∧ b < s.heap.size ∧ meth.locks = false ∧ (Jvm.Cond.and given_1 narrow_1).before #[Value.ref b] s = true
def LC (p : Program) (s : State) (m : MethodId) (meth : Method) (c : Code) (b L : Nat) (xs : Nat → Int32) (G : Gt) : Prop := p.tables.exec = Jvm.exec ∧ c.code = cL_law ∧ c.maxLocals = 4 ∧ s.vm.findClass RL = some m.cls ∧ (∀ w ∈ wsL_law, w.before #[Value.ref b] s = true) ∧ va_X b L xs s s.heap ∧ b < s.heap.size ∧ KG G s ∧ L ≤ 2560
def DD (s : State) (ad ay : Nat → Nat) : Prop := ∀ w v : va_W, w.map Prod.fst = AD ad → v.map Prod.fst = AY ay → va_D (fun q : Nat => s.heap.size ≤ q) (w ++ v) ∧ va_D (fun q : Nat => s.heap.size ≤ q) (v ++ w)
def LKK (p : Program) (l : Launch) (e : Env) (s : State) (m : MethodId) (below : List Frame) (meth : Method) (c : Code) (b : Nat) (G : Gt) (ad ay : Nat → Nat) (bd : Nat) (ls : Array Slot) (Q : State → Prop) : Prop := ∀ (w2 v2 : va_W) (H : Heap) (locs : List Loc), ST G ad ay (bd + 1) w2 v2 → va_P G.1 vwCl w2 H → va_P G.1 vwCl v2 H → va_S (fun q : Nat => s.heap.size ≤ q) s.heap H locs → W p l e room_1 s m #[Value.ref b] below meth c H locs 42 875 Q (F0 m 1004 ls [])
theorem cmp_self (r : Int64) : lg_cmp r r = 0 := by
  unfold lg_cmp
  rw [if_neg (show ¬ r > r from Int64.lt_irrefl), if_pos rfl]
theorem ST.up {G : Gt} {ad ay : Nat → Nat} {bd : Nat} {w v : va_W} (h : ST G ad ay bd w v) : ST G ad ay (bd + 1) w v := by
  obtain ⟨ch, len, tx, br, fa, fd, fp, st, kd, fs, fl, g, e, t, d, p, nde, rg, re, rt, rd, rp, rde, af, na, ac, hs, hb, hl, hw, ks, jf, xb, xf, xa, xu, nx, y, r8, rb, rf, yr, kp, rfl, rfl, P1, P2, PT, PM, PA, PB, PR, PH, PK⟩ := h
  exact ⟨ch, len, tx, br, fa, fd, fp, st, kd, fs, fl, g, e, t, d, p, nde, rg, re, rt, rd, rp, rde, af, na, ac, hs, hb, hl, hw, ks, jf, xb, xf, xa, xu, nx, y, r8, rb, rf, yr, kp, rfl, rfl, P1, P2, PT, PM.up (Nat.le_succ _), PA, PB, PR.up (Nat.le_succ _), PH, PK.up (Nat.le_succ _)⟩
