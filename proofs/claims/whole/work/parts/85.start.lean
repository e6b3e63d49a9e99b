def cons0 (x : Nat) (f : Nat → Nat) : Nat → Nat
  | 0 => x
  | k + 1 => f k
theorem P_left {D : va_G} {cl : List vw_C} {a b : va_W} {H : Heap} (h : va_P D cl (a ++ b) H) : va_P D cl a H := fun k q hq => h k q (by
  rw [List.getElem?_append_left (List.getElem?_eq_some_iff.mp hq).1]
  exact hq)
theorem P_right {D : va_G} {cl : List vw_C} {a b : va_W} {H : Heap} (h : va_P D cl (a ++ b) H) : va_P D cl b H := fun k q hq => h (a.length + k) q (by
  rw [List.getElem?_append_right (by omega), show a.length + k - a.length = k by omega]
  exact hq)
theorem D_swap {A : Nat → Prop} {a b : va_W} (h : va_D A (a ++ b)) : va_D A (b ++ a) := by
  have key : ∀ (i : Nat) (p : Nat × va_E), (b ++ a)[i]? = some p → i < b.length + a.length ∧ (a ++ b)[if i < b.length then a.length + i else i - b.length]? = some p := by
    intro i p hp
    have hl := (List.getElem?_eq_some_iff.mp hp).1
    rw [List.length_append] at hl
    refine ⟨hl, ?_⟩
    by_cases hi : i < b.length
    · rw [if_pos hi, List.getElem?_append_right (by omega), show a.length + i - a.length = i by omega]
      rw [List.getElem?_append_left hi] at hp
      exact hp
    · rw [if_neg hi, List.getElem?_append_left (by omega)]
      rw [List.getElem?_append_right (by omega)] at hp
      exact hp
  refine ⟨fun i j p q hp hq e => ?_, fun k q hq => h.2 _ q (key k q hq).2⟩
  obtain ⟨l1, k1⟩ := key i p hp
  obtain ⟨l2, k2⟩ := key j q hq
  have := h.1 _ _ p q k1 k2 e
  split at this <;> split at this <;> omega
theorem nestF_in : ∀ q ∈ nestF, Cond.fieldLinkNest q.1 q.2.1 q.2.2.1 q.2.2.2.1 q.2.2.2.2.1 q.2.2.2.2.2 ∈ lw_tbl := by decide +kernel
theorem nestM_in : ∀ q ∈ nestM, Cond.methodLinkNest q.1 q.2.1 q.2.2.1 q.2.2.2 ∈ lw_tbl := by decide +kernel
theorem nestF_ok : ∀ q ∈ nestF, (Cond.fieldLinkNest q.1 q.2.1 q.2.2.1 q.2.2.2.1 q.2.2.2.2.1 q.2.2.2.2.2).onTables = true := by decide +kernel
theorem nestM_ok : ∀ q ∈ nestM, (Cond.methodLinkNest q.1 q.2.1 q.2.2.1 q.2.2.2).onTables = true := by decide +kernel
theorem arr_K {s : State} {args : Array Value} {ty : FieldType} (h : (Cond.arrayClass ty).before args s = true) (hp : ∀ C, ty ≠ .object C) : ∃ cA : ClassId, ArrOfT s cA ty ∧ va_RA s cA ty := by
  obtain ⟨cA, kA, comp, h1, h2, h3⟩ := Cond.arrayClass_spec h
  refine ⟨cA, fun n z => ⟨fun k h => (by cases h), kA, h2, comp, h3⟩, ?_⟩
  cases ty with
  | object C => exact absurd rfl (hp C)
  | _ => exact h1

set_option maxRecDepth 100000 in
set_option maxHeartbeats 8000000 in
theorem KG_start {s : State} {args : Array Value} (hts0 : ∀ w ∈ lw_tbl, w.before args s = true) : ∃ G : Gt, KG G s := by
  have hts : ∀ w ∈ wsL_law, w.before args s = true := fun w hw => hts0 w (wsL_law_in w hw)
  obtain ⟨c0, i0, hK0⟩ := u_known (C := RX0) (T := TX0) (N := 3) (n := 3) hts0 inX0 (hts (.instantiable RX0 3) (List.mem_of_getElem? (i := 27) (by decide +kernel)))
  obtain ⟨c1, i1, hK1⟩ := u_known (C := RX1) (T := TX1) (N := 4) (n := 4) hts0 inX1 (hts (.instantiable RX1 4) (List.mem_of_getElem? (i := 31) (by decide +kernel)))
  obtain ⟨c2, i2, hK2⟩ := u_known (C := RX2) (T := TX2) (N := 7) (n := 7) hts0 inX2 (hts (.instantiable RX2 7) (List.mem_of_getElem? (i := 22) (by decide +kernel)))
  obtain ⟨c3, i3, hK3⟩ := u_known (C := RX3) (T := TX3) (N := 2) (n := 2) hts0 inX3 (hts (.instantiable RX3 2) (List.mem_of_getElem? (i := 14) (by decide +kernel)))
  obtain ⟨c4, i4, hK4⟩ := u_known (C := RX4) (T := TX4) (N := 8) (n := 8) hts0 inX4 (hts (.instantiable RX4 8) (List.mem_of_getElem? (i := 18) (by decide +kernel)))
  obtain ⟨c5, i5, hK5⟩ := u_known (C := RX5) (T := TX5) (N := 9) (n := 9) hts0 inX5 (hts (.instantiable RX5 9) (List.mem_of_getElem? (i := 1) (by decide +kernel)))
  obtain ⟨c6, i6, hK6⟩ := u_known (C := RX6) (T := TX6) (N := 27) (n := 27) hts0 inX6 (hts (.instantiable RX6 27) (List.mem_of_getElem? (i := 4) (by decide +kernel)))
  obtain ⟨cI, hI, hI2⟩ := arr_K (hts (.arrayClass .int) (List.mem_of_getElem? (i := 34) (by decide +kernel))) (fun C h => by cases h)
  obtain ⟨cZ, hZ, hZ2⟩ := arr_K (hts (.arrayClass .boolean) (List.mem_of_getElem? (i := 36) (by decide +kernel))) (fun C h => by cases h)
  refine ⟨((fun k => match k with
    | 0 => c0
    | 1 => c1
    | 2 => c2
    | 3 => c3
    | 4 => c4
    | 5 => c5
    | _ => c6, fun k => match k with
    | 0 => i0
    | 1 => i1
    | 2 => i2
    | 3 => i3
    | 4 => i4
    | 5 => i5
    | _ => i6), cI, cZ), ⟨?_, ?_⟩, fun q hq => va_Nw.of (nestF_ok q hq) (hts0 _ (nestF_in q hq)), fun q hq => va_Nw.of (nestM_ok q hq) (hts0 _ (nestM_in q hq))⟩
  · intro k q hq
    match k, hq with
    | 0, hq => cases hq; exact hK0
    | 1, hq => cases hq; exact hK1
    | 2, hq => cases hq; exact hK2
    | 3, hq => cases hq; exact hK3
    | 4, hq => cases hq; exact hK4
    | 5, hq => cases hq; exact hK5
    | 6, hq => cases hq; exact hK6
    | k + 7, hq => cases hq
  · intro k q hq
    match k, hq with
    | 0, hq => cases hq; exact ⟨hI, hI2⟩
    | 1, hq => cases hq; exact ⟨hZ, hZ2⟩
    | k + 2, hq => cases hq
set_option maxRecDepth 100000 in
set_option maxHeartbeats 8000000 in
theorem ST_0 (G : Gt) (x0 y0 : Nat) (a5 a6 : Nat → Nat) : ST G (cons0 x0 a5) (cons0 y0 a6) 0 (W_F G x0 (a5 0) (a5 1) (a5 2) (a5 3) (a5 4) (a5 5) (a5 6) (a5 7) (a5 8) (a5 9) (a5 10) (a5 11) (a5 12) (a5 13) (a5 14) (a5 15) (a5 16) (a5 17) (a5 18) (a5 19) (a5 20) (a5 21) (a5 22) (a5 23) (a5 24) 0 0 (fun _ => 0) 0 0 (fun _ => 0) (fun _ => 0) (fun _ => 0) (fun _ => 0) (fun _ => 0) (fun _ => 0) 0 0 0 (fun _ => 0) (fun _ => 0) (fun _ => 0) 0 0 0 (fun _ => 0) (fun _ => 0) (fun _ => 0) 0 0 (fun _ => 0) 0 (fun _ => 0) (fun _ => 0) (fun _ => 0) (fun _ => 0) (fun _ => 0)) (W_Y G y0 (a6 0) (a6 1) (a6 2) (a6 3) (a6 4) (a6 5) (a6 6) (a6 7) (a6 8) (a6 9) (a6 10) (a6 11) (a6 12) (a6 13) (a6 14) 0 0 0 0 0 0 0 31 0 0 0 0 (fun _ => 0) (fun _ => 0) (fun _ => 0) (fun _ => 0) (fun _ => 0) (fun _ => 0) (fun _ => 0) (fun _ => 0) (fun _ => 0) (fun _ => 0) (fun _ => 0) (fun _ => 0) (fun _ => 0) (fun _ => 0) (fun _ => 0)) :=
  ⟨0, 0, (fun _ => 0), 0, 0, (fun _ => 0), (fun _ => 0), (fun _ => 0), (fun _ => 0), (fun _ => 0), (fun _ => 0), 0, 0, 0, (fun _ => 0), (fun _ => 0), (fun _ => 0), 0, 0, 0, (fun _ => 0), (fun _ => 0), (fun _ => 0), 0, 0, (fun _ => 0), 0, (fun _ => 0), (fun _ => 0), (fun _ => 0), (fun _ => 0), (fun _ => 0), 0, 0, 0, 0, 0, (fun _ => 0), (fun _ => 0), (fun _ => 0), (fun _ => 0), (fun _ => 0), (fun _ => 0), rfl, rfl, by decide, fun _ => Nat.zero_le _, ⟨by decide, by decide, fun b hb => absurd hb (Nat.not_lt_zero _), fun b hb => absurd hb (Nat.not_lt_zero _), fun b hb => absurd hb (Nat.not_lt_zero _), fun b hb => absurd hb (Nat.not_lt_zero _)⟩, ⟨fun _ => Nat.zero_le _, fun b hb => absurd hb (Nat.not_lt_zero _), by decide, by decide, Nat.le_refl _⟩, ⟨fun _ _ => rfl, fun b hb => absurd hb (Nat.not_lt_zero _), rfl, rfl, rfl⟩, fun _ => Nat.zero_le _, RA.nil (by decide), ⟨Nat.zero_le _, fun _ => Nat.zero_le _, fun _ => Nat.zero_le _, fun _ => Nat.zero_le _⟩, fun k _ => ⟨Nat.zero_le _, fun q => by cases q⟩⟩
set_option maxRecDepth 100000 in
set_option maxHeartbeats 8000000 in
theorem whole_start {p : Program} {e : Env} {s : State} {m : MethodId} {below : List Frame} {meth : Method} {c : Code} (l : Launch) (hflags : l.flags = flags0) {b L : Nat} {xs : Nat → Int32} (hL : L ≤ 2560) (C0 : lw_At p s m meth c b L xs) : W p l e room_1 s m #[Value.ref b] below meth c s.heap [] 0 0 (lw_Z below #[Value.ref b] s) (entryFrame m ([Value.ref b] : List Value).toArray 4) := by
  obtain ⟨hx, hb, hr, hml, hown, hts0, hX, hbl, hlocks, hgv⟩ := C0
  replace hown : s.vm.findClass RL = some m.cls := hown
  replace hb : c.code = cL_law := hb
  have hts : ∀ w ∈ wsL_law, w.before #[Value.ref b] s = true := fun w hw => hts0 w (wsL_law_in w hw)
  have hA : ∀ q : Nat, s.heap.size ≤ q → (fun q : Nat => s.heap.size ≤ q) q := fun _ h => h
  obtain ⟨G, hK⟩ := KG_start hts0
  have S0 : CallFix p m c cL_law 4 s #[Value.ref b] wsL_law RL := ⟨hx, hb, hml, hown, hts⟩
  have hS : va_S (fun q : Nat => s.heap.size ≤ q) s.heap s.heap [] := va_S.rf
  have hP : va_P G.1 vwCl [] s.heap := fun k q h => by cases h
  have hD : va_D (fun q : Nat => s.heap.size ≤ q) [] := ⟨fun i j p q h => (by cases h), fun k q h => (by cases h)⟩
  have hl := lv_entry ([.ref b]) (n := 4) (Nat.le_of_ble_eq_true rfl)
  rw [lg_entry_eq]
  generalize (lg_sl ([.ref b]) ++ List.replicate (4 - (lg_sl ([.ref b])).length) Slot.unset).toArray = ls at hl ⊢
  replace hl : lv_has ls 4 [(0, .ref b)] := hl
  have cw_X5 := show CallB room_1 s #[Value.ref b] RL 9 yX5_init cX5_init 1 none wsX5_init (rmn 2 41 25 430) 25 430 0 ∧ yX5_init.name = "<init>" ∧ (Cond.instanceMethod yX5_init).before #[Value.ref b] s = true from cwI 0 hts gL_law_X5_init rfl rfl rfl (hts (.initialized RX5) (List.mem_of_getElem? (i := 2) (by decide +kernel))) (hts (.methodLink RL 9 yX5_init) (List.mem_of_getElem? (i := 7) (by decide +kernel))) (hts (.instanceMethod yX5_init) (List.mem_of_getElem? (i := 8) (by decide +kernel))) rfl (by decide +kernel) ⟨Nat.le_of_ble_eq_true rfl, Nat.le_of_ble_eq_true rfl⟩
  have cw_X6 := show CallB room_1 s #[Value.ref b] RL 12 yX6_init cX6_init 1 none wsX6_init (rmn 1 20 15 409) 15 409 0 ∧ yX6_init.name = "<init>" ∧ (Cond.instanceMethod yX6_init).before #[Value.ref b] s = true from cwI 0 hts gL_law_X6_init rfl rfl rfl (hts (.initialized RX6) (List.mem_of_getElem? (i := 5) (by decide +kernel))) (hts (.methodLink RL 12 yX6_init) (List.mem_of_getElem? (i := 79) (by decide +kernel))) (hts (.instanceMethod yX6_init) (List.mem_of_getElem? (i := 80) (by decide +kernel))) rfl (by decide +kernel) ⟨Nat.le_of_ble_eq_true rfl, Nat.le_of_ble_eq_true rfl⟩
  refine va_new (ci := 5) (fs := [.null, .null, .null, .null, .null, .null, .null, .null, .long 0]) (C := RX5) (T := TX5) (N := 9) hx hb hts0 inX5 tyX5 tyX5_ok hown (hts (.classLink RL 7 RX5) (List.mem_of_getElem? (i := 0) (by decide +kernel))) (hts (.instantiable RX5 9) (List.mem_of_getElem? (i := 1) (by decide +kernel))) (hts (.initialized RX5) (List.mem_of_getElem? (i := 2) (by decide +kernel))) hK.1 hP hD hS hA rfl (fun j hj => by rcases (show j = 0 ∨ j = 1 ∨ j = 2 ∨ j = 3 ∨ j = 4 ∨ j = 5 ∨ j = 6 ∨ j = 7 ∨ j = 8 by omega) with rfl | rfl | rfl | rfl | rfl | rfl | rfl | rfl | rfl <;> rfl) (Nat.le_of_ble_eq_true rfl) (Nat.le_of_ble_eq_true rfl) dL_law_0 (fun x0 H hP hD hS => ?_)
  replace hP : va_P G.1 vwCl [(x0, .inr (5, [.null, .null, .null, .null, .null, .null, .null, .null, .long 0]))] H := hP
  replace hD : va_D (fun q : Nat => s.heap.size ≤ q) [(x0, .inr (5, [.null, .null, .null, .null, .null, .null, .null, .null, .long 0]))] := hD
  refine W.widen (k := 1) (n := 9) (by decide) (by decide) ?_
  refine lv_dup hx hb dL_law_3 rfl ?_
  refine cIv (As := []) (rest := [.ref x0]) (wr := []) S0 hK hA hD hP hS [0] [] (k_X5_init l G x0) cw_X5 rfl rfl rfl rfl (by decide) rfl hl.1 rfl (Nat.le_of_ble_eq_true rfl) dL_law_4 ⟨Nat.le_of_ble_eq_true rfl, Nat.le_of_ble_eq_true rfl⟩ (fun a5 H locs hP hD hS => ?_)
  replace hP : va_P G.1 vwCl (W_F G x0 (a5 0) (a5 1) (a5 2) (a5 3) (a5 4) (a5 5) (a5 6) (a5 7) (a5 8) (a5 9) (a5 10) (a5 11) (a5 12) (a5 13) (a5 14) (a5 15) (a5 16) (a5 17) (a5 18) (a5 19) (a5 20) (a5 21) (a5 22) (a5 23) (a5 24) 0 0 (fun _ => 0) 0 0 (fun _ => 0) (fun _ => 0) (fun _ => 0) (fun _ => 0) (fun _ => 0) (fun _ => 0) 0 0 0 (fun _ => 0) (fun _ => 0) (fun _ => 0) 0 0 0 (fun _ => 0) (fun _ => 0) (fun _ => 0) 0 0 (fun _ => 0) 0 (fun _ => 0) (fun _ => 0) (fun _ => 0) (fun _ => 0) (fun _ => 0)) H := hP
  replace hD : va_D (fun q : Nat => s.heap.size ≤ q) (W_F G x0 (a5 0) (a5 1) (a5 2) (a5 3) (a5 4) (a5 5) (a5 6) (a5 7) (a5 8) (a5 9) (a5 10) (a5 11) (a5 12) (a5 13) (a5 14) (a5 15) (a5 16) (a5 17) (a5 18) (a5 19) (a5 20) (a5 21) (a5 22) (a5 23) (a5 24) 0 0 (fun _ => 0) 0 0 (fun _ => 0) (fun _ => 0) (fun _ => 0) (fun _ => 0) (fun _ => 0) (fun _ => 0) 0 0 0 (fun _ => 0) (fun _ => 0) (fun _ => 0) 0 0 0 (fun _ => 0) (fun _ => 0) (fun _ => 0) 0 0 (fun _ => 0) 0 (fun _ => 0) (fun _ => 0) (fun _ => 0) (fun _ => 0) (fun _ => 0)) := hD
  refine lv_astore_n (lv' := [(1, .ref x0), (0, .ref b)]) hx hb dL_law_7 rfl hl (by decide) rfl (fun ls hl => ?_)
  refine va_new (ci := 6) (fs := [.int 0, .int 0, .null, .null, .null, .null, .null, .null, .null, .null, .int 0, .int 0, .null, .int 0, .int 0, .int 0, .int 0, .int 0, .int 0, .null, .int 0, .null, .null, .null, .long 0, .null, .null]) (C := RX6) (T := TX6) (N := 27) hx hb hts0 inX6 tyX6 tyX6_ok hown (hts (.classLink RL 10 RX6) (List.mem_of_getElem? (i := 3) (by decide +kernel))) (hts (.instantiable RX6 27) (List.mem_of_getElem? (i := 4) (by decide +kernel))) (hts (.initialized RX6) (List.mem_of_getElem? (i := 5) (by decide +kernel))) hK.1 hP hD hS hA rfl (fun j hj => by rcases (show j = 0 ∨ j = 1 ∨ j = 2 ∨ j = 3 ∨ j = 4 ∨ j = 5 ∨ j = 6 ∨ j = 7 ∨ j = 8 ∨ j = 9 ∨ j = 10 ∨ j = 11 ∨ j = 12 ∨ j = 13 ∨ j = 14 ∨ j = 15 ∨ j = 16 ∨ j = 17 ∨ j = 18 ∨ j = 19 ∨ j = 20 ∨ j = 21 ∨ j = 22 ∨ j = 23 ∨ j = 24 ∨ j = 25 ∨ j = 26 by omega) with rfl | rfl | rfl | rfl | rfl | rfl | rfl | rfl | rfl | rfl | rfl | rfl | rfl | rfl | rfl | rfl | rfl | rfl | rfl | rfl | rfl | rfl | rfl | rfl | rfl | rfl | rfl <;> rfl) (Nat.le_of_ble_eq_true rfl) (Nat.le_of_ble_eq_true rfl) dL_law_8 (fun y0 H hP hD hS => ?_)
  refine lv_dup hx hb dL_law_11 rfl ?_
  refine cIv (As := []) (rest := [.ref y0]) (wr := (W_F G x0 (a5 0) (a5 1) (a5 2) (a5 3) (a5 4) (a5 5) (a5 6) (a5 7) (a5 8) (a5 9) (a5 10) (a5 11) (a5 12) (a5 13) (a5 14) (a5 15) (a5 16) (a5 17) (a5 18) (a5 19) (a5 20) (a5 21) (a5 22) (a5 23) (a5 24) 0 0 (fun _ => 0) 0 0 (fun _ => 0) (fun _ => 0) (fun _ => 0) (fun _ => 0) (fun _ => 0) (fun _ => 0) 0 0 0 (fun _ => 0) (fun _ => 0) (fun _ => 0) 0 0 0 (fun _ => 0) (fun _ => 0) (fun _ => 0) 0 0 (fun _ => 0) 0 (fun _ => 0) (fun _ => 0) (fun _ => 0) (fun _ => 0) (fun _ => 0))) S0 hK hA hD hP hS [26] [0, 1, 2, 3, 4, 5, 6, 7, 8, 9, 10, 11, 12, 13, 14, 15, 16, 17, 18, 19, 20, 21, 22, 23, 24, 25] (k_X6_init l G y0) cw_X6 rfl rfl rfl rfl (by decide) rfl hl.1 rfl (Nat.le_of_ble_eq_true rfl) dL_law_12 ⟨Nat.le_of_ble_eq_true rfl, Nat.le_of_ble_eq_true rfl⟩ (fun a6 H locs hP hD hS => ?_)
  replace hP : va_P G.1 vwCl ((W_F G x0 (a5 0) (a5 1) (a5 2) (a5 3) (a5 4) (a5 5) (a5 6) (a5 7) (a5 8) (a5 9) (a5 10) (a5 11) (a5 12) (a5 13) (a5 14) (a5 15) (a5 16) (a5 17) (a5 18) (a5 19) (a5 20) (a5 21) (a5 22) (a5 23) (a5 24) 0 0 (fun _ => 0) 0 0 (fun _ => 0) (fun _ => 0) (fun _ => 0) (fun _ => 0) (fun _ => 0) (fun _ => 0) 0 0 0 (fun _ => 0) (fun _ => 0) (fun _ => 0) 0 0 0 (fun _ => 0) (fun _ => 0) (fun _ => 0) 0 0 (fun _ => 0) 0 (fun _ => 0) (fun _ => 0) (fun _ => 0) (fun _ => 0) (fun _ => 0)) ++ (W_Y G y0 (a6 0) (a6 1) (a6 2) (a6 3) (a6 4) (a6 5) (a6 6) (a6 7) (a6 8) (a6 9) (a6 10) (a6 11) (a6 12) (a6 13) (a6 14) 0 0 0 0 0 0 0 31 0 0 0 0 (fun _ => 0) (fun _ => 0) (fun _ => 0) (fun _ => 0) (fun _ => 0) (fun _ => 0) (fun _ => 0) (fun _ => 0) (fun _ => 0) (fun _ => 0) (fun _ => 0) (fun _ => 0) (fun _ => 0) (fun _ => 0) (fun _ => 0))) H := hP
  replace hD : va_D (fun q : Nat => s.heap.size ≤ q) ((W_F G x0 (a5 0) (a5 1) (a5 2) (a5 3) (a5 4) (a5 5) (a5 6) (a5 7) (a5 8) (a5 9) (a5 10) (a5 11) (a5 12) (a5 13) (a5 14) (a5 15) (a5 16) (a5 17) (a5 18) (a5 19) (a5 20) (a5 21) (a5 22) (a5 23) (a5 24) 0 0 (fun _ => 0) 0 0 (fun _ => 0) (fun _ => 0) (fun _ => 0) (fun _ => 0) (fun _ => 0) (fun _ => 0) 0 0 0 (fun _ => 0) (fun _ => 0) (fun _ => 0) 0 0 0 (fun _ => 0) (fun _ => 0) (fun _ => 0) 0 0 (fun _ => 0) 0 (fun _ => 0) (fun _ => 0) (fun _ => 0) (fun _ => 0) (fun _ => 0)) ++ (W_Y G y0 (a6 0) (a6 1) (a6 2) (a6 3) (a6 4) (a6 5) (a6 6) (a6 7) (a6 8) (a6 9) (a6 10) (a6 11) (a6 12) (a6 13) (a6 14) 0 0 0 0 0 0 0 31 0 0 0 0 (fun _ => 0) (fun _ => 0) (fun _ => 0) (fun _ => 0) (fun _ => 0) (fun _ => 0) (fun _ => 0) (fun _ => 0) (fun _ => 0) (fun _ => 0) (fun _ => 0) (fun _ => 0) (fun _ => 0) (fun _ => 0) (fun _ => 0))) := hD
  refine lv_astore_n (lv' := [(2, .ref y0), (1, .ref x0), (0, .ref b)]) hx hb dL_law_15 rfl hl (by decide) rfl (fun ls hl => ?_)
  refine lv_iconst (v := 0) hx hb dL_law_16 (by decide) ?_
  refine lv_istore_n (lv' := [(3, .int 0), (2, .ref y0), (1, .ref x0), (0, .ref b)]) hx hb dL_law_17 rfl hl (by decide) rfl (fun ls hl => ?_)
  have h0 := ST_0 G x0 y0 a5 a6
  have hDD : DD s (cons0 x0 a5) (cons0 y0 a6) := by
    intro w v e1 e2
    have hh : va_D (fun q : Nat => s.heap.size ≤ q) (w ++ v) := va_D_same hD (by rw [List.map_append, List.map_append, e1, e2, h0.x.2.2.1, h0.x.2.2.2])
    exact ⟨hh, D_swap hh⟩
  refine W.widen (k := 42) (n := 875) (Nat.le_of_ble_eq_true rfl) (Nat.le_of_ble_eq_true rfl) ?_
  exact law_loop (ad := cons0 x0 a5) (ay := cons0 y0 a6) ⟨hx, hb, hml, hown, hts, hX, hbl, hK, hL⟩ hr hlocks hDD (L + 1) 0 0 _ _ H locs ls (by omega) (Nat.zero_le _) (Nat.le_refl _) h0 (P_left hP) (P_right hP) hS (lv_sub hl [3, 2, 1, 0] rfl)
