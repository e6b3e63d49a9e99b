def f_X3_firstFaultOfParts_143 (S_len : Int32) (S_let : Nat → Int32) (kk7 : Int32 → Int32 → Int32 → Option (Int32)) (v1 : Int32) (v2 : Int32) (q0 : Int32) (q1 : Int32) : Option (Int32) := kk7 v1 v2 (q0 + q1)
def f_X3_firstFaultOfParts_125 (S_len : Int32) (S_let : Nat → Int32) (kk7 : Int32 → Int32 → Int32 → Option (Int32)) (v1 : Int32) (v3 : Int32) (q0 : Int32) (q1 : Int32) : Option (Int32) := bnd1 (f_X3_letterAt S_len S_let v3) (fun rr_1 => if rr_1 = (78 : Int32) then (f_X3_firstFaultOfParts_143 S_len S_let kk7 v1 (q0 + q1) v3 (4 : Int32)) else (f_X3_firstFaultOfParts_143 S_len S_let kk7 v1 (q0 + q1) v3 (3 : Int32)))
def f_X3_firstFaultOfParts_112 (S_len : Int32) (S_let : Nat → Int32) (kk7 : Int32 → Int32 → Int32 → Option (Int32)) (v2 : Int32) (v3 : Int32) (v5 : Int32) (q0 : Int32) (q1 : Int32) : Option (Int32) := if v5 = 0 then (f_X3_firstFaultOfParts_125 S_len S_let kk7 (q0 + q1) v3 v2 (0 : Int32)) else (f_X3_firstFaultOfParts_125 S_len S_let kk7 (q0 + q1) v3 v2 (1 : Int32))
def f_X3_firstFaultOfParts_89 (S_len : Int32) (S_let : Nat → Int32) (kk7 : Int32 → Int32 → Int32 → Option (Int32)) (v1 : Int32) (v2 : Int32) (v3 : Int32) (v4 : Int32) (v5 : Int32) (q0 : Int32) : Option (Int32) := if q0 = ((-9) : Int32) then (if v4 = 0 then (f_X3_firstFaultOfParts_112 S_len S_let kk7 v2 v3 v5 v1 (0 : Int32)) else (f_X3_firstFaultOfParts_112 S_len S_let kk7 v2 v3 v5 v1 (1 : Int32))) else (some q0)
def f_X3_firstFaultOfParts_71 (S_len : Int32) (S_let : Nat → Int32) (kk7 : Int32 → Int32 → Int32 → Option (Int32)) (v1 : Int32) (v2 : Int32) (v3 : Int32) (v4 : Int32) (v5 : Int32) : Option (Int32) := if v4 = 0 then (bnd1 (f_X3_faultOfFall S_len S_let v3) (fun rr_8 => f_X3_firstFaultOfParts_89 S_len S_let kk7 v1 v2 v3 v4 v5 rr_8)) else (bnd1 (f_X3_faultOfBroom S_len S_let v3) (fun rr_10 => f_X3_firstFaultOfParts_89 S_len S_let kk7 v1 v2 v3 v4 v5 rr_10))
def f_X3_firstFaultOfParts_57 (S_len : Int32) (S_let : Nat → Int32) (kk7 : Int32 → Int32 → Int32 → Option (Int32)) (v1 : Int32) (v2 : Int32) (v3 : Int32) (v4 : Int32) (q0 : Int32) : Option (Int32) := if v4 = 0 then (if q0 = 0 then (some v3) else (f_X3_firstFaultOfParts_71 S_len S_let kk7 v1 v2 v3 v4 q0)) else (f_X3_firstFaultOfParts_71 S_len S_let kk7 v1 v2 v3 v4 q0)
def f_X3_firstFaultOfParts_56 (S_len : Int32) (S_let : Nat → Int32) (kk7 : Int32 → Int32 → Int32 → Option (Int32)) (v1 : Int32) (v2 : Int32) (v3 : Int32) (v4 : Int32) : Option (Int32) := f_X3_firstFaultOfParts_57 S_len S_let kk7 v1 v2 v3 v4 (0 : Int32)
def f_X3_firstFaultOfParts_35 (S_len : Int32) (S_let : Nat → Int32) (kk7 : Int32 → Int32 → Int32 → Option (Int32)) (v1 : Int32) (v2 : Int32) (v3 : Int32) (q0 : Int32) : Option (Int32) := bnd1 (f_X3_letterAt S_len S_let v3) (fun rr_14 => if rr_14 = (70 : Int32) then (if (5 : Int32) ≤ v2 then (f_X3_firstFaultOfParts_56 S_len S_let kk7 v1 v2 v3 q0) else (f_X3_firstFaultOfParts_57 S_len S_let kk7 v1 v2 v3 q0 (1 : Int32))) else (f_X3_firstFaultOfParts_56 S_len S_let kk7 v1 v2 v3 q0))
def f_X3_firstFaultOfParts_34 (S_len : Int32) (S_let : Nat → Int32) (kk7 : Int32 → Int32 → Int32 → Option (Int32)) (v1 : Int32) (v2 : Int32) (v3 : Int32) : Option (Int32) := f_X3_firstFaultOfParts_35 S_len S_let kk7 v1 v2 v3 (0 : Int32)
def f_X3_firstFaultOfParts_7 (S_len : Int32) (S_let : Nat → Int32) : Nat → Int32 → Int32 → Int32 → Option (Int32)
  | 0, _, _, _ => none
  | fu + 1, v1, v2, v3 => if S_len ≤ v3 then (some ((-9) : Int32)) else (bnd1 (f_X3_letterAt S_len S_let v3) (fun rr_19 => if rr_19 = (78 : Int32) then (if (5 : Int32) ≤ v1 then (f_X3_firstFaultOfParts_34 S_len S_let (f_X3_firstFaultOfParts_7 S_len S_let fu) v1 v2 v3) else (f_X3_firstFaultOfParts_35 S_len S_let (f_X3_firstFaultOfParts_7 S_len S_let fu) v1 v2 v3 (1 : Int32))) else (f_X3_firstFaultOfParts_34 S_len S_let (f_X3_firstFaultOfParts_7 S_len S_let fu) v1 v2 v3)))
def f_X3_firstFaultOfParts (S_len : Int32) (S_let : Nat → Int32) : Option (Int32) := f_X3_firstFaultOfParts_7 S_len S_let  130 (0 : Int32) (0 : Int32) (9 : Int32)
set_option maxRecDepth 100000 in
set_option maxHeartbeats 4000000 in
theorem k_X3_firstFaultOfParts (l : Launch) (G : Gt) (s0 s1 : Nat) (S_len : Int32) (S_let : Nat → Int32) (r_ : Int32) (h : f_X3_firstFaultOfParts S_len S_let = some r_) : CT l yX3_firstFaultOfParts wsX3_firstFaultOfParts 3 63 G [.ref s0] (W_S G s0 s1 S_len S_let) (QI G r_ (W_S G s0 s1 S_len S_let)) := by
  refine met_of cX3_firstFaultOfParts 7 (some .int) (by decide) rfl (Nat.le_of_ble_eq_true rfl) ?_
  intro p e s m below meth c A ls hx hb hr hml hts hown hlocks hK hA hD hP hS hl
  replace hown : s.vm.findClass RX3 = some m.cls := hown
  replace hl : lv_has ls 7 [(0, .ref s0)] := hl
  have S0 : CallFix p m c cX3_firstFaultOfParts 7 s _ wsX3_firstFaultOfParts RX3 := ⟨hx, hb, hml, hown, hts⟩
  have cw_X3_letterAt := show CallW (rmv 3 63) s _ RX3 RX3 19 yX3_letterAt cX3_letterAt 2 (some .int) wsX3_letterAt (rmv 0 0) 0 0 1 from cwV 1 hts gX3_firstFaultOfParts_X3_letterAt rfl rfl rfl (by decide +kernel) ⟨Nat.le_of_ble_eq_true rfl, Nat.le_of_ble_eq_true rfl⟩
  have cw_X3_faultOfFall := show CallW (rmv 3 63) s _ RX3 RX3 37 yX3_faultOfFall cX3_faultOfFall 2 (some .int) wsX3_faultOfFall (rmv 2 42) 0 0 1 from cwV 1 hts gX3_firstFaultOfParts_X3_faultOfFall rfl rfl rfl (by decide +kernel) ⟨Nat.le_of_ble_eq_true rfl, Nat.le_of_ble_eq_true rfl⟩
  have cw_X3_faultOfBroom := show CallW (rmv 3 63) s _ RX3 RX3 34 yX3_faultOfBroom cX3_faultOfBroom 2 (some .int) wsX3_faultOfBroom (rmv 2 42) 0 0 1 from cwV 1 hts gX3_firstFaultOfParts_X3_faultOfBroom rfl rfl rfl (by decide +kernel) ⟨Nat.le_of_ble_eq_true rfl, Nat.le_of_ble_eq_true rfl⟩
  have fl15 := hts (.fieldLink RX3 15 "DustVote$Script" "length" "I") (by decide +kernel)
  have inX3 := show ∀ w ∈ wsX30, w ∈ wsX3_firstFaultOfParts from by decide +kernel
  have J_143 : ∀ (kk7 : Int32 → Int32 → Int32 → Option (Int32)) (hk7 : ∀ (v1 : Int32) (v2 : Int32) (v3 : Int32) (H : Heap) (locs : List Loc) (ls : Array Slot), kk7 v1 v2 v3 = some r_ → va_P G.1 vwCl (W_S G s0 s1 S_len S_let) H → va_S A s.heap H locs → lv_has ls 7 [(0, .ref s0), (1, .int v1), (2, .int v2), (3, .int v3)] → W p l e (rmv 3 63) s m (List.toArray [.ref s0]) below meth c H locs 0 0 (MQ below ((QI G r_ (W_S G s0 s1 S_len S_let)) A) (List.toArray [.ref s0]) s 0 0 A) (F0 m 7 ls [])), ∀ (v1 : Int32) (v2 : Int32) (q0 : Int32) (q1 : Int32) (H : Heap) (locs : List Loc) (ls : Array Slot), f_X3_firstFaultOfParts_143 S_len S_let kk7 v1 v2 q0 q1 = some r_ → va_P G.1 vwCl (W_S G s0 s1 S_len S_let) H → va_S A s.heap H locs → lv_has ls 7 [(0, .ref s0), (1, .int v1), (2, .int v2)] → W p l e (rmv 3 63) s m (List.toArray [.ref s0]) below meth c H locs 0 0 (MQ below ((QI G r_ (W_S G s0 s1 S_len S_let)) A) (List.toArray [.ref s0]) s 0 0 A) (F0 m 143 ls [.int q1, .int q0]) := by
    intro kk7 hk7 v1 v2 q0 q1 H locs ls h hP hS hl
    unfold f_X3_firstFaultOfParts_143 at h
    refine lv_iadd hx hb dX3_firstFaultOfParts_143 ?_
    refine lv_istore_n (lv' := [(3, .int (q0 + q1)), (0, .ref s0), (1, .int v1), (2, .int v2)]) hx hb dX3_firstFaultOfParts_144 rfl hl (by decide) rfl (fun ls hl => ?_)
    refine lv_goto (tgt := 7) hx hb dX3_firstFaultOfParts_145 (by decide) ?_
    exact hk7 v1 v2 (q0 + q1) _ _ _ h hP hS (lv_sub hl [1, 2, 3, 0] rfl)
  have J_125 : ∀ (kk7 : Int32 → Int32 → Int32 → Option (Int32)) (hk7 : ∀ (v1 : Int32) (v2 : Int32) (v3 : Int32) (H : Heap) (locs : List Loc) (ls : Array Slot), kk7 v1 v2 v3 = some r_ → va_P G.1 vwCl (W_S G s0 s1 S_len S_let) H → va_S A s.heap H locs → lv_has ls 7 [(0, .ref s0), (1, .int v1), (2, .int v2), (3, .int v3)] → W p l e (rmv 3 63) s m (List.toArray [.ref s0]) below meth c H locs 0 0 (MQ below ((QI G r_ (W_S G s0 s1 S_len S_let)) A) (List.toArray [.ref s0]) s 0 0 A) (F0 m 7 ls [])), ∀ (v1 : Int32) (v3 : Int32) (q0 : Int32) (q1 : Int32) (H : Heap) (locs : List Loc) (ls : Array Slot), f_X3_firstFaultOfParts_125 S_len S_let kk7 v1 v3 q0 q1 = some r_ → va_P G.1 vwCl (W_S G s0 s1 S_len S_let) H → va_S A s.heap H locs → lv_has ls 7 [(0, .ref s0), (1, .int v1), (3, .int v3)] → W p l e (rmv 3 63) s m (List.toArray [.ref s0]) below meth c H locs 0 0 (MQ below ((QI G r_ (W_S G s0 s1 S_len S_let)) A) (List.toArray [.ref s0]) s 0 0 A) (F0 m 125 ls [.int q1, .int q0]) := by
    intro kk7 hk7 v1 v3 q0 q1 H locs ls h hP hS hl
    unfold f_X3_firstFaultOfParts_125 at h
    refine lv_iadd hx hb dX3_firstFaultOfParts_125 ?_
    refine lv_istore_n (lv' := [(2, .int (q0 + q1)), (0, .ref s0), (1, .int v1), (3, .int v3)]) hx hb dX3_firstFaultOfParts_126 rfl hl (by decide) rfl (fun ls hl => ?_)
    refine lv_iload_n hx hb dX3_firstFaultOfParts_127 rfl (lv_at hl 3 rfl) ?_
    refine lv_aload_n hx hb dX3_firstFaultOfParts_128 rfl (lv_at hl 1 rfl) ?_
    refine lv_iload_n hx hb dX3_firstFaultOfParts_129 rfl (lv_at hl 3 rfl) ?_
    obtain ⟨rr_1, ee_2, h⟩ := bnd1_s h
    refine cFi (As := [.int v3]) (rest := [.int v3]) S0 hK hA hP (va_D_same hD rfl) hS (k_X3_letterAt l G s0 s1 S_len S_let v3 rr_1 ee_2) cw_X3_letterAt 3 0 rfl rfl rfl rfl hl.1 rfl (Nat.le_of_ble_eq_true rfl) dX3_firstFaultOfParts_130 ⟨Nat.zero_le _, Nat.zero_le _⟩ (fun H locs hP hS => ?_)
    replace hP : va_P G.1 vwCl (W_S G s0 s1 S_len S_let) H := hP
    refine lv_bipush (v := 78) hx hb dX3_firstFaultOfParts_133 (by decide) ?_
    refine lv_icmp_ne (tgt := 142) hx hb dX3_firstFaultOfParts_135 (by decide) (fun cc_3 => ?_) (fun cc_3 => ?_)
    · replace h := if_f cc_3 h
      refine lv_iconst (v := 3) hx hb dX3_firstFaultOfParts_142 (by decide) ?_
      exact J_143 kk7 hk7 v1 (q0 + q1) v3 (3 : Int32) _ _ _ h hP hS (lv_sub hl [1, 2, 0] rfl)
    · replace h := if_t cc_3 h
      refine lv_iconst (v := 4) hx hb dX3_firstFaultOfParts_138 (by decide) ?_
      refine lv_goto (tgt := 143) hx hb dX3_firstFaultOfParts_139 (by decide) ?_
      exact J_143 kk7 hk7 v1 (q0 + q1) v3 (4 : Int32) _ _ _ h hP hS (lv_sub hl [1, 2, 0] rfl)
  have J_112 : ∀ (kk7 : Int32 → Int32 → Int32 → Option (Int32)) (hk7 : ∀ (v1 : Int32) (v2 : Int32) (v3 : Int32) (H : Heap) (locs : List Loc) (ls : Array Slot), kk7 v1 v2 v3 = some r_ → va_P G.1 vwCl (W_S G s0 s1 S_len S_let) H → va_S A s.heap H locs → lv_has ls 7 [(0, .ref s0), (1, .int v1), (2, .int v2), (3, .int v3)] → W p l e (rmv 3 63) s m (List.toArray [.ref s0]) below meth c H locs 0 0 (MQ below ((QI G r_ (W_S G s0 s1 S_len S_let)) A) (List.toArray [.ref s0]) s 0 0 A) (F0 m 7 ls [])), ∀ (v2 : Int32) (v3 : Int32) (v5 : Int32) (q0 : Int32) (q1 : Int32) (H : Heap) (locs : List Loc) (ls : Array Slot), f_X3_firstFaultOfParts_112 S_len S_let kk7 v2 v3 v5 q0 q1 = some r_ → va_P G.1 vwCl (W_S G s0 s1 S_len S_let) H → va_S A s.heap H locs → lv_has ls 7 [(0, .ref s0), (2, .int v2), (3, .int v3), (5, .int v5)] → W p l e (rmv 3 63) s m (List.toArray [.ref s0]) below meth c H locs 0 0 (MQ below ((QI G r_ (W_S G s0 s1 S_len S_let)) A) (List.toArray [.ref s0]) s 0 0 A) (F0 m 112 ls [.int q1, .int q0]) := by
    intro kk7 hk7 v2 v3 v5 q0 q1 H locs ls h hP hS hl
    unfold f_X3_firstFaultOfParts_112 at h
    refine lv_iadd hx hb dX3_firstFaultOfParts_112 ?_
    refine lv_istore_n (lv' := [(1, .int (q0 + q1)), (0, .ref s0), (2, .int v2), (3, .int v3), (5, .int v5)]) hx hb dX3_firstFaultOfParts_113 rfl hl (by decide) rfl (fun ls hl => ?_)
    refine lv_iload_n hx hb dX3_firstFaultOfParts_114 rfl (lv_at hl 2 rfl) ?_
    refine lv_iload hx hb dX3_firstFaultOfParts_115 (lv_at hl 4 rfl) ?_
    refine lv_if_eq (tgt := 124) hx hb dX3_firstFaultOfParts_117 (by decide) (fun cc_4 => ?_) (fun cc_4 => ?_)
    · replace h := if_t cc_4 h
      refine lv_iconst (v := 0) hx hb dX3_firstFaultOfParts_124 (by decide) ?_
      exact J_125 kk7 hk7 (q0 + q1) v3 v2 (0 : Int32) _ _ _ h hP hS (lv_sub hl [1, 0, 3] rfl)
    · replace h := if_f cc_4 h
      refine lv_iconst (v := 1) hx hb dX3_firstFaultOfParts_120 (by decide) ?_
      refine lv_goto (tgt := 125) hx hb dX3_firstFaultOfParts_121 (by decide) ?_
      exact J_125 kk7 hk7 (q0 + q1) v3 v2 (1 : Int32) _ _ _ h hP hS (lv_sub hl [1, 0, 3] rfl)
  have J_89 : ∀ (kk7 : Int32 → Int32 → Int32 → Option (Int32)) (hk7 : ∀ (v1 : Int32) (v2 : Int32) (v3 : Int32) (H : Heap) (locs : List Loc) (ls : Array Slot), kk7 v1 v2 v3 = some r_ → va_P G.1 vwCl (W_S G s0 s1 S_len S_let) H → va_S A s.heap H locs → lv_has ls 7 [(0, .ref s0), (1, .int v1), (2, .int v2), (3, .int v3)] → W p l e (rmv 3 63) s m (List.toArray [.ref s0]) below meth c H locs 0 0 (MQ below ((QI G r_ (W_S G s0 s1 S_len S_let)) A) (List.toArray [.ref s0]) s 0 0 A) (F0 m 7 ls [])), ∀ (v1 : Int32) (v2 : Int32) (v3 : Int32) (v4 : Int32) (v5 : Int32) (q0 : Int32) (H : Heap) (locs : List Loc) (ls : Array Slot), f_X3_firstFaultOfParts_89 S_len S_let kk7 v1 v2 v3 v4 v5 q0 = some r_ → va_P G.1 vwCl (W_S G s0 s1 S_len S_let) H → va_S A s.heap H locs → lv_has ls 7 [(0, .ref s0), (1, .int v1), (2, .int v2), (3, .int v3), (4, .int v4), (5, .int v5)] → W p l e (rmv 3 63) s m (List.toArray [.ref s0]) below meth c H locs 0 0 (MQ below ((QI G r_ (W_S G s0 s1 S_len S_let)) A) (List.toArray [.ref s0]) s 0 0 A) (F0 m 89 ls [.int q0]) := by
    intro kk7 hk7 v1 v2 v3 v4 v5 q0 H locs ls h hP hS hl
    unfold f_X3_firstFaultOfParts_89 at h
    refine lv_istore (lv' := [(6, .int q0), (0, .ref s0), (1, .int v1), (2, .int v2), (3, .int v3), (4, .int v4), (5, .int v5)]) hx hb dX3_firstFaultOfParts_89 hl (by decide) rfl (fun ls hl => ?_)
    refine lv_iload hx hb dX3_firstFaultOfParts_91 (lv_at hl 0 rfl) ?_
    refine lv_bipush (v := (-9)) hx hb dX3_firstFaultOfParts_93 (by decide) ?_
    refine lv_icmp_eq (tgt := 101) hx hb dX3_firstFaultOfParts_95 (by decide) (fun cc_5 => ?_) (fun cc_5 => ?_)
    · replace h := if_t cc_5 h
      refine lv_iload_n hx hb dX3_firstFaultOfParts_101 rfl (lv_at hl 2 rfl) ?_
      refine lv_iload hx hb dX3_firstFaultOfParts_102 (lv_at hl 5 rfl) ?_
      refine lv_if_eq (tgt := 111) hx hb dX3_firstFaultOfParts_104 (by decide) (fun cc_6 => ?_) (fun cc_6 => ?_)
      · replace h := if_t cc_6 h
        refine lv_iconst (v := 0) hx hb dX3_firstFaultOfParts_111 (by decide) ?_
        exact J_112 kk7 hk7 v2 v3 v5 v1 (0 : Int32) _ _ _ h hP hS (lv_sub hl [1, 3, 4, 6] rfl)
      · replace h := if_f cc_6 h
        refine lv_iconst (v := 1) hx hb dX3_firstFaultOfParts_107 (by decide) ?_
        refine lv_goto (tgt := 112) hx hb dX3_firstFaultOfParts_108 (by decide) ?_
        exact J_112 kk7 hk7 v2 v3 v5 v1 (1 : Int32) _ _ _ h hP hS (lv_sub hl [1, 3, 4, 6] rfl)
    · replace h := if_f cc_5 h
      refine lv_iload hx hb dX3_firstFaultOfParts_98 (lv_at hl 0 rfl) ?_
      cases h
      exact W.iret hx hb hr (fun t ht _ => ⟨⟨_, (), rfl, rfl, by show va_P G.1 vwCl _ t.heap; rw [ht]; exact hP⟩, hS.F ht⟩) hS.2.2 dX3_firstFaultOfParts_100
  have J_71 : ∀ (kk7 : Int32 → Int32 → Int32 → Option (Int32)) (hk7 : ∀ (v1 : Int32) (v2 : Int32) (v3 : Int32) (H : Heap) (locs : List Loc) (ls : Array Slot), kk7 v1 v2 v3 = some r_ → va_P G.1 vwCl (W_S G s0 s1 S_len S_let) H → va_S A s.heap H locs → lv_has ls 7 [(0, .ref s0), (1, .int v1), (2, .int v2), (3, .int v3)] → W p l e (rmv 3 63) s m (List.toArray [.ref s0]) below meth c H locs 0 0 (MQ below ((QI G r_ (W_S G s0 s1 S_len S_let)) A) (List.toArray [.ref s0]) s 0 0 A) (F0 m 7 ls [])), ∀ (v1 : Int32) (v2 : Int32) (v3 : Int32) (v4 : Int32) (v5 : Int32) (H : Heap) (locs : List Loc) (ls : Array Slot), f_X3_firstFaultOfParts_71 S_len S_let kk7 v1 v2 v3 v4 v5 = some r_ → va_P G.1 vwCl (W_S G s0 s1 S_len S_let) H → va_S A s.heap H locs → lv_has ls 7 [(0, .ref s0), (1, .int v1), (2, .int v2), (3, .int v3), (4, .int v4), (5, .int v5)] → W p l e (rmv 3 63) s m (List.toArray [.ref s0]) below meth c H locs 0 0 (MQ below ((QI G r_ (W_S G s0 s1 S_len S_let)) A) (List.toArray [.ref s0]) s 0 0 A) (F0 m 71 ls []) := by
    intro kk7 hk7 v1 v2 v3 v4 v5 H locs ls h hP hS hl
    unfold f_X3_firstFaultOfParts_71 at h
    refine lv_iload hx hb dX3_firstFaultOfParts_71 (lv_at hl 4 rfl) ?_
    refine lv_if_eq (tgt := 84) hx hb dX3_firstFaultOfParts_73 (by decide) (fun cc_7 => ?_) (fun cc_7 => ?_)
    · replace h := if_t cc_7 h
      refine lv_aload_n hx hb dX3_firstFaultOfParts_84 rfl (lv_at hl 0 rfl) ?_
      refine lv_iload_n hx hb dX3_firstFaultOfParts_85 rfl (lv_at hl 3 rfl) ?_
      obtain ⟨rr_8, ee_9, h⟩ := bnd1_s h
      refine cFi (As := [.int v3]) (rest := []) S0 hK hA hP (va_D_same hD rfl) hS (k_X3_faultOfFall l G s0 s1 S_len S_let v3 rr_8 ee_9) cw_X3_faultOfFall 3 0 rfl rfl rfl rfl hl.1 rfl (Nat.le_of_ble_eq_true rfl) dX3_firstFaultOfParts_86 ⟨Nat.zero_le _, Nat.zero_le _⟩ (fun H locs hP hS => ?_)
      replace hP : va_P G.1 vwCl (W_S G s0 s1 S_len S_let) H := hP
      exact J_89 kk7 hk7 v1 v2 v3 v4 v5 rr_8 _ _ _ h hP hS (lv_sub hl [0, 1, 2, 3, 4, 5] rfl)
    · replace h := if_f cc_7 h
      refine lv_aload_n hx hb dX3_firstFaultOfParts_76 rfl (lv_at hl 0 rfl) ?_
      refine lv_iload_n hx hb dX3_firstFaultOfParts_77 rfl (lv_at hl 3 rfl) ?_
      obtain ⟨rr_10, ee_11, h⟩ := bnd1_s h
      refine cFi (As := [.int v3]) (rest := []) S0 hK hA hP (va_D_same hD rfl) hS (k_X3_faultOfBroom l G s0 s1 S_len S_let v3 rr_10 ee_11) cw_X3_faultOfBroom 3 0 rfl rfl rfl rfl hl.1 rfl (Nat.le_of_ble_eq_true rfl) dX3_firstFaultOfParts_78 ⟨Nat.zero_le _, Nat.zero_le _⟩ (fun H locs hP hS => ?_)
      replace hP : va_P G.1 vwCl (W_S G s0 s1 S_len S_let) H := hP
      refine lv_goto (tgt := 89) hx hb dX3_firstFaultOfParts_81 (by decide) ?_
      exact J_89 kk7 hk7 v1 v2 v3 v4 v5 rr_10 _ _ _ h hP hS (lv_sub hl [0, 1, 2, 3, 4, 5] rfl)
  have J_57 : ∀ (kk7 : Int32 → Int32 → Int32 → Option (Int32)) (hk7 : ∀ (v1 : Int32) (v2 : Int32) (v3 : Int32) (H : Heap) (locs : List Loc) (ls : Array Slot), kk7 v1 v2 v3 = some r_ → va_P G.1 vwCl (W_S G s0 s1 S_len S_let) H → va_S A s.heap H locs → lv_has ls 7 [(0, .ref s0), (1, .int v1), (2, .int v2), (3, .int v3)] → W p l e (rmv 3 63) s m (List.toArray [.ref s0]) below meth c H locs 0 0 (MQ below ((QI G r_ (W_S G s0 s1 S_len S_let)) A) (List.toArray [.ref s0]) s 0 0 A) (F0 m 7 ls [])), ∀ (v1 : Int32) (v2 : Int32) (v3 : Int32) (v4 : Int32) (q0 : Int32) (H : Heap) (locs : List Loc) (ls : Array Slot), f_X3_firstFaultOfParts_57 S_len S_let kk7 v1 v2 v3 v4 q0 = some r_ → va_P G.1 vwCl (W_S G s0 s1 S_len S_let) H → va_S A s.heap H locs → lv_has ls 7 [(0, .ref s0), (1, .int v1), (2, .int v2), (3, .int v3), (4, .int v4)] → W p l e (rmv 3 63) s m (List.toArray [.ref s0]) below meth c H locs 0 0 (MQ below ((QI G r_ (W_S G s0 s1 S_len S_let)) A) (List.toArray [.ref s0]) s 0 0 A) (F0 m 57 ls [.int q0]) := by
    intro kk7 hk7 v1 v2 v3 v4 q0 H locs ls h hP hS hl
    unfold f_X3_firstFaultOfParts_57 at h
    refine lv_istore (lv' := [(5, .int q0), (0, .ref s0), (1, .int v1), (2, .int v2), (3, .int v3), (4, .int v4)]) hx hb dX3_firstFaultOfParts_57 hl (by decide) rfl (fun ls hl => ?_)
    refine lv_iload hx hb dX3_firstFaultOfParts_59 (lv_at hl 5 rfl) ?_
    refine lv_if_ne (tgt := 71) hx hb dX3_firstFaultOfParts_61 (by decide) (fun cc_12 => ?_) (fun cc_12 => ?_)
    · replace h := if_f cc_12 h
      exact J_71 kk7 hk7 v1 v2 v3 v4 q0 _ _ _ h hP hS (lv_sub hl [1, 2, 3, 4, 5, 0] rfl)
    · replace h := if_t cc_12 h
      refine lv_iload hx hb dX3_firstFaultOfParts_64 (lv_at hl 0 rfl) ?_
      refine lv_if_ne (tgt := 71) hx hb dX3_firstFaultOfParts_66 (by decide) (fun cc_13 => ?_) (fun cc_13 => ?_)
      · replace h := if_f cc_13 h
        exact J_71 kk7 hk7 v1 v2 v3 v4 q0 _ _ _ h hP hS (lv_sub hl [1, 2, 3, 4, 5, 0] rfl)
      · replace h := if_t cc_13 h
        refine lv_iload_n hx hb dX3_firstFaultOfParts_69 rfl (lv_at hl 4 rfl) ?_
        cases h
        exact W.iret hx hb hr (fun t ht _ => ⟨⟨_, (), rfl, rfl, by show va_P G.1 vwCl _ t.heap; rw [ht]; exact hP⟩, hS.F ht⟩) hS.2.2 dX3_firstFaultOfParts_70
  have J_56 : ∀ (kk7 : Int32 → Int32 → Int32 → Option (Int32)) (hk7 : ∀ (v1 : Int32) (v2 : Int32) (v3 : Int32) (H : Heap) (locs : List Loc) (ls : Array Slot), kk7 v1 v2 v3 = some r_ → va_P G.1 vwCl (W_S G s0 s1 S_len S_let) H → va_S A s.heap H locs → lv_has ls 7 [(0, .ref s0), (1, .int v1), (2, .int v2), (3, .int v3)] → W p l e (rmv 3 63) s m (List.toArray [.ref s0]) below meth c H locs 0 0 (MQ below ((QI G r_ (W_S G s0 s1 S_len S_let)) A) (List.toArray [.ref s0]) s 0 0 A) (F0 m 7 ls [])), ∀ (v1 : Int32) (v2 : Int32) (v3 : Int32) (v4 : Int32) (H : Heap) (locs : List Loc) (ls : Array Slot), f_X3_firstFaultOfParts_56 S_len S_let kk7 v1 v2 v3 v4 = some r_ → va_P G.1 vwCl (W_S G s0 s1 S_len S_let) H → va_S A s.heap H locs → lv_has ls 7 [(0, .ref s0), (1, .int v1), (2, .int v2), (3, .int v3), (4, .int v4)] → W p l e (rmv 3 63) s m (List.toArray [.ref s0]) below meth c H locs 0 0 (MQ below ((QI G r_ (W_S G s0 s1 S_len S_let)) A) (List.toArray [.ref s0]) s 0 0 A) (F0 m 56 ls []) := by
    intro kk7 hk7 v1 v2 v3 v4 H locs ls h hP hS hl
    unfold f_X3_firstFaultOfParts_56 at h
    refine lv_iconst (v := 0) hx hb dX3_firstFaultOfParts_56 (by decide) ?_
    exact J_57 kk7 hk7 v1 v2 v3 v4 (0 : Int32) _ _ _ h hP hS (lv_sub hl [0, 1, 2, 3, 4] rfl)
  have J_35 : ∀ (kk7 : Int32 → Int32 → Int32 → Option (Int32)) (hk7 : ∀ (v1 : Int32) (v2 : Int32) (v3 : Int32) (H : Heap) (locs : List Loc) (ls : Array Slot), kk7 v1 v2 v3 = some r_ → va_P G.1 vwCl (W_S G s0 s1 S_len S_let) H → va_S A s.heap H locs → lv_has ls 7 [(0, .ref s0), (1, .int v1), (2, .int v2), (3, .int v3)] → W p l e (rmv 3 63) s m (List.toArray [.ref s0]) below meth c H locs 0 0 (MQ below ((QI G r_ (W_S G s0 s1 S_len S_let)) A) (List.toArray [.ref s0]) s 0 0 A) (F0 m 7 ls [])), ∀ (v1 : Int32) (v2 : Int32) (v3 : Int32) (q0 : Int32) (H : Heap) (locs : List Loc) (ls : Array Slot), f_X3_firstFaultOfParts_35 S_len S_let kk7 v1 v2 v3 q0 = some r_ → va_P G.1 vwCl (W_S G s0 s1 S_len S_let) H → va_S A s.heap H locs → lv_has ls 7 [(0, .ref s0), (1, .int v1), (2, .int v2), (3, .int v3)] → W p l e (rmv 3 63) s m (List.toArray [.ref s0]) below meth c H locs 0 0 (MQ below ((QI G r_ (W_S G s0 s1 S_len S_let)) A) (List.toArray [.ref s0]) s 0 0 A) (F0 m 35 ls [.int q0]) := by
    intro kk7 hk7 v1 v2 v3 q0 H locs ls h hP hS hl
    unfold f_X3_firstFaultOfParts_35 at h
    refine lv_istore (lv' := [(4, .int q0), (0, .ref s0), (1, .int v1), (2, .int v2), (3, .int v3)]) hx hb dX3_firstFaultOfParts_35 hl (by decide) rfl (fun ls hl => ?_)
    refine lv_aload_n hx hb dX3_firstFaultOfParts_37 rfl (lv_at hl 1 rfl) ?_
    refine lv_iload_n hx hb dX3_firstFaultOfParts_38 rfl (lv_at hl 4 rfl) ?_
    obtain ⟨rr_14, ee_15, h⟩ := bnd1_s h
    refine cFi (As := [.int v3]) (rest := []) S0 hK hA hP (va_D_same hD rfl) hS (k_X3_letterAt l G s0 s1 S_len S_let v3 rr_14 ee_15) cw_X3_letterAt 3 0 rfl rfl rfl rfl hl.1 rfl (Nat.le_of_ble_eq_true rfl) dX3_firstFaultOfParts_39 ⟨Nat.zero_le _, Nat.zero_le _⟩ (fun H locs hP hS => ?_)
    replace hP : va_P G.1 vwCl (W_S G s0 s1 S_len S_let) H := hP
    refine lv_bipush (v := 70) hx hb dX3_firstFaultOfParts_42 (by decide) ?_
    refine lv_icmp_ne (tgt := 56) hx hb dX3_firstFaultOfParts_44 (by decide) (fun cc_16 => ?_) (fun cc_16 => ?_)
    · replace h := if_f cc_16 h
      exact J_56 kk7 hk7 v1 v2 v3 q0 _ _ _ h hP hS (lv_sub hl [1, 2, 3, 4, 0] rfl)
    · replace h := if_t cc_16 h
      refine lv_iload_n hx hb dX3_firstFaultOfParts_47 rfl (lv_at hl 3 rfl) ?_
      refine lv_iconst (v := 5) hx hb dX3_firstFaultOfParts_48 (by decide) ?_
      refine lv_icmp_ge (tgt := 56) hx hb dX3_firstFaultOfParts_49 (by decide) (fun cc_17 => ?_) (fun cc_17 => ?_)
      · replace h := if_t cc_17 h
        exact J_56 kk7 hk7 v1 v2 v3 q0 _ _ _ h hP hS (lv_sub hl [1, 2, 3, 4, 0] rfl)
      · replace h := if_f cc_17 h
        refine lv_iconst (v := 1) hx hb dX3_firstFaultOfParts_52 (by decide) ?_
        refine lv_goto (tgt := 57) hx hb dX3_firstFaultOfParts_53 (by decide) ?_
        exact J_57 kk7 hk7 v1 v2 v3 q0 (1 : Int32) _ _ _ h hP hS (lv_sub hl [1, 2, 3, 4, 0] rfl)
  have J_34 : ∀ (kk7 : Int32 → Int32 → Int32 → Option (Int32)) (hk7 : ∀ (v1 : Int32) (v2 : Int32) (v3 : Int32) (H : Heap) (locs : List Loc) (ls : Array Slot), kk7 v1 v2 v3 = some r_ → va_P G.1 vwCl (W_S G s0 s1 S_len S_let) H → va_S A s.heap H locs → lv_has ls 7 [(0, .ref s0), (1, .int v1), (2, .int v2), (3, .int v3)] → W p l e (rmv 3 63) s m (List.toArray [.ref s0]) below meth c H locs 0 0 (MQ below ((QI G r_ (W_S G s0 s1 S_len S_let)) A) (List.toArray [.ref s0]) s 0 0 A) (F0 m 7 ls [])), ∀ (v1 : Int32) (v2 : Int32) (v3 : Int32) (H : Heap) (locs : List Loc) (ls : Array Slot), f_X3_firstFaultOfParts_34 S_len S_let kk7 v1 v2 v3 = some r_ → va_P G.1 vwCl (W_S G s0 s1 S_len S_let) H → va_S A s.heap H locs → lv_has ls 7 [(0, .ref s0), (1, .int v1), (2, .int v2), (3, .int v3)] → W p l e (rmv 3 63) s m (List.toArray [.ref s0]) below meth c H locs 0 0 (MQ below ((QI G r_ (W_S G s0 s1 S_len S_let)) A) (List.toArray [.ref s0]) s 0 0 A) (F0 m 34 ls []) := by
    intro kk7 hk7 v1 v2 v3 H locs ls h hP hS hl
    unfold f_X3_firstFaultOfParts_34 at h
    refine lv_iconst (v := 0) hx hb dX3_firstFaultOfParts_34 (by decide) ?_
    exact J_35 kk7 hk7 v1 v2 v3 (0 : Int32) _ _ _ h hP hS (lv_sub hl [0, 1, 2, 3] rfl)
  have J_7 : ∀ (fu : Nat), ∀ (v1 : Int32) (v2 : Int32) (v3 : Int32) (H : Heap) (locs : List Loc) (ls : Array Slot), f_X3_firstFaultOfParts_7 S_len S_let fu v1 v2 v3 = some r_ → va_P G.1 vwCl (W_S G s0 s1 S_len S_let) H → va_S A s.heap H locs → lv_has ls 7 [(0, .ref s0), (1, .int v1), (2, .int v2), (3, .int v3)] → W p l e (rmv 3 63) s m (List.toArray [.ref s0]) below meth c H locs 0 0 (MQ below ((QI G r_ (W_S G s0 s1 S_len S_let)) A) (List.toArray [.ref s0]) s 0 0 A) (F0 m 7 ls []) := by
    intro  fu
    induction fu with
    | zero =>
      intro v1 v2 v3 H locs ls h
      cases h
    | succ fu ih =>
      intro v1 v2 v3 H locs ls h hP hS hl
      rw [f_X3_firstFaultOfParts_7] at h
      refine lv_iload_n hx hb dX3_firstFaultOfParts_7 rfl (lv_at hl 3 rfl) ?_
      refine lv_aload_n hx hb dX3_firstFaultOfParts_8 rfl (lv_at hl 0 rfl) ?_
      refine va_get (ci := 3) (C := RX3) (T := TX3) (N := 2) hx hb hts inX3 hown hK.1 hP 0 rfl rfl 1 (by decide) fl15 (fun _ h9 => h9) rfl dX3_firstFaultOfParts_9 ?_
      refine lv_icmp_ge (tgt := 148) hx hb dX3_firstFaultOfParts_12 (by decide) (fun cc_18 => ?_) (fun cc_18 => ?_)
      · replace h := if_t cc_18 h
        refine lv_bipush (v := (-9)) hx hb dX3_firstFaultOfParts_148 (by decide) ?_
        cases h
        exact W.iret hx hb hr (fun t ht _ => ⟨⟨_, (), rfl, rfl, by show va_P G.1 vwCl _ t.heap; rw [ht]; exact hP⟩, hS.F ht⟩) hS.2.2 dX3_firstFaultOfParts_150
      · replace h := if_f cc_18 h
        refine lv_aload_n hx hb dX3_firstFaultOfParts_15 rfl (lv_at hl 0 rfl) ?_
        refine lv_iload_n hx hb dX3_firstFaultOfParts_16 rfl (lv_at hl 3 rfl) ?_
        obtain ⟨rr_19, ee_20, h⟩ := bnd1_s h
        refine cFi (As := [.int v3]) (rest := []) S0 hK hA hP (va_D_same hD rfl) hS (k_X3_letterAt l G s0 s1 S_len S_let v3 rr_19 ee_20) cw_X3_letterAt 3 0 rfl rfl rfl rfl hl.1 rfl (Nat.le_of_ble_eq_true rfl) dX3_firstFaultOfParts_17 ⟨Nat.zero_le _, Nat.zero_le _⟩ (fun H locs hP hS => ?_)
        replace hP : va_P G.1 vwCl (W_S G s0 s1 S_len S_let) H := hP
        refine lv_bipush (v := 78) hx hb dX3_firstFaultOfParts_20 (by decide) ?_
        refine lv_icmp_ne (tgt := 34) hx hb dX3_firstFaultOfParts_22 (by decide) (fun cc_21 => ?_) (fun cc_21 => ?_)
        · replace h := if_f cc_21 h
          exact J_34 (f_X3_firstFaultOfParts_7 S_len S_let fu) ih v1 v2 v3 _ _ _ h hP hS (lv_sub hl [0, 1, 2, 3] rfl)
        · replace h := if_t cc_21 h
          refine lv_iload_n hx hb dX3_firstFaultOfParts_25 rfl (lv_at hl 1 rfl) ?_
          refine lv_iconst (v := 5) hx hb dX3_firstFaultOfParts_26 (by decide) ?_
          refine lv_icmp_ge (tgt := 34) hx hb dX3_firstFaultOfParts_27 (by decide) (fun cc_22 => ?_) (fun cc_22 => ?_)
          · replace h := if_t cc_22 h
            exact J_34 (f_X3_firstFaultOfParts_7 S_len S_let fu) ih v1 v2 v3 _ _ _ h hP hS (lv_sub hl [0, 1, 2, 3] rfl)
          · replace h := if_f cc_22 h
            refine lv_iconst (v := 1) hx hb dX3_firstFaultOfParts_30 (by decide) ?_
            refine lv_goto (tgt := 35) hx hb dX3_firstFaultOfParts_31 (by decide) ?_
            exact J_35 (f_X3_firstFaultOfParts_7 S_len S_let fu) ih v1 v2 v3 (1 : Int32) _ _ _ h hP hS (lv_sub hl [0, 1, 2, 3] rfl)
  unfold f_X3_firstFaultOfParts at h
  refine lv_iconst (v := 0) hx hb dX3_firstFaultOfParts_0 (by decide) ?_
  refine lv_istore_n (lv' := [(1, .int (0 : Int32)), (0, .ref s0)]) hx hb dX3_firstFaultOfParts_1 rfl hl (by decide) rfl (fun ls hl => ?_)
  refine lv_iconst (v := 0) hx hb dX3_firstFaultOfParts_2 (by decide) ?_
  refine lv_istore_n (lv' := [(2, .int (0 : Int32)), (1, .int (0 : Int32)), (0, .ref s0)]) hx hb dX3_firstFaultOfParts_3 rfl hl (by decide) rfl (fun ls hl => ?_)
  refine lv_bipush (v := 9) hx hb dX3_firstFaultOfParts_4 (by decide) ?_
  refine lv_istore_n (lv' := [(3, .int (9 : Int32)), (2, .int (0 : Int32)), (1, .int (0 : Int32)), (0, .ref s0)]) hx hb dX3_firstFaultOfParts_6 rfl hl (by decide) rfl (fun ls hl => ?_)
  exact J_7  130 (0 : Int32) (0 : Int32) (9 : Int32) _ _ _ h hP hS (lv_sub hl [3, 2, 1, 0] rfl)
def f_X3_firstFault_14 (S_len : Int32) (S_let : Nat → Int32) : Nat → Int32 → Option (Int32)
  | 0, _ => none
  | fu + 1, v1 => if (9 : Int32) ≤ v1 then (bnd1 (f_X3_firstFaultOfParts S_len S_let) (fun rr_2 => some rr_2)) else (bnd1 (f_X3_figureAt S_len S_let v1) (fun rr_4 => bnd1 (f_X5_within rr_4 (0 : Int32) (9 : Int32)) (fun rr_6 => if rr_6 = 0 then (some v1) else (f_X3_firstFault_14 S_len S_let fu (v1 + 1)))))
def f_X3_firstFault (S_len : Int32) (S_let : Nat → Int32) : Option (Int32) := bnd1 (f_X3_letterAt S_len S_let (0 : Int32)) (fun rr_9 => if rr_9 = (66 : Int32) then (f_X3_firstFault_14 S_len S_let  130 (1 : Int32)) else (some (0 : Int32)))
set_option maxRecDepth 100000 in
set_option maxHeartbeats 4000000 in
theorem k_X3_firstFault (l : Launch) (G : Gt) (s0 s1 : Nat) (S_len : Int32) (S_let : Nat → Int32) (r_ : Int32) (h : f_X3_firstFault S_len S_let = some r_) : CT l yX3_firstFault wsX3_firstFault 4 89 G [.ref s0] (W_S G s0 s1 S_len S_let) (QI G r_ (W_S G s0 s1 S_len S_let)) := by
  refine met_of cX3_firstFault 2 (some .int) (by decide) rfl (Nat.le_of_ble_eq_true rfl) ?_
  intro p e s m below meth c A ls hx hb hr hml hts hown hlocks hK hA hD hP hS hl
  replace hown : s.vm.findClass RX3 = some m.cls := hown
  replace hl : lv_has ls 2 [(0, .ref s0)] := hl
  have S0 : CallFix p m c cX3_firstFault 2 s _ wsX3_firstFault RX3 := ⟨hx, hb, hml, hown, hts⟩
  have cw_X3_firstFaultOfParts := show CallW (rmv 4 89) s _ RX3 RX3 30 yX3_firstFaultOfParts cX3_firstFaultOfParts 7 (some .int) wsX3_firstFaultOfParts (rmv 3 63) 0 0 0 from cwV 0 hts gX3_firstFault_X3_firstFaultOfParts rfl rfl rfl (by decide +kernel) ⟨Nat.le_of_ble_eq_true rfl, Nat.le_of_ble_eq_true rfl⟩
  have cw_X3_figureAt := show CallW (rmv 4 89) s _ RX3 RX3 23 yX3_figureAt cX3_figureAt 2 (some .int) wsX3_figureAt (rmv 1 21) 0 0 1 from cwV 1 hts gX3_firstFault_X3_figureAt rfl rfl rfl (by decide +kernel) ⟨Nat.le_of_ble_eq_true rfl, Nat.le_of_ble_eq_true rfl⟩
  have cw_X5_within := show va_CN (rmv 4 89) s _ RX3 26 yX5_within "DustVote" cX5_within 3 (some .boolean) wsX5_within (rmv 0 0) 0 0 3 ∧ (Cond.static yX5_within).before _ s = true ∧ True from ⟨va_cnB 3 hts gX3_firstFault_X5_within_n26 rfl rfl rfl (hK.m (by decide)) (hts (.initialized RX5) (by decide +kernel)) (by decide +kernel) ⟨Nat.le_of_ble_eq_true rfl, Nat.le_of_ble_eq_true rfl⟩, hts (.static yX5_within) (by decide +kernel), trivial⟩
  have cw_X3_letterAt := show CallW (rmv 4 89) s _ RX3 RX3 19 yX3_letterAt cX3_letterAt 2 (some .int) wsX3_letterAt (rmv 0 0) 0 0 1 from cwV 1 hts gX3_firstFault_X3_letterAt rfl rfl rfl (by decide +kernel) ⟨Nat.le_of_ble_eq_true rfl, Nat.le_of_ble_eq_true rfl⟩
  have J_14 : ∀ (fu : Nat), ∀ (v1 : Int32) (H : Heap) (locs : List Loc) (ls : Array Slot), f_X3_firstFault_14 S_len S_let fu v1 = some r_ → va_P G.1 vwCl (W_S G s0 s1 S_len S_let) H → va_S A s.heap H locs → lv_has ls 2 [(0, .ref s0), (1, .int v1)] → W p l e (rmv 4 89) s m (List.toArray [.ref s0]) below meth c H locs 0 0 (MQ below ((QI G r_ (W_S G s0 s1 S_len S_let)) A) (List.toArray [.ref s0]) s 0 0 A) (F0 m 14 ls []) := by
    intro  fu
    induction fu with
    | zero =>
      intro v1 H locs ls h
      cases h
    | succ fu ih =>
      intro v1 H locs ls h hP hS hl
      rw [f_X3_firstFault_14] at h
      refine lv_iload_n hx hb dX3_firstFault_14 rfl (lv_at hl 1 rfl) ?_
      refine lv_bipush (v := 9) hx hb dX3_firstFault_15 (by decide) ?_
      refine lv_icmp_ge (tgt := 42) hx hb dX3_firstFault_17 (by decide) (fun cc_1 => ?_) (fun cc_1 => ?_)
      · replace h := if_t cc_1 h
        refine lv_aload_n hx hb dX3_firstFault_42 rfl (lv_at hl 0 rfl) ?_
        obtain ⟨rr_2, ee_3, h⟩ := bnd1_s h
        refine cFi (As := []) (rest := []) S0 hK hA hP (va_D_same hD rfl) hS (k_X3_firstFaultOfParts l G s0 s1 S_len S_let rr_2 ee_3) cw_X3_firstFaultOfParts 3 0 rfl rfl rfl rfl hl.1 rfl (Nat.le_of_ble_eq_true rfl) dX3_firstFault_43 ⟨Nat.zero_le _, Nat.zero_le _⟩ (fun H locs hP hS => ?_)
        replace hP : va_P G.1 vwCl (W_S G s0 s1 S_len S_let) H := hP
        cases h
        exact W.iret hx hb hr (fun t ht _ => ⟨⟨_, (), rfl, rfl, by show va_P G.1 vwCl _ t.heap; rw [ht]; exact hP⟩, hS.F ht⟩) hS.2.2 dX3_firstFault_46
      · replace h := if_f cc_1 h
        refine lv_aload_n hx hb dX3_firstFault_20 rfl (lv_at hl 0 rfl) ?_
        refine lv_iload_n hx hb dX3_firstFault_21 rfl (lv_at hl 1 rfl) ?_
        obtain ⟨rr_4, ee_5, h⟩ := bnd1_s h
        refine cFi (As := [.int v1]) (rest := []) S0 hK hA hP (va_D_same hD rfl) hS (k_X3_figureAt l G s0 s1 S_len S_let v1 rr_4 ee_5) cw_X3_figureAt 3 0 rfl rfl rfl rfl hl.1 rfl (Nat.le_of_ble_eq_true rfl) dX3_firstFault_22 ⟨Nat.zero_le _, Nat.zero_le _⟩ (fun H locs hP hS => ?_)
        replace hP : va_P G.1 vwCl (W_S G s0 s1 S_len S_let) H := hP
        refine lv_iconst (v := 0) hx hb dX3_firstFault_25 (by decide) ?_
        refine lv_bipush (v := 9) hx hb dX3_firstFault_26 (by decide) ?_
        obtain ⟨rr_6, ee_7, h⟩ := bnd1_s h
        refine cNi (As := [.int rr_4, .int (0 : Int32), .int (9 : Int32)]) (rest := []) S0 hK hA hP (va_D_same hD rfl) hS [] (k_X5_within l G rr_4 (0 : Int32) (9 : Int32) rr_6 ee_7) cw_X5_within rfl rfl (Nat.le_of_ble_eq_true rfl) rfl hl.1 rfl (Nat.le_of_ble_eq_true rfl) dX3_firstFault_28 ⟨Nat.zero_le _, Nat.zero_le _⟩ (fun H locs hP hS => ?_)
        replace hP : va_P G.1 vwCl (W_S G s0 s1 S_len S_let) H := hP
        refine lv_if_ne (tgt := 36) hx hb dX3_firstFault_31 (by decide) (fun cc_8 => ?_) (fun cc_8 => ?_)
        · replace h := if_f cc_8 h
          refine lv_iinc (v := (v1 + 1)) (lv' := [(1, .int (v1 + 1)), (0, .ref s0)]) hx hb dX3_firstFault_36 hl (k := 1) rfl rfl (by decide) rfl (fun ls hl => ?_)
          refine lv_goto (tgt := 14) hx hb dX3_firstFault_39 (by decide) ?_
          exact ih (v1 + 1) _ _ _ h hP hS (lv_sub hl [1, 0] rfl)
        · replace h := if_t cc_8 h
          refine lv_iload_n hx hb dX3_firstFault_34 rfl (lv_at hl 1 rfl) ?_
          cases h
          exact W.iret hx hb hr (fun t ht _ => ⟨⟨_, (), rfl, rfl, by show va_P G.1 vwCl _ t.heap; rw [ht]; exact hP⟩, hS.F ht⟩) hS.2.2 dX3_firstFault_35
  unfold f_X3_firstFault at h
  refine lv_aload_n hx hb dX3_firstFault_0 rfl (lv_at hl 0 rfl) ?_
  refine lv_iconst (v := 0) hx hb dX3_firstFault_1 (by decide) ?_
  obtain ⟨rr_9, ee_10, h⟩ := bnd1_s h
  refine cFi (As := [.int (0 : Int32)]) (rest := []) S0 hK hA hP (va_D_same hD rfl) hS (k_X3_letterAt l G s0 s1 S_len S_let (0 : Int32) rr_9 ee_10) cw_X3_letterAt 3 0 rfl rfl rfl rfl hl.1 rfl (Nat.le_of_ble_eq_true rfl) dX3_firstFault_2 ⟨Nat.zero_le _, Nat.zero_le _⟩ (fun H locs hP hS => ?_)
  replace hP : va_P G.1 vwCl (W_S G s0 s1 S_len S_let) H := hP
  refine lv_bipush (v := 66) hx hb dX3_firstFault_5 (by decide) ?_
  refine lv_icmp_eq (tgt := 12) hx hb dX3_firstFault_7 (by decide) (fun cc_11 => ?_) (fun cc_11 => ?_)
  · replace h := if_t cc_11 h
    refine lv_iconst (v := 1) hx hb dX3_firstFault_12 (by decide) ?_
    refine lv_istore_n (lv' := [(1, .int (1 : Int32)), (0, .ref s0)]) hx hb dX3_firstFault_13 rfl hl (by decide) rfl (fun ls hl => ?_)
    exact J_14  130 (1 : Int32) _ _ _ h hP hS (lv_sub hl [1, 0] rfl)
  · replace h := if_f cc_11 h
    refine lv_iconst (v := 0) hx hb dX3_firstFault_10 (by decide) ?_
    cases h
    exact W.iret hx hb hr (fun t ht _ => ⟨⟨_, (), rfl, rfl, by show va_P G.1 vwCl _ t.heap; rw [ht]; exact hP⟩, hS.F ht⟩) hS.2.2 dX3_firstFault_11
def f_X5_fault (S_len : Int32) (S_let : Nat → Int32) : Option (Int32) := bnd1 (f_X3_firstFault S_len S_let) (fun rr_1 => some rr_1)
set_option maxRecDepth 100000 in
set_option maxHeartbeats 4000000 in
theorem k_X5_fault (l : Launch) (G : Gt) (x0 s0 s1 t0 t1 t2 t3 t4 t5 t6 n0 n1 n2 n3 r0 r1 r2 r3 a0 a1 p0 p1 p2 p3 k0 j0 : Nat) (X_ch : Int64) (S_len : Int32) (S_let : Nat → Int32) (T_br : Int32) (T_fa : Int32) (T_fd : Nat → Int32) (T_fp : Nat → Int32) (T_st : Nat → Int32) (T_kd : Nat → Int32) (T_fs : Nat → Int32) (T_fl : Nat → Int32) (N_gi : Int32) (N_be : Int32) (N_da : Int32) (N_du : Nat → Int32) (N_pl : Nat → Int32) (N_de : Nat → Int32) (R_gi : Int32) (R_be : Int32) (R_da : Int32) (R_du : Nat → Int32) (R_pl : Nat → Int32) (R_de : Nat → Int32) (A_fi : Int32) (A_si : Int32) (A_ce : Nat → Int32) (P_si : Int32) (P_be : Nat → Int32) (P_le : Nat → Int32) (P_go : Nat → Int32) (K_sl : Nat → Int32) (J_fi : Nat → Int32) (r_ : Int32) (h : f_X5_fault S_len S_let = some r_) : CT l yX5_fault wsX5_fault 5 110 G [.ref x0] (W_F G x0 s0 s1 t0 t1 t2 t3 t4 t5 t6 n0 n1 n2 n3 r0 r1 r2 r3 a0 a1 p0 p1 p2 p3 k0 j0 X_ch S_len S_let T_br T_fa T_fd T_fp T_st T_kd T_fs T_fl N_gi N_be N_da N_du N_pl N_de R_gi R_be R_da R_du R_pl R_de A_fi A_si A_ce P_si P_be P_le P_go K_sl J_fi) (QI G r_ (W_F G x0 s0 s1 t0 t1 t2 t3 t4 t5 t6 n0 n1 n2 n3 r0 r1 r2 r3 a0 a1 p0 p1 p2 p3 k0 j0 X_ch S_len S_let T_br T_fa T_fd T_fp T_st T_kd T_fs T_fl N_gi N_be N_da N_du N_pl N_de R_gi R_be R_da R_du R_pl R_de A_fi A_si A_ce P_si P_be P_le P_go K_sl J_fi)) := by
  refine met_of cX5_fault 1 (some .int) (by decide) rfl (Nat.le_of_ble_eq_true rfl) ?_
  intro p e s m below meth c A ls hx hb hr hml hts hown hlocks hK hA hD hP hS hl
  replace hown : s.vm.findClass RX5 = some m.cls := hown
  replace hl : lv_has ls 1 [(0, .ref x0)] := hl
  have S0 : CallFix p m c cX5_fault 1 s _ wsX5_fault RX5 := ⟨hx, hb, hml, hown, hts⟩
  have fl12 := hts (.fieldLink RX5 12 "DustVote" "script" "LDustVote$Script;") (by decide +kernel)
  have inX5 := show ∀ w ∈ wsX50, w ∈ wsX5_fault from by decide +kernel
  have cw_X3_firstFault := show CallW (rmv 5 110) s _ RX5 RX3 73 yX3_firstFault cX3_firstFault 2 (some .int) wsX3_firstFault (rmv 4 89) 0 0 0 from cwV 0 hts gX5_fault_X3_firstFault rfl rfl rfl (by decide +kernel) ⟨Nat.le_of_ble_eq_true rfl, Nat.le_of_ble_eq_true rfl⟩
  unfold f_X5_fault at h
  refine lv_aload_n hx hb dX5_fault_0 rfl (lv_at hl 0 rfl) ?_
  refine va_get (ci := 5) (C := RX5) (T := TX5) (N := 9) hx hb hts inX5 hown hK.1 hP 0 rfl rfl 0 (by decide) fl12 (fun _ h9 => h9) rfl dX5_fault_1 ?_
  obtain ⟨rr_1, ee_2, h⟩ := bnd1_s h
  refine cVi (As := []) (rest := []) S0 hK hA hP (va_D_same hD rfl) hS [1, 2] (k_X3_firstFault l G s0 s1 S_len S_let rr_1 ee_2) cw_X3_firstFault rfl rfl (Nat.le_of_ble_eq_true rfl) 3 0 rfl rfl rfl rfl hl.1 rfl (Nat.le_of_ble_eq_true rfl) dX5_fault_4 ⟨Nat.zero_le _, Nat.zero_le _⟩ (fun H locs hP hS => ?_)
  replace hP : va_P G.1 vwCl (W_F G x0 s0 s1 t0 t1 t2 t3 t4 t5 t6 n0 n1 n2 n3 r0 r1 r2 r3 a0 a1 p0 p1 p2 p3 k0 j0 X_ch S_len S_let T_br T_fa T_fd T_fp T_st T_kd T_fs T_fl N_gi N_be N_da N_du N_pl N_de R_gi R_be R_da R_du R_pl R_de A_fi A_si A_ce P_si P_be P_le P_go K_sl J_fi) H := hP
  cases h
  exact W.iret hx hb hr (fun t ht _ => ⟨⟨_, (), rfl, rfl, by show va_P G.1 vwCl _ t.heap; rw [ht]; exact hP⟩, hS.F ht⟩) hS.2.2 dX5_fault_7
