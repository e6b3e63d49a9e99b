/-! ===== BEGIN words of one list among another's, by their places ===== -/
theorem goodIn_r {big : List Cond} (ws : List Cond) (ps : List Nat) (hp : ws = ps.filterMap (fun i => big[i]?)) (h : ws.all goodWord = true) : GoodIn big ws := by
  intro w hw
  have h1 := List.all_eq_true.mp h w hw
  rw [hp] at hw
  obtain ⟨i, -, hi⟩ := List.mem_filterMap.mp hw
  have hm : w ∈ big := by first | exact List.mem_of_getElem? hi | exact List.getElem?_mem hi
  exact ⟨hm, good_of_word h1⟩
theorem goodIn_app {big a b : List Cond} (ha : GoodIn big a) (hb : GoodIn big b) : GoodIn big (a ++ b) := fun w h => (List.mem_append.mp h).elim (ha w) (hb w)
theorem goodIn_ca {big a b : List Cond} {c : Cond} (ha : GoodIn big (c :: a)) (hb : GoodIn big b) : GoodIn big (c :: (a ++ b)) := fun w h => (List.mem_cons.mp h).elim (fun e => ha w (List.mem_cons.mpr (Or.inl e))) (fun h => (List.mem_append.mp h).elim (fun h => ha w (List.mem_cons.mpr (Or.inr h))) (hb w))
theorem goodIn_sub {big ws : List Cond} (hm : ∀ w ∈ ws, w ∈ big) (h : ws.all goodWord = true) : GoodIn big ws := fun w hw => ⟨hm w hw, good_of_word (List.all_eq_true.mp h w hw)⟩
/-! ===== END ===== -/

/-! ===== BEGIN printed: names, fields, word lists, decode rows ===== -/
def RX0 : String := "DustVote$ActRow"
def TX0 : u_T := fun k => match k with
  | 0 => ("DustVote$ActRow", "cells", "[I", true)
  | 1 => ("DustVote$ActRow", "first", "I", false)
  | _ => ("DustVote$ActRow", "size", "I", false)
def tyX0 : Nat → FieldType := fun k => match k with
  | 0 => .array .int
  | 1 => .int
  | _ => .int
abbrev wsX00 : List Cond := u_ws RX0 TX0 3
theorem nmX0 : ∀ a, a < 3 → ∀ b, b < 3 → a ≠ b → (TX0 a).2.1 ≠ (TX0 b).2.1 := by decide +kernel
theorem tyX0_ok : ∀ k, k < 3 → parseFieldDescriptor (TX0 k).2.2.1 = some (tyX0 k) := by decide +kernel
abbrev cX0_init : ByteArray := prog_2_method_1_code
def yX0_init : MethodName := ⟨RX0, "<init>", "()V"⟩
abbrev cX0_clear : ByteArray := prog_2_method_2_code
def yX0_clear : MethodName := ⟨RX0, "clear", "()V"⟩
abbrev cX0_spotOf : ByteArray := prog_2_method_3_code
def yX0_spotOf : MethodName := ⟨RX0, "spotOf", "(I)I"⟩
abbrev cX0_push : ByteArray := prog_2_method_4_code
def yX0_push : MethodName := ⟨RX0, "push", "(LDustVote$Moment;)V"⟩
abbrev cX0_pop : ByteArray := prog_2_method_5_code
def yX0_pop : MethodName := ⟨RX0, "pop", "(LDustVote$Moment;)V"⟩
def RX1 : String := "DustVote$Heaps"
def TX1 : u_T := fun k => match k with
  | 0 => ("DustVote$Heaps", "before", "[I", true)
  | 1 => ("DustVote$Heaps", "left", "[I", true)
  | 2 => ("DustVote$Heaps", "gone", "[I", true)
  | _ => ("DustVote$Heaps", "size", "I", false)
def tyX1 : Nat → FieldType := fun k => match k with
  | 0 => .array .int
  | 1 => .array .int
  | 2 => .array .int
  | _ => .int
abbrev wsX10 : List Cond := u_ws RX1 TX1 4
theorem nmX1 : ∀ a, a < 4 → ∀ b, b < 4 → a ≠ b → (TX1 a).2.1 ≠ (TX1 b).2.1 := by decide +kernel
theorem tyX1_ok : ∀ k, k < 4 → parseFieldDescriptor (TX1 k).2.2.1 = some (tyX1 k) := by decide +kernel
abbrev cX1_init : ByteArray := prog_3_method_1_code
def yX1_init : MethodName := ⟨RX1, "<init>", "()V"⟩
abbrev cX1_add : ByteArray := prog_3_method_2_code
def yX1_add : MethodName := ⟨RX1, "add", "(III)V"⟩
abbrev cX1_fit : ByteArray := prog_3_method_3_code
def yX1_fit : MethodName := ⟨RX1, "fit", "(II)Z"⟩
def RX2 : String := "DustVote$Moment"
def TX2 : u_T := fun k => match k with
  | 0 => ("DustVote$Moment", "told", "LDustVote$Told;", true)
  | 1 => ("DustVote$Moment", "dust", "[I", true)
  | 2 => ("DustVote$Moment", "place", "[I", true)
  | 3 => ("DustVote$Moment", "deep", "[Z", true)
  | 4 => ("DustVote$Moment", "given", "Z", false)
  | 5 => ("DustVote$Moment", "bent", "I", false)
  | _ => ("DustVote$Moment", "dawns", "I", false)
def tyX2 : Nat → FieldType := fun k => match k with
  | 0 => .object "DustVote$Told"
  | 1 => .array .int
  | 2 => .array .int
  | 3 => .array .boolean
  | 4 => .boolean
  | 5 => .int
  | _ => .int
abbrev wsX20 : List Cond := u_ws RX2 TX2 7
theorem nmX2 : ∀ a, a < 7 → ∀ b, b < 7 → a ≠ b → (TX2 a).2.1 ≠ (TX2 b).2.1 := by decide +kernel
theorem tyX2_ok : ∀ k, k < 7 → parseFieldDescriptor (TX2 k).2.2.1 = some (tyX2 k) := by decide +kernel
abbrev cX2_init : ByteArray := prog_4_method_1_code
def yX2_init : MethodName := ⟨RX2, "<init>", "(LDustVote$Told;)V"⟩
abbrev cX2_begin : ByteArray := prog_4_method_2_code
def yX2_begin : MethodName := ⟨RX2, "begin", "()V"⟩
abbrev cX2_copy : ByteArray := prog_4_method_3_code
def yX2_copy : MethodName := ⟨RX2, "copy", "(LDustVote$Moment;)V"⟩
abbrev cX2_save : ByteArray := prog_4_method_4_code
def yX2_save : MethodName := ⟨RX2, "save", "([II)V"⟩
abbrev cX2_load : ByteArray := prog_4_method_5_code
def yX2_load : MethodName := ⟨RX2, "load", "([II)V"⟩
abbrev cX2_dustIn : ByteArray := prog_4_method_6_code
def yX2_dustIn : MethodName := ⟨RX2, "dustIn", "(I)I"⟩
abbrev cX2_placeOf : ByteArray := prog_4_method_7_code
def yX2_placeOf : MethodName := ⟨RX2, "placeOf", "(I)I"⟩
abbrev cX2_allDust : ByteArray := prog_4_method_8_code
def yX2_allDust : MethodName := ⟨RX2, "allDust", "()I"⟩
abbrev cX2_isDeep : ByteArray := prog_4_method_9_code
def yX2_isDeep : MethodName := ⟨RX2, "isDeep", "(I)Z"⟩
abbrev cX2_deepStreets : ByteArray := prog_4_method_10_code
def yX2_deepStreets : MethodName := ⟨RX2, "deepStreets", "()I"⟩
abbrev cX2_firstDeep : ByteArray := prog_4_method_11_code
def yX2_firstDeep : MethodName := ⟨RX2, "firstDeep", "()I"⟩
abbrev cX2_broomsIn : ByteArray := prog_4_method_12_code
def yX2_broomsIn : MethodName := ⟨RX2, "broomsIn", "(I)I"⟩
abbrev cX2_isBent : ByteArray := prog_4_method_13_code
def yX2_isBent : MethodName := ⟨RX2, "isBent", "(I)Z"⟩
abbrev cX2_worksAs : ByteArray := prog_4_method_14_code
def yX2_worksAs : MethodName := ⟨RX2, "worksAs", "(I)I"⟩
abbrev cX2_goTo : ByteArray := prog_4_method_15_code
def yX2_goTo : MethodName := ⟨RX2, "goTo", "(II)V"⟩
abbrev cX2_step : ByteArray := prog_4_method_16_code
def yX2_step : MethodName := ⟨RX2, "step", "(II)V"⟩
abbrev cX2_turnVote : ByteArray := prog_4_method_17_code
def yX2_turnVote : MethodName := ⟨RX2, "turnVote", "()V"⟩
abbrev cX2_bow : ByteArray := prog_4_method_18_code
def yX2_bow : MethodName := ⟨RX2, "bow", "(I)V"⟩
abbrev cX2_empty : ByteArray := prog_4_method_19_code
def yX2_empty : MethodName := ⟨RX2, "empty", "(I)V"⟩
abbrev cX2_passDawn : ByteArray := prog_4_method_20_code
def yX2_passDawn : MethodName := ⟨RX2, "passDawn", "(II)V"⟩
abbrev cX2_comeDown : ByteArray := prog_4_method_21_code
def yX2_comeDown : MethodName := ⟨RX2, "comeDown", "(I)V"⟩
abbrev cX2_work : ByteArray := prog_4_method_22_code
def yX2_work : MethodName := ⟨RX2, "work", "(I)V"⟩
abbrev cX2_pour : ByteArray := prog_4_method_23_code
def yX2_pour : MethodName := ⟨RX2, "pour", "(II)V"⟩
abbrev cX2_sweep : ByteArray := prog_4_method_24_code
def yX2_sweep : MethodName := ⟨RX2, "sweep", "(II)I"⟩
abbrev cX2_spread : ByteArray := prog_4_method_25_code
def yX2_spread : MethodName := ⟨RX2, "spread", "()V"⟩
abbrev cX2_leftOf : ByteArray := prog_4_method_26_code
def yX2_leftOf : MethodName := ⟨RX2, "leftOf", "(I)I"⟩
abbrev cX2_rightOf : ByteArray := prog_4_method_27_code
def yX2_rightOf : MethodName := ⟨RX2, "rightOf", "(I)I"⟩
def RX3 : String := "DustVote$Script"
def TX3 : u_T := fun k => match k with
  | 0 => ("DustVote$Script", "letters", "[I", true)
  | _ => ("DustVote$Script", "length", "I", false)
def tyX3 : Nat → FieldType := fun k => match k with
  | 0 => .array .int
  | _ => .int
abbrev wsX30 : List Cond := u_ws RX3 TX3 2
theorem nmX3 : ∀ a, a < 2 → ∀ b, b < 2 → a ≠ b → (TX3 a).2.1 ≠ (TX3 b).2.1 := by decide +kernel
theorem tyX3_ok : ∀ k, k < 2 → parseFieldDescriptor (TX3 k).2.2.1 = some (tyX3 k) := by decide +kernel
abbrev cX3_init : ByteArray := prog_5_method_1_code
def yX3_init : MethodName := ⟨RX3, "<init>", "()V"⟩
abbrev cX3_add : ByteArray := prog_5_method_2_code
def yX3_add : MethodName := ⟨RX3, "add", "(I)V"⟩
abbrev cX3_letterAt : ByteArray := prog_5_method_3_code
def yX3_letterAt : MethodName := ⟨RX3, "letterAt", "(I)I"⟩
abbrev cX3_figureAt : ByteArray := prog_5_method_4_code
def yX3_figureAt : MethodName := ⟨RX3, "figureAt", "(I)I"⟩
abbrev cX3_firstFault : ByteArray := prog_5_method_5_code
def yX3_firstFault : MethodName := ⟨RX3, "firstFault", "()I"⟩
abbrev cX3_firstFaultOfParts : ByteArray := prog_5_method_6_code
def yX3_firstFaultOfParts : MethodName := ⟨RX3, "firstFaultOfParts", "()I"⟩
abbrev cX3_faultOfBroom : ByteArray := prog_5_method_7_code
def yX3_faultOfBroom : MethodName := ⟨RX3, "faultOfBroom", "(I)I"⟩
abbrev cX3_faultOfFall : ByteArray := prog_5_method_8_code
def yX3_faultOfFall : MethodName := ⟨RX3, "faultOfFall", "(I)I"⟩
def RX4 : String := "DustVote$Told"
def TX4 : u_T := fun k => match k with
  | 0 => ("DustVote$Told", "firstDust", "[I", true)
  | 1 => ("DustVote$Told", "firstPlace", "[I", true)
  | 2 => ("DustVote$Told", "strength", "[I", true)
  | 3 => ("DustVote$Told", "kind", "[I", true)
  | 4 => ("DustVote$Told", "fallStreet", "[I", true)
  | 5 => ("DustVote$Told", "fallDust", "[I", true)
  | 6 => ("DustVote$Told", "brooms", "I", false)
  | _ => ("DustVote$Told", "falls", "I", false)
def tyX4 : Nat → FieldType := fun k => match k with
  | 0 => .array .int
  | 1 => .array .int
  | 2 => .array .int
  | 3 => .array .int
  | 4 => .array .int
  | 5 => .array .int
  | 6 => .int
  | _ => .int
abbrev wsX40 : List Cond := u_ws RX4 TX4 8
theorem nmX4 : ∀ a, a < 8 → ∀ b, b < 8 → a ≠ b → (TX4 a).2.1 ≠ (TX4 b).2.1 := by decide +kernel
theorem tyX4_ok : ∀ k, k < 8 → parseFieldDescriptor (TX4 k).2.2.1 = some (tyX4 k) := by decide +kernel
abbrev cX4_init : ByteArray := prog_6_method_1_code
def yX4_init : MethodName := ⟨RX4, "<init>", "()V"⟩
abbrev cX4_hasBroom : ByteArray := prog_6_method_2_code
def yX4_hasBroom : MethodName := ⟨RX4, "hasBroom", "(I)Z"⟩
abbrev cX4_strengthOf : ByteArray := prog_6_method_3_code
def yX4_strengthOf : MethodName := ⟨RX4, "strengthOf", "(I)I"⟩
abbrev cX4_kindOf : ByteArray := prog_6_method_4_code
def yX4_kindOf : MethodName := ⟨RX4, "kindOf", "(I)I"⟩
abbrev cX4_read : ByteArray := prog_6_method_5_code
def yX4_read : MethodName := ⟨RX4, "read", "(LDustVote$Script;)V"⟩
abbrev cX4_addBroom : ByteArray := prog_6_method_6_code
def yX4_addBroom : MethodName := ⟨RX4, "addBroom", "(LDustVote$Script;I)V"⟩
abbrev cX4_addFall : ByteArray := prog_6_method_7_code
def yX4_addFall : MethodName := ⟨RX4, "addFall", "(LDustVote$Script;I)V"⟩
def RX5 : String := "DustVote"
def TX5 : u_T := fun k => match k with
  | 0 => ("DustVote", "script", "LDustVote$Script;", true)
  | 1 => ("DustVote", "told", "LDustVote$Told;", true)
  | 2 => ("DustVote", "now", "LDustVote$Moment;", true)
  | 3 => ("DustVote", "trial", "LDustVote$Moment;", true)
  | 4 => ("DustVote", "acts", "LDustVote$ActRow;", true)
  | 5 => ("DustVote", "heaps", "LDustVote$Heaps;", true)
  | 6 => ("DustVote", "slots", "[I", true)
  | 7 => ("DustVote", "filled", "[Z", true)
  | _ => ("DustVote", "chance", "J", false)
def tyX5 : Nat → FieldType := fun k => match k with
  | 0 => .object "DustVote$Script"
  | 1 => .object "DustVote$Told"
  | 2 => .object "DustVote$Moment"
  | 3 => .object "DustVote$Moment"
  | 4 => .object "DustVote$ActRow"
  | 5 => .object "DustVote$Heaps"
  | 6 => .array .int
  | 7 => .array .boolean
  | _ => .long
abbrev wsX50 : List Cond := u_ws RX5 TX5 9
theorem nmX5 : ∀ a, a < 9 → ∀ b, b < 9 → a ≠ b → (TX5 a).2.1 ≠ (TX5 b).2.1 := by decide +kernel
theorem tyX5_ok : ∀ k, k < 9 → parseFieldDescriptor (TX5 k).2.2.1 = some (tyX5 k) := by decide +kernel
abbrev cX5_init : ByteArray := prog_1_method_1_code
def yX5_init : MethodName := ⟨RX5, "<init>", "()V"⟩
abbrev cX5_write : ByteArray := prog_1_method_2_code
def yX5_write : MethodName := ⟨RX5, "write", "(I)I"⟩
abbrev cX5_wipe : ByteArray := prog_1_method_3_code
def yX5_wipe : MethodName := ⟨RX5, "wipe", "()I"⟩
abbrev cX5_fault : ByteArray := prog_1_method_4_code
def yX5_fault : MethodName := ⟨RX5, "fault", "()I"⟩
abbrev cX5_city : ByteArray := prog_1_method_5_code
def yX5_city : MethodName := ⟨RX5, "city", "()I"⟩
abbrev cX5_street : ByteArray := prog_1_method_6_code
def yX5_street : MethodName := ⟨RX5, "street", "(II)I"⟩
abbrev cX5_broom : ByteArray := prog_1_method_7_code
def yX5_broom : MethodName := ⟨RX5, "broom", "(II)I"⟩
abbrev cX5_dawn : ByteArray := prog_1_method_8_code
def yX5_dawn : MethodName := ⟨RX5, "dawn", "()I"⟩
abbrev cX5_walk : ByteArray := prog_1_method_9_code
def yX5_walk : MethodName := ⟨RX5, "walk", "(II)I"⟩
abbrev cX5_vote : ByteArray := prog_1_method_10_code
def yX5_vote : MethodName := ⟨RX5, "vote", "()I"⟩
abbrev cX5_bend : ByteArray := prog_1_method_11_code
def yX5_bend : MethodName := ⟨RX5, "bend", "(I)I"⟩
abbrev cX5_hand : ByteArray := prog_1_method_12_code
def yX5_hand : MethodName := ⟨RX5, "hand", "(I)I"⟩
abbrev cX5_undo : ByteArray := prog_1_method_13_code
def yX5_undo : MethodName := ⟨RX5, "undo", "()I"⟩
abbrev cX5_dust : ByteArray := prog_1_method_14_code
def yX5_dust : MethodName := ⟨RX5, "dust", "(II)I"⟩
abbrev cX5_knees : ByteArray := prog_1_method_15_code
def yX5_knees : MethodName := ⟨RX5, "knees", "(I)I"⟩
abbrev cX5_knee : ByteArray := prog_1_method_16_code
def yX5_knee : MethodName := ⟨RX5, "knee", "(I)I"⟩
abbrev cX5_best : ByteArray := prog_1_method_17_code
def yX5_best : MethodName := ⟨RX5, "best", "(III)I"⟩
abbrev cX5_bends : ByteArray := prog_1_method_18_code
def yX5_bends : MethodName := ⟨RX5, "bends", "(I)I"⟩
abbrev cX5_judge : ByteArray := prog_1_method_19_code
def yX5_judge : MethodName := ⟨RX5, "judge", "(IJ)I"⟩
abbrev cX5_heap : ByteArray := prog_1_method_20_code
def yX5_heap : MethodName := ⟨RX5, "heap", "(III)I"⟩
abbrev cX5_unheap : ByteArray := prog_1_method_21_code
def yX5_unheap : MethodName := ⟨RX5, "unheap", "()I"⟩
abbrev cX5_whose : ByteArray := prog_1_method_22_code
def yX5_whose : MethodName := ⟨RX5, "whose", "(I)I"⟩
abbrev cX5_share : ByteArray := prog_1_method_23_code
def yX5_share : MethodName := ⟨RX5, "share", "(IZ)I"⟩
abbrev cX5_rests : ByteArray := prog_1_method_24_code
def yX5_rests : MethodName := ⟨RX5, "rests", "(III)I"⟩
abbrev cX5_twice : ByteArray := prog_1_method_25_code
def yX5_twice : MethodName := ⟨RX5, "twice", "(IIIZ)I"⟩
abbrev cX5_seed : ByteArray := prog_1_method_26_code
def yX5_seed : MethodName := ⟨RX5, "seed", "(J)J"⟩
abbrev cX5_years : ByteArray := prog_1_method_27_code
def yX5_years : MethodName := ⟨RX5, "years", "(I)I"⟩
abbrev cX5_keep : ByteArray := prog_1_method_28_code
def yX5_keep : MethodName := ⟨RX5, "keep", "(I)I"⟩
abbrev cX5_again : ByteArray := prog_1_method_29_code
def yX5_again : MethodName := ⟨RX5, "again", "(I)I"⟩
abbrev cX5_count : ByteArray := prog_1_method_30_code
def yX5_count : MethodName := ⟨RX5, "count", "(I)I"⟩
abbrev cX5_within : ByteArray := prog_1_method_31_code
def yX5_within : MethodName := ⟨RX5, "within", "(III)Z"⟩
abbrev cX5_isStreet : ByteArray := prog_1_method_32_code
def yX5_isStreet : MethodName := ⟨RX5, "isStreet", "(I)Z"⟩
abbrev cX5_fromNow : ByteArray := prog_1_method_33_code
def yX5_fromNow : MethodName := ⟨RX5, "fromNow", "()LDustVote$Moment;"⟩
abbrev cX5_behind : ByteArray := prog_1_method_34_code
def yX5_behind : MethodName := ⟨RX5, "behind", "(II)LDustVote$Moment;"⟩
abbrev cX5_staysShallow : ByteArray := prog_1_method_35_code
def yX5_staysShallow : MethodName := ⟨RX5, "staysShallow", "(II)Z"⟩
abbrev cX5_isSo : ByteArray := prog_1_method_36_code
def yX5_isSo : MethodName := ⟨RX5, "isSo", "(LDustVote$Moment;III)Z"⟩
abbrev cX5_tryDawn : ByteArray := prog_1_method_37_code
def yX5_tryDawn : MethodName := ⟨RX5, "tryDawn", "(LDustVote$Moment;)Z"⟩
abbrev cX5_tryStep : ByteArray := prog_1_method_38_code
def yX5_tryStep : MethodName := ⟨RX5, "tryStep", "(LDustVote$Moment;II)Z"⟩
abbrev cX5_tryVote : ByteArray := prog_1_method_39_code
def yX5_tryVote : MethodName := ⟨RX5, "tryVote", "(LDustVote$Moment;)Z"⟩
abbrev cX5_tryBow : ByteArray := prog_1_method_40_code
def yX5_tryBow : MethodName := ⟨RX5, "tryBow", "(LDustVote$Moment;I)Z"⟩
abbrev cX5_tryEmpty : ByteArray := prog_1_method_41_code
def yX5_tryEmpty : MethodName := ⟨RX5, "tryEmpty", "(LDustVote$Moment;I)Z"⟩
abbrev cX5_happen : ByteArray := prog_1_method_42_code
def yX5_happen : MethodName := ⟨RX5, "happen", "(LDustVote$Moment;I)V"⟩
abbrev cX5_ordersWith : ByteArray := prog_1_method_43_code
def yX5_ordersWith : MethodName := ⟨RX5, "ordersWith", "(I)J"⟩
abbrev cX5_isAtRest : ByteArray := prog_1_method_44_code
def yX5_isAtRest : MethodName := ⟨RX5, "isAtRest", "(III)Z"⟩
abbrev cX5_gain : ByteArray := prog_1_method_45_code
def yX5_gain : MethodName := ⟨RX5, "gain", "(II)I"⟩
abbrev cX5_isDeepBehind : ByteArray := prog_1_method_46_code
def yX5_isDeepBehind : MethodName := ⟨RX5, "isDeepBehind", "(III)Z"⟩
abbrev cX5_factorial : ByteArray := prog_1_method_47_code
def yX5_factorial : MethodName := ⟨RX5, "factorial", "(I)J"⟩
abbrev cX5_power : ByteArray := prog_1_method_48_code
def yX5_power : MethodName := ⟨RX5, "power", "(II)J"⟩
abbrev cX5_fraction : ByteArray := prog_1_method_49_code
def yX5_fraction : MethodName := ⟨RX5, "fraction", "(JJZ)I"⟩
abbrev cX5_commonDivisor : ByteArray := prog_1_method_50_code
def yX5_commonDivisor : MethodName := ⟨RX5, "commonDivisor", "(JJ)J"⟩
def RX6 : String := "DustVoteModel"
def TX6 : u_T := fun k => match k with
  | 0 => ("DustVoteModel", "brooms", "I", false)
  | 1 => ("DustVoteModel", "falls", "I", false)
  | 2 => ("DustVoteModel", "strength", "[I", true)
  | 3 => ("DustVoteModel", "kind", "[I", true)
  | 4 => ("DustVoteModel", "fallAt", "[I", true)
  | 5 => ("DustVoteModel", "fallen", "[I", true)
  | 6 => ("DustVoteModel", "now", "[I", true)
  | 7 => ("DustVoteModel", "readDust", "[I", true)
  | 8 => ("DustVoteModel", "readBroom", "[I", true)
  | 9 => ("DustVoteModel", "readFall", "[I", true)
  | 10 => ("DustVoteModel", "readBrooms", "I", false)
  | 11 => ("DustVoteModel", "readFalls", "I", false)
  | 12 => ("DustVoteModel", "text", "[I", true)
  | 13 => ("DustVoteModel", "length", "I", false)
  | 14 => ("DustVoteModel", "at", "I", false)
  | 15 => ("DustVoteModel", "faultAt", "I", false)
  | 16 => ("DustVoteModel", "working", "I", false)
  | 17 => ("DustVoteModel", "acts", "I", false)
  | 18 => ("DustVoteModel", "next", "I", false)
  | 19 => ("DustVoteModel", "row", "[I", true)
  | 20 => ("DustVoteModel", "heaps", "I", false)
  | 21 => ("DustVoteModel", "heapHad", "[I", true)
  | 22 => ("DustVoteModel", "heapLeft", "[I", true)
  | 23 => ("DustVoteModel", "heapWent", "[I", true)
  | 24 => ("DustVoteModel", "seed", "J", false)
  | 25 => ("DustVoteModel", "isKept", "[Z", true)
  | _ => ("DustVoteModel", "kept", "[I", true)
def tyX6 : Nat → FieldType := fun k => match k with
  | 0 => .int
  | 1 => .int
  | 2 => .array .int
  | 3 => .array .int
  | 4 => .array .int
  | 5 => .array .int
  | 6 => .array .int
  | 7 => .array .int
  | 8 => .array .int
  | 9 => .array .int
  | 10 => .int
  | 11 => .int
  | 12 => .array .int
  | 13 => .int
  | 14 => .int
  | 15 => .int
  | 16 => .int
  | 17 => .int
  | 18 => .int
  | 19 => .array .int
  | 20 => .int
  | 21 => .array .int
  | 22 => .array .int
  | 23 => .array .int
  | 24 => .long
  | 25 => .array .boolean
  | _ => .array .int
abbrev wsX60 : List Cond := u_ws RX6 TX6 27
theorem nmX6 : ∀ a, a < 27 → ∀ b, b < 27 → a ≠ b → (TX6 a).2.1 ≠ (TX6 b).2.1 := by decide +kernel
theorem tyX6_ok : ∀ k, k < 27 → parseFieldDescriptor (TX6 k).2.2.1 = some (tyX6 k) := by decide +kernel
abbrev cX6_init : ByteArray := prog_8_method_1_code
def yX6_init : MethodName := ⟨RX6, "<init>", "()V"⟩
abbrev cX6_in : ByteArray := prog_8_method_3_code
def yX6_in : MethodName := ⟨RX6, "in", "(JJJ)Z"⟩
abbrev cX6_has : ByteArray := prog_8_method_4_code
def yX6_has : MethodName := ⟨RX6, "has", "(II)Z"⟩
abbrev cX6_ones : ByteArray := prog_8_method_5_code
def yX6_ones : MethodName := ⟨RX6, "ones", "(I)I"⟩
abbrev cX6_write : ByteArray := prog_8_method_6_code
def yX6_write : MethodName := ⟨RX6, "write", "(I)I"⟩
abbrev cX6_wipe : ByteArray := prog_8_method_7_code
def yX6_wipe : MethodName := ⟨RX6, "wipe", "()I"⟩
abbrev cX6_figureOf : ByteArray := prog_8_method_8_code
def yX6_figureOf : MethodName := ⟨RX6, "figureOf", "(II)I"⟩
abbrev cX6_readText : ByteArray := prog_8_method_9_code
def yX6_readText : MethodName := ⟨RX6, "readText", "()I"⟩
abbrev cX6_readPart : ByteArray := prog_8_method_10_code
def yX6_readPart : MethodName := ⟨RX6, "readPart", "(I)V"⟩
abbrev cX6_fault : ByteArray := prog_8_method_11_code
def yX6_fault : MethodName := ⟨RX6, "fault", "()I"⟩
abbrev cX6_city : ByteArray := prog_8_method_12_code
def yX6_city : MethodName := ⟨RX6, "city", "()I"⟩
abbrev cX6_isBroom : ByteArray := prog_8_method_13_code
def yX6_isBroom : MethodName := ⟨RX6, "isBroom", "(I)Z"⟩
abbrev cX6_isStreet : ByteArray := prog_8_method_14_code
def yX6_isStreet : MethodName := ⟨RX6, "isStreet", "(I)Z"⟩
abbrev cX6_worksAs : ByteArray := prog_8_method_15_code
def yX6_worksAs : MethodName := ⟨RX6, "worksAs", "(II)I"⟩
abbrev cX6_add : ByteArray := prog_8_method_16_code
def yX6_add : MethodName := ⟨RX6, "add", "(III)V"⟩
abbrev cX6_takeOff : ByteArray := prog_8_method_17_code
def yX6_takeOff : MethodName := ⟨RX6, "takeOff", "(III)I"⟩
abbrev cX6_sweep : ByteArray := prog_8_method_18_code
def yX6_sweep : MethodName := ⟨RX6, "sweep", "(II)V"⟩
abbrev cX6_kneesOn : ByteArray := prog_8_method_19_code
def yX6_kneesOn : MethodName := ⟨RX6, "kneesOn", "(I)I"⟩
abbrev cX6_passOn : ByteArray := prog_8_method_20_code
def yX6_passOn : MethodName := ⟨RX6, "passOn", "(II)V"⟩
abbrev cX6_dustOn : ByteArray := prog_8_method_21_code
def yX6_dustOn : MethodName := ⟨RX6, "dustOn", "(I)I"⟩
abbrev cX6_broomsIn : ByteArray := prog_8_method_22_code
def yX6_broomsIn : MethodName := ⟨RX6, "broomsIn", "(I)I"⟩
abbrev cX6_street : ByteArray := prog_8_method_23_code
def yX6_street : MethodName := ⟨RX6, "street", "(II)I"⟩
abbrev cX6_broom : ByteArray := prog_8_method_24_code
def yX6_broom : MethodName := ⟨RX6, "broom", "(II)I"⟩
abbrev cX6_keepAct : ByteArray := prog_8_method_25_code
def yX6_keepAct : MethodName := ⟨RX6, "keepAct", "()V"⟩
abbrev cX6_dawn : ByteArray := prog_8_method_26_code
def yX6_dawn : MethodName := ⟨RX6, "dawn", "()I"⟩
abbrev cX6_walkOn : ByteArray := prog_8_method_27_code
def yX6_walkOn : MethodName := ⟨RX6, "walkOn", "(III)V"⟩
abbrev cX6_walk : ByteArray := prog_8_method_28_code
def yX6_walk : MethodName := ⟨RX6, "walk", "(II)I"⟩
abbrev cX6_vote : ByteArray := prog_8_method_29_code
def yX6_vote : MethodName := ⟨RX6, "vote", "()I"⟩
abbrev cX6_bend : ByteArray := prog_8_method_30_code
def yX6_bend : MethodName := ⟨RX6, "bend", "(I)I"⟩
abbrev cX6_hand : ByteArray := prog_8_method_31_code
def yX6_hand : MethodName := ⟨RX6, "hand", "(I)I"⟩
abbrev cX6_undo : ByteArray := prog_8_method_32_code
def yX6_undo : MethodName := ⟨RX6, "undo", "()I"⟩
abbrev cX6_layTrial : ByteArray := prog_8_method_33_code
def yX6_layTrial : MethodName := ⟨RX6, "layTrial", "()V"⟩
abbrev cX6_goOn : ByteArray := prog_8_method_34_code
def yX6_goOn : MethodName := ⟨RX6, "goOn", "(I)V"⟩
abbrev cX6_dust : ByteArray := prog_8_method_35_code
def yX6_dust : MethodName := ⟨RX6, "dust", "(II)I"⟩
abbrev cX6_knees : ByteArray := prog_8_method_36_code
def yX6_knees : MethodName := ⟨RX6, "knees", "(I)I"⟩
abbrev cX6_leastOf : ByteArray := prog_8_method_37_code
def yX6_leastOf : MethodName := ⟨RX6, "leastOf", "(I)I"⟩
abbrev cX6_knee : ByteArray := prog_8_method_38_code
def yX6_knee : MethodName := ⟨RX6, "knee", "(I)I"⟩
abbrev cX6_best : ByteArray := prog_8_method_39_code
def yX6_best : MethodName := ⟨RX6, "best", "(III)I"⟩
abbrev cX6_keepsBelow : ByteArray := prog_8_method_40_code
def yX6_keepsBelow : MethodName := ⟨RX6, "keepsBelow", "(II)Z"⟩
abbrev cX6_bends : ByteArray := prog_8_method_41_code
def yX6_bends : MethodName := ⟨RX6, "bends", "(I)I"⟩
abbrev cX6_tryThing : ByteArray := prog_8_method_42_code
def yX6_tryThing : MethodName := ⟨RX6, "tryThing", "(III)Z"⟩
abbrev cX6_thousandTo : ByteArray := prog_8_method_43_code
def yX6_thousandTo : MethodName := ⟨RX6, "thousandTo", "(I)J"⟩
abbrev cX6_judge : ByteArray := prog_8_method_44_code
def yX6_judge : MethodName := ⟨RX6, "judge", "(IJ)I"⟩
abbrev cX6_heap : ByteArray := prog_8_method_45_code
def yX6_heap : MethodName := ⟨RX6, "heap", "(III)I"⟩
abbrev cX6_unheap : ByteArray := prog_8_method_46_code
def yX6_unheap : MethodName := ⟨RX6, "unheap", "()I"⟩
abbrev cX6_whose : ByteArray := prog_8_method_47_code
def yX6_whose : MethodName := ⟨RX6, "whose", "(I)I"⟩
abbrev cX6_factorial : ByteArray := prog_8_method_48_code
def yX6_factorial : MethodName := ⟨RX6, "factorial", "(I)I"⟩
abbrev cX6_common : ByteArray := prog_8_method_49_code
def yX6_common : MethodName := ⟨RX6, "common", "(II)I"⟩
abbrev cX6_dustBy : ByteArray := prog_8_method_50_code
def yX6_dustBy : MethodName := ⟨RX6, "dustBy", "(I)I"⟩
abbrev cX6_share : ByteArray := prog_8_method_51_code
def yX6_share : MethodName := ⟨RX6, "share", "(IZ)I"⟩
abbrev cX6_gain : ByteArray := prog_8_method_52_code
def yX6_gain : MethodName := ⟨RX6, "gain", "(IIII)I"⟩
abbrev cX6_isRest : ByteArray := prog_8_method_53_code
def yX6_isRest : MethodName := ⟨RX6, "isRest", "(IIII)Z"⟩
abbrev cX6_rests : ByteArray := prog_8_method_54_code
def yX6_rests : MethodName := ⟨RX6, "rests", "(III)I"⟩
abbrev cX6_twice : ByteArray := prog_8_method_55_code
def yX6_twice : MethodName := ⟨RX6, "twice", "(IIIZ)I"⟩
abbrev cX6_seed : ByteArray := prog_8_method_56_code
def yX6_seed : MethodName := ⟨RX6, "seed", "(J)J"⟩
abbrev cX6_years : ByteArray := prog_8_method_57_code
def yX6_years : MethodName := ⟨RX6, "years", "(I)I"⟩
abbrev cX6_keep : ByteArray := prog_8_method_58_code
def yX6_keep : MethodName := ⟨RX6, "keep", "(I)I"⟩
abbrev cX6_again : ByteArray := prog_8_method_59_code
def yX6_again : MethodName := ⟨RX6, "again", "(I)I"⟩
abbrev cX6_count : ByteArray := prog_8_method_60_code
def yX6_count : MethodName := ⟨RX6, "count", "(I)I"⟩
def RJ6 : String := "java/lang/Integer"
def TJ6 : u_T := fun k => match k with
  | _ => ("", "", "", false)
def tyJ6 : Nat → FieldType := fun k => match k with
  | _ => .int
abbrev wsJ60 : List Cond := u_ws RJ6 TJ6 0
theorem nmJ6 : ∀ a, a < 0 → ∀ b, b < 0 → a ≠ b → (TJ6 a).2.1 ≠ (TJ6 b).2.1 := by decide +kernel
theorem tyJ6_ok : ∀ k, k < 0 → parseFieldDescriptor (TJ6 k).2.2.1 = some (tyJ6 k) := by decide +kernel
abbrev cJ6_bitCount_0f7a4 : ByteArray := prog_9_method_49_code
def yJ6_bitCount_0f7a4 : MethodName := ⟨RJ6, "bitCount", "(I)I"⟩
def RJ9 : String := "java/lang/Math"
def TJ9 : u_T := fun k => match k with
  | _ => ("", "", "", false)
def tyJ9 : Nat → FieldType := fun k => match k with
  | _ => .int
abbrev wsJ90 : List Cond := u_ws RJ9 TJ9 0
theorem nmJ9 : ∀ a, a < 0 → ∀ b, b < 0 → a ≠ b → (TJ9 a).2.1 ≠ (TJ9 b).2.1 := by decide +kernel
theorem tyJ9_ok : ∀ k, k < 0 → parseFieldDescriptor (TJ9 k).2.2.1 = some (tyJ9 k) := by decide +kernel
abbrev cJ9_abs_067f4 : ByteArray := prog_10_method_61_code
def yJ9_abs_067f4 : MethodName := ⟨RJ9, "abs", "(J)J"⟩
abbrev cJ9_max_f86c9 : ByteArray := prog_10_method_66_code
def yJ9_max_f86c9 : MethodName := ⟨RJ9, "max", "(JJ)J"⟩
abbrev cJ9_min_7cf53 : ByteArray := prog_10_method_69_code
def yJ9_min_7cf53 : MethodName := ⟨RJ9, "min", "(II)I"⟩
def RJ10 : String := "java/lang/System"
def TJ10 : u_T := fun k => match k with
  | _ => ("", "", "", false)
def tyJ10 : Nat → FieldType := fun k => match k with
  | _ => .int
abbrev wsJ100 : List Cond := u_ws RJ10 TJ10 0
theorem nmJ10 : ∀ a, a < 0 → ∀ b, b < 0 → a ≠ b → (TJ10 a).2.1 ≠ (TJ10 b).2.1 := by decide +kernel
theorem tyJ10_ok : ∀ k, k < 0 → parseFieldDescriptor (TJ10 k).2.2.1 = some (tyJ10 k) := by decide +kernel
def RL : String := "DustVoteLaw"
abbrev cL_law : ByteArray := code
def yL_law : MethodName := ⟨RL, "law", "([I)Z"⟩
def wsX0_init : List Cond := .code yX0_init cX0_init 1 none :: ([.methodLink RX0 3 objectInit, .instanceMethod objectInit, .code objectInit ⟨#[0xb1]⟩ 1 none, .arrayClass .int, .fieldLink RX0 9 "DustVote$ActRow" "cells" "[I", .fieldLink RX0 15 "DustVote$ActRow" "first" "I", .fieldLink RX0 19 "DustVote$ActRow" "size" "I"] ++ wsX00)
def wsX0_clear : List Cond := .code yX0_clear cX0_clear 1 none :: ([.fieldLink RX0 15 "DustVote$ActRow" "first" "I", .fieldLink RX0 19 "DustVote$ActRow" "size" "I"] ++ wsX00)
def wsX0_spotOf : List Cond := .code yX0_spotOf cX0_spotOf 1 (some .int) :: ([])
def wsX2_save : List Cond := .code yX2_save cX2_save 4 none :: ([.fieldLink RX2 9 "DustVote$Moment" "dust" "[I", .methodLink RX2 42 arraycopyName, .native arraycopyName, .static arraycopyName, .initialized "java/lang/System", .fieldLink RX2 15 "DustVote$Moment" "place" "[I", .fieldLink RX2 22 "DustVote$Moment" "given" "Z", .fieldLink RX2 26 "DustVote$Moment" "bent" "I", .fieldLink RX2 30 "DustVote$Moment" "dawns" "I"] ++ wsX20)
def wsX0_push : List Cond := .code yX0_push cX0_push 2 none :: ([.fieldLink RX0 9 "DustVote$ActRow" "cells" "[I", .fieldLink RX0 15 "DustVote$ActRow" "first" "I", .fieldLink RX0 19 "DustVote$ActRow" "size" "I", .methodLink RX0 22 yX0_spotOf, .static yX0_spotOf, .initialized RX0, .code yX0_spotOf cX0_spotOf 1 (some .int), .methodLink RX0 26 yX2_save, .instanceMethod yX2_save, .selects RX2 yX2_save yX2_save, .initialized RX2, .code yX2_save cX2_save 4 none, .fieldLink RX2 9 "DustVote$Moment" "dust" "[I", .methodLink RX2 42 arraycopyName, .native arraycopyName, .static arraycopyName, .initialized "java/lang/System", .fieldLink RX2 15 "DustVote$Moment" "place" "[I", .fieldLink RX2 22 "DustVote$Moment" "given" "Z", .fieldLink RX2 26 "DustVote$Moment" "bent" "I", .fieldLink RX2 30 "DustVote$Moment" "dawns" "I"] ++ wsX00 ++ wsX20)
def wsX2_load : List Cond := .code yX2_load cX2_load 4 none :: ([.fieldLink RX2 9 "DustVote$Moment" "dust" "[I", .methodLink RX2 42 arraycopyName, .native arraycopyName, .static arraycopyName, .initialized "java/lang/System", .fieldLink RX2 15 "DustVote$Moment" "place" "[I", .fieldLink RX2 22 "DustVote$Moment" "given" "Z", .fieldLink RX2 26 "DustVote$Moment" "bent" "I", .fieldLink RX2 30 "DustVote$Moment" "dawns" "I"] ++ wsX20)
def wsX0_pop : List Cond := .code yX0_pop cX0_pop 2 none :: ([.fieldLink RX0 19 "DustVote$ActRow" "size" "I", .fieldLink RX0 9 "DustVote$ActRow" "cells" "[I", .fieldLink RX0 15 "DustVote$ActRow" "first" "I", .methodLink RX0 22 yX0_spotOf, .static yX0_spotOf, .initialized RX0, .code yX0_spotOf cX0_spotOf 1 (some .int), .methodLink RX0 32 yX2_load, .instanceMethod yX2_load, .selects RX2 yX2_load yX2_load, .initialized RX2, .code yX2_load cX2_load 4 none, .fieldLink RX2 9 "DustVote$Moment" "dust" "[I", .methodLink RX2 42 arraycopyName, .native arraycopyName, .static arraycopyName, .initialized "java/lang/System", .fieldLink RX2 15 "DustVote$Moment" "place" "[I", .fieldLink RX2 22 "DustVote$Moment" "given" "Z", .fieldLink RX2 26 "DustVote$Moment" "bent" "I", .fieldLink RX2 30 "DustVote$Moment" "dawns" "I"] ++ wsX00 ++ wsX20)
def wsX1_init : List Cond := .code yX1_init cX1_init 1 none :: ([.methodLink RX1 3 objectInit, .instanceMethod objectInit, .code objectInit ⟨#[0xb1]⟩ 1 none, .arrayClass .int, .fieldLink RX1 9 "DustVote$Heaps" "before" "[I", .fieldLink RX1 15 "DustVote$Heaps" "left" "[I", .fieldLink RX1 18 "DustVote$Heaps" "gone" "[I", .fieldLink RX1 21 "DustVote$Heaps" "size" "I"] ++ wsX10)
def wsX1_add : List Cond := .code yX1_add cX1_add 4 none :: ([.fieldLink RX1 21 "DustVote$Heaps" "size" "I", .fieldLink RX1 9 "DustVote$Heaps" "before" "[I", .fieldLink RX1 15 "DustVote$Heaps" "left" "[I", .fieldLink RX1 18 "DustVote$Heaps" "gone" "[I"] ++ wsX10)
def wsX1_fit : List Cond := .code yX1_fit cX1_fit 6 (some .boolean) :: ([.fieldLink RX1 21 "DustVote$Heaps" "size" "I", .fieldLink RX1 9 "DustVote$Heaps" "before" "[I", .methodLink RX1 25 Lib.Math.min.name, .static Lib.Math.min.name, .initialized "java/lang/Math", .code Lib.Math.min.name Lib.Math.min.code 2 (some .int), .fieldLink RX1 15 "DustVote$Heaps" "left" "[I", .fieldLink RX1 18 "DustVote$Heaps" "gone" "[I"] ++ wsX10)
def wsX2_init : List Cond := .code yX2_init cX2_init 2 none :: ([.methodLink RX2 3 objectInit, .instanceMethod objectInit, .code objectInit ⟨#[0xb1]⟩ 1 none, .arrayClass .int, .fieldLink RX2 9 "DustVote$Moment" "dust" "[I", .fieldLink RX2 15 "DustVote$Moment" "place" "[I", .arrayClass .boolean, .fieldLink RX2 18 "DustVote$Moment" "deep" "[Z", .fieldLink RX2 22 "DustVote$Moment" "given" "Z", .fieldLink RX2 26 "DustVote$Moment" "bent" "I", .fieldLink RX2 30 "DustVote$Moment" "dawns" "I", .fieldLink RX2 33 "DustVote$Moment" "told" "LDustVote$Told;"] ++ wsX20)
def wsX2_begin : List Cond := .code yX2_begin cX2_begin 1 none :: ([.fieldLink RX2 33 "DustVote$Moment" "told" "LDustVote$Told;", .fieldLink RX2 9 "DustVote$Moment" "dust" "[I", .methodLink RX2 42 arraycopyName, .native arraycopyName, .static arraycopyName, .initialized "java/lang/System", .fieldLink RX2 15 "DustVote$Moment" "place" "[I", .fieldLink RX2 22 "DustVote$Moment" "given" "Z", .fieldLink RX2 26 "DustVote$Moment" "bent" "I", .fieldLink RX2 30 "DustVote$Moment" "dawns" "I"] ++ wsX20 ++ wsX40)
def wsX2_copy : List Cond := .code yX2_copy cX2_copy 2 none :: ([.fieldLink RX2 9 "DustVote$Moment" "dust" "[I", .methodLink RX2 42 arraycopyName, .native arraycopyName, .static arraycopyName, .initialized "java/lang/System", .fieldLink RX2 15 "DustVote$Moment" "place" "[I", .fieldLink RX2 22 "DustVote$Moment" "given" "Z", .fieldLink RX2 26 "DustVote$Moment" "bent" "I", .fieldLink RX2 30 "DustVote$Moment" "dawns" "I"] ++ wsX20)
def wsX5_isStreet : List Cond := .code yX5_isStreet cX5_isStreet 1 (some .boolean) :: ([])
def wsX2_dustIn : List Cond := .code yX2_dustIn cX2_dustIn 2 (some .int) :: ([.fieldLink RX2 9 "DustVote$Moment" "dust" "[I", .static yX5_isStreet, .initialized RX5, .code yX5_isStreet cX5_isStreet 1 (some .boolean)] ++ wsX20)
def wsX4_hasBroom : List Cond := .code yX4_hasBroom cX4_hasBroom 2 (some .boolean) :: ([.fieldLink RX4 30 "DustVote$Told" "brooms" "I"] ++ wsX40)
def wsX2_placeOf : List Cond := .code yX2_placeOf cX2_placeOf 2 (some .int) :: ([.fieldLink RX2 33 "DustVote$Moment" "told" "LDustVote$Told;", .fieldLink RX2 15 "DustVote$Moment" "place" "[I", .methodLink RX2 55 yX4_hasBroom, .instanceMethod yX4_hasBroom, .selects RX4 yX4_hasBroom yX4_hasBroom, .initialized RX4, .code yX4_hasBroom cX4_hasBroom 2 (some .boolean), .fieldLink RX4 30 "DustVote$Told" "brooms" "I"] ++ wsX20 ++ wsX40)
def wsX2_allDust : List Cond := .code yX2_allDust cX2_allDust 3 (some .int) :: ([.fieldLink RX2 9 "DustVote$Moment" "dust" "[I"] ++ wsX20)
def wsX2_isDeep : List Cond := .code yX2_isDeep cX2_isDeep 2 (some .boolean) :: ([.methodLink RX2 58 yX2_dustIn, .instanceMethod yX2_dustIn, .selects RX2 yX2_dustIn yX2_dustIn, .initialized RX2, .code yX2_dustIn cX2_dustIn 2 (some .int), .fieldLink RX2 9 "DustVote$Moment" "dust" "[I", .static yX5_isStreet, .initialized RX5, .code yX5_isStreet cX5_isStreet 1 (some .boolean)] ++ wsX20)
def wsX2_deepStreets : List Cond := .code yX2_deepStreets cX2_deepStreets 3 (some .int) :: ([.methodLink RX2 62 yX2_isDeep, .instanceMethod yX2_isDeep, .selects RX2 yX2_isDeep yX2_isDeep, .initialized RX2, .code yX2_isDeep cX2_isDeep 2 (some .boolean), .methodLink RX2 58 yX2_dustIn, .instanceMethod yX2_dustIn, .selects RX2 yX2_dustIn yX2_dustIn, .code yX2_dustIn cX2_dustIn 2 (some .int), .fieldLink RX2 9 "DustVote$Moment" "dust" "[I", .static yX5_isStreet, .initialized RX5, .code yX5_isStreet cX5_isStreet 1 (some .boolean)] ++ wsX20)
def wsX2_firstDeep : List Cond := .code yX2_firstDeep cX2_firstDeep 2 (some .int) :: ([.methodLink RX2 62 yX2_isDeep, .instanceMethod yX2_isDeep, .selects RX2 yX2_isDeep yX2_isDeep, .initialized RX2, .code yX2_isDeep cX2_isDeep 2 (some .boolean), .methodLink RX2 58 yX2_dustIn, .instanceMethod yX2_dustIn, .selects RX2 yX2_dustIn yX2_dustIn, .code yX2_dustIn cX2_dustIn 2 (some .int), .fieldLink RX2 9 "DustVote$Moment" "dust" "[I", .static yX5_isStreet, .initialized RX5, .code yX5_isStreet cX5_isStreet 1 (some .boolean)] ++ wsX20)
def wsX2_broomsIn : List Cond := .code yX2_broomsIn cX2_broomsIn 4 (some .int) :: ([.fieldLink RX2 33 "DustVote$Moment" "told" "LDustVote$Told;", .methodLink RX2 68 yX2_placeOf, .instanceMethod yX2_placeOf, .selects RX2 yX2_placeOf yX2_placeOf, .initialized RX2, .code yX2_placeOf cX2_placeOf 2 (some .int), .fieldLink RX2 15 "DustVote$Moment" "place" "[I", .methodLink RX2 55 yX4_hasBroom, .instanceMethod yX4_hasBroom, .selects RX4 yX4_hasBroom yX4_hasBroom, .initialized RX4, .code yX4_hasBroom cX4_hasBroom 2 (some .boolean), .fieldLink RX4 30 "DustVote$Told" "brooms" "I"] ++ wsX20 ++ wsX40)
def wsX2_isBent : List Cond := .code yX2_isBent cX2_isBent 2 (some .boolean) :: ([.fieldLink RX2 26 "DustVote$Moment" "bent" "I"] ++ wsX20)
def wsX4_kindOf : List Cond := .code yX4_kindOf cX4_kindOf 2 (some .int) :: ([.fieldLink RX4 21 "DustVote$Told" "kind" "[I"] ++ wsX40)
def wsX2_worksAs : List Cond := .code yX2_worksAs cX2_worksAs 3 (some .int) :: ([.fieldLink RX2 33 "DustVote$Moment" "told" "LDustVote$Told;", .fieldLink RX2 22 "DustVote$Moment" "given" "Z", .methodLink RX2 71 yX4_kindOf, .instanceMethod yX4_kindOf, .selects RX4 yX4_kindOf yX4_kindOf, .initialized RX4, .code yX4_kindOf cX4_kindOf 2 (some .int), .fieldLink RX4 21 "DustVote$Told" "kind" "[I", .methodLink RX2 74 yX2_isBent, .instanceMethod yX2_isBent, .selects RX2 yX2_isBent yX2_isBent, .initialized RX2, .code yX2_isBent cX2_isBent 2 (some .boolean), .fieldLink RX2 26 "DustVote$Moment" "bent" "I"] ++ wsX20 ++ wsX40)
def wsX2_goTo : List Cond := .code yX2_goTo cX2_goTo 3 none :: ([.fieldLink RX2 33 "DustVote$Moment" "told" "LDustVote$Told;", .fieldLink RX2 15 "DustVote$Moment" "place" "[I", .methodLink RX2 55 yX4_hasBroom, .instanceMethod yX4_hasBroom, .selects RX4 yX4_hasBroom yX4_hasBroom, .initialized RX4, .code yX4_hasBroom cX4_hasBroom 2 (some .boolean), .fieldLink RX4 30 "DustVote$Told" "brooms" "I"] ++ wsX20 ++ wsX40)
def wsX2_leftOf : List Cond := .code yX2_leftOf cX2_leftOf 1 (some .int) :: ([])
def wsX2_rightOf : List Cond := .code yX2_rightOf cX2_rightOf 1 (some .int) :: ([])
def wsX2_step : List Cond := .code yX2_step cX2_step 4 none :: ([.methodLink RX2 68 yX2_placeOf, .instanceMethod yX2_placeOf, .selects RX2 yX2_placeOf yX2_placeOf, .initialized RX2, .code yX2_placeOf cX2_placeOf 2 (some .int), .fieldLink RX2 33 "DustVote$Moment" "told" "LDustVote$Told;", .fieldLink RX2 15 "DustVote$Moment" "place" "[I", .methodLink RX2 55 yX4_hasBroom, .instanceMethod yX4_hasBroom, .selects RX4 yX4_hasBroom yX4_hasBroom, .initialized RX4, .code yX4_hasBroom cX4_hasBroom 2 (some .boolean), .fieldLink RX4 30 "DustVote$Told" "brooms" "I", .methodLink RX2 77 yX2_leftOf, .static yX2_leftOf, .code yX2_leftOf cX2_leftOf 1 (some .int), .methodLink RX2 80 yX2_rightOf, .static yX2_rightOf, .code yX2_rightOf cX2_rightOf 1 (some .int), .methodLink RX2 83 yX2_goTo, .instanceMethod yX2_goTo, .selects RX2 yX2_goTo yX2_goTo, .code yX2_goTo cX2_goTo 3 none] ++ wsX20 ++ wsX40)
def wsX2_turnVote : List Cond := .code yX2_turnVote cX2_turnVote 1 none :: ([.fieldLink RX2 22 "DustVote$Moment" "given" "Z"] ++ wsX20)
def wsX2_bow : List Cond := .code yX2_bow cX2_bow 2 none :: ([.fieldLink RX2 26 "DustVote$Moment" "bent" "I"] ++ wsX20)
def wsX2_empty : List Cond := .code yX2_empty cX2_empty 2 none :: ([.fieldLink RX2 9 "DustVote$Moment" "dust" "[I", .static yX5_isStreet, .initialized RX5, .code yX5_isStreet cX5_isStreet 1 (some .boolean)] ++ wsX20)
def wsX2_pour : List Cond := .code yX2_pour cX2_pour 3 none :: ([.fieldLink RX2 9 "DustVote$Moment" "dust" "[I", .methodLink RX2 119 Lib.Math.min.name, .static Lib.Math.min.name, .initialized "java/lang/Math", .code Lib.Math.min.name Lib.Math.min.code 2 (some .int), .static yX5_isStreet, .initialized RX5, .code yX5_isStreet cX5_isStreet 1 (some .boolean)] ++ wsX20)
def wsX2_comeDown : List Cond := .code yX2_comeDown cX2_comeDown 4 none :: ([.fieldLink RX2 33 "DustVote$Moment" "told" "LDustVote$Told;", .fieldLink RX2 30 "DustVote$Moment" "dawns" "I", .methodLink RX2 106 yX2_pour, .instanceMethod yX2_pour, .selects RX2 yX2_pour yX2_pour, .initialized RX2, .code yX2_pour cX2_pour 3 none, .fieldLink RX2 9 "DustVote$Moment" "dust" "[I", .methodLink RX2 119 Lib.Math.min.name, .static Lib.Math.min.name, .initialized "java/lang/Math", .code Lib.Math.min.name Lib.Math.min.code 2 (some .int), .static yX5_isStreet, .initialized RX5, .code yX5_isStreet cX5_isStreet 1 (some .boolean)] ++ wsX20 ++ wsX40)
def wsX4_strengthOf : List Cond := .code yX4_strengthOf cX4_strengthOf 2 (some .int) :: ([.fieldLink RX4 18 "DustVote$Told" "strength" "[I"] ++ wsX40)
def wsX2_sweep : List Cond := .code yX2_sweep cX2_sweep 4 (some .int) :: ([.fieldLink RX2 9 "DustVote$Moment" "dust" "[I", .methodLink RX2 119 Lib.Math.min.name, .static Lib.Math.min.name, .initialized "java/lang/Math", .code Lib.Math.min.name Lib.Math.min.code 2 (some .int), .static yX5_isStreet, .initialized RX5, .code yX5_isStreet cX5_isStreet 1 (some .boolean)] ++ wsX20)
def wsX2_work_r1 : List Cond := [Cond.fieldLink RX2 33 "DustVote$Moment" "told" "LDustVote$Told;", Cond.methodLink RX2 68 yX2_placeOf, Cond.instanceMethod yX2_placeOf, Cond.selects RX2 yX2_placeOf yX2_placeOf, Cond.initialized RX2, Cond.code yX2_placeOf cX2_placeOf 2 (some .int), Cond.fieldLink RX2 15 "DustVote$Moment" "place" "[I", Cond.methodLink RX2 55 yX4_hasBroom, Cond.instanceMethod yX4_hasBroom, Cond.selects RX4 yX4_hasBroom yX4_hasBroom, Cond.initialized RX4, Cond.code yX4_hasBroom cX4_hasBroom 2 (some .boolean), Cond.fieldLink RX4 30 "DustVote$Told" "brooms" "I", Cond.methodLink RX2 109 yX4_strengthOf, Cond.instanceMethod yX4_strengthOf, Cond.selects RX4 yX4_strengthOf yX4_strengthOf, Cond.code yX4_strengthOf cX4_strengthOf 2 (some .int), Cond.fieldLink RX4 18 "DustVote$Told" "strength" "[I", Cond.methodLink RX2 112 yX2_worksAs, Cond.instanceMethod yX2_worksAs, Cond.selects RX2 yX2_worksAs yX2_worksAs, Cond.code yX2_worksAs cX2_worksAs 3 (some .int), Cond.fieldLink RX2 22 "DustVote$Moment" "given" "Z", Cond.methodLink RX2 71 yX4_kindOf]
def wsX2_work_r2 : List Cond := [Cond.instanceMethod yX4_kindOf, Cond.selects RX4 yX4_kindOf yX4_kindOf, Cond.code yX4_kindOf cX4_kindOf 2 (some .int), Cond.fieldLink RX4 21 "DustVote$Told" "kind" "[I", Cond.methodLink RX2 74 yX2_isBent, Cond.instanceMethod yX2_isBent, Cond.selects RX2 yX2_isBent yX2_isBent, Cond.code yX2_isBent cX2_isBent 2 (some .boolean), Cond.fieldLink RX2 26 "DustVote$Moment" "bent" "I", Cond.methodLink RX2 115 yX2_sweep, Cond.instanceMethod yX2_sweep, Cond.selects RX2 yX2_sweep yX2_sweep, Cond.code yX2_sweep cX2_sweep 4 (some .int), Cond.fieldLink RX2 9 "DustVote$Moment" "dust" "[I", Cond.methodLink RX2 119 Lib.Math.min.name, Cond.static Lib.Math.min.name, Cond.initialized "java/lang/Math", Cond.code Lib.Math.min.name Lib.Math.min.code 2 (some .int), Cond.static yX5_isStreet, Cond.initialized RX5, Cond.code yX5_isStreet cX5_isStreet 1 (some .boolean), Cond.methodLink RX2 80 yX2_rightOf, Cond.static yX2_rightOf, Cond.code yX2_rightOf cX2_rightOf 1 (some .int)]
def wsX2_work_r3 : List Cond := [Cond.methodLink RX2 106 yX2_pour, Cond.instanceMethod yX2_pour, Cond.selects RX2 yX2_pour yX2_pour, Cond.code yX2_pour cX2_pour 3 none, Cond.methodLink RX2 77 yX2_leftOf, Cond.static yX2_leftOf, Cond.code yX2_leftOf cX2_leftOf 1 (some .int)]
def wsX2_work : List Cond := .code yX2_work cX2_work 4 none :: ((wsX2_work_r1 ++ (wsX2_work_r2 ++ wsX2_work_r3)) ++ wsX20 ++ wsX40)
def wsX2_spread : List Cond := .code yX2_spread cX2_spread 2 none :: ([.fieldLink RX2 18 "DustVote$Moment" "deep" "[Z", .fieldLink RX2 9 "DustVote$Moment" "dust" "[I", .methodLink RX2 77 yX2_leftOf, .static yX2_leftOf, .initialized RX2, .code yX2_leftOf cX2_leftOf 1 (some .int), .methodLink RX2 80 yX2_rightOf, .static yX2_rightOf, .code yX2_rightOf cX2_rightOf 1 (some .int)] ++ wsX20)
def wsX2_passDawn_r1 : List Cond := [Cond.fieldLink RX2 33 "DustVote$Moment" "told" "LDustVote$Told;", Cond.fieldLink RX2 30 "DustVote$Moment" "dawns" "I", Cond.methodLink RX2 87 yX2_comeDown, Cond.instanceMethod yX2_comeDown, Cond.selects RX2 yX2_comeDown yX2_comeDown, Cond.initialized RX2, Cond.code yX2_comeDown cX2_comeDown 4 none, Cond.methodLink RX2 106 yX2_pour, Cond.instanceMethod yX2_pour, Cond.selects RX2 yX2_pour yX2_pour, Cond.code yX2_pour cX2_pour 3 none, Cond.fieldLink RX2 9 "DustVote$Moment" "dust" "[I", Cond.methodLink RX2 119 Lib.Math.min.name, Cond.static Lib.Math.min.name, Cond.initialized "java/lang/Math", Cond.code Lib.Math.min.name Lib.Math.min.code 2 (some .int), Cond.static yX5_isStreet, Cond.initialized RX5, Cond.code yX5_isStreet cX5_isStreet 1 (some .boolean), Cond.methodLink RX2 91 yX2_work, Cond.instanceMethod yX2_work, Cond.selects RX2 yX2_work yX2_work, Cond.code yX2_work cX2_work 4 none, Cond.methodLink RX2 68 yX2_placeOf]
def wsX2_passDawn_r2 : List Cond := [Cond.instanceMethod yX2_placeOf, Cond.selects RX2 yX2_placeOf yX2_placeOf, Cond.code yX2_placeOf cX2_placeOf 2 (some .int), Cond.fieldLink RX2 15 "DustVote$Moment" "place" "[I", Cond.methodLink RX2 55 yX4_hasBroom, Cond.instanceMethod yX4_hasBroom, Cond.selects RX4 yX4_hasBroom yX4_hasBroom, Cond.initialized RX4, Cond.code yX4_hasBroom cX4_hasBroom 2 (some .boolean), Cond.fieldLink RX4 30 "DustVote$Told" "brooms" "I", Cond.methodLink RX2 109 yX4_strengthOf, Cond.instanceMethod yX4_strengthOf, Cond.selects RX4 yX4_strengthOf yX4_strengthOf, Cond.code yX4_strengthOf cX4_strengthOf 2 (some .int), Cond.fieldLink RX4 18 "DustVote$Told" "strength" "[I", Cond.methodLink RX2 112 yX2_worksAs, Cond.instanceMethod yX2_worksAs, Cond.selects RX2 yX2_worksAs yX2_worksAs, Cond.code yX2_worksAs cX2_worksAs 3 (some .int), Cond.fieldLink RX2 22 "DustVote$Moment" "given" "Z", Cond.methodLink RX2 71 yX4_kindOf, Cond.instanceMethod yX4_kindOf, Cond.selects RX4 yX4_kindOf yX4_kindOf, Cond.code yX4_kindOf cX4_kindOf 2 (some .int)]
def wsX2_passDawn_r3 : List Cond := [Cond.fieldLink RX4 21 "DustVote$Told" "kind" "[I", Cond.methodLink RX2 74 yX2_isBent, Cond.instanceMethod yX2_isBent, Cond.selects RX2 yX2_isBent yX2_isBent, Cond.code yX2_isBent cX2_isBent 2 (some .boolean), Cond.fieldLink RX2 26 "DustVote$Moment" "bent" "I", Cond.methodLink RX2 115 yX2_sweep, Cond.instanceMethod yX2_sweep, Cond.selects RX2 yX2_sweep yX2_sweep, Cond.code yX2_sweep cX2_sweep 4 (some .int), Cond.methodLink RX2 80 yX2_rightOf, Cond.static yX2_rightOf, Cond.code yX2_rightOf cX2_rightOf 1 (some .int), Cond.methodLink RX2 77 yX2_leftOf, Cond.static yX2_leftOf, Cond.code yX2_leftOf cX2_leftOf 1 (some .int), Cond.methodLink RX2 94 yX2_spread, Cond.instanceMethod yX2_spread, Cond.selects RX2 yX2_spread yX2_spread, Cond.code yX2_spread cX2_spread 2 none, Cond.fieldLink RX2 18 "DustVote$Moment" "deep" "[Z"]
def wsX2_passDawn : List Cond := .code yX2_passDawn cX2_passDawn 4 none :: ((wsX2_passDawn_r1 ++ (wsX2_passDawn_r2 ++ wsX2_passDawn_r3)) ++ wsX20 ++ wsX40)
def wsX3_init : List Cond := .code yX3_init cX3_init 1 none :: ([.methodLink RX3 3 objectInit, .instanceMethod objectInit, .code objectInit ⟨#[0xb1]⟩ 1 none, .arrayClass .int, .fieldLink RX3 9 "DustVote$Script" "letters" "[I", .fieldLink RX3 15 "DustVote$Script" "length" "I"] ++ wsX30)
def wsX3_add : List Cond := .code yX3_add cX3_add 2 none :: ([.fieldLink RX3 15 "DustVote$Script" "length" "I", .fieldLink RX3 9 "DustVote$Script" "letters" "[I"] ++ wsX30)
def wsX3_letterAt : List Cond := .code yX3_letterAt cX3_letterAt 2 (some .int) :: ([.fieldLink RX3 15 "DustVote$Script" "length" "I", .fieldLink RX3 9 "DustVote$Script" "letters" "[I"] ++ wsX30)
def wsX3_figureAt : List Cond := .code yX3_figureAt cX3_figureAt 2 (some .int) :: ([.methodLink RX3 19 yX3_letterAt, .instanceMethod yX3_letterAt, .selects RX3 yX3_letterAt yX3_letterAt, .initialized RX3, .code yX3_letterAt cX3_letterAt 2 (some .int), .fieldLink RX3 15 "DustVote$Script" "length" "I", .fieldLink RX3 9 "DustVote$Script" "letters" "[I"] ++ wsX30)
def wsX5_within : List Cond := .code yX5_within cX5_within 3 (some .boolean) :: ([])
def wsX3_faultOfBroom : List Cond := .code yX3_faultOfBroom cX3_faultOfBroom 2 (some .int) :: ([.methodLink RX3 23 yX3_figureAt, .instanceMethod yX3_figureAt, .selects RX3 yX3_figureAt yX3_figureAt, .initialized RX3, .code yX3_figureAt cX3_figureAt 2 (some .int), .methodLink RX3 19 yX3_letterAt, .instanceMethod yX3_letterAt, .selects RX3 yX3_letterAt yX3_letterAt, .code yX3_letterAt cX3_letterAt 2 (some .int), .fieldLink RX3 15 "DustVote$Script" "length" "I", .fieldLink RX3 9 "DustVote$Script" "letters" "[I", .static yX5_isStreet, .initialized RX5, .code yX5_isStreet cX5_isStreet 1 (some .boolean), .static yX5_within, .code yX5_within cX5_within 3 (some .boolean)] ++ wsX30)
def wsX3_faultOfFall : List Cond := .code yX3_faultOfFall cX3_faultOfFall 2 (some .int) :: ([.methodLink RX3 23 yX3_figureAt, .instanceMethod yX3_figureAt, .selects RX3 yX3_figureAt yX3_figureAt, .initialized RX3, .code yX3_figureAt cX3_figureAt 2 (some .int), .methodLink RX3 19 yX3_letterAt, .instanceMethod yX3_letterAt, .selects RX3 yX3_letterAt yX3_letterAt, .code yX3_letterAt cX3_letterAt 2 (some .int), .fieldLink RX3 15 "DustVote$Script" "length" "I", .fieldLink RX3 9 "DustVote$Script" "letters" "[I", .static yX5_isStreet, .initialized RX5, .code yX5_isStreet cX5_isStreet 1 (some .boolean), .static yX5_within, .code yX5_within cX5_within 3 (some .boolean)] ++ wsX30)
def wsX3_firstFaultOfParts : List Cond := .code yX3_firstFaultOfParts cX3_firstFaultOfParts 7 (some .int) :: ([.fieldLink RX3 15 "DustVote$Script" "length" "I", .methodLink RX3 19 yX3_letterAt, .instanceMethod yX3_letterAt, .selects RX3 yX3_letterAt yX3_letterAt, .initialized RX3, .code yX3_letterAt cX3_letterAt 2 (some .int), .fieldLink RX3 9 "DustVote$Script" "letters" "[I", .methodLink RX3 34 yX3_faultOfBroom, .instanceMethod yX3_faultOfBroom, .selects RX3 yX3_faultOfBroom yX3_faultOfBroom, .code yX3_faultOfBroom cX3_faultOfBroom 2 (some .int), .methodLink RX3 23 yX3_figureAt, .instanceMethod yX3_figureAt, .selects RX3 yX3_figureAt yX3_figureAt, .code yX3_figureAt cX3_figureAt 2 (some .int), .static yX5_isStreet, .initialized RX5, .code yX5_isStreet cX5_isStreet 1 (some .boolean), .static yX5_within, .code yX5_within cX5_within 3 (some .boolean), .methodLink RX3 37 yX3_faultOfFall, .instanceMethod yX3_faultOfFall, .selects RX3 yX3_faultOfFall yX3_faultOfFall, .code yX3_faultOfFall cX3_faultOfFall 2 (some .int)] ++ wsX30)
def wsX3_firstFault_r1 : List Cond := [Cond.methodLink RX3 19 yX3_letterAt, Cond.instanceMethod yX3_letterAt, Cond.selects RX3 yX3_letterAt yX3_letterAt, Cond.initialized RX3, Cond.code yX3_letterAt cX3_letterAt 2 (some .int), Cond.fieldLink RX3 15 "DustVote$Script" "length" "I", Cond.fieldLink RX3 9 "DustVote$Script" "letters" "[I", Cond.methodLink RX3 23 yX3_figureAt, Cond.instanceMethod yX3_figureAt, Cond.selects RX3 yX3_figureAt yX3_figureAt, Cond.code yX3_figureAt cX3_figureAt 2 (some .int), Cond.static yX5_within, Cond.initialized RX5, Cond.code yX5_within cX5_within 3 (some .boolean), Cond.methodLink RX3 30 yX3_firstFaultOfParts, Cond.instanceMethod yX3_firstFaultOfParts, Cond.selects RX3 yX3_firstFaultOfParts yX3_firstFaultOfParts, Cond.code yX3_firstFaultOfParts cX3_firstFaultOfParts 7 (some .int), Cond.methodLink RX3 34 yX3_faultOfBroom, Cond.instanceMethod yX3_faultOfBroom, Cond.selects RX3 yX3_faultOfBroom yX3_faultOfBroom, Cond.code yX3_faultOfBroom cX3_faultOfBroom 2 (some .int), Cond.static yX5_isStreet, Cond.code yX5_isStreet cX5_isStreet 1 (some .boolean)]
def wsX3_firstFault_r2 : List Cond := [Cond.methodLink RX3 37 yX3_faultOfFall, Cond.instanceMethod yX3_faultOfFall, Cond.selects RX3 yX3_faultOfFall yX3_faultOfFall, Cond.code yX3_faultOfFall cX3_faultOfFall 2 (some .int)]
def wsX3_firstFault : List Cond := .code yX3_firstFault cX3_firstFault 2 (some .int) :: ((wsX3_firstFault_r1 ++ wsX3_firstFault_r2) ++ wsX30)
def wsX4_init : List Cond := .code yX4_init cX4_init 1 none :: ([.methodLink RX4 3 objectInit, .instanceMethod objectInit, .code objectInit ⟨#[0xb1]⟩ 1 none, .arrayClass .int, .fieldLink RX4 9 "DustVote$Told" "firstDust" "[I", .fieldLink RX4 15 "DustVote$Told" "firstPlace" "[I", .fieldLink RX4 18 "DustVote$Told" "strength" "[I", .fieldLink RX4 21 "DustVote$Told" "kind" "[I", .fieldLink RX4 24 "DustVote$Told" "fallStreet" "[I", .fieldLink RX4 27 "DustVote$Told" "fallDust" "[I", .fieldLink RX4 30 "DustVote$Told" "brooms" "I", .fieldLink RX4 34 "DustVote$Told" "falls" "I"] ++ wsX40)
def wsX4_addBroom : List Cond := .code yX4_addBroom cX4_addBroom 3 none :: ([.fieldLink RX4 30 "DustVote$Told" "brooms" "I", .fieldLink RX4 15 "DustVote$Told" "firstPlace" "[I", .fieldLink RX4 18 "DustVote$Told" "strength" "[I", .fieldLink RX4 21 "DustVote$Told" "kind" "[I", .methodLink RX4 37 yX3_figureAt, .instanceMethod yX3_figureAt, .selects RX3 yX3_figureAt yX3_figureAt, .initialized RX3, .code yX3_figureAt cX3_figureAt 2 (some .int), .methodLink RX3 19 yX3_letterAt, .instanceMethod yX3_letterAt, .selects RX3 yX3_letterAt yX3_letterAt, .code yX3_letterAt cX3_letterAt 2 (some .int), .fieldLink RX3 15 "DustVote$Script" "length" "I", .fieldLink RX3 9 "DustVote$Script" "letters" "[I"] ++ wsX40 ++ wsX30)
def wsX4_addFall : List Cond := .code yX4_addFall cX4_addFall 3 none :: ([.fieldLink RX4 34 "DustVote$Told" "falls" "I", .fieldLink RX4 24 "DustVote$Told" "fallStreet" "[I", .fieldLink RX4 27 "DustVote$Told" "fallDust" "[I", .methodLink RX4 37 yX3_figureAt, .instanceMethod yX3_figureAt, .selects RX3 yX3_figureAt yX3_figureAt, .initialized RX3, .code yX3_figureAt cX3_figureAt 2 (some .int), .methodLink RX3 19 yX3_letterAt, .instanceMethod yX3_letterAt, .selects RX3 yX3_letterAt yX3_letterAt, .code yX3_letterAt cX3_letterAt 2 (some .int), .fieldLink RX3 15 "DustVote$Script" "length" "I", .fieldLink RX3 9 "DustVote$Script" "letters" "[I"] ++ wsX40 ++ wsX30)
def wsX4_read_r1 : List Cond := [Cond.fieldLink RX4 9 "DustVote$Told" "firstDust" "[I", Cond.fieldLink RX4 30 "DustVote$Told" "brooms" "I", Cond.fieldLink RX4 34 "DustVote$Told" "falls" "I", Cond.methodLink RX4 37 yX3_figureAt, Cond.instanceMethod yX3_figureAt, Cond.selects RX3 yX3_figureAt yX3_figureAt, Cond.initialized RX3, Cond.code yX3_figureAt cX3_figureAt 2 (some .int), Cond.methodLink RX3 19 yX3_letterAt, Cond.instanceMethod yX3_letterAt, Cond.selects RX3 yX3_letterAt yX3_letterAt, Cond.code yX3_letterAt cX3_letterAt 2 (some .int), Cond.fieldLink RX3 15 "DustVote$Script" "length" "I", Cond.fieldLink RX3 9 "DustVote$Script" "letters" "[I", Cond.methodLink RX4 46 yX3_letterAt, Cond.methodLink RX4 49 yX4_addBroom, Cond.instanceMethod yX4_addBroom, Cond.selects RX4 yX4_addBroom yX4_addBroom, Cond.initialized RX4, Cond.code yX4_addBroom cX4_addBroom 3 none, Cond.fieldLink RX4 15 "DustVote$Told" "firstPlace" "[I", Cond.fieldLink RX4 18 "DustVote$Told" "strength" "[I", Cond.fieldLink RX4 21 "DustVote$Told" "kind" "[I", Cond.methodLink RX4 53 yX4_addFall]
def wsX4_read_r2 : List Cond := [Cond.instanceMethod yX4_addFall, Cond.selects RX4 yX4_addFall yX4_addFall, Cond.code yX4_addFall cX4_addFall 3 none, Cond.fieldLink RX4 24 "DustVote$Told" "fallStreet" "[I", Cond.fieldLink RX4 27 "DustVote$Told" "fallDust" "[I"]
def wsX4_read : List Cond := .code yX4_read cX4_read 3 none :: ((wsX4_read_r1 ++ wsX4_read_r2) ++ wsX40 ++ wsX30)
def wsX5_init_r1 : List Cond := [Cond.methodLink RX5 3 objectInit, Cond.instanceMethod objectInit, Cond.code objectInit ⟨#[0xb1]⟩ 1 none, Cond.classLink RX5 9 RX3, Cond.instantiable RX3 2, Cond.initialized RX3, Cond.fieldLink RX5 12 "DustVote" "script" "LDustVote$Script;", Cond.classLink RX5 16 RX4, Cond.instantiable RX4 8, Cond.initialized RX4, Cond.fieldLink RX5 19 "DustVote" "told" "LDustVote$Told;", Cond.classLink RX5 23 RX2, Cond.instantiable RX2 7, Cond.initialized RX2, Cond.fieldLink RX5 28 "DustVote" "now" "LDustVote$Moment;", Cond.fieldLink RX5 32 "DustVote" "trial" "LDustVote$Moment;", Cond.classLink RX5 35 RX0, Cond.instantiable RX0 3, Cond.initialized RX0, Cond.fieldLink RX5 38 "DustVote" "acts" "LDustVote$ActRow;", Cond.classLink RX5 42 RX1, Cond.instantiable RX1 4, Cond.initialized RX1, Cond.fieldLink RX5 45 "DustVote" "heaps" "LDustVote$Heaps;"]
def wsX5_init_r2 : List Cond := [Cond.arrayClass .int, Cond.fieldLink RX5 49 "DustVote" "slots" "[I", Cond.arrayClass .boolean, Cond.fieldLink RX5 53 "DustVote" "filled" "[Z", Cond.fieldLink RX5 57 "DustVote" "chance" "J", Cond.instanceMethod yX3_init, Cond.code yX3_init cX3_init 1 none, Cond.methodLink RX3 3 objectInit, Cond.fieldLink RX3 9 "DustVote$Script" "letters" "[I", Cond.fieldLink RX3 15 "DustVote$Script" "length" "I", Cond.instanceMethod yX4_init, Cond.code yX4_init cX4_init 1 none, Cond.methodLink RX4 3 objectInit, Cond.fieldLink RX4 9 "DustVote$Told" "firstDust" "[I", Cond.fieldLink RX4 15 "DustVote$Told" "firstPlace" "[I", Cond.fieldLink RX4 18 "DustVote$Told" "strength" "[I", Cond.fieldLink RX4 21 "DustVote$Told" "kind" "[I", Cond.fieldLink RX4 24 "DustVote$Told" "fallStreet" "[I", Cond.fieldLink RX4 27 "DustVote$Told" "fallDust" "[I", Cond.fieldLink RX4 30 "DustVote$Told" "brooms" "I", Cond.fieldLink RX4 34 "DustVote$Told" "falls" "I", Cond.methodLink RX5 25 yX2_init, Cond.instanceMethod yX2_init, Cond.code yX2_init cX2_init 2 none]
def wsX5_init_r3 : List Cond := [Cond.methodLink RX2 3 objectInit, Cond.fieldLink RX2 9 "DustVote$Moment" "dust" "[I", Cond.fieldLink RX2 15 "DustVote$Moment" "place" "[I", Cond.fieldLink RX2 18 "DustVote$Moment" "deep" "[Z", Cond.fieldLink RX2 22 "DustVote$Moment" "given" "Z", Cond.fieldLink RX2 26 "DustVote$Moment" "bent" "I", Cond.fieldLink RX2 30 "DustVote$Moment" "dawns" "I", Cond.fieldLink RX2 33 "DustVote$Moment" "told" "LDustVote$Told;", Cond.instanceMethod yX0_init, Cond.code yX0_init cX0_init 1 none, Cond.methodLink RX0 3 objectInit, Cond.fieldLink RX0 9 "DustVote$ActRow" "cells" "[I", Cond.fieldLink RX0 15 "DustVote$ActRow" "first" "I", Cond.fieldLink RX0 19 "DustVote$ActRow" "size" "I", Cond.instanceMethod yX1_init, Cond.code yX1_init cX1_init 1 none, Cond.methodLink RX1 3 objectInit, Cond.fieldLink RX1 9 "DustVote$Heaps" "before" "[I", Cond.fieldLink RX1 15 "DustVote$Heaps" "left" "[I", Cond.fieldLink RX1 18 "DustVote$Heaps" "gone" "[I", Cond.fieldLink RX1 21 "DustVote$Heaps" "size" "I"]
def wsX5_init : List Cond := .code yX5_init cX5_init 1 none :: ((wsX5_init_r1 ++ (wsX5_init_r2 ++ wsX5_init_r3)) ++ wsX30 ++ wsX50 ++ wsX40 ++ wsX20 ++ wsX00 ++ wsX10)
def wsX5_write : List Cond := .code yX5_write cX5_write 2 (some .int) :: ([.fieldLink RX5 12 "DustVote" "script" "LDustVote$Script;", .methodLink RX5 61 yX5_within, .static yX5_within, .initialized RX5, .code yX5_within cX5_within 3 (some .boolean), .methodLink RX5 69 yX3_add, .instanceMethod yX3_add, .selects RX3 yX3_add yX3_add, .initialized RX3, .code yX3_add cX3_add 2 none, .fieldLink RX3 15 "DustVote$Script" "length" "I", .fieldLink RX3 9 "DustVote$Script" "letters" "[I"] ++ wsX50 ++ wsX30)
def wsX5_wipe : List Cond := .code yX5_wipe cX5_wipe 2 (some .int) :: ([.fieldLink RX5 12 "DustVote" "script" "LDustVote$Script;"] ++ wsX50 ++ wsX30)
def wsX5_fault_r1 : List Cond := [Cond.fieldLink RX5 12 "DustVote" "script" "LDustVote$Script;", Cond.methodLink RX5 73 yX3_firstFault, Cond.instanceMethod yX3_firstFault, Cond.selects RX3 yX3_firstFault yX3_firstFault, Cond.initialized RX3, Cond.code yX3_firstFault cX3_firstFault 2 (some .int), Cond.methodLink RX3 19 yX3_letterAt, Cond.instanceMethod yX3_letterAt, Cond.selects RX3 yX3_letterAt yX3_letterAt, Cond.code yX3_letterAt cX3_letterAt 2 (some .int), Cond.fieldLink RX3 15 "DustVote$Script" "length" "I", Cond.fieldLink RX3 9 "DustVote$Script" "letters" "[I", Cond.methodLink RX3 23 yX3_figureAt, Cond.instanceMethod yX3_figureAt, Cond.selects RX3 yX3_figureAt yX3_figureAt, Cond.code yX3_figureAt cX3_figureAt 2 (some .int), Cond.static yX5_within, Cond.initialized RX5, Cond.code yX5_within cX5_within 3 (some .boolean), Cond.methodLink RX3 30 yX3_firstFaultOfParts, Cond.instanceMethod yX3_firstFaultOfParts, Cond.selects RX3 yX3_firstFaultOfParts yX3_firstFaultOfParts, Cond.code yX3_firstFaultOfParts cX3_firstFaultOfParts 7 (some .int), Cond.methodLink RX3 34 yX3_faultOfBroom]
def wsX5_fault_r2 : List Cond := [Cond.instanceMethod yX3_faultOfBroom, Cond.selects RX3 yX3_faultOfBroom yX3_faultOfBroom, Cond.code yX3_faultOfBroom cX3_faultOfBroom 2 (some .int), Cond.static yX5_isStreet, Cond.code yX5_isStreet cX5_isStreet 1 (some .boolean), Cond.methodLink RX3 37 yX3_faultOfFall, Cond.instanceMethod yX3_faultOfFall, Cond.selects RX3 yX3_faultOfFall yX3_faultOfFall, Cond.code yX3_faultOfFall cX3_faultOfFall 2 (some .int)]
def wsX5_fault : List Cond := .code yX5_fault cX5_fault 1 (some .int) :: ((wsX5_fault_r1 ++ wsX5_fault_r2) ++ wsX50 ++ wsX30)
def wsX5_city_r1 : List Cond := [Cond.fieldLink RX5 12 "DustVote" "script" "LDustVote$Script;", Cond.fieldLink RX5 19 "DustVote" "told" "LDustVote$Told;", Cond.fieldLink RX5 28 "DustVote" "now" "LDustVote$Moment;", Cond.fieldLink RX5 38 "DustVote" "acts" "LDustVote$ActRow;", Cond.fieldLink RX5 53 "DustVote" "filled" "[Z", Cond.methodLink RX5 73 yX3_firstFault, Cond.instanceMethod yX3_firstFault, Cond.selects RX3 yX3_firstFault yX3_firstFault, Cond.initialized RX3, Cond.code yX3_firstFault cX3_firstFault 2 (some .int), Cond.methodLink RX3 19 yX3_letterAt, Cond.instanceMethod yX3_letterAt, Cond.selects RX3 yX3_letterAt yX3_letterAt, Cond.code yX3_letterAt cX3_letterAt 2 (some .int), Cond.fieldLink RX3 15 "DustVote$Script" "length" "I", Cond.fieldLink RX3 9 "DustVote$Script" "letters" "[I", Cond.methodLink RX3 23 yX3_figureAt, Cond.instanceMethod yX3_figureAt, Cond.selects RX3 yX3_figureAt yX3_figureAt, Cond.code yX3_figureAt cX3_figureAt 2 (some .int), Cond.static yX5_within, Cond.initialized RX5, Cond.code yX5_within cX5_within 3 (some .boolean), Cond.methodLink RX3 30 yX3_firstFaultOfParts]
def wsX5_city_r2 : List Cond := [Cond.instanceMethod yX3_firstFaultOfParts, Cond.selects RX3 yX3_firstFaultOfParts yX3_firstFaultOfParts, Cond.code yX3_firstFaultOfParts cX3_firstFaultOfParts 7 (some .int), Cond.methodLink RX3 34 yX3_faultOfBroom, Cond.instanceMethod yX3_faultOfBroom, Cond.selects RX3 yX3_faultOfBroom yX3_faultOfBroom, Cond.code yX3_faultOfBroom cX3_faultOfBroom 2 (some .int), Cond.static yX5_isStreet, Cond.code yX5_isStreet cX5_isStreet 1 (some .boolean), Cond.methodLink RX3 37 yX3_faultOfFall, Cond.instanceMethod yX3_faultOfFall, Cond.selects RX3 yX3_faultOfFall yX3_faultOfFall, Cond.code yX3_faultOfFall cX3_faultOfFall 2 (some .int), Cond.methodLink RX5 77 yX4_read, Cond.instanceMethod yX4_read, Cond.selects RX4 yX4_read yX4_read, Cond.initialized RX4, Cond.code yX4_read cX4_read 3 none, Cond.fieldLink RX4 9 "DustVote$Told" "firstDust" "[I", Cond.fieldLink RX4 30 "DustVote$Told" "brooms" "I", Cond.fieldLink RX4 34 "DustVote$Told" "falls" "I", Cond.methodLink RX4 37 yX3_figureAt, Cond.methodLink RX4 46 yX3_letterAt, Cond.methodLink RX4 49 yX4_addBroom]
def wsX5_city_r3 : List Cond := [Cond.instanceMethod yX4_addBroom, Cond.selects RX4 yX4_addBroom yX4_addBroom, Cond.code yX4_addBroom cX4_addBroom 3 none, Cond.fieldLink RX4 15 "DustVote$Told" "firstPlace" "[I", Cond.fieldLink RX4 18 "DustVote$Told" "strength" "[I", Cond.fieldLink RX4 21 "DustVote$Told" "kind" "[I", Cond.methodLink RX4 53 yX4_addFall, Cond.instanceMethod yX4_addFall, Cond.selects RX4 yX4_addFall yX4_addFall, Cond.code yX4_addFall cX4_addFall 3 none, Cond.fieldLink RX4 24 "DustVote$Told" "fallStreet" "[I", Cond.fieldLink RX4 27 "DustVote$Told" "fallDust" "[I", Cond.methodLink RX5 81 yX2_begin, Cond.instanceMethod yX2_begin, Cond.selects RX2 yX2_begin yX2_begin, Cond.initialized RX2, Cond.code yX2_begin cX2_begin 1 none, Cond.fieldLink RX2 33 "DustVote$Moment" "told" "LDustVote$Told;", Cond.fieldLink RX2 9 "DustVote$Moment" "dust" "[I", Cond.methodLink RX2 42 arraycopyName, Cond.native arraycopyName, Cond.static arraycopyName, Cond.initialized "java/lang/System", Cond.fieldLink RX2 15 "DustVote$Moment" "place" "[I"]
def wsX5_city_r4 : List Cond := [Cond.fieldLink RX2 22 "DustVote$Moment" "given" "Z", Cond.fieldLink RX2 26 "DustVote$Moment" "bent" "I", Cond.fieldLink RX2 30 "DustVote$Moment" "dawns" "I", Cond.methodLink RX5 84 yX0_clear, Cond.instanceMethod yX0_clear, Cond.selects RX0 yX0_clear yX0_clear, Cond.initialized RX0, Cond.code yX0_clear cX0_clear 1 none, Cond.fieldLink RX0 15 "DustVote$ActRow" "first" "I", Cond.fieldLink RX0 19 "DustVote$ActRow" "size" "I"]
def wsX5_city : List Cond := .code yX5_city cX5_city 2 (some .int) :: ((wsX5_city_r1 ++ (wsX5_city_r2 ++ (wsX5_city_r3 ++ wsX5_city_r4))) ++ wsX50 ++ wsX40 ++ wsX30 ++ wsX20 ++ wsX00)
def wsX5_street_r1 : List Cond := [Cond.fieldLink RX5 28 "DustVote" "now" "LDustVote$Moment;", Cond.methodLink RX5 93 yX5_isStreet, Cond.static yX5_isStreet, Cond.initialized RX5, Cond.code yX5_isStreet cX5_isStreet 1 (some .boolean), Cond.methodLink RX5 97 yX2_dustIn, Cond.instanceMethod yX2_dustIn, Cond.selects RX2 yX2_dustIn yX2_dustIn, Cond.initialized RX2, Cond.code yX2_dustIn cX2_dustIn 2 (some .int), Cond.fieldLink RX2 9 "DustVote$Moment" "dust" "[I", Cond.methodLink RX5 101 yX2_isDeep, Cond.instanceMethod yX2_isDeep, Cond.selects RX2 yX2_isDeep yX2_isDeep, Cond.code yX2_isDeep cX2_isDeep 2 (some .boolean), Cond.methodLink RX2 58 yX2_dustIn, Cond.methodLink RX5 104 yX2_broomsIn, Cond.instanceMethod yX2_broomsIn, Cond.selects RX2 yX2_broomsIn yX2_broomsIn, Cond.code yX2_broomsIn cX2_broomsIn 4 (some .int), Cond.fieldLink RX2 33 "DustVote$Moment" "told" "LDustVote$Told;", Cond.methodLink RX2 68 yX2_placeOf, Cond.instanceMethod yX2_placeOf, Cond.selects RX2 yX2_placeOf yX2_placeOf]
def wsX5_street_r2 : List Cond := [Cond.code yX2_placeOf cX2_placeOf 2 (some .int), Cond.fieldLink RX2 15 "DustVote$Moment" "place" "[I", Cond.methodLink RX2 55 yX4_hasBroom, Cond.instanceMethod yX4_hasBroom, Cond.selects RX4 yX4_hasBroom yX4_hasBroom, Cond.initialized RX4, Cond.code yX4_hasBroom cX4_hasBroom 2 (some .boolean), Cond.fieldLink RX4 30 "DustVote$Told" "brooms" "I"]
def wsX5_street : List Cond := .code yX5_street cX5_street 3 (some .int) :: ((wsX5_street_r1 ++ wsX5_street_r2) ++ wsX50 ++ wsX20 ++ wsX40)
def wsX5_broom_r1 : List Cond := [Cond.fieldLink RX5 19 "DustVote" "told" "LDustVote$Told;", Cond.fieldLink RX5 28 "DustVote" "now" "LDustVote$Moment;", Cond.methodLink RX5 107 yX4_hasBroom, Cond.instanceMethod yX4_hasBroom, Cond.selects RX4 yX4_hasBroom yX4_hasBroom, Cond.initialized RX4, Cond.code yX4_hasBroom cX4_hasBroom 2 (some .boolean), Cond.fieldLink RX4 30 "DustVote$Told" "brooms" "I", Cond.methodLink RX5 110 yX2_placeOf, Cond.instanceMethod yX2_placeOf, Cond.selects RX2 yX2_placeOf yX2_placeOf, Cond.initialized RX2, Cond.code yX2_placeOf cX2_placeOf 2 (some .int), Cond.fieldLink RX2 33 "DustVote$Moment" "told" "LDustVote$Told;", Cond.fieldLink RX2 15 "DustVote$Moment" "place" "[I", Cond.methodLink RX2 55 yX4_hasBroom, Cond.methodLink RX5 113 yX4_strengthOf, Cond.instanceMethod yX4_strengthOf, Cond.selects RX4 yX4_strengthOf yX4_strengthOf, Cond.code yX4_strengthOf cX4_strengthOf 2 (some .int), Cond.fieldLink RX4 18 "DustVote$Told" "strength" "[I", Cond.methodLink RX5 116 yX4_kindOf, Cond.instanceMethod yX4_kindOf, Cond.selects RX4 yX4_kindOf yX4_kindOf]
def wsX5_broom_r2 : List Cond := [Cond.code yX4_kindOf cX4_kindOf 2 (some .int), Cond.fieldLink RX4 21 "DustVote$Told" "kind" "[I", Cond.methodLink RX5 119 yX2_isBent, Cond.instanceMethod yX2_isBent, Cond.selects RX2 yX2_isBent yX2_isBent, Cond.code yX2_isBent cX2_isBent 2 (some .boolean), Cond.fieldLink RX2 26 "DustVote$Moment" "bent" "I", Cond.methodLink RX5 122 yX2_worksAs, Cond.instanceMethod yX2_worksAs, Cond.selects RX2 yX2_worksAs yX2_worksAs, Cond.code yX2_worksAs cX2_worksAs 3 (some .int), Cond.fieldLink RX2 22 "DustVote$Moment" "given" "Z", Cond.methodLink RX2 71 yX4_kindOf, Cond.methodLink RX2 74 yX2_isBent]
def wsX5_broom : List Cond := .code yX5_broom cX5_broom 3 (some .int) :: ((wsX5_broom_r1 ++ wsX5_broom_r2) ++ wsX50 ++ wsX40 ++ wsX20)
def wsX5_dawn_r1 : List Cond := [Cond.fieldLink RX5 38 "DustVote" "acts" "LDustVote$ActRow;", Cond.fieldLink RX5 28 "DustVote" "now" "LDustVote$Moment;", Cond.methodLink RX5 125 yX0_push, Cond.instanceMethod yX0_push, Cond.selects RX0 yX0_push yX0_push, Cond.initialized RX0, Cond.code yX0_push cX0_push 2 none, Cond.fieldLink RX0 9 "DustVote$ActRow" "cells" "[I", Cond.fieldLink RX0 15 "DustVote$ActRow" "first" "I", Cond.fieldLink RX0 19 "DustVote$ActRow" "size" "I", Cond.methodLink RX0 22 yX0_spotOf, Cond.static yX0_spotOf, Cond.code yX0_spotOf cX0_spotOf 1 (some .int), Cond.methodLink RX0 26 yX2_save, Cond.instanceMethod yX2_save, Cond.selects RX2 yX2_save yX2_save, Cond.initialized RX2, Cond.code yX2_save cX2_save 4 none, Cond.fieldLink RX2 9 "DustVote$Moment" "dust" "[I", Cond.methodLink RX2 42 arraycopyName, Cond.native arraycopyName, Cond.static arraycopyName, Cond.initialized "java/lang/System", Cond.fieldLink RX2 15 "DustVote$Moment" "place" "[I"]
def wsX5_dawn_r2 : List Cond := [Cond.fieldLink RX2 22 "DustVote$Moment" "given" "Z", Cond.fieldLink RX2 26 "DustVote$Moment" "bent" "I", Cond.fieldLink RX2 30 "DustVote$Moment" "dawns" "I", Cond.methodLink RX5 129 yX2_passDawn, Cond.instanceMethod yX2_passDawn, Cond.selects RX2 yX2_passDawn yX2_passDawn, Cond.code yX2_passDawn cX2_passDawn 4 none, Cond.fieldLink RX2 33 "DustVote$Moment" "told" "LDustVote$Told;", Cond.methodLink RX2 87 yX2_comeDown, Cond.instanceMethod yX2_comeDown, Cond.selects RX2 yX2_comeDown yX2_comeDown, Cond.code yX2_comeDown cX2_comeDown 4 none, Cond.methodLink RX2 106 yX2_pour, Cond.instanceMethod yX2_pour, Cond.selects RX2 yX2_pour yX2_pour, Cond.code yX2_pour cX2_pour 3 none, Cond.methodLink RX2 119 Lib.Math.min.name, Cond.static Lib.Math.min.name, Cond.initialized "java/lang/Math", Cond.code Lib.Math.min.name Lib.Math.min.code 2 (some .int), Cond.static yX5_isStreet, Cond.initialized RX5, Cond.code yX5_isStreet cX5_isStreet 1 (some .boolean), Cond.methodLink RX2 91 yX2_work]
def wsX5_dawn_r3 : List Cond := [Cond.instanceMethod yX2_work, Cond.selects RX2 yX2_work yX2_work, Cond.code yX2_work cX2_work 4 none, Cond.methodLink RX2 68 yX2_placeOf, Cond.instanceMethod yX2_placeOf, Cond.selects RX2 yX2_placeOf yX2_placeOf, Cond.code yX2_placeOf cX2_placeOf 2 (some .int), Cond.methodLink RX2 55 yX4_hasBroom, Cond.instanceMethod yX4_hasBroom, Cond.selects RX4 yX4_hasBroom yX4_hasBroom, Cond.initialized RX4, Cond.code yX4_hasBroom cX4_hasBroom 2 (some .boolean), Cond.fieldLink RX4 30 "DustVote$Told" "brooms" "I", Cond.methodLink RX2 109 yX4_strengthOf, Cond.instanceMethod yX4_strengthOf, Cond.selects RX4 yX4_strengthOf yX4_strengthOf, Cond.code yX4_strengthOf cX4_strengthOf 2 (some .int), Cond.fieldLink RX4 18 "DustVote$Told" "strength" "[I", Cond.methodLink RX2 112 yX2_worksAs, Cond.instanceMethod yX2_worksAs, Cond.selects RX2 yX2_worksAs yX2_worksAs, Cond.code yX2_worksAs cX2_worksAs 3 (some .int), Cond.methodLink RX2 71 yX4_kindOf, Cond.instanceMethod yX4_kindOf]
def wsX5_dawn_r4 : List Cond := [Cond.selects RX4 yX4_kindOf yX4_kindOf, Cond.code yX4_kindOf cX4_kindOf 2 (some .int), Cond.fieldLink RX4 21 "DustVote$Told" "kind" "[I", Cond.methodLink RX2 74 yX2_isBent, Cond.instanceMethod yX2_isBent, Cond.selects RX2 yX2_isBent yX2_isBent, Cond.code yX2_isBent cX2_isBent 2 (some .boolean), Cond.methodLink RX2 115 yX2_sweep, Cond.instanceMethod yX2_sweep, Cond.selects RX2 yX2_sweep yX2_sweep, Cond.code yX2_sweep cX2_sweep 4 (some .int), Cond.methodLink RX2 80 yX2_rightOf, Cond.static yX2_rightOf, Cond.code yX2_rightOf cX2_rightOf 1 (some .int), Cond.methodLink RX2 77 yX2_leftOf, Cond.static yX2_leftOf, Cond.code yX2_leftOf cX2_leftOf 1 (some .int), Cond.methodLink RX2 94 yX2_spread, Cond.instanceMethod yX2_spread, Cond.selects RX2 yX2_spread yX2_spread, Cond.code yX2_spread cX2_spread 2 none, Cond.fieldLink RX2 18 "DustVote$Moment" "deep" "[Z", Cond.methodLink RX5 133 yX2_allDust, Cond.instanceMethod yX2_allDust]
def wsX5_dawn_r5 : List Cond := [Cond.selects RX2 yX2_allDust yX2_allDust, Cond.code yX2_allDust cX2_allDust 3 (some .int)]
def wsX5_dawn : List Cond := .code yX5_dawn cX5_dawn 1 (some .int) :: ((wsX5_dawn_r1 ++ (wsX5_dawn_r2 ++ (wsX5_dawn_r3 ++ (wsX5_dawn_r4 ++ wsX5_dawn_r5)))) ++ wsX50 ++ wsX00 ++ wsX20 ++ wsX40)
def wsX5_walk_r1 : List Cond := [Cond.fieldLink RX5 19 "DustVote" "told" "LDustVote$Told;", Cond.fieldLink RX5 38 "DustVote" "acts" "LDustVote$ActRow;", Cond.fieldLink RX5 28 "DustVote" "now" "LDustVote$Moment;", Cond.methodLink RX5 107 yX4_hasBroom, Cond.instanceMethod yX4_hasBroom, Cond.selects RX4 yX4_hasBroom yX4_hasBroom, Cond.initialized RX4, Cond.code yX4_hasBroom cX4_hasBroom 2 (some .boolean), Cond.fieldLink RX4 30 "DustVote$Told" "brooms" "I", Cond.methodLink RX5 61 yX5_within, Cond.static yX5_within, Cond.initialized RX5, Cond.code yX5_within cX5_within 3 (some .boolean), Cond.methodLink RX5 125 yX0_push, Cond.instanceMethod yX0_push, Cond.selects RX0 yX0_push yX0_push, Cond.initialized RX0, Cond.code yX0_push cX0_push 2 none, Cond.fieldLink RX0 9 "DustVote$ActRow" "cells" "[I", Cond.fieldLink RX0 15 "DustVote$ActRow" "first" "I", Cond.fieldLink RX0 19 "DustVote$ActRow" "size" "I", Cond.methodLink RX0 22 yX0_spotOf, Cond.static yX0_spotOf, Cond.code yX0_spotOf cX0_spotOf 1 (some .int)]
def wsX5_walk_r2 : List Cond := [Cond.methodLink RX0 26 yX2_save, Cond.instanceMethod yX2_save, Cond.selects RX2 yX2_save yX2_save, Cond.initialized RX2, Cond.code yX2_save cX2_save 4 none, Cond.fieldLink RX2 9 "DustVote$Moment" "dust" "[I", Cond.methodLink RX2 42 arraycopyName, Cond.native arraycopyName, Cond.static arraycopyName, Cond.initialized "java/lang/System", Cond.fieldLink RX2 15 "DustVote$Moment" "place" "[I", Cond.fieldLink RX2 22 "DustVote$Moment" "given" "Z", Cond.fieldLink RX2 26 "DustVote$Moment" "bent" "I", Cond.fieldLink RX2 30 "DustVote$Moment" "dawns" "I", Cond.methodLink RX5 136 yX2_step, Cond.instanceMethod yX2_step, Cond.selects RX2 yX2_step yX2_step, Cond.code yX2_step cX2_step 4 none, Cond.methodLink RX2 68 yX2_placeOf, Cond.instanceMethod yX2_placeOf, Cond.selects RX2 yX2_placeOf yX2_placeOf, Cond.code yX2_placeOf cX2_placeOf 2 (some .int), Cond.fieldLink RX2 33 "DustVote$Moment" "told" "LDustVote$Told;", Cond.methodLink RX2 55 yX4_hasBroom]
def wsX5_walk_r3 : List Cond := [Cond.methodLink RX2 77 yX2_leftOf, Cond.static yX2_leftOf, Cond.code yX2_leftOf cX2_leftOf 1 (some .int), Cond.methodLink RX2 80 yX2_rightOf, Cond.static yX2_rightOf, Cond.code yX2_rightOf cX2_rightOf 1 (some .int), Cond.methodLink RX2 83 yX2_goTo, Cond.instanceMethod yX2_goTo, Cond.selects RX2 yX2_goTo yX2_goTo, Cond.code yX2_goTo cX2_goTo 3 none, Cond.methodLink RX5 110 yX2_placeOf]
def wsX5_walk : List Cond := .code yX5_walk cX5_walk 3 (some .int) :: ((wsX5_walk_r1 ++ (wsX5_walk_r2 ++ wsX5_walk_r3)) ++ wsX50 ++ wsX40 ++ wsX00 ++ wsX20)
def wsX5_vote_r1 : List Cond := [Cond.fieldLink RX5 38 "DustVote" "acts" "LDustVote$ActRow;", Cond.fieldLink RX5 28 "DustVote" "now" "LDustVote$Moment;", Cond.methodLink RX5 125 yX0_push, Cond.instanceMethod yX0_push, Cond.selects RX0 yX0_push yX0_push, Cond.initialized RX0, Cond.code yX0_push cX0_push 2 none, Cond.fieldLink RX0 9 "DustVote$ActRow" "cells" "[I", Cond.fieldLink RX0 15 "DustVote$ActRow" "first" "I", Cond.fieldLink RX0 19 "DustVote$ActRow" "size" "I", Cond.methodLink RX0 22 yX0_spotOf, Cond.static yX0_spotOf, Cond.code yX0_spotOf cX0_spotOf 1 (some .int), Cond.methodLink RX0 26 yX2_save, Cond.instanceMethod yX2_save, Cond.selects RX2 yX2_save yX2_save, Cond.initialized RX2, Cond.code yX2_save cX2_save 4 none, Cond.fieldLink RX2 9 "DustVote$Moment" "dust" "[I", Cond.methodLink RX2 42 arraycopyName, Cond.native arraycopyName, Cond.static arraycopyName, Cond.initialized "java/lang/System", Cond.fieldLink RX2 15 "DustVote$Moment" "place" "[I"]
def wsX5_vote_r2 : List Cond := [Cond.fieldLink RX2 22 "DustVote$Moment" "given" "Z", Cond.fieldLink RX2 26 "DustVote$Moment" "bent" "I", Cond.fieldLink RX2 30 "DustVote$Moment" "dawns" "I", Cond.methodLink RX5 139 yX2_turnVote, Cond.instanceMethod yX2_turnVote, Cond.selects RX2 yX2_turnVote yX2_turnVote, Cond.code yX2_turnVote cX2_turnVote 1 none]
def wsX5_vote : List Cond := .code yX5_vote cX5_vote 1 (some .int) :: ((wsX5_vote_r1 ++ wsX5_vote_r2) ++ wsX50 ++ wsX20 ++ wsX00)
def wsJ6_bitCount_0f7a4 : List Cond := .code yJ6_bitCount_0f7a4 cJ6_bitCount_0f7a4 1 (some .int) :: ([.constant RJ6 265 (1431655765), .constant RJ6 266 (858993459), .constant RJ6 267 (252645135)])
def wsX5_bend_r1 : List Cond := [Cond.fieldLink RX5 19 "DustVote" "told" "LDustVote$Told;", Cond.fieldLink RX5 28 "DustVote" "now" "LDustVote$Moment;", Cond.fieldLink RX5 38 "DustVote" "acts" "LDustVote$ActRow;", Cond.methodLink RX5 107 yX4_hasBroom, Cond.instanceMethod yX4_hasBroom, Cond.selects RX4 yX4_hasBroom yX4_hasBroom, Cond.initialized RX4, Cond.code yX4_hasBroom cX4_hasBroom 2 (some .boolean), Cond.fieldLink RX4 30 "DustVote$Told" "brooms" "I", Cond.methodLink RX5 119 yX2_isBent, Cond.instanceMethod yX2_isBent, Cond.selects RX2 yX2_isBent yX2_isBent, Cond.initialized RX2, Cond.code yX2_isBent cX2_isBent 2 (some .boolean), Cond.fieldLink RX2 26 "DustVote$Moment" "bent" "I", Cond.methodLink RX5 125 yX0_push, Cond.instanceMethod yX0_push, Cond.selects RX0 yX0_push yX0_push, Cond.initialized RX0, Cond.code yX0_push cX0_push 2 none, Cond.fieldLink RX0 9 "DustVote$ActRow" "cells" "[I", Cond.fieldLink RX0 15 "DustVote$ActRow" "first" "I", Cond.fieldLink RX0 19 "DustVote$ActRow" "size" "I", Cond.methodLink RX0 22 yX0_spotOf]
def wsX5_bend_r2 : List Cond := [Cond.static yX0_spotOf, Cond.code yX0_spotOf cX0_spotOf 1 (some .int), Cond.methodLink RX0 26 yX2_save, Cond.instanceMethod yX2_save, Cond.selects RX2 yX2_save yX2_save, Cond.code yX2_save cX2_save 4 none, Cond.fieldLink RX2 9 "DustVote$Moment" "dust" "[I", Cond.methodLink RX2 42 arraycopyName, Cond.native arraycopyName, Cond.static arraycopyName, Cond.initialized "java/lang/System", Cond.fieldLink RX2 15 "DustVote$Moment" "place" "[I", Cond.fieldLink RX2 22 "DustVote$Moment" "given" "Z", Cond.fieldLink RX2 30 "DustVote$Moment" "dawns" "I", Cond.methodLink RX5 146 yX2_bow, Cond.instanceMethod yX2_bow, Cond.selects RX2 yX2_bow yX2_bow, Cond.code yX2_bow cX2_bow 2 none, Cond.methodLink RX5 152 yJ6_bitCount_0f7a4, Cond.static yJ6_bitCount_0f7a4, Cond.initialized RJ6, Cond.code yJ6_bitCount_0f7a4 cJ6_bitCount_0f7a4 1 (some .int), Cond.constant RJ6 265 (1431655765), Cond.constant RJ6 266 (858993459)]
def wsX5_bend_r3 : List Cond := [Cond.constant RJ6 267 (252645135)]
def wsX5_bend : List Cond := .code yX5_bend cX5_bend 2 (some .int) :: ((wsX5_bend_r1 ++ (wsX5_bend_r2 ++ wsX5_bend_r3)) ++ wsX50 ++ wsX20 ++ wsX40 ++ wsX00)
def wsX5_hand_r1 : List Cond := [Cond.fieldLink RX5 28 "DustVote" "now" "LDustVote$Moment;", Cond.fieldLink RX5 38 "DustVote" "acts" "LDustVote$ActRow;", Cond.methodLink RX5 93 yX5_isStreet, Cond.static yX5_isStreet, Cond.initialized RX5, Cond.code yX5_isStreet cX5_isStreet 1 (some .boolean), Cond.methodLink RX5 97 yX2_dustIn, Cond.instanceMethod yX2_dustIn, Cond.selects RX2 yX2_dustIn yX2_dustIn, Cond.initialized RX2, Cond.code yX2_dustIn cX2_dustIn 2 (some .int), Cond.fieldLink RX2 9 "DustVote$Moment" "dust" "[I", Cond.methodLink RX5 125 yX0_push, Cond.instanceMethod yX0_push, Cond.selects RX0 yX0_push yX0_push, Cond.initialized RX0, Cond.code yX0_push cX0_push 2 none, Cond.fieldLink RX0 9 "DustVote$ActRow" "cells" "[I", Cond.fieldLink RX0 15 "DustVote$ActRow" "first" "I", Cond.fieldLink RX0 19 "DustVote$ActRow" "size" "I", Cond.methodLink RX0 22 yX0_spotOf, Cond.static yX0_spotOf, Cond.code yX0_spotOf cX0_spotOf 1 (some .int), Cond.methodLink RX0 26 yX2_save]
def wsX5_hand_r2 : List Cond := [Cond.instanceMethod yX2_save, Cond.selects RX2 yX2_save yX2_save, Cond.code yX2_save cX2_save 4 none, Cond.methodLink RX2 42 arraycopyName, Cond.native arraycopyName, Cond.static arraycopyName, Cond.initialized "java/lang/System", Cond.fieldLink RX2 15 "DustVote$Moment" "place" "[I", Cond.fieldLink RX2 22 "DustVote$Moment" "given" "Z", Cond.fieldLink RX2 26 "DustVote$Moment" "bent" "I", Cond.fieldLink RX2 30 "DustVote$Moment" "dawns" "I", Cond.methodLink RX5 157 yX2_empty, Cond.instanceMethod yX2_empty, Cond.selects RX2 yX2_empty yX2_empty, Cond.code yX2_empty cX2_empty 2 none]
def wsX5_hand : List Cond := .code yX5_hand cX5_hand 3 (some .int) :: ((wsX5_hand_r1 ++ wsX5_hand_r2) ++ wsX50 ++ wsX20 ++ wsX00)
def wsX5_undo_r1 : List Cond := [Cond.fieldLink RX5 38 "DustVote" "acts" "LDustVote$ActRow;", Cond.fieldLink RX5 28 "DustVote" "now" "LDustVote$Moment;", Cond.methodLink RX5 163 yX0_pop, Cond.instanceMethod yX0_pop, Cond.selects RX0 yX0_pop yX0_pop, Cond.initialized RX0, Cond.code yX0_pop cX0_pop 2 none, Cond.fieldLink RX0 19 "DustVote$ActRow" "size" "I", Cond.fieldLink RX0 9 "DustVote$ActRow" "cells" "[I", Cond.fieldLink RX0 15 "DustVote$ActRow" "first" "I", Cond.methodLink RX0 22 yX0_spotOf, Cond.static yX0_spotOf, Cond.code yX0_spotOf cX0_spotOf 1 (some .int), Cond.methodLink RX0 32 yX2_load, Cond.instanceMethod yX2_load, Cond.selects RX2 yX2_load yX2_load, Cond.initialized RX2, Cond.code yX2_load cX2_load 4 none, Cond.fieldLink RX2 9 "DustVote$Moment" "dust" "[I", Cond.methodLink RX2 42 arraycopyName, Cond.native arraycopyName, Cond.static arraycopyName, Cond.initialized "java/lang/System", Cond.fieldLink RX2 15 "DustVote$Moment" "place" "[I"]
def wsX5_undo_r2 : List Cond := [Cond.fieldLink RX2 22 "DustVote$Moment" "given" "Z", Cond.fieldLink RX2 26 "DustVote$Moment" "bent" "I", Cond.fieldLink RX2 30 "DustVote$Moment" "dawns" "I"]
def wsX5_undo : List Cond := .code yX5_undo cX5_undo 1 (some .int) :: ((wsX5_undo_r1 ++ wsX5_undo_r2) ++ wsX50 ++ wsX00 ++ wsX20)
def wsX5_fromNow : List Cond := .code yX5_fromNow cX5_fromNow 1 (some (.object "DustVote$Moment")) :: ([.fieldLink RX5 32 "DustVote" "trial" "LDustVote$Moment;", .fieldLink RX5 28 "DustVote" "now" "LDustVote$Moment;", .methodLink RX5 247 yX2_copy, .instanceMethod yX2_copy, .selects RX2 yX2_copy yX2_copy, .initialized RX2, .code yX2_copy cX2_copy 2 none, .fieldLink RX2 9 "DustVote$Moment" "dust" "[I", .methodLink RX2 42 arraycopyName, .native arraycopyName, .static arraycopyName, .initialized "java/lang/System", .fieldLink RX2 15 "DustVote$Moment" "place" "[I", .fieldLink RX2 22 "DustVote$Moment" "given" "Z", .fieldLink RX2 26 "DustVote$Moment" "bent" "I", .fieldLink RX2 30 "DustVote$Moment" "dawns" "I"] ++ wsX50 ++ wsX20)
def wsX5_behind_r1 : List Cond := [Cond.methodLink RX5 173 yX5_fromNow, Cond.instanceMethod yX5_fromNow, Cond.selects RX5 yX5_fromNow yX5_fromNow, Cond.initialized RX5, Cond.code yX5_fromNow cX5_fromNow 1 (some (.object "DustVote$Moment")), Cond.fieldLink RX5 32 "DustVote" "trial" "LDustVote$Moment;", Cond.fieldLink RX5 28 "DustVote" "now" "LDustVote$Moment;", Cond.methodLink RX5 247 yX2_copy, Cond.instanceMethod yX2_copy, Cond.selects RX2 yX2_copy yX2_copy, Cond.initialized RX2, Cond.code yX2_copy cX2_copy 2 none, Cond.fieldLink RX2 9 "DustVote$Moment" "dust" "[I", Cond.methodLink RX2 42 arraycopyName, Cond.native arraycopyName, Cond.static arraycopyName, Cond.initialized "java/lang/System", Cond.fieldLink RX2 15 "DustVote$Moment" "place" "[I", Cond.fieldLink RX2 22 "DustVote$Moment" "given" "Z", Cond.fieldLink RX2 26 "DustVote$Moment" "bent" "I", Cond.fieldLink RX2 30 "DustVote$Moment" "dawns" "I", Cond.methodLink RX5 129 yX2_passDawn, Cond.instanceMethod yX2_passDawn, Cond.selects RX2 yX2_passDawn yX2_passDawn]
def wsX5_behind_r2 : List Cond := [Cond.code yX2_passDawn cX2_passDawn 4 none, Cond.fieldLink RX2 33 "DustVote$Moment" "told" "LDustVote$Told;", Cond.methodLink RX2 87 yX2_comeDown, Cond.instanceMethod yX2_comeDown, Cond.selects RX2 yX2_comeDown yX2_comeDown, Cond.code yX2_comeDown cX2_comeDown 4 none, Cond.methodLink RX2 106 yX2_pour, Cond.instanceMethod yX2_pour, Cond.selects RX2 yX2_pour yX2_pour, Cond.code yX2_pour cX2_pour 3 none, Cond.methodLink RX2 119 Lib.Math.min.name, Cond.static Lib.Math.min.name, Cond.initialized "java/lang/Math", Cond.code Lib.Math.min.name Lib.Math.min.code 2 (some .int), Cond.static yX5_isStreet, Cond.code yX5_isStreet cX5_isStreet 1 (some .boolean), Cond.methodLink RX2 91 yX2_work, Cond.instanceMethod yX2_work, Cond.selects RX2 yX2_work yX2_work, Cond.code yX2_work cX2_work 4 none, Cond.methodLink RX2 68 yX2_placeOf, Cond.instanceMethod yX2_placeOf, Cond.selects RX2 yX2_placeOf yX2_placeOf, Cond.code yX2_placeOf cX2_placeOf 2 (some .int)]
def wsX5_behind_r3 : List Cond := [Cond.methodLink RX2 55 yX4_hasBroom, Cond.instanceMethod yX4_hasBroom, Cond.selects RX4 yX4_hasBroom yX4_hasBroom, Cond.initialized RX4, Cond.code yX4_hasBroom cX4_hasBroom 2 (some .boolean), Cond.fieldLink RX4 30 "DustVote$Told" "brooms" "I", Cond.methodLink RX2 109 yX4_strengthOf, Cond.instanceMethod yX4_strengthOf, Cond.selects RX4 yX4_strengthOf yX4_strengthOf, Cond.code yX4_strengthOf cX4_strengthOf 2 (some .int), Cond.fieldLink RX4 18 "DustVote$Told" "strength" "[I", Cond.methodLink RX2 112 yX2_worksAs, Cond.instanceMethod yX2_worksAs, Cond.selects RX2 yX2_worksAs yX2_worksAs, Cond.code yX2_worksAs cX2_worksAs 3 (some .int), Cond.methodLink RX2 71 yX4_kindOf, Cond.instanceMethod yX4_kindOf, Cond.selects RX4 yX4_kindOf yX4_kindOf, Cond.code yX4_kindOf cX4_kindOf 2 (some .int), Cond.fieldLink RX4 21 "DustVote$Told" "kind" "[I", Cond.methodLink RX2 74 yX2_isBent, Cond.instanceMethod yX2_isBent, Cond.selects RX2 yX2_isBent yX2_isBent, Cond.code yX2_isBent cX2_isBent 2 (some .boolean)]
def wsX5_behind_r4 : List Cond := [Cond.methodLink RX2 115 yX2_sweep, Cond.instanceMethod yX2_sweep, Cond.selects RX2 yX2_sweep yX2_sweep, Cond.code yX2_sweep cX2_sweep 4 (some .int), Cond.methodLink RX2 80 yX2_rightOf, Cond.static yX2_rightOf, Cond.code yX2_rightOf cX2_rightOf 1 (some .int), Cond.methodLink RX2 77 yX2_leftOf, Cond.static yX2_leftOf, Cond.code yX2_leftOf cX2_leftOf 1 (some .int), Cond.methodLink RX2 94 yX2_spread, Cond.instanceMethod yX2_spread, Cond.selects RX2 yX2_spread yX2_spread, Cond.code yX2_spread cX2_spread 2 none, Cond.fieldLink RX2 18 "DustVote$Moment" "deep" "[Z"]
def wsX5_behind : List Cond := .code yX5_behind cX5_behind 5 (some (.object "DustVote$Moment")) :: ((wsX5_behind_r1 ++ (wsX5_behind_r2 ++ (wsX5_behind_r3 ++ wsX5_behind_r4))) ++ wsX50 ++ wsX20 ++ wsX40)
def wsX5_dust_r1 : List Cond := [Cond.methodLink RX5 93 yX5_isStreet, Cond.static yX5_isStreet, Cond.initialized RX5, Cond.code yX5_isStreet cX5_isStreet 1 (some .boolean), Cond.methodLink RX5 61 yX5_within, Cond.static yX5_within, Cond.code yX5_within cX5_within 3 (some .boolean), Cond.methodLink RX5 166 yX5_behind, Cond.instanceMethod yX5_behind, Cond.selects RX5 yX5_behind yX5_behind, Cond.code yX5_behind cX5_behind 5 (some (.object "DustVote$Moment")), Cond.methodLink RX5 173 yX5_fromNow, Cond.instanceMethod yX5_fromNow, Cond.selects RX5 yX5_fromNow yX5_fromNow, Cond.code yX5_fromNow cX5_fromNow 1 (some (.object "DustVote$Moment")), Cond.fieldLink RX5 32 "DustVote" "trial" "LDustVote$Moment;", Cond.fieldLink RX5 28 "DustVote" "now" "LDustVote$Moment;", Cond.methodLink RX5 247 yX2_copy, Cond.instanceMethod yX2_copy, Cond.selects RX2 yX2_copy yX2_copy, Cond.initialized RX2, Cond.code yX2_copy cX2_copy 2 none, Cond.fieldLink RX2 9 "DustVote$Moment" "dust" "[I", Cond.methodLink RX2 42 arraycopyName]
def wsX5_dust_r2 : List Cond := [Cond.native arraycopyName, Cond.static arraycopyName, Cond.initialized "java/lang/System", Cond.fieldLink RX2 15 "DustVote$Moment" "place" "[I", Cond.fieldLink RX2 22 "DustVote$Moment" "given" "Z", Cond.fieldLink RX2 26 "DustVote$Moment" "bent" "I", Cond.fieldLink RX2 30 "DustVote$Moment" "dawns" "I", Cond.methodLink RX5 129 yX2_passDawn, Cond.instanceMethod yX2_passDawn, Cond.selects RX2 yX2_passDawn yX2_passDawn, Cond.code yX2_passDawn cX2_passDawn 4 none, Cond.fieldLink RX2 33 "DustVote$Moment" "told" "LDustVote$Told;", Cond.methodLink RX2 87 yX2_comeDown, Cond.instanceMethod yX2_comeDown, Cond.selects RX2 yX2_comeDown yX2_comeDown, Cond.code yX2_comeDown cX2_comeDown 4 none, Cond.methodLink RX2 106 yX2_pour, Cond.instanceMethod yX2_pour, Cond.selects RX2 yX2_pour yX2_pour, Cond.code yX2_pour cX2_pour 3 none, Cond.methodLink RX2 119 Lib.Math.min.name, Cond.static Lib.Math.min.name, Cond.initialized "java/lang/Math", Cond.code Lib.Math.min.name Lib.Math.min.code 2 (some .int)]
def wsX5_dust_r3 : List Cond := [Cond.methodLink RX2 91 yX2_work, Cond.instanceMethod yX2_work, Cond.selects RX2 yX2_work yX2_work, Cond.code yX2_work cX2_work 4 none, Cond.methodLink RX2 68 yX2_placeOf, Cond.instanceMethod yX2_placeOf, Cond.selects RX2 yX2_placeOf yX2_placeOf, Cond.code yX2_placeOf cX2_placeOf 2 (some .int), Cond.methodLink RX2 55 yX4_hasBroom, Cond.instanceMethod yX4_hasBroom, Cond.selects RX4 yX4_hasBroom yX4_hasBroom, Cond.initialized RX4, Cond.code yX4_hasBroom cX4_hasBroom 2 (some .boolean), Cond.fieldLink RX4 30 "DustVote$Told" "brooms" "I", Cond.methodLink RX2 109 yX4_strengthOf, Cond.instanceMethod yX4_strengthOf, Cond.selects RX4 yX4_strengthOf yX4_strengthOf, Cond.code yX4_strengthOf cX4_strengthOf 2 (some .int), Cond.fieldLink RX4 18 "DustVote$Told" "strength" "[I", Cond.methodLink RX2 112 yX2_worksAs, Cond.instanceMethod yX2_worksAs, Cond.selects RX2 yX2_worksAs yX2_worksAs, Cond.code yX2_worksAs cX2_worksAs 3 (some .int), Cond.methodLink RX2 71 yX4_kindOf]
def wsX5_dust_r4 : List Cond := [Cond.instanceMethod yX4_kindOf, Cond.selects RX4 yX4_kindOf yX4_kindOf, Cond.code yX4_kindOf cX4_kindOf 2 (some .int), Cond.fieldLink RX4 21 "DustVote$Told" "kind" "[I", Cond.methodLink RX2 74 yX2_isBent, Cond.instanceMethod yX2_isBent, Cond.selects RX2 yX2_isBent yX2_isBent, Cond.code yX2_isBent cX2_isBent 2 (some .boolean), Cond.methodLink RX2 115 yX2_sweep, Cond.instanceMethod yX2_sweep, Cond.selects RX2 yX2_sweep yX2_sweep, Cond.code yX2_sweep cX2_sweep 4 (some .int), Cond.methodLink RX2 80 yX2_rightOf, Cond.static yX2_rightOf, Cond.code yX2_rightOf cX2_rightOf 1 (some .int), Cond.methodLink RX2 77 yX2_leftOf, Cond.static yX2_leftOf, Cond.code yX2_leftOf cX2_leftOf 1 (some .int), Cond.methodLink RX2 94 yX2_spread, Cond.instanceMethod yX2_spread, Cond.selects RX2 yX2_spread yX2_spread, Cond.code yX2_spread cX2_spread 2 none, Cond.fieldLink RX2 18 "DustVote$Moment" "deep" "[Z", Cond.methodLink RX5 97 yX2_dustIn]
def wsX5_dust_r5 : List Cond := [Cond.instanceMethod yX2_dustIn, Cond.selects RX2 yX2_dustIn yX2_dustIn, Cond.code yX2_dustIn cX2_dustIn 2 (some .int)]
def wsX5_dust : List Cond := .code yX5_dust cX5_dust 3 (some .int) :: ((wsX5_dust_r1 ++ (wsX5_dust_r2 ++ (wsX5_dust_r3 ++ (wsX5_dust_r4 ++ wsX5_dust_r5)))) ++ wsX50 ++ wsX20 ++ wsX40)
def wsX5_knees_r1 : List Cond := [Cond.methodLink RX5 61 yX5_within, Cond.static yX5_within, Cond.initialized RX5, Cond.code yX5_within cX5_within 3 (some .boolean), Cond.methodLink RX5 166 yX5_behind, Cond.instanceMethod yX5_behind, Cond.selects RX5 yX5_behind yX5_behind, Cond.code yX5_behind cX5_behind 5 (some (.object "DustVote$Moment")), Cond.methodLink RX5 173 yX5_fromNow, Cond.instanceMethod yX5_fromNow, Cond.selects RX5 yX5_fromNow yX5_fromNow, Cond.code yX5_fromNow cX5_fromNow 1 (some (.object "DustVote$Moment")), Cond.fieldLink RX5 32 "DustVote" "trial" "LDustVote$Moment;", Cond.fieldLink RX5 28 "DustVote" "now" "LDustVote$Moment;", Cond.methodLink RX5 247 yX2_copy, Cond.instanceMethod yX2_copy, Cond.selects RX2 yX2_copy yX2_copy, Cond.initialized RX2, Cond.code yX2_copy cX2_copy 2 none, Cond.fieldLink RX2 9 "DustVote$Moment" "dust" "[I", Cond.methodLink RX2 42 arraycopyName, Cond.native arraycopyName, Cond.static arraycopyName, Cond.initialized "java/lang/System"]
def wsX5_knees_r2 : List Cond := [Cond.fieldLink RX2 15 "DustVote$Moment" "place" "[I", Cond.fieldLink RX2 22 "DustVote$Moment" "given" "Z", Cond.fieldLink RX2 26 "DustVote$Moment" "bent" "I", Cond.fieldLink RX2 30 "DustVote$Moment" "dawns" "I", Cond.methodLink RX5 129 yX2_passDawn, Cond.instanceMethod yX2_passDawn, Cond.selects RX2 yX2_passDawn yX2_passDawn, Cond.code yX2_passDawn cX2_passDawn 4 none, Cond.fieldLink RX2 33 "DustVote$Moment" "told" "LDustVote$Told;", Cond.methodLink RX2 87 yX2_comeDown, Cond.instanceMethod yX2_comeDown, Cond.selects RX2 yX2_comeDown yX2_comeDown, Cond.code yX2_comeDown cX2_comeDown 4 none, Cond.methodLink RX2 106 yX2_pour, Cond.instanceMethod yX2_pour, Cond.selects RX2 yX2_pour yX2_pour, Cond.code yX2_pour cX2_pour 3 none, Cond.methodLink RX2 119 Lib.Math.min.name, Cond.static Lib.Math.min.name, Cond.initialized "java/lang/Math", Cond.code Lib.Math.min.name Lib.Math.min.code 2 (some .int), Cond.static yX5_isStreet, Cond.code yX5_isStreet cX5_isStreet 1 (some .boolean), Cond.methodLink RX2 91 yX2_work]
def wsX5_knees_r3 : List Cond := [Cond.instanceMethod yX2_work, Cond.selects RX2 yX2_work yX2_work, Cond.code yX2_work cX2_work 4 none, Cond.methodLink RX2 68 yX2_placeOf, Cond.instanceMethod yX2_placeOf, Cond.selects RX2 yX2_placeOf yX2_placeOf, Cond.code yX2_placeOf cX2_placeOf 2 (some .int), Cond.methodLink RX2 55 yX4_hasBroom, Cond.instanceMethod yX4_hasBroom, Cond.selects RX4 yX4_hasBroom yX4_hasBroom, Cond.initialized RX4, Cond.code yX4_hasBroom cX4_hasBroom 2 (some .boolean), Cond.fieldLink RX4 30 "DustVote$Told" "brooms" "I", Cond.methodLink RX2 109 yX4_strengthOf, Cond.instanceMethod yX4_strengthOf, Cond.selects RX4 yX4_strengthOf yX4_strengthOf, Cond.code yX4_strengthOf cX4_strengthOf 2 (some .int), Cond.fieldLink RX4 18 "DustVote$Told" "strength" "[I", Cond.methodLink RX2 112 yX2_worksAs, Cond.instanceMethod yX2_worksAs, Cond.selects RX2 yX2_worksAs yX2_worksAs, Cond.code yX2_worksAs cX2_worksAs 3 (some .int), Cond.methodLink RX2 71 yX4_kindOf, Cond.instanceMethod yX4_kindOf]
def wsX5_knees_r4 : List Cond := [Cond.selects RX4 yX4_kindOf yX4_kindOf, Cond.code yX4_kindOf cX4_kindOf 2 (some .int), Cond.fieldLink RX4 21 "DustVote$Told" "kind" "[I", Cond.methodLink RX2 74 yX2_isBent, Cond.instanceMethod yX2_isBent, Cond.selects RX2 yX2_isBent yX2_isBent, Cond.code yX2_isBent cX2_isBent 2 (some .boolean), Cond.methodLink RX2 115 yX2_sweep, Cond.instanceMethod yX2_sweep, Cond.selects RX2 yX2_sweep yX2_sweep, Cond.code yX2_sweep cX2_sweep 4 (some .int), Cond.methodLink RX2 80 yX2_rightOf, Cond.static yX2_rightOf, Cond.code yX2_rightOf cX2_rightOf 1 (some .int), Cond.methodLink RX2 77 yX2_leftOf, Cond.static yX2_leftOf, Cond.code yX2_leftOf cX2_leftOf 1 (some .int), Cond.methodLink RX2 94 yX2_spread, Cond.instanceMethod yX2_spread, Cond.selects RX2 yX2_spread yX2_spread, Cond.code yX2_spread cX2_spread 2 none, Cond.fieldLink RX2 18 "DustVote$Moment" "deep" "[Z", Cond.methodLink RX5 170 yX2_deepStreets, Cond.instanceMethod yX2_deepStreets]
def wsX5_knees_r5 : List Cond := [Cond.selects RX2 yX2_deepStreets yX2_deepStreets, Cond.code yX2_deepStreets cX2_deepStreets 3 (some .int), Cond.methodLink RX2 62 yX2_isDeep, Cond.instanceMethod yX2_isDeep, Cond.selects RX2 yX2_isDeep yX2_isDeep, Cond.code yX2_isDeep cX2_isDeep 2 (some .boolean), Cond.methodLink RX2 58 yX2_dustIn, Cond.instanceMethod yX2_dustIn, Cond.selects RX2 yX2_dustIn yX2_dustIn, Cond.code yX2_dustIn cX2_dustIn 2 (some .int)]
def wsX5_knees : List Cond := .code yX5_knees cX5_knees 2 (some .int) :: ((wsX5_knees_r1 ++ (wsX5_knees_r2 ++ (wsX5_knees_r3 ++ (wsX5_knees_r4 ++ wsX5_knees_r5)))) ++ wsX50 ++ wsX20 ++ wsX40)
def wsX5_knee_r1 : List Cond := [Cond.methodLink RX5 61 yX5_within, Cond.static yX5_within, Cond.initialized RX5, Cond.code yX5_within cX5_within 3 (some .boolean), Cond.methodLink RX5 173 yX5_fromNow, Cond.instanceMethod yX5_fromNow, Cond.selects RX5 yX5_fromNow yX5_fromNow, Cond.code yX5_fromNow cX5_fromNow 1 (some (.object "DustVote$Moment")), Cond.fieldLink RX5 32 "DustVote" "trial" "LDustVote$Moment;", Cond.fieldLink RX5 28 "DustVote" "now" "LDustVote$Moment;", Cond.methodLink RX5 247 yX2_copy, Cond.instanceMethod yX2_copy, Cond.selects RX2 yX2_copy yX2_copy, Cond.initialized RX2, Cond.code yX2_copy cX2_copy 2 none, Cond.fieldLink RX2 9 "DustVote$Moment" "dust" "[I", Cond.methodLink RX2 42 arraycopyName, Cond.native arraycopyName, Cond.static arraycopyName, Cond.initialized "java/lang/System", Cond.fieldLink RX2 15 "DustVote$Moment" "place" "[I", Cond.fieldLink RX2 22 "DustVote$Moment" "given" "Z", Cond.fieldLink RX2 26 "DustVote$Moment" "bent" "I", Cond.fieldLink RX2 30 "DustVote$Moment" "dawns" "I"]
def wsX5_knee_r2 : List Cond := [Cond.methodLink RX5 177 yX2_firstDeep, Cond.instanceMethod yX2_firstDeep, Cond.selects RX2 yX2_firstDeep yX2_firstDeep, Cond.code yX2_firstDeep cX2_firstDeep 2 (some .int), Cond.methodLink RX2 62 yX2_isDeep, Cond.instanceMethod yX2_isDeep, Cond.selects RX2 yX2_isDeep yX2_isDeep, Cond.code yX2_isDeep cX2_isDeep 2 (some .boolean), Cond.methodLink RX2 58 yX2_dustIn, Cond.instanceMethod yX2_dustIn, Cond.selects RX2 yX2_dustIn yX2_dustIn, Cond.code yX2_dustIn cX2_dustIn 2 (some .int), Cond.static yX5_isStreet, Cond.code yX5_isStreet cX5_isStreet 1 (some .boolean), Cond.methodLink RX5 129 yX2_passDawn, Cond.instanceMethod yX2_passDawn, Cond.selects RX2 yX2_passDawn yX2_passDawn, Cond.code yX2_passDawn cX2_passDawn 4 none, Cond.fieldLink RX2 33 "DustVote$Moment" "told" "LDustVote$Told;", Cond.methodLink RX2 87 yX2_comeDown, Cond.instanceMethod yX2_comeDown, Cond.selects RX2 yX2_comeDown yX2_comeDown, Cond.code yX2_comeDown cX2_comeDown 4 none, Cond.methodLink RX2 106 yX2_pour]
def wsX5_knee_r3 : List Cond := [Cond.instanceMethod yX2_pour, Cond.selects RX2 yX2_pour yX2_pour, Cond.code yX2_pour cX2_pour 3 none, Cond.methodLink RX2 119 Lib.Math.min.name, Cond.static Lib.Math.min.name, Cond.initialized "java/lang/Math", Cond.code Lib.Math.min.name Lib.Math.min.code 2 (some .int), Cond.methodLink RX2 91 yX2_work, Cond.instanceMethod yX2_work, Cond.selects RX2 yX2_work yX2_work, Cond.code yX2_work cX2_work 4 none, Cond.methodLink RX2 68 yX2_placeOf, Cond.instanceMethod yX2_placeOf, Cond.selects RX2 yX2_placeOf yX2_placeOf, Cond.code yX2_placeOf cX2_placeOf 2 (some .int), Cond.methodLink RX2 55 yX4_hasBroom, Cond.instanceMethod yX4_hasBroom, Cond.selects RX4 yX4_hasBroom yX4_hasBroom, Cond.initialized RX4, Cond.code yX4_hasBroom cX4_hasBroom 2 (some .boolean), Cond.fieldLink RX4 30 "DustVote$Told" "brooms" "I", Cond.methodLink RX2 109 yX4_strengthOf, Cond.instanceMethod yX4_strengthOf, Cond.selects RX4 yX4_strengthOf yX4_strengthOf]
def wsX5_knee_r4 : List Cond := [Cond.code yX4_strengthOf cX4_strengthOf 2 (some .int), Cond.fieldLink RX4 18 "DustVote$Told" "strength" "[I", Cond.methodLink RX2 112 yX2_worksAs, Cond.instanceMethod yX2_worksAs, Cond.selects RX2 yX2_worksAs yX2_worksAs, Cond.code yX2_worksAs cX2_worksAs 3 (some .int), Cond.methodLink RX2 71 yX4_kindOf, Cond.instanceMethod yX4_kindOf, Cond.selects RX4 yX4_kindOf yX4_kindOf, Cond.code yX4_kindOf cX4_kindOf 2 (some .int), Cond.fieldLink RX4 21 "DustVote$Told" "kind" "[I", Cond.methodLink RX2 74 yX2_isBent, Cond.instanceMethod yX2_isBent, Cond.selects RX2 yX2_isBent yX2_isBent, Cond.code yX2_isBent cX2_isBent 2 (some .boolean), Cond.methodLink RX2 115 yX2_sweep, Cond.instanceMethod yX2_sweep, Cond.selects RX2 yX2_sweep yX2_sweep, Cond.code yX2_sweep cX2_sweep 4 (some .int), Cond.methodLink RX2 80 yX2_rightOf, Cond.static yX2_rightOf, Cond.code yX2_rightOf cX2_rightOf 1 (some .int), Cond.methodLink RX2 77 yX2_leftOf, Cond.static yX2_leftOf]
def wsX5_knee_r5 : List Cond := [Cond.code yX2_leftOf cX2_leftOf 1 (some .int), Cond.methodLink RX2 94 yX2_spread, Cond.instanceMethod yX2_spread, Cond.selects RX2 yX2_spread yX2_spread, Cond.code yX2_spread cX2_spread 2 none, Cond.fieldLink RX2 18 "DustVote$Moment" "deep" "[Z"]
def wsX5_knee : List Cond := .code yX5_knee cX5_knee 5 (some .int) :: ((wsX5_knee_r1 ++ (wsX5_knee_r2 ++ (wsX5_knee_r3 ++ (wsX5_knee_r4 ++ wsX5_knee_r5)))) ++ wsX50 ++ wsX20 ++ wsX40)
def wsX5_best_r1 : List Cond := [Cond.fieldLink RX5 19 "DustVote" "told" "LDustVote$Told;", Cond.methodLink RX5 107 yX4_hasBroom, Cond.instanceMethod yX4_hasBroom, Cond.selects RX4 yX4_hasBroom yX4_hasBroom, Cond.initialized RX4, Cond.code yX4_hasBroom cX4_hasBroom 2 (some .boolean), Cond.fieldLink RX4 30 "DustVote$Told" "brooms" "I", Cond.methodLink RX5 61 yX5_within, Cond.static yX5_within, Cond.initialized RX5, Cond.code yX5_within cX5_within 3 (some .boolean), Cond.methodLink RX5 173 yX5_fromNow, Cond.instanceMethod yX5_fromNow, Cond.selects RX5 yX5_fromNow yX5_fromNow, Cond.code yX5_fromNow cX5_fromNow 1 (some (.object "DustVote$Moment")), Cond.fieldLink RX5 32 "DustVote" "trial" "LDustVote$Moment;", Cond.fieldLink RX5 28 "DustVote" "now" "LDustVote$Moment;", Cond.methodLink RX5 247 yX2_copy, Cond.instanceMethod yX2_copy, Cond.selects RX2 yX2_copy yX2_copy, Cond.initialized RX2, Cond.code yX2_copy cX2_copy 2 none, Cond.fieldLink RX2 9 "DustVote$Moment" "dust" "[I", Cond.methodLink RX2 42 arraycopyName]
def wsX5_best_r2 : List Cond := [Cond.native arraycopyName, Cond.static arraycopyName, Cond.initialized "java/lang/System", Cond.fieldLink RX2 15 "DustVote$Moment" "place" "[I", Cond.fieldLink RX2 22 "DustVote$Moment" "given" "Z", Cond.fieldLink RX2 26 "DustVote$Moment" "bent" "I", Cond.fieldLink RX2 30 "DustVote$Moment" "dawns" "I", Cond.methodLink RX5 180 yX2_goTo, Cond.instanceMethod yX2_goTo, Cond.selects RX2 yX2_goTo yX2_goTo, Cond.code yX2_goTo cX2_goTo 3 none, Cond.fieldLink RX2 33 "DustVote$Moment" "told" "LDustVote$Told;", Cond.methodLink RX2 55 yX4_hasBroom, Cond.methodLink RX5 129 yX2_passDawn, Cond.instanceMethod yX2_passDawn, Cond.selects RX2 yX2_passDawn yX2_passDawn, Cond.code yX2_passDawn cX2_passDawn 4 none, Cond.methodLink RX2 87 yX2_comeDown, Cond.instanceMethod yX2_comeDown, Cond.selects RX2 yX2_comeDown yX2_comeDown, Cond.code yX2_comeDown cX2_comeDown 4 none, Cond.methodLink RX2 106 yX2_pour, Cond.instanceMethod yX2_pour, Cond.selects RX2 yX2_pour yX2_pour]
def wsX5_best_r3 : List Cond := [Cond.code yX2_pour cX2_pour 3 none, Cond.methodLink RX2 119 Lib.Math.min.name, Cond.static Lib.Math.min.name, Cond.initialized "java/lang/Math", Cond.code Lib.Math.min.name Lib.Math.min.code 2 (some .int), Cond.static yX5_isStreet, Cond.code yX5_isStreet cX5_isStreet 1 (some .boolean), Cond.methodLink RX2 91 yX2_work, Cond.instanceMethod yX2_work, Cond.selects RX2 yX2_work yX2_work, Cond.code yX2_work cX2_work 4 none, Cond.methodLink RX2 68 yX2_placeOf, Cond.instanceMethod yX2_placeOf, Cond.selects RX2 yX2_placeOf yX2_placeOf, Cond.code yX2_placeOf cX2_placeOf 2 (some .int), Cond.methodLink RX2 109 yX4_strengthOf, Cond.instanceMethod yX4_strengthOf, Cond.selects RX4 yX4_strengthOf yX4_strengthOf, Cond.code yX4_strengthOf cX4_strengthOf 2 (some .int), Cond.fieldLink RX4 18 "DustVote$Told" "strength" "[I", Cond.methodLink RX2 112 yX2_worksAs, Cond.instanceMethod yX2_worksAs, Cond.selects RX2 yX2_worksAs yX2_worksAs, Cond.code yX2_worksAs cX2_worksAs 3 (some .int)]
def wsX5_best_r4 : List Cond := [Cond.methodLink RX2 71 yX4_kindOf, Cond.instanceMethod yX4_kindOf, Cond.selects RX4 yX4_kindOf yX4_kindOf, Cond.code yX4_kindOf cX4_kindOf 2 (some .int), Cond.fieldLink RX4 21 "DustVote$Told" "kind" "[I", Cond.methodLink RX2 74 yX2_isBent, Cond.instanceMethod yX2_isBent, Cond.selects RX2 yX2_isBent yX2_isBent, Cond.code yX2_isBent cX2_isBent 2 (some .boolean), Cond.methodLink RX2 115 yX2_sweep, Cond.instanceMethod yX2_sweep, Cond.selects RX2 yX2_sweep yX2_sweep, Cond.code yX2_sweep cX2_sweep 4 (some .int), Cond.methodLink RX2 80 yX2_rightOf, Cond.static yX2_rightOf, Cond.code yX2_rightOf cX2_rightOf 1 (some .int), Cond.methodLink RX2 77 yX2_leftOf, Cond.static yX2_leftOf, Cond.code yX2_leftOf cX2_leftOf 1 (some .int), Cond.methodLink RX2 94 yX2_spread, Cond.instanceMethod yX2_spread, Cond.selects RX2 yX2_spread yX2_spread, Cond.code yX2_spread cX2_spread 2 none, Cond.fieldLink RX2 18 "DustVote$Moment" "deep" "[Z"]
def wsX5_best_r5 : List Cond := [Cond.methodLink RX5 133 yX2_allDust, Cond.instanceMethod yX2_allDust, Cond.selects RX2 yX2_allDust yX2_allDust, Cond.code yX2_allDust cX2_allDust 3 (some .int)]
def wsX5_best : List Cond := .code yX5_best cX5_best 9 (some .int) :: ((wsX5_best_r1 ++ (wsX5_best_r2 ++ (wsX5_best_r3 ++ (wsX5_best_r4 ++ wsX5_best_r5)))) ++ wsX50 ++ wsX40 ++ wsX20)
def wsX5_staysShallow_r1 : List Cond := [Cond.methodLink RX5 173 yX5_fromNow, Cond.instanceMethod yX5_fromNow, Cond.selects RX5 yX5_fromNow yX5_fromNow, Cond.initialized RX5, Cond.code yX5_fromNow cX5_fromNow 1 (some (.object "DustVote$Moment")), Cond.fieldLink RX5 32 "DustVote" "trial" "LDustVote$Moment;", Cond.fieldLink RX5 28 "DustVote" "now" "LDustVote$Moment;", Cond.methodLink RX5 247 yX2_copy, Cond.instanceMethod yX2_copy, Cond.selects RX2 yX2_copy yX2_copy, Cond.initialized RX2, Cond.code yX2_copy cX2_copy 2 none, Cond.fieldLink RX2 9 "DustVote$Moment" "dust" "[I", Cond.methodLink RX2 42 arraycopyName, Cond.native arraycopyName, Cond.static arraycopyName, Cond.initialized "java/lang/System", Cond.fieldLink RX2 15 "DustVote$Moment" "place" "[I", Cond.fieldLink RX2 22 "DustVote$Moment" "given" "Z", Cond.fieldLink RX2 26 "DustVote$Moment" "bent" "I", Cond.fieldLink RX2 30 "DustVote$Moment" "dawns" "I", Cond.methodLink RX5 146 yX2_bow, Cond.instanceMethod yX2_bow, Cond.selects RX2 yX2_bow yX2_bow]
def wsX5_staysShallow_r2 : List Cond := [Cond.code yX2_bow cX2_bow 2 none, Cond.methodLink RX5 129 yX2_passDawn, Cond.instanceMethod yX2_passDawn, Cond.selects RX2 yX2_passDawn yX2_passDawn, Cond.code yX2_passDawn cX2_passDawn 4 none, Cond.fieldLink RX2 33 "DustVote$Moment" "told" "LDustVote$Told;", Cond.methodLink RX2 87 yX2_comeDown, Cond.instanceMethod yX2_comeDown, Cond.selects RX2 yX2_comeDown yX2_comeDown, Cond.code yX2_comeDown cX2_comeDown 4 none, Cond.methodLink RX2 106 yX2_pour, Cond.instanceMethod yX2_pour, Cond.selects RX2 yX2_pour yX2_pour, Cond.code yX2_pour cX2_pour 3 none, Cond.methodLink RX2 119 Lib.Math.min.name, Cond.static Lib.Math.min.name, Cond.initialized "java/lang/Math", Cond.code Lib.Math.min.name Lib.Math.min.code 2 (some .int), Cond.static yX5_isStreet, Cond.code yX5_isStreet cX5_isStreet 1 (some .boolean), Cond.methodLink RX2 91 yX2_work, Cond.instanceMethod yX2_work, Cond.selects RX2 yX2_work yX2_work, Cond.code yX2_work cX2_work 4 none]
def wsX5_staysShallow_r3 : List Cond := [Cond.methodLink RX2 68 yX2_placeOf, Cond.instanceMethod yX2_placeOf, Cond.selects RX2 yX2_placeOf yX2_placeOf, Cond.code yX2_placeOf cX2_placeOf 2 (some .int), Cond.methodLink RX2 55 yX4_hasBroom, Cond.instanceMethod yX4_hasBroom, Cond.selects RX4 yX4_hasBroom yX4_hasBroom, Cond.initialized RX4, Cond.code yX4_hasBroom cX4_hasBroom 2 (some .boolean), Cond.fieldLink RX4 30 "DustVote$Told" "brooms" "I", Cond.methodLink RX2 109 yX4_strengthOf, Cond.instanceMethod yX4_strengthOf, Cond.selects RX4 yX4_strengthOf yX4_strengthOf, Cond.code yX4_strengthOf cX4_strengthOf 2 (some .int), Cond.fieldLink RX4 18 "DustVote$Told" "strength" "[I", Cond.methodLink RX2 112 yX2_worksAs, Cond.instanceMethod yX2_worksAs, Cond.selects RX2 yX2_worksAs yX2_worksAs, Cond.code yX2_worksAs cX2_worksAs 3 (some .int), Cond.methodLink RX2 71 yX4_kindOf, Cond.instanceMethod yX4_kindOf, Cond.selects RX4 yX4_kindOf yX4_kindOf, Cond.code yX4_kindOf cX4_kindOf 2 (some .int), Cond.fieldLink RX4 21 "DustVote$Told" "kind" "[I"]
def wsX5_staysShallow_r4 : List Cond := [Cond.methodLink RX2 74 yX2_isBent, Cond.instanceMethod yX2_isBent, Cond.selects RX2 yX2_isBent yX2_isBent, Cond.code yX2_isBent cX2_isBent 2 (some .boolean), Cond.methodLink RX2 115 yX2_sweep, Cond.instanceMethod yX2_sweep, Cond.selects RX2 yX2_sweep yX2_sweep, Cond.code yX2_sweep cX2_sweep 4 (some .int), Cond.methodLink RX2 80 yX2_rightOf, Cond.static yX2_rightOf, Cond.code yX2_rightOf cX2_rightOf 1 (some .int), Cond.methodLink RX2 77 yX2_leftOf, Cond.static yX2_leftOf, Cond.code yX2_leftOf cX2_leftOf 1 (some .int), Cond.methodLink RX2 94 yX2_spread, Cond.instanceMethod yX2_spread, Cond.selects RX2 yX2_spread yX2_spread, Cond.code yX2_spread cX2_spread 2 none, Cond.fieldLink RX2 18 "DustVote$Moment" "deep" "[Z", Cond.methodLink RX5 177 yX2_firstDeep, Cond.instanceMethod yX2_firstDeep, Cond.selects RX2 yX2_firstDeep yX2_firstDeep, Cond.code yX2_firstDeep cX2_firstDeep 2 (some .int), Cond.methodLink RX2 62 yX2_isDeep]
def wsX5_staysShallow_r5 : List Cond := [Cond.instanceMethod yX2_isDeep, Cond.selects RX2 yX2_isDeep yX2_isDeep, Cond.code yX2_isDeep cX2_isDeep 2 (some .boolean), Cond.methodLink RX2 58 yX2_dustIn, Cond.instanceMethod yX2_dustIn, Cond.selects RX2 yX2_dustIn yX2_dustIn, Cond.code yX2_dustIn cX2_dustIn 2 (some .int)]
def wsX5_staysShallow : List Cond := .code yX5_staysShallow cX5_staysShallow 5 (some .boolean) :: ((wsX5_staysShallow_r1 ++ (wsX5_staysShallow_r2 ++ (wsX5_staysShallow_r3 ++ (wsX5_staysShallow_r4 ++ wsX5_staysShallow_r5)))) ++ wsX50 ++ wsX20 ++ wsX40)
def wsX5_bends_r1 : List Cond := [Cond.fieldLink RX5 19 "DustVote" "told" "LDustVote$Told;", Cond.fieldLink RX5 28 "DustVote" "now" "LDustVote$Moment;", Cond.methodLink RX5 61 yX5_within, Cond.static yX5_within, Cond.initialized RX5, Cond.code yX5_within cX5_within 3 (some .boolean), Cond.methodLink RX5 152 yJ6_bitCount_0f7a4, Cond.static yJ6_bitCount_0f7a4, Cond.initialized RJ6, Cond.code yJ6_bitCount_0f7a4 cJ6_bitCount_0f7a4 1 (some .int), Cond.constant RJ6 265 (1431655765), Cond.constant RJ6 266 (858993459), Cond.constant RJ6 267 (252645135), Cond.methodLink RX5 183 yX5_staysShallow, Cond.instanceMethod yX5_staysShallow, Cond.selects RX5 yX5_staysShallow yX5_staysShallow, Cond.code yX5_staysShallow cX5_staysShallow 5 (some .boolean), Cond.methodLink RX5 173 yX5_fromNow, Cond.instanceMethod yX5_fromNow, Cond.selects RX5 yX5_fromNow yX5_fromNow, Cond.code yX5_fromNow cX5_fromNow 1 (some (.object "DustVote$Moment")), Cond.fieldLink RX5 32 "DustVote" "trial" "LDustVote$Moment;", Cond.methodLink RX5 247 yX2_copy, Cond.instanceMethod yX2_copy]
def wsX5_bends_r2 : List Cond := [Cond.selects RX2 yX2_copy yX2_copy, Cond.initialized RX2, Cond.code yX2_copy cX2_copy 2 none, Cond.fieldLink RX2 9 "DustVote$Moment" "dust" "[I", Cond.methodLink RX2 42 arraycopyName, Cond.native arraycopyName, Cond.static arraycopyName, Cond.initialized "java/lang/System", Cond.fieldLink RX2 15 "DustVote$Moment" "place" "[I", Cond.fieldLink RX2 22 "DustVote$Moment" "given" "Z", Cond.fieldLink RX2 26 "DustVote$Moment" "bent" "I", Cond.fieldLink RX2 30 "DustVote$Moment" "dawns" "I", Cond.methodLink RX5 146 yX2_bow, Cond.instanceMethod yX2_bow, Cond.selects RX2 yX2_bow yX2_bow, Cond.code yX2_bow cX2_bow 2 none, Cond.methodLink RX5 129 yX2_passDawn, Cond.instanceMethod yX2_passDawn, Cond.selects RX2 yX2_passDawn yX2_passDawn, Cond.code yX2_passDawn cX2_passDawn 4 none, Cond.fieldLink RX2 33 "DustVote$Moment" "told" "LDustVote$Told;", Cond.methodLink RX2 87 yX2_comeDown, Cond.instanceMethod yX2_comeDown, Cond.selects RX2 yX2_comeDown yX2_comeDown]
def wsX5_bends_r3 : List Cond := [Cond.code yX2_comeDown cX2_comeDown 4 none, Cond.methodLink RX2 106 yX2_pour, Cond.instanceMethod yX2_pour, Cond.selects RX2 yX2_pour yX2_pour, Cond.code yX2_pour cX2_pour 3 none, Cond.methodLink RX2 119 Lib.Math.min.name, Cond.static Lib.Math.min.name, Cond.initialized "java/lang/Math", Cond.code Lib.Math.min.name Lib.Math.min.code 2 (some .int), Cond.static yX5_isStreet, Cond.code yX5_isStreet cX5_isStreet 1 (some .boolean), Cond.methodLink RX2 91 yX2_work, Cond.instanceMethod yX2_work, Cond.selects RX2 yX2_work yX2_work, Cond.code yX2_work cX2_work 4 none, Cond.methodLink RX2 68 yX2_placeOf, Cond.instanceMethod yX2_placeOf, Cond.selects RX2 yX2_placeOf yX2_placeOf, Cond.code yX2_placeOf cX2_placeOf 2 (some .int), Cond.methodLink RX2 55 yX4_hasBroom, Cond.instanceMethod yX4_hasBroom, Cond.selects RX4 yX4_hasBroom yX4_hasBroom, Cond.initialized RX4, Cond.code yX4_hasBroom cX4_hasBroom 2 (some .boolean)]
def wsX5_bends_r4 : List Cond := [Cond.fieldLink RX4 30 "DustVote$Told" "brooms" "I", Cond.methodLink RX2 109 yX4_strengthOf, Cond.instanceMethod yX4_strengthOf, Cond.selects RX4 yX4_strengthOf yX4_strengthOf, Cond.code yX4_strengthOf cX4_strengthOf 2 (some .int), Cond.fieldLink RX4 18 "DustVote$Told" "strength" "[I", Cond.methodLink RX2 112 yX2_worksAs, Cond.instanceMethod yX2_worksAs, Cond.selects RX2 yX2_worksAs yX2_worksAs, Cond.code yX2_worksAs cX2_worksAs 3 (some .int), Cond.methodLink RX2 71 yX4_kindOf, Cond.instanceMethod yX4_kindOf, Cond.selects RX4 yX4_kindOf yX4_kindOf, Cond.code yX4_kindOf cX4_kindOf 2 (some .int), Cond.fieldLink RX4 21 "DustVote$Told" "kind" "[I", Cond.methodLink RX2 74 yX2_isBent, Cond.instanceMethod yX2_isBent, Cond.selects RX2 yX2_isBent yX2_isBent, Cond.code yX2_isBent cX2_isBent 2 (some .boolean), Cond.methodLink RX2 115 yX2_sweep, Cond.instanceMethod yX2_sweep, Cond.selects RX2 yX2_sweep yX2_sweep, Cond.code yX2_sweep cX2_sweep 4 (some .int), Cond.methodLink RX2 80 yX2_rightOf]
def wsX5_bends_r5 : List Cond := [Cond.static yX2_rightOf, Cond.code yX2_rightOf cX2_rightOf 1 (some .int), Cond.methodLink RX2 77 yX2_leftOf, Cond.static yX2_leftOf, Cond.code yX2_leftOf cX2_leftOf 1 (some .int), Cond.methodLink RX2 94 yX2_spread, Cond.instanceMethod yX2_spread, Cond.selects RX2 yX2_spread yX2_spread, Cond.code yX2_spread cX2_spread 2 none, Cond.fieldLink RX2 18 "DustVote$Moment" "deep" "[Z", Cond.methodLink RX5 177 yX2_firstDeep, Cond.instanceMethod yX2_firstDeep, Cond.selects RX2 yX2_firstDeep yX2_firstDeep, Cond.code yX2_firstDeep cX2_firstDeep 2 (some .int), Cond.methodLink RX2 62 yX2_isDeep, Cond.instanceMethod yX2_isDeep, Cond.selects RX2 yX2_isDeep yX2_isDeep, Cond.code yX2_isDeep cX2_isDeep 2 (some .boolean), Cond.methodLink RX2 58 yX2_dustIn, Cond.instanceMethod yX2_dustIn, Cond.selects RX2 yX2_dustIn yX2_dustIn, Cond.code yX2_dustIn cX2_dustIn 2 (some .int)]
def wsX5_bends : List Cond := .code yX5_bends cX5_bends 6 (some .int) :: ((wsX5_bends_r1 ++ (wsX5_bends_r2 ++ (wsX5_bends_r3 ++ (wsX5_bends_r4 ++ wsX5_bends_r5)))) ++ wsX50 ++ wsX40 ++ wsX20)
def wsX5_power : List Cond := .code yX5_power cX5_power 5 (some .long) :: ([])
def wsX5_tryStep_r1 : List Cond := [Cond.fieldLink RX5 19 "DustVote" "told" "LDustVote$Told;", Cond.methodLink RX5 107 yX4_hasBroom, Cond.instanceMethod yX4_hasBroom, Cond.selects RX4 yX4_hasBroom yX4_hasBroom, Cond.initialized RX4, Cond.code yX4_hasBroom cX4_hasBroom 2 (some .boolean), Cond.fieldLink RX4 30 "DustVote$Told" "brooms" "I", Cond.methodLink RX5 61 yX5_within, Cond.static yX5_within, Cond.initialized RX5, Cond.code yX5_within cX5_within 3 (some .boolean), Cond.methodLink RX5 136 yX2_step, Cond.instanceMethod yX2_step, Cond.selects RX2 yX2_step yX2_step, Cond.initialized RX2, Cond.code yX2_step cX2_step 4 none, Cond.methodLink RX2 68 yX2_placeOf, Cond.instanceMethod yX2_placeOf, Cond.selects RX2 yX2_placeOf yX2_placeOf, Cond.code yX2_placeOf cX2_placeOf 2 (some .int), Cond.fieldLink RX2 33 "DustVote$Moment" "told" "LDustVote$Told;", Cond.fieldLink RX2 15 "DustVote$Moment" "place" "[I", Cond.methodLink RX2 55 yX4_hasBroom, Cond.methodLink RX2 77 yX2_leftOf]
def wsX5_tryStep_r2 : List Cond := [Cond.static yX2_leftOf, Cond.code yX2_leftOf cX2_leftOf 1 (some .int), Cond.methodLink RX2 80 yX2_rightOf, Cond.static yX2_rightOf, Cond.code yX2_rightOf cX2_rightOf 1 (some .int), Cond.methodLink RX2 83 yX2_goTo, Cond.instanceMethod yX2_goTo, Cond.selects RX2 yX2_goTo yX2_goTo, Cond.code yX2_goTo cX2_goTo 3 none]
def wsX5_tryStep : List Cond := .code yX5_tryStep cX5_tryStep 4 (some .boolean) :: ((wsX5_tryStep_r1 ++ wsX5_tryStep_r2) ++ wsX50 ++ wsX40 ++ wsX20)
def wsX5_tryDawn_r1 : List Cond := [Cond.methodLink RX5 129 yX2_passDawn, Cond.instanceMethod yX2_passDawn, Cond.selects RX2 yX2_passDawn yX2_passDawn, Cond.initialized RX2, Cond.code yX2_passDawn cX2_passDawn 4 none, Cond.fieldLink RX2 33 "DustVote$Moment" "told" "LDustVote$Told;", Cond.fieldLink RX2 30 "DustVote$Moment" "dawns" "I", Cond.methodLink RX2 87 yX2_comeDown, Cond.instanceMethod yX2_comeDown, Cond.selects RX2 yX2_comeDown yX2_comeDown, Cond.code yX2_comeDown cX2_comeDown 4 none, Cond.methodLink RX2 106 yX2_pour, Cond.instanceMethod yX2_pour, Cond.selects RX2 yX2_pour yX2_pour, Cond.code yX2_pour cX2_pour 3 none, Cond.fieldLink RX2 9 "DustVote$Moment" "dust" "[I", Cond.methodLink RX2 119 Lib.Math.min.name, Cond.static Lib.Math.min.name, Cond.initialized "java/lang/Math", Cond.code Lib.Math.min.name Lib.Math.min.code 2 (some .int), Cond.static yX5_isStreet, Cond.initialized RX5, Cond.code yX5_isStreet cX5_isStreet 1 (some .boolean), Cond.methodLink RX2 91 yX2_work]
def wsX5_tryDawn_r2 : List Cond := [Cond.instanceMethod yX2_work, Cond.selects RX2 yX2_work yX2_work, Cond.code yX2_work cX2_work 4 none, Cond.methodLink RX2 68 yX2_placeOf, Cond.instanceMethod yX2_placeOf, Cond.selects RX2 yX2_placeOf yX2_placeOf, Cond.code yX2_placeOf cX2_placeOf 2 (some .int), Cond.fieldLink RX2 15 "DustVote$Moment" "place" "[I", Cond.methodLink RX2 55 yX4_hasBroom, Cond.instanceMethod yX4_hasBroom, Cond.selects RX4 yX4_hasBroom yX4_hasBroom, Cond.initialized RX4, Cond.code yX4_hasBroom cX4_hasBroom 2 (some .boolean), Cond.fieldLink RX4 30 "DustVote$Told" "brooms" "I", Cond.methodLink RX2 109 yX4_strengthOf, Cond.instanceMethod yX4_strengthOf, Cond.selects RX4 yX4_strengthOf yX4_strengthOf, Cond.code yX4_strengthOf cX4_strengthOf 2 (some .int), Cond.fieldLink RX4 18 "DustVote$Told" "strength" "[I", Cond.methodLink RX2 112 yX2_worksAs, Cond.instanceMethod yX2_worksAs, Cond.selects RX2 yX2_worksAs yX2_worksAs, Cond.code yX2_worksAs cX2_worksAs 3 (some .int), Cond.fieldLink RX2 22 "DustVote$Moment" "given" "Z"]
def wsX5_tryDawn_r3 : List Cond := [Cond.methodLink RX2 71 yX4_kindOf, Cond.instanceMethod yX4_kindOf, Cond.selects RX4 yX4_kindOf yX4_kindOf, Cond.code yX4_kindOf cX4_kindOf 2 (some .int), Cond.fieldLink RX4 21 "DustVote$Told" "kind" "[I", Cond.methodLink RX2 74 yX2_isBent, Cond.instanceMethod yX2_isBent, Cond.selects RX2 yX2_isBent yX2_isBent, Cond.code yX2_isBent cX2_isBent 2 (some .boolean), Cond.fieldLink RX2 26 "DustVote$Moment" "bent" "I", Cond.methodLink RX2 115 yX2_sweep, Cond.instanceMethod yX2_sweep, Cond.selects RX2 yX2_sweep yX2_sweep, Cond.code yX2_sweep cX2_sweep 4 (some .int), Cond.methodLink RX2 80 yX2_rightOf, Cond.static yX2_rightOf, Cond.code yX2_rightOf cX2_rightOf 1 (some .int), Cond.methodLink RX2 77 yX2_leftOf, Cond.static yX2_leftOf, Cond.code yX2_leftOf cX2_leftOf 1 (some .int), Cond.methodLink RX2 94 yX2_spread, Cond.instanceMethod yX2_spread, Cond.selects RX2 yX2_spread yX2_spread, Cond.code yX2_spread cX2_spread 2 none]
def wsX5_tryDawn_r4 : List Cond := [Cond.fieldLink RX2 18 "DustVote$Moment" "deep" "[Z"]
def wsX5_tryDawn : List Cond := .code yX5_tryDawn cX5_tryDawn 2 (some .boolean) :: ((wsX5_tryDawn_r1 ++ (wsX5_tryDawn_r2 ++ (wsX5_tryDawn_r3 ++ wsX5_tryDawn_r4))) ++ wsX20 ++ wsX40)
def wsX5_tryVote : List Cond := .code yX5_tryVote cX5_tryVote 2 (some .boolean) :: ([.methodLink RX5 139 yX2_turnVote, .instanceMethod yX2_turnVote, .selects RX2 yX2_turnVote yX2_turnVote, .initialized RX2, .code yX2_turnVote cX2_turnVote 1 none, .fieldLink RX2 22 "DustVote$Moment" "given" "Z"] ++ wsX20)
def wsX5_tryBow : List Cond := .code yX5_tryBow cX5_tryBow 3 (some .boolean) :: ([.fieldLink RX5 19 "DustVote" "told" "LDustVote$Told;", .methodLink RX5 107 yX4_hasBroom, .instanceMethod yX4_hasBroom, .selects RX4 yX4_hasBroom yX4_hasBroom, .initialized RX4, .code yX4_hasBroom cX4_hasBroom 2 (some .boolean), .fieldLink RX4 30 "DustVote$Told" "brooms" "I", .methodLink RX5 119 yX2_isBent, .instanceMethod yX2_isBent, .selects RX2 yX2_isBent yX2_isBent, .initialized RX2, .code yX2_isBent cX2_isBent 2 (some .boolean), .fieldLink RX2 26 "DustVote$Moment" "bent" "I", .methodLink RX5 146 yX2_bow, .instanceMethod yX2_bow, .selects RX2 yX2_bow yX2_bow, .code yX2_bow cX2_bow 2 none] ++ wsX50 ++ wsX40 ++ wsX20)
def wsX5_tryEmpty : List Cond := .code yX5_tryEmpty cX5_tryEmpty 3 (some .boolean) :: ([.methodLink RX5 93 yX5_isStreet, .static yX5_isStreet, .initialized RX5, .code yX5_isStreet cX5_isStreet 1 (some .boolean), .methodLink RX5 97 yX2_dustIn, .instanceMethod yX2_dustIn, .selects RX2 yX2_dustIn yX2_dustIn, .initialized RX2, .code yX2_dustIn cX2_dustIn 2 (some .int), .fieldLink RX2 9 "DustVote$Moment" "dust" "[I", .methodLink RX5 157 yX2_empty, .instanceMethod yX2_empty, .selects RX2 yX2_empty yX2_empty, .code yX2_empty cX2_empty 2 none] ++ wsX20)
def wsX5_isSo_r1 : List Cond := [Cond.methodLink RX5 250 yX5_tryStep, Cond.instanceMethod yX5_tryStep, Cond.selects RX5 yX5_tryStep yX5_tryStep, Cond.initialized RX5, Cond.code yX5_tryStep cX5_tryStep 4 (some .boolean), Cond.fieldLink RX5 19 "DustVote" "told" "LDustVote$Told;", Cond.methodLink RX5 107 yX4_hasBroom, Cond.instanceMethod yX4_hasBroom, Cond.selects RX4 yX4_hasBroom yX4_hasBroom, Cond.initialized RX4, Cond.code yX4_hasBroom cX4_hasBroom 2 (some .boolean), Cond.fieldLink RX4 30 "DustVote$Told" "brooms" "I", Cond.methodLink RX5 61 yX5_within, Cond.static yX5_within, Cond.code yX5_within cX5_within 3 (some .boolean), Cond.methodLink RX5 136 yX2_step, Cond.instanceMethod yX2_step, Cond.selects RX2 yX2_step yX2_step, Cond.initialized RX2, Cond.code yX2_step cX2_step 4 none, Cond.methodLink RX2 68 yX2_placeOf, Cond.instanceMethod yX2_placeOf, Cond.selects RX2 yX2_placeOf yX2_placeOf, Cond.code yX2_placeOf cX2_placeOf 2 (some .int)]
def wsX5_isSo_r2 : List Cond := [Cond.fieldLink RX2 33 "DustVote$Moment" "told" "LDustVote$Told;", Cond.fieldLink RX2 15 "DustVote$Moment" "place" "[I", Cond.methodLink RX2 55 yX4_hasBroom, Cond.methodLink RX2 77 yX2_leftOf, Cond.static yX2_leftOf, Cond.code yX2_leftOf cX2_leftOf 1 (some .int), Cond.methodLink RX2 80 yX2_rightOf, Cond.static yX2_rightOf, Cond.code yX2_rightOf cX2_rightOf 1 (some .int), Cond.methodLink RX2 83 yX2_goTo, Cond.instanceMethod yX2_goTo, Cond.selects RX2 yX2_goTo yX2_goTo, Cond.code yX2_goTo cX2_goTo 3 none, Cond.methodLink RX5 93 yX5_isStreet, Cond.static yX5_isStreet, Cond.code yX5_isStreet cX5_isStreet 1 (some .boolean), Cond.methodLink RX5 97 yX2_dustIn, Cond.instanceMethod yX2_dustIn, Cond.selects RX2 yX2_dustIn yX2_dustIn, Cond.code yX2_dustIn cX2_dustIn 2 (some .int), Cond.fieldLink RX2 9 "DustVote$Moment" "dust" "[I", Cond.methodLink RX5 254 yX5_tryDawn, Cond.instanceMethod yX5_tryDawn, Cond.selects RX5 yX5_tryDawn yX5_tryDawn]
def wsX5_isSo_r3 : List Cond := [Cond.code yX5_tryDawn cX5_tryDawn 2 (some .boolean), Cond.methodLink RX5 129 yX2_passDawn, Cond.instanceMethod yX2_passDawn, Cond.selects RX2 yX2_passDawn yX2_passDawn, Cond.code yX2_passDawn cX2_passDawn 4 none, Cond.fieldLink RX2 30 "DustVote$Moment" "dawns" "I", Cond.methodLink RX2 87 yX2_comeDown, Cond.instanceMethod yX2_comeDown, Cond.selects RX2 yX2_comeDown yX2_comeDown, Cond.code yX2_comeDown cX2_comeDown 4 none, Cond.methodLink RX2 106 yX2_pour, Cond.instanceMethod yX2_pour, Cond.selects RX2 yX2_pour yX2_pour, Cond.code yX2_pour cX2_pour 3 none, Cond.methodLink RX2 119 Lib.Math.min.name, Cond.static Lib.Math.min.name, Cond.initialized "java/lang/Math", Cond.code Lib.Math.min.name Lib.Math.min.code 2 (some .int), Cond.methodLink RX2 91 yX2_work, Cond.instanceMethod yX2_work, Cond.selects RX2 yX2_work yX2_work, Cond.code yX2_work cX2_work 4 none, Cond.methodLink RX2 109 yX4_strengthOf, Cond.instanceMethod yX4_strengthOf]
def wsX5_isSo_r4 : List Cond := [Cond.selects RX4 yX4_strengthOf yX4_strengthOf, Cond.code yX4_strengthOf cX4_strengthOf 2 (some .int), Cond.fieldLink RX4 18 "DustVote$Told" "strength" "[I", Cond.methodLink RX2 112 yX2_worksAs, Cond.instanceMethod yX2_worksAs, Cond.selects RX2 yX2_worksAs yX2_worksAs, Cond.code yX2_worksAs cX2_worksAs 3 (some .int), Cond.fieldLink RX2 22 "DustVote$Moment" "given" "Z", Cond.methodLink RX2 71 yX4_kindOf, Cond.instanceMethod yX4_kindOf, Cond.selects RX4 yX4_kindOf yX4_kindOf, Cond.code yX4_kindOf cX4_kindOf 2 (some .int), Cond.fieldLink RX4 21 "DustVote$Told" "kind" "[I", Cond.methodLink RX2 74 yX2_isBent, Cond.instanceMethod yX2_isBent, Cond.selects RX2 yX2_isBent yX2_isBent, Cond.code yX2_isBent cX2_isBent 2 (some .boolean), Cond.fieldLink RX2 26 "DustVote$Moment" "bent" "I", Cond.methodLink RX2 115 yX2_sweep, Cond.instanceMethod yX2_sweep, Cond.selects RX2 yX2_sweep yX2_sweep, Cond.code yX2_sweep cX2_sweep 4 (some .int), Cond.methodLink RX2 94 yX2_spread, Cond.instanceMethod yX2_spread]
def wsX5_isSo_r5 : List Cond := [Cond.selects RX2 yX2_spread yX2_spread, Cond.code yX2_spread cX2_spread 2 none, Cond.fieldLink RX2 18 "DustVote$Moment" "deep" "[Z", Cond.methodLink RX5 258 yX5_tryVote, Cond.instanceMethod yX5_tryVote, Cond.selects RX5 yX5_tryVote yX5_tryVote, Cond.code yX5_tryVote cX5_tryVote 2 (some .boolean), Cond.methodLink RX5 139 yX2_turnVote, Cond.instanceMethod yX2_turnVote, Cond.selects RX2 yX2_turnVote yX2_turnVote, Cond.code yX2_turnVote cX2_turnVote 1 none, Cond.methodLink RX5 261 yX5_tryBow, Cond.instanceMethod yX5_tryBow, Cond.selects RX5 yX5_tryBow yX5_tryBow, Cond.code yX5_tryBow cX5_tryBow 3 (some .boolean), Cond.methodLink RX5 119 yX2_isBent, Cond.methodLink RX5 146 yX2_bow, Cond.instanceMethod yX2_bow, Cond.selects RX2 yX2_bow yX2_bow, Cond.code yX2_bow cX2_bow 2 none, Cond.methodLink RX5 265 yX5_tryEmpty, Cond.instanceMethod yX5_tryEmpty, Cond.selects RX5 yX5_tryEmpty yX5_tryEmpty, Cond.code yX5_tryEmpty cX5_tryEmpty 3 (some .boolean)]
def wsX5_isSo_r6 : List Cond := [Cond.methodLink RX5 157 yX2_empty, Cond.instanceMethod yX2_empty, Cond.selects RX2 yX2_empty yX2_empty, Cond.code yX2_empty cX2_empty 2 none, Cond.methodLink RX5 101 yX2_isDeep, Cond.instanceMethod yX2_isDeep, Cond.selects RX2 yX2_isDeep yX2_isDeep, Cond.code yX2_isDeep cX2_isDeep 2 (some .boolean), Cond.methodLink RX2 58 yX2_dustIn]
def wsX5_isSo : List Cond := .code yX5_isSo cX5_isSo 5 (some .boolean) :: ((wsX5_isSo_r1 ++ (wsX5_isSo_r2 ++ (wsX5_isSo_r3 ++ (wsX5_isSo_r4 ++ (wsX5_isSo_r5 ++ wsX5_isSo_r6))))) ++ wsX50 ++ wsX40 ++ wsX20)
def wsX5_judge_r1 : List Cond := [Cond.methodLink RX5 191 Lib.MathLoose.max_long.x, Cond.static Lib.MathLoose.max_long.x, Cond.initialized "java/lang/Math", Cond.code Lib.MathLoose.max_long.x Lib.MathLoose.max_long.code 4 (some .long), Cond.constantLong RX5 197 (1000), Cond.methodLink RX5 61 yX5_within, Cond.static yX5_within, Cond.initialized RX5, Cond.code yX5_within cX5_within 3 (some .boolean), Cond.methodLink RX5 187 yX5_power, Cond.static yX5_power, Cond.code yX5_power cX5_power 5 (some .long), Cond.methodLink RX5 173 yX5_fromNow, Cond.instanceMethod yX5_fromNow, Cond.selects RX5 yX5_fromNow yX5_fromNow, Cond.code yX5_fromNow cX5_fromNow 1 (some (.object "DustVote$Moment")), Cond.fieldLink RX5 32 "DustVote" "trial" "LDustVote$Moment;", Cond.fieldLink RX5 28 "DustVote" "now" "LDustVote$Moment;", Cond.methodLink RX5 247 yX2_copy, Cond.instanceMethod yX2_copy, Cond.selects RX2 yX2_copy yX2_copy, Cond.initialized RX2, Cond.code yX2_copy cX2_copy 2 none, Cond.fieldLink RX2 9 "DustVote$Moment" "dust" "[I"]
def wsX5_judge_r2 : List Cond := [Cond.methodLink RX2 42 arraycopyName, Cond.native arraycopyName, Cond.static arraycopyName, Cond.initialized "java/lang/System", Cond.fieldLink RX2 15 "DustVote$Moment" "place" "[I", Cond.fieldLink RX2 22 "DustVote$Moment" "given" "Z", Cond.fieldLink RX2 26 "DustVote$Moment" "bent" "I", Cond.fieldLink RX2 30 "DustVote$Moment" "dawns" "I", Cond.methodLink RX5 199 yX5_isSo, Cond.instanceMethod yX5_isSo, Cond.selects RX5 yX5_isSo yX5_isSo, Cond.code yX5_isSo cX5_isSo 5 (some .boolean), Cond.methodLink RX5 250 yX5_tryStep, Cond.instanceMethod yX5_tryStep, Cond.selects RX5 yX5_tryStep yX5_tryStep, Cond.code yX5_tryStep cX5_tryStep 4 (some .boolean), Cond.fieldLink RX5 19 "DustVote" "told" "LDustVote$Told;", Cond.methodLink RX5 107 yX4_hasBroom, Cond.instanceMethod yX4_hasBroom, Cond.selects RX4 yX4_hasBroom yX4_hasBroom, Cond.initialized RX4, Cond.code yX4_hasBroom cX4_hasBroom 2 (some .boolean), Cond.fieldLink RX4 30 "DustVote$Told" "brooms" "I", Cond.methodLink RX5 136 yX2_step]
def wsX5_judge_r3 : List Cond := [Cond.instanceMethod yX2_step, Cond.selects RX2 yX2_step yX2_step, Cond.code yX2_step cX2_step 4 none, Cond.methodLink RX2 68 yX2_placeOf, Cond.instanceMethod yX2_placeOf, Cond.selects RX2 yX2_placeOf yX2_placeOf, Cond.code yX2_placeOf cX2_placeOf 2 (some .int), Cond.fieldLink RX2 33 "DustVote$Moment" "told" "LDustVote$Told;", Cond.methodLink RX2 55 yX4_hasBroom, Cond.methodLink RX2 77 yX2_leftOf, Cond.static yX2_leftOf, Cond.code yX2_leftOf cX2_leftOf 1 (some .int), Cond.methodLink RX2 80 yX2_rightOf, Cond.static yX2_rightOf, Cond.code yX2_rightOf cX2_rightOf 1 (some .int), Cond.methodLink RX2 83 yX2_goTo, Cond.instanceMethod yX2_goTo, Cond.selects RX2 yX2_goTo yX2_goTo, Cond.code yX2_goTo cX2_goTo 3 none, Cond.methodLink RX5 93 yX5_isStreet, Cond.static yX5_isStreet, Cond.code yX5_isStreet cX5_isStreet 1 (some .boolean), Cond.methodLink RX5 97 yX2_dustIn, Cond.instanceMethod yX2_dustIn]
def wsX5_judge_r4 : List Cond := [Cond.selects RX2 yX2_dustIn yX2_dustIn, Cond.code yX2_dustIn cX2_dustIn 2 (some .int), Cond.methodLink RX5 254 yX5_tryDawn, Cond.instanceMethod yX5_tryDawn, Cond.selects RX5 yX5_tryDawn yX5_tryDawn, Cond.code yX5_tryDawn cX5_tryDawn 2 (some .boolean), Cond.methodLink RX5 129 yX2_passDawn, Cond.instanceMethod yX2_passDawn, Cond.selects RX2 yX2_passDawn yX2_passDawn, Cond.code yX2_passDawn cX2_passDawn 4 none, Cond.methodLink RX2 87 yX2_comeDown, Cond.instanceMethod yX2_comeDown, Cond.selects RX2 yX2_comeDown yX2_comeDown, Cond.code yX2_comeDown cX2_comeDown 4 none, Cond.methodLink RX2 106 yX2_pour, Cond.instanceMethod yX2_pour, Cond.selects RX2 yX2_pour yX2_pour, Cond.code yX2_pour cX2_pour 3 none, Cond.methodLink RX2 119 Lib.Math.min.name, Cond.static Lib.Math.min.name, Cond.code Lib.Math.min.name Lib.Math.min.code 2 (some .int), Cond.methodLink RX2 91 yX2_work, Cond.instanceMethod yX2_work, Cond.selects RX2 yX2_work yX2_work]
def wsX5_judge_r5 : List Cond := [Cond.code yX2_work cX2_work 4 none, Cond.methodLink RX2 109 yX4_strengthOf, Cond.instanceMethod yX4_strengthOf, Cond.selects RX4 yX4_strengthOf yX4_strengthOf, Cond.code yX4_strengthOf cX4_strengthOf 2 (some .int), Cond.fieldLink RX4 18 "DustVote$Told" "strength" "[I", Cond.methodLink RX2 112 yX2_worksAs, Cond.instanceMethod yX2_worksAs, Cond.selects RX2 yX2_worksAs yX2_worksAs, Cond.code yX2_worksAs cX2_worksAs 3 (some .int), Cond.methodLink RX2 71 yX4_kindOf, Cond.instanceMethod yX4_kindOf, Cond.selects RX4 yX4_kindOf yX4_kindOf, Cond.code yX4_kindOf cX4_kindOf 2 (some .int), Cond.fieldLink RX4 21 "DustVote$Told" "kind" "[I", Cond.methodLink RX2 74 yX2_isBent, Cond.instanceMethod yX2_isBent, Cond.selects RX2 yX2_isBent yX2_isBent, Cond.code yX2_isBent cX2_isBent 2 (some .boolean), Cond.methodLink RX2 115 yX2_sweep, Cond.instanceMethod yX2_sweep, Cond.selects RX2 yX2_sweep yX2_sweep, Cond.code yX2_sweep cX2_sweep 4 (some .int), Cond.methodLink RX2 94 yX2_spread]
def wsX5_judge_r6 : List Cond := [Cond.instanceMethod yX2_spread, Cond.selects RX2 yX2_spread yX2_spread, Cond.code yX2_spread cX2_spread 2 none, Cond.fieldLink RX2 18 "DustVote$Moment" "deep" "[Z", Cond.methodLink RX5 258 yX5_tryVote, Cond.instanceMethod yX5_tryVote, Cond.selects RX5 yX5_tryVote yX5_tryVote, Cond.code yX5_tryVote cX5_tryVote 2 (some .boolean), Cond.methodLink RX5 139 yX2_turnVote, Cond.instanceMethod yX2_turnVote, Cond.selects RX2 yX2_turnVote yX2_turnVote, Cond.code yX2_turnVote cX2_turnVote 1 none, Cond.methodLink RX5 261 yX5_tryBow, Cond.instanceMethod yX5_tryBow, Cond.selects RX5 yX5_tryBow yX5_tryBow, Cond.code yX5_tryBow cX5_tryBow 3 (some .boolean), Cond.methodLink RX5 119 yX2_isBent, Cond.methodLink RX5 146 yX2_bow, Cond.instanceMethod yX2_bow, Cond.selects RX2 yX2_bow yX2_bow, Cond.code yX2_bow cX2_bow 2 none, Cond.methodLink RX5 265 yX5_tryEmpty, Cond.instanceMethod yX5_tryEmpty, Cond.selects RX5 yX5_tryEmpty yX5_tryEmpty]
def wsX5_judge_r7 : List Cond := [Cond.code yX5_tryEmpty cX5_tryEmpty 3 (some .boolean), Cond.methodLink RX5 157 yX2_empty, Cond.instanceMethod yX2_empty, Cond.selects RX2 yX2_empty yX2_empty, Cond.code yX2_empty cX2_empty 2 none, Cond.methodLink RX5 101 yX2_isDeep, Cond.instanceMethod yX2_isDeep, Cond.selects RX2 yX2_isDeep yX2_isDeep, Cond.code yX2_isDeep cX2_isDeep 2 (some .boolean), Cond.methodLink RX2 58 yX2_dustIn]
def wsX5_judge : List Cond := .code yX5_judge cX5_judge 7 (some .int) :: ((wsX5_judge_r1 ++ (wsX5_judge_r2 ++ (wsX5_judge_r3 ++ (wsX5_judge_r4 ++ (wsX5_judge_r5 ++ (wsX5_judge_r6 ++ wsX5_judge_r7)))))) ++ wsX50 ++ wsX20 ++ wsX40)
def wsX5_heap : List Cond := .code yX5_heap cX5_heap 4 (some .int) :: ([.fieldLink RX5 45 "DustVote" "heaps" "LDustVote$Heaps;", .methodLink RX5 61 yX5_within, .static yX5_within, .initialized RX5, .code yX5_within cX5_within 3 (some .boolean), .methodLink RX5 204 yX1_add, .instanceMethod yX1_add, .selects RX1 yX1_add yX1_add, .initialized RX1, .code yX1_add cX1_add 4 none, .fieldLink RX1 21 "DustVote$Heaps" "size" "I", .fieldLink RX1 9 "DustVote$Heaps" "before" "[I", .fieldLink RX1 15 "DustVote$Heaps" "left" "[I", .fieldLink RX1 18 "DustVote$Heaps" "gone" "[I"] ++ wsX50 ++ wsX10)
def wsX5_unheap : List Cond := .code yX5_unheap cX5_unheap 2 (some .int) :: ([.fieldLink RX5 45 "DustVote" "heaps" "LDustVote$Heaps;"] ++ wsX50 ++ wsX10)
def wsX5_whose : List Cond := .code yX5_whose cX5_whose 6 (some .int) :: ([.fieldLink RX5 45 "DustVote" "heaps" "LDustVote$Heaps;", .methodLink RX5 61 yX5_within, .static yX5_within, .initialized RX5, .code yX5_within cX5_within 3 (some .boolean), .methodLink RX5 207 yX1_fit, .instanceMethod yX1_fit, .selects RX1 yX1_fit yX1_fit, .initialized RX1, .code yX1_fit cX1_fit 6 (some .boolean), .fieldLink RX1 21 "DustVote$Heaps" "size" "I", .fieldLink RX1 9 "DustVote$Heaps" "before" "[I", .methodLink RX1 25 Lib.Math.min.name, .static Lib.Math.min.name, .initialized "java/lang/Math", .code Lib.Math.min.name Lib.Math.min.code 2 (some .int), .fieldLink RX1 15 "DustVote$Heaps" "left" "[I", .fieldLink RX1 18 "DustVote$Heaps" "gone" "[I"] ++ wsX50 ++ wsX10)
def wsX5_factorial : List Cond := .code yX5_factorial cX5_factorial 4 (some .long) :: ([])
def wsX5_ordersWith : List Cond := .code yX5_ordersWith cX5_ordersWith 2 (some .long) :: ([.fieldLink RX5 19 "DustVote" "told" "LDustVote$Told;", .methodLink RX5 214 yX5_factorial, .static yX5_factorial, .initialized RX5, .code yX5_factorial cX5_factorial 4 (some .long)] ++ wsX50 ++ wsX40)
def wsX5_commonDivisor : List Cond := .code yX5_commonDivisor cX5_commonDivisor 11 (some .long) :: ([])
def wsX5_fraction : List Cond := .code yX5_fraction cX5_fraction 7 (some .int) :: ([.methodLink RX5 272 Lib.MathLoose.abs_long.x, .static Lib.MathLoose.abs_long.x, .initialized "java/lang/Math", .code Lib.MathLoose.abs_long.x Lib.MathLoose.abs_long.code 2 (some .long), .methodLink RX5 191 Lib.MathLoose.max_long.x, .static Lib.MathLoose.max_long.x, .code Lib.MathLoose.max_long.x Lib.MathLoose.max_long.code 4 (some .long), .methodLink RX5 276 yX5_commonDivisor, .static yX5_commonDivisor, .initialized RX5, .code yX5_commonDivisor cX5_commonDivisor 11 (some .long)])
def wsX5_share_r1 : List Cond := [Cond.fieldLink RX5 19 "DustVote" "told" "LDustVote$Told;", Cond.methodLink RX5 107 yX4_hasBroom, Cond.instanceMethod yX4_hasBroom, Cond.selects RX4 yX4_hasBroom yX4_hasBroom, Cond.initialized RX4, Cond.code yX4_hasBroom cX4_hasBroom 2 (some .boolean), Cond.fieldLink RX4 30 "DustVote$Told" "brooms" "I", Cond.methodLink RX5 166 yX5_behind, Cond.instanceMethod yX5_behind, Cond.selects RX5 yX5_behind yX5_behind, Cond.initialized RX5, Cond.code yX5_behind cX5_behind 5 (some (.object "DustVote$Moment")), Cond.methodLink RX5 173 yX5_fromNow, Cond.instanceMethod yX5_fromNow, Cond.selects RX5 yX5_fromNow yX5_fromNow, Cond.code yX5_fromNow cX5_fromNow 1 (some (.object "DustVote$Moment")), Cond.fieldLink RX5 32 "DustVote" "trial" "LDustVote$Moment;", Cond.fieldLink RX5 28 "DustVote" "now" "LDustVote$Moment;", Cond.methodLink RX5 247 yX2_copy, Cond.instanceMethod yX2_copy, Cond.selects RX2 yX2_copy yX2_copy, Cond.initialized RX2, Cond.code yX2_copy cX2_copy 2 none, Cond.fieldLink RX2 9 "DustVote$Moment" "dust" "[I"]
def wsX5_share_r2 : List Cond := [Cond.methodLink RX2 42 arraycopyName, Cond.native arraycopyName, Cond.static arraycopyName, Cond.initialized "java/lang/System", Cond.fieldLink RX2 15 "DustVote$Moment" "place" "[I", Cond.fieldLink RX2 22 "DustVote$Moment" "given" "Z", Cond.fieldLink RX2 26 "DustVote$Moment" "bent" "I", Cond.fieldLink RX2 30 "DustVote$Moment" "dawns" "I", Cond.methodLink RX5 129 yX2_passDawn, Cond.instanceMethod yX2_passDawn, Cond.selects RX2 yX2_passDawn yX2_passDawn, Cond.code yX2_passDawn cX2_passDawn 4 none, Cond.fieldLink RX2 33 "DustVote$Moment" "told" "LDustVote$Told;", Cond.methodLink RX2 87 yX2_comeDown, Cond.instanceMethod yX2_comeDown, Cond.selects RX2 yX2_comeDown yX2_comeDown, Cond.code yX2_comeDown cX2_comeDown 4 none, Cond.methodLink RX2 106 yX2_pour, Cond.instanceMethod yX2_pour, Cond.selects RX2 yX2_pour yX2_pour, Cond.code yX2_pour cX2_pour 3 none, Cond.methodLink RX2 119 Lib.Math.min.name, Cond.static Lib.Math.min.name, Cond.initialized "java/lang/Math"]
def wsX5_share_r3 : List Cond := [Cond.code Lib.Math.min.name Lib.Math.min.code 2 (some .int), Cond.static yX5_isStreet, Cond.code yX5_isStreet cX5_isStreet 1 (some .boolean), Cond.methodLink RX2 91 yX2_work, Cond.instanceMethod yX2_work, Cond.selects RX2 yX2_work yX2_work, Cond.code yX2_work cX2_work 4 none, Cond.methodLink RX2 68 yX2_placeOf, Cond.instanceMethod yX2_placeOf, Cond.selects RX2 yX2_placeOf yX2_placeOf, Cond.code yX2_placeOf cX2_placeOf 2 (some .int), Cond.methodLink RX2 55 yX4_hasBroom, Cond.methodLink RX2 109 yX4_strengthOf, Cond.instanceMethod yX4_strengthOf, Cond.selects RX4 yX4_strengthOf yX4_strengthOf, Cond.code yX4_strengthOf cX4_strengthOf 2 (some .int), Cond.fieldLink RX4 18 "DustVote$Told" "strength" "[I", Cond.methodLink RX2 112 yX2_worksAs, Cond.instanceMethod yX2_worksAs, Cond.selects RX2 yX2_worksAs yX2_worksAs, Cond.code yX2_worksAs cX2_worksAs 3 (some .int), Cond.methodLink RX2 71 yX4_kindOf, Cond.instanceMethod yX4_kindOf, Cond.selects RX4 yX4_kindOf yX4_kindOf]
def wsX5_share_r4 : List Cond := [Cond.code yX4_kindOf cX4_kindOf 2 (some .int), Cond.fieldLink RX4 21 "DustVote$Told" "kind" "[I", Cond.methodLink RX2 74 yX2_isBent, Cond.instanceMethod yX2_isBent, Cond.selects RX2 yX2_isBent yX2_isBent, Cond.code yX2_isBent cX2_isBent 2 (some .boolean), Cond.methodLink RX2 115 yX2_sweep, Cond.instanceMethod yX2_sweep, Cond.selects RX2 yX2_sweep yX2_sweep, Cond.code yX2_sweep cX2_sweep 4 (some .int), Cond.methodLink RX2 80 yX2_rightOf, Cond.static yX2_rightOf, Cond.code yX2_rightOf cX2_rightOf 1 (some .int), Cond.methodLink RX2 77 yX2_leftOf, Cond.static yX2_leftOf, Cond.code yX2_leftOf cX2_leftOf 1 (some .int), Cond.methodLink RX2 94 yX2_spread, Cond.instanceMethod yX2_spread, Cond.selects RX2 yX2_spread yX2_spread, Cond.code yX2_spread cX2_spread 2 none, Cond.fieldLink RX2 18 "DustVote$Moment" "deep" "[Z", Cond.methodLink RX5 133 yX2_allDust, Cond.instanceMethod yX2_allDust, Cond.selects RX2 yX2_allDust yX2_allDust]
def wsX5_share_r5 : List Cond := [Cond.code yX2_allDust cX2_allDust 3 (some .int), Cond.methodLink RX5 152 yJ6_bitCount_0f7a4, Cond.static yJ6_bitCount_0f7a4, Cond.initialized RJ6, Cond.code yJ6_bitCount_0f7a4 cJ6_bitCount_0f7a4 1 (some .int), Cond.constant RJ6 265 (1431655765), Cond.constant RJ6 266 (858993459), Cond.constant RJ6 267 (252645135), Cond.methodLink RX5 210 yX5_ordersWith, Cond.instanceMethod yX5_ordersWith, Cond.selects RX5 yX5_ordersWith yX5_ordersWith, Cond.code yX5_ordersWith cX5_ordersWith 2 (some .long), Cond.methodLink RX5 214 yX5_factorial, Cond.static yX5_factorial, Cond.code yX5_factorial cX5_factorial 4 (some .long), Cond.methodLink RX5 217 yX5_fraction, Cond.static yX5_fraction, Cond.code yX5_fraction cX5_fraction 7 (some .int), Cond.methodLink RX5 272 Lib.MathLoose.abs_long.x, Cond.static Lib.MathLoose.abs_long.x, Cond.code Lib.MathLoose.abs_long.x Lib.MathLoose.abs_long.code 2 (some .long), Cond.methodLink RX5 191 Lib.MathLoose.max_long.x, Cond.static Lib.MathLoose.max_long.x, Cond.code Lib.MathLoose.max_long.x Lib.MathLoose.max_long.code 4 (some .long)]
def wsX5_share_r6 : List Cond := [Cond.methodLink RX5 276 yX5_commonDivisor, Cond.static yX5_commonDivisor, Cond.code yX5_commonDivisor cX5_commonDivisor 11 (some .long)]
def wsX5_share : List Cond := .code yX5_share cX5_share 8 (some .int) :: ((wsX5_share_r1 ++ (wsX5_share_r2 ++ (wsX5_share_r3 ++ (wsX5_share_r4 ++ (wsX5_share_r5 ++ wsX5_share_r6))))) ++ wsX50 ++ wsX40 ++ wsX20)
def wsX5_gain_r1 : List Cond := [Cond.methodLink RX5 166 yX5_behind, Cond.instanceMethod yX5_behind, Cond.selects RX5 yX5_behind yX5_behind, Cond.initialized RX5, Cond.code yX5_behind cX5_behind 5 (some (.object "DustVote$Moment")), Cond.methodLink RX5 173 yX5_fromNow, Cond.instanceMethod yX5_fromNow, Cond.selects RX5 yX5_fromNow yX5_fromNow, Cond.code yX5_fromNow cX5_fromNow 1 (some (.object "DustVote$Moment")), Cond.fieldLink RX5 32 "DustVote" "trial" "LDustVote$Moment;", Cond.fieldLink RX5 28 "DustVote" "now" "LDustVote$Moment;", Cond.methodLink RX5 247 yX2_copy, Cond.instanceMethod yX2_copy, Cond.selects RX2 yX2_copy yX2_copy, Cond.initialized RX2, Cond.code yX2_copy cX2_copy 2 none, Cond.fieldLink RX2 9 "DustVote$Moment" "dust" "[I", Cond.methodLink RX2 42 arraycopyName, Cond.native arraycopyName, Cond.static arraycopyName, Cond.initialized "java/lang/System", Cond.fieldLink RX2 15 "DustVote$Moment" "place" "[I", Cond.fieldLink RX2 22 "DustVote$Moment" "given" "Z", Cond.fieldLink RX2 26 "DustVote$Moment" "bent" "I"]
def wsX5_gain_r2 : List Cond := [Cond.fieldLink RX2 30 "DustVote$Moment" "dawns" "I", Cond.methodLink RX5 129 yX2_passDawn, Cond.instanceMethod yX2_passDawn, Cond.selects RX2 yX2_passDawn yX2_passDawn, Cond.code yX2_passDawn cX2_passDawn 4 none, Cond.fieldLink RX2 33 "DustVote$Moment" "told" "LDustVote$Told;", Cond.methodLink RX2 87 yX2_comeDown, Cond.instanceMethod yX2_comeDown, Cond.selects RX2 yX2_comeDown yX2_comeDown, Cond.code yX2_comeDown cX2_comeDown 4 none, Cond.methodLink RX2 106 yX2_pour, Cond.instanceMethod yX2_pour, Cond.selects RX2 yX2_pour yX2_pour, Cond.code yX2_pour cX2_pour 3 none, Cond.methodLink RX2 119 Lib.Math.min.name, Cond.static Lib.Math.min.name, Cond.initialized "java/lang/Math", Cond.code Lib.Math.min.name Lib.Math.min.code 2 (some .int), Cond.static yX5_isStreet, Cond.code yX5_isStreet cX5_isStreet 1 (some .boolean), Cond.methodLink RX2 91 yX2_work, Cond.instanceMethod yX2_work, Cond.selects RX2 yX2_work yX2_work, Cond.code yX2_work cX2_work 4 none]
def wsX5_gain_r3 : List Cond := [Cond.methodLink RX2 68 yX2_placeOf, Cond.instanceMethod yX2_placeOf, Cond.selects RX2 yX2_placeOf yX2_placeOf, Cond.code yX2_placeOf cX2_placeOf 2 (some .int), Cond.methodLink RX2 55 yX4_hasBroom, Cond.instanceMethod yX4_hasBroom, Cond.selects RX4 yX4_hasBroom yX4_hasBroom, Cond.initialized RX4, Cond.code yX4_hasBroom cX4_hasBroom 2 (some .boolean), Cond.fieldLink RX4 30 "DustVote$Told" "brooms" "I", Cond.methodLink RX2 109 yX4_strengthOf, Cond.instanceMethod yX4_strengthOf, Cond.selects RX4 yX4_strengthOf yX4_strengthOf, Cond.code yX4_strengthOf cX4_strengthOf 2 (some .int), Cond.fieldLink RX4 18 "DustVote$Told" "strength" "[I", Cond.methodLink RX2 112 yX2_worksAs, Cond.instanceMethod yX2_worksAs, Cond.selects RX2 yX2_worksAs yX2_worksAs, Cond.code yX2_worksAs cX2_worksAs 3 (some .int), Cond.methodLink RX2 71 yX4_kindOf, Cond.instanceMethod yX4_kindOf, Cond.selects RX4 yX4_kindOf yX4_kindOf, Cond.code yX4_kindOf cX4_kindOf 2 (some .int), Cond.fieldLink RX4 21 "DustVote$Told" "kind" "[I"]
def wsX5_gain_r4 : List Cond := [Cond.methodLink RX2 74 yX2_isBent, Cond.instanceMethod yX2_isBent, Cond.selects RX2 yX2_isBent yX2_isBent, Cond.code yX2_isBent cX2_isBent 2 (some .boolean), Cond.methodLink RX2 115 yX2_sweep, Cond.instanceMethod yX2_sweep, Cond.selects RX2 yX2_sweep yX2_sweep, Cond.code yX2_sweep cX2_sweep 4 (some .int), Cond.methodLink RX2 80 yX2_rightOf, Cond.static yX2_rightOf, Cond.code yX2_rightOf cX2_rightOf 1 (some .int), Cond.methodLink RX2 77 yX2_leftOf, Cond.static yX2_leftOf, Cond.code yX2_leftOf cX2_leftOf 1 (some .int), Cond.methodLink RX2 94 yX2_spread, Cond.instanceMethod yX2_spread, Cond.selects RX2 yX2_spread yX2_spread, Cond.code yX2_spread cX2_spread 2 none, Cond.fieldLink RX2 18 "DustVote$Moment" "deep" "[Z", Cond.methodLink RX5 110 yX2_placeOf, Cond.methodLink RX5 97 yX2_dustIn, Cond.instanceMethod yX2_dustIn, Cond.selects RX2 yX2_dustIn yX2_dustIn, Cond.code yX2_dustIn cX2_dustIn 2 (some .int)]
def wsX5_gain : List Cond := .code yX5_gain cX5_gain 5 (some .int) :: ((wsX5_gain_r1 ++ (wsX5_gain_r2 ++ (wsX5_gain_r3 ++ wsX5_gain_r4))) ++ wsX50 ++ wsX20 ++ wsX40)
def wsX5_isAtRest_r1 : List Cond := [Cond.methodLink RX5 268 yX5_gain, Cond.instanceMethod yX5_gain, Cond.selects RX5 yX5_gain yX5_gain, Cond.initialized RX5, Cond.code yX5_gain cX5_gain 5 (some .int), Cond.methodLink RX5 166 yX5_behind, Cond.instanceMethod yX5_behind, Cond.selects RX5 yX5_behind yX5_behind, Cond.code yX5_behind cX5_behind 5 (some (.object "DustVote$Moment")), Cond.methodLink RX5 173 yX5_fromNow, Cond.instanceMethod yX5_fromNow, Cond.selects RX5 yX5_fromNow yX5_fromNow, Cond.code yX5_fromNow cX5_fromNow 1 (some (.object "DustVote$Moment")), Cond.fieldLink RX5 32 "DustVote" "trial" "LDustVote$Moment;", Cond.fieldLink RX5 28 "DustVote" "now" "LDustVote$Moment;", Cond.methodLink RX5 247 yX2_copy, Cond.instanceMethod yX2_copy, Cond.selects RX2 yX2_copy yX2_copy, Cond.initialized RX2, Cond.code yX2_copy cX2_copy 2 none, Cond.fieldLink RX2 9 "DustVote$Moment" "dust" "[I", Cond.methodLink RX2 42 arraycopyName, Cond.native arraycopyName, Cond.static arraycopyName]
def wsX5_isAtRest_r2 : List Cond := [Cond.initialized "java/lang/System", Cond.fieldLink RX2 15 "DustVote$Moment" "place" "[I", Cond.fieldLink RX2 22 "DustVote$Moment" "given" "Z", Cond.fieldLink RX2 26 "DustVote$Moment" "bent" "I", Cond.fieldLink RX2 30 "DustVote$Moment" "dawns" "I", Cond.methodLink RX5 129 yX2_passDawn, Cond.instanceMethod yX2_passDawn, Cond.selects RX2 yX2_passDawn yX2_passDawn, Cond.code yX2_passDawn cX2_passDawn 4 none, Cond.fieldLink RX2 33 "DustVote$Moment" "told" "LDustVote$Told;", Cond.methodLink RX2 87 yX2_comeDown, Cond.instanceMethod yX2_comeDown, Cond.selects RX2 yX2_comeDown yX2_comeDown, Cond.code yX2_comeDown cX2_comeDown 4 none, Cond.methodLink RX2 106 yX2_pour, Cond.instanceMethod yX2_pour, Cond.selects RX2 yX2_pour yX2_pour, Cond.code yX2_pour cX2_pour 3 none, Cond.methodLink RX2 119 Lib.Math.min.name, Cond.static Lib.Math.min.name, Cond.initialized "java/lang/Math", Cond.code Lib.Math.min.name Lib.Math.min.code 2 (some .int), Cond.static yX5_isStreet, Cond.code yX5_isStreet cX5_isStreet 1 (some .boolean)]
def wsX5_isAtRest_r3 : List Cond := [Cond.methodLink RX2 91 yX2_work, Cond.instanceMethod yX2_work, Cond.selects RX2 yX2_work yX2_work, Cond.code yX2_work cX2_work 4 none, Cond.methodLink RX2 68 yX2_placeOf, Cond.instanceMethod yX2_placeOf, Cond.selects RX2 yX2_placeOf yX2_placeOf, Cond.code yX2_placeOf cX2_placeOf 2 (some .int), Cond.methodLink RX2 55 yX4_hasBroom, Cond.instanceMethod yX4_hasBroom, Cond.selects RX4 yX4_hasBroom yX4_hasBroom, Cond.initialized RX4, Cond.code yX4_hasBroom cX4_hasBroom 2 (some .boolean), Cond.fieldLink RX4 30 "DustVote$Told" "brooms" "I", Cond.methodLink RX2 109 yX4_strengthOf, Cond.instanceMethod yX4_strengthOf, Cond.selects RX4 yX4_strengthOf yX4_strengthOf, Cond.code yX4_strengthOf cX4_strengthOf 2 (some .int), Cond.fieldLink RX4 18 "DustVote$Told" "strength" "[I", Cond.methodLink RX2 112 yX2_worksAs, Cond.instanceMethod yX2_worksAs, Cond.selects RX2 yX2_worksAs yX2_worksAs, Cond.code yX2_worksAs cX2_worksAs 3 (some .int), Cond.methodLink RX2 71 yX4_kindOf]
def wsX5_isAtRest_r4 : List Cond := [Cond.instanceMethod yX4_kindOf, Cond.selects RX4 yX4_kindOf yX4_kindOf, Cond.code yX4_kindOf cX4_kindOf 2 (some .int), Cond.fieldLink RX4 21 "DustVote$Told" "kind" "[I", Cond.methodLink RX2 74 yX2_isBent, Cond.instanceMethod yX2_isBent, Cond.selects RX2 yX2_isBent yX2_isBent, Cond.code yX2_isBent cX2_isBent 2 (some .boolean), Cond.methodLink RX2 115 yX2_sweep, Cond.instanceMethod yX2_sweep, Cond.selects RX2 yX2_sweep yX2_sweep, Cond.code yX2_sweep cX2_sweep 4 (some .int), Cond.methodLink RX2 80 yX2_rightOf, Cond.static yX2_rightOf, Cond.code yX2_rightOf cX2_rightOf 1 (some .int), Cond.methodLink RX2 77 yX2_leftOf, Cond.static yX2_leftOf, Cond.code yX2_leftOf cX2_leftOf 1 (some .int), Cond.methodLink RX2 94 yX2_spread, Cond.instanceMethod yX2_spread, Cond.selects RX2 yX2_spread yX2_spread, Cond.code yX2_spread cX2_spread 2 none, Cond.fieldLink RX2 18 "DustVote$Moment" "deep" "[Z", Cond.methodLink RX5 110 yX2_placeOf]
def wsX5_isAtRest_r5 : List Cond := [Cond.methodLink RX5 97 yX2_dustIn, Cond.instanceMethod yX2_dustIn, Cond.selects RX2 yX2_dustIn yX2_dustIn, Cond.code yX2_dustIn cX2_dustIn 2 (some .int)]
def wsX5_isAtRest : List Cond := .code yX5_isAtRest cX5_isAtRest 4 (some .boolean) :: ((wsX5_isAtRest_r1 ++ (wsX5_isAtRest_r2 ++ (wsX5_isAtRest_r3 ++ (wsX5_isAtRest_r4 ++ wsX5_isAtRest_r5)))) ++ wsX50 ++ wsX20 ++ wsX40)
def wsX5_rests_r1 : List Cond := [Cond.fieldLink RX5 19 "DustVote" "told" "LDustVote$Told;", Cond.methodLink RX5 107 yX4_hasBroom, Cond.instanceMethod yX4_hasBroom, Cond.selects RX4 yX4_hasBroom yX4_hasBroom, Cond.initialized RX4, Cond.code yX4_hasBroom cX4_hasBroom 2 (some .boolean), Cond.fieldLink RX4 30 "DustVote$Told" "brooms" "I", Cond.methodLink RX5 61 yX5_within, Cond.static yX5_within, Cond.initialized RX5, Cond.code yX5_within cX5_within 3 (some .boolean), Cond.methodLink RX5 221 yX5_isAtRest, Cond.instanceMethod yX5_isAtRest, Cond.selects RX5 yX5_isAtRest yX5_isAtRest, Cond.code yX5_isAtRest cX5_isAtRest 4 (some .boolean), Cond.methodLink RX5 268 yX5_gain, Cond.instanceMethod yX5_gain, Cond.selects RX5 yX5_gain yX5_gain, Cond.code yX5_gain cX5_gain 5 (some .int), Cond.methodLink RX5 166 yX5_behind, Cond.instanceMethod yX5_behind, Cond.selects RX5 yX5_behind yX5_behind, Cond.code yX5_behind cX5_behind 5 (some (.object "DustVote$Moment")), Cond.methodLink RX5 173 yX5_fromNow]
def wsX5_rests_r2 : List Cond := [Cond.instanceMethod yX5_fromNow, Cond.selects RX5 yX5_fromNow yX5_fromNow, Cond.code yX5_fromNow cX5_fromNow 1 (some (.object "DustVote$Moment")), Cond.fieldLink RX5 32 "DustVote" "trial" "LDustVote$Moment;", Cond.fieldLink RX5 28 "DustVote" "now" "LDustVote$Moment;", Cond.methodLink RX5 247 yX2_copy, Cond.instanceMethod yX2_copy, Cond.selects RX2 yX2_copy yX2_copy, Cond.initialized RX2, Cond.code yX2_copy cX2_copy 2 none, Cond.fieldLink RX2 9 "DustVote$Moment" "dust" "[I", Cond.methodLink RX2 42 arraycopyName, Cond.native arraycopyName, Cond.static arraycopyName, Cond.initialized "java/lang/System", Cond.fieldLink RX2 15 "DustVote$Moment" "place" "[I", Cond.fieldLink RX2 22 "DustVote$Moment" "given" "Z", Cond.fieldLink RX2 26 "DustVote$Moment" "bent" "I", Cond.fieldLink RX2 30 "DustVote$Moment" "dawns" "I", Cond.methodLink RX5 129 yX2_passDawn, Cond.instanceMethod yX2_passDawn, Cond.selects RX2 yX2_passDawn yX2_passDawn, Cond.code yX2_passDawn cX2_passDawn 4 none, Cond.fieldLink RX2 33 "DustVote$Moment" "told" "LDustVote$Told;"]
def wsX5_rests_r3 : List Cond := [Cond.methodLink RX2 87 yX2_comeDown, Cond.instanceMethod yX2_comeDown, Cond.selects RX2 yX2_comeDown yX2_comeDown, Cond.code yX2_comeDown cX2_comeDown 4 none, Cond.methodLink RX2 106 yX2_pour, Cond.instanceMethod yX2_pour, Cond.selects RX2 yX2_pour yX2_pour, Cond.code yX2_pour cX2_pour 3 none, Cond.methodLink RX2 119 Lib.Math.min.name, Cond.static Lib.Math.min.name, Cond.initialized "java/lang/Math", Cond.code Lib.Math.min.name Lib.Math.min.code 2 (some .int), Cond.static yX5_isStreet, Cond.code yX5_isStreet cX5_isStreet 1 (some .boolean), Cond.methodLink RX2 91 yX2_work, Cond.instanceMethod yX2_work, Cond.selects RX2 yX2_work yX2_work, Cond.code yX2_work cX2_work 4 none, Cond.methodLink RX2 68 yX2_placeOf, Cond.instanceMethod yX2_placeOf, Cond.selects RX2 yX2_placeOf yX2_placeOf, Cond.code yX2_placeOf cX2_placeOf 2 (some .int), Cond.methodLink RX2 55 yX4_hasBroom, Cond.methodLink RX2 109 yX4_strengthOf]
def wsX5_rests_r4 : List Cond := [Cond.instanceMethod yX4_strengthOf, Cond.selects RX4 yX4_strengthOf yX4_strengthOf, Cond.code yX4_strengthOf cX4_strengthOf 2 (some .int), Cond.fieldLink RX4 18 "DustVote$Told" "strength" "[I", Cond.methodLink RX2 112 yX2_worksAs, Cond.instanceMethod yX2_worksAs, Cond.selects RX2 yX2_worksAs yX2_worksAs, Cond.code yX2_worksAs cX2_worksAs 3 (some .int), Cond.methodLink RX2 71 yX4_kindOf, Cond.instanceMethod yX4_kindOf, Cond.selects RX4 yX4_kindOf yX4_kindOf, Cond.code yX4_kindOf cX4_kindOf 2 (some .int), Cond.fieldLink RX4 21 "DustVote$Told" "kind" "[I", Cond.methodLink RX2 74 yX2_isBent, Cond.instanceMethod yX2_isBent, Cond.selects RX2 yX2_isBent yX2_isBent, Cond.code yX2_isBent cX2_isBent 2 (some .boolean), Cond.methodLink RX2 115 yX2_sweep, Cond.instanceMethod yX2_sweep, Cond.selects RX2 yX2_sweep yX2_sweep, Cond.code yX2_sweep cX2_sweep 4 (some .int), Cond.methodLink RX2 80 yX2_rightOf, Cond.static yX2_rightOf, Cond.code yX2_rightOf cX2_rightOf 1 (some .int)]
def wsX5_rests_r5 : List Cond := [Cond.methodLink RX2 77 yX2_leftOf, Cond.static yX2_leftOf, Cond.code yX2_leftOf cX2_leftOf 1 (some .int), Cond.methodLink RX2 94 yX2_spread, Cond.instanceMethod yX2_spread, Cond.selects RX2 yX2_spread yX2_spread, Cond.code yX2_spread cX2_spread 2 none, Cond.fieldLink RX2 18 "DustVote$Moment" "deep" "[Z", Cond.methodLink RX5 110 yX2_placeOf, Cond.methodLink RX5 97 yX2_dustIn, Cond.instanceMethod yX2_dustIn, Cond.selects RX2 yX2_dustIn yX2_dustIn, Cond.code yX2_dustIn cX2_dustIn 2 (some .int)]
def wsX5_rests : List Cond := .code yX5_rests cX5_rests 9 (some .int) :: ((wsX5_rests_r1 ++ (wsX5_rests_r2 ++ (wsX5_rests_r3 ++ (wsX5_rests_r4 ++ wsX5_rests_r5)))) ++ wsX50 ++ wsX40 ++ wsX20)
def wsX5_isDeepBehind_r1 : List Cond := [Cond.methodLink RX5 173 yX5_fromNow, Cond.instanceMethod yX5_fromNow, Cond.selects RX5 yX5_fromNow yX5_fromNow, Cond.initialized RX5, Cond.code yX5_fromNow cX5_fromNow 1 (some (.object "DustVote$Moment")), Cond.fieldLink RX5 32 "DustVote" "trial" "LDustVote$Moment;", Cond.fieldLink RX5 28 "DustVote" "now" "LDustVote$Moment;", Cond.methodLink RX5 247 yX2_copy, Cond.instanceMethod yX2_copy, Cond.selects RX2 yX2_copy yX2_copy, Cond.initialized RX2, Cond.code yX2_copy cX2_copy 2 none, Cond.fieldLink RX2 9 "DustVote$Moment" "dust" "[I", Cond.methodLink RX2 42 arraycopyName, Cond.native arraycopyName, Cond.static arraycopyName, Cond.initialized "java/lang/System", Cond.fieldLink RX2 15 "DustVote$Moment" "place" "[I", Cond.fieldLink RX2 22 "DustVote$Moment" "given" "Z", Cond.fieldLink RX2 26 "DustVote$Moment" "bent" "I", Cond.fieldLink RX2 30 "DustVote$Moment" "dawns" "I", Cond.methodLink RX5 129 yX2_passDawn, Cond.instanceMethod yX2_passDawn, Cond.selects RX2 yX2_passDawn yX2_passDawn]
def wsX5_isDeepBehind_r2 : List Cond := [Cond.code yX2_passDawn cX2_passDawn 4 none, Cond.fieldLink RX2 33 "DustVote$Moment" "told" "LDustVote$Told;", Cond.methodLink RX2 87 yX2_comeDown, Cond.instanceMethod yX2_comeDown, Cond.selects RX2 yX2_comeDown yX2_comeDown, Cond.code yX2_comeDown cX2_comeDown 4 none, Cond.methodLink RX2 106 yX2_pour, Cond.instanceMethod yX2_pour, Cond.selects RX2 yX2_pour yX2_pour, Cond.code yX2_pour cX2_pour 3 none, Cond.methodLink RX2 119 Lib.Math.min.name, Cond.static Lib.Math.min.name, Cond.initialized "java/lang/Math", Cond.code Lib.Math.min.name Lib.Math.min.code 2 (some .int), Cond.static yX5_isStreet, Cond.code yX5_isStreet cX5_isStreet 1 (some .boolean), Cond.methodLink RX2 91 yX2_work, Cond.instanceMethod yX2_work, Cond.selects RX2 yX2_work yX2_work, Cond.code yX2_work cX2_work 4 none, Cond.methodLink RX2 68 yX2_placeOf, Cond.instanceMethod yX2_placeOf, Cond.selects RX2 yX2_placeOf yX2_placeOf, Cond.code yX2_placeOf cX2_placeOf 2 (some .int)]
def wsX5_isDeepBehind_r3 : List Cond := [Cond.methodLink RX2 55 yX4_hasBroom, Cond.instanceMethod yX4_hasBroom, Cond.selects RX4 yX4_hasBroom yX4_hasBroom, Cond.initialized RX4, Cond.code yX4_hasBroom cX4_hasBroom 2 (some .boolean), Cond.fieldLink RX4 30 "DustVote$Told" "brooms" "I", Cond.methodLink RX2 109 yX4_strengthOf, Cond.instanceMethod yX4_strengthOf, Cond.selects RX4 yX4_strengthOf yX4_strengthOf, Cond.code yX4_strengthOf cX4_strengthOf 2 (some .int), Cond.fieldLink RX4 18 "DustVote$Told" "strength" "[I", Cond.methodLink RX2 112 yX2_worksAs, Cond.instanceMethod yX2_worksAs, Cond.selects RX2 yX2_worksAs yX2_worksAs, Cond.code yX2_worksAs cX2_worksAs 3 (some .int), Cond.methodLink RX2 71 yX4_kindOf, Cond.instanceMethod yX4_kindOf, Cond.selects RX4 yX4_kindOf yX4_kindOf, Cond.code yX4_kindOf cX4_kindOf 2 (some .int), Cond.fieldLink RX4 21 "DustVote$Told" "kind" "[I", Cond.methodLink RX2 74 yX2_isBent, Cond.instanceMethod yX2_isBent, Cond.selects RX2 yX2_isBent yX2_isBent, Cond.code yX2_isBent cX2_isBent 2 (some .boolean)]
def wsX5_isDeepBehind_r4 : List Cond := [Cond.methodLink RX2 115 yX2_sweep, Cond.instanceMethod yX2_sweep, Cond.selects RX2 yX2_sweep yX2_sweep, Cond.code yX2_sweep cX2_sweep 4 (some .int), Cond.methodLink RX2 80 yX2_rightOf, Cond.static yX2_rightOf, Cond.code yX2_rightOf cX2_rightOf 1 (some .int), Cond.methodLink RX2 77 yX2_leftOf, Cond.static yX2_leftOf, Cond.code yX2_leftOf cX2_leftOf 1 (some .int), Cond.methodLink RX2 94 yX2_spread, Cond.instanceMethod yX2_spread, Cond.selects RX2 yX2_spread yX2_spread, Cond.code yX2_spread cX2_spread 2 none, Cond.fieldLink RX2 18 "DustVote$Moment" "deep" "[Z", Cond.methodLink RX5 101 yX2_isDeep, Cond.instanceMethod yX2_isDeep, Cond.selects RX2 yX2_isDeep yX2_isDeep, Cond.code yX2_isDeep cX2_isDeep 2 (some .boolean), Cond.methodLink RX2 58 yX2_dustIn, Cond.instanceMethod yX2_dustIn, Cond.selects RX2 yX2_dustIn yX2_dustIn, Cond.code yX2_dustIn cX2_dustIn 2 (some .int)]
def wsX5_isDeepBehind : List Cond := .code yX5_isDeepBehind cX5_isDeepBehind 6 (some .boolean) :: ((wsX5_isDeepBehind_r1 ++ (wsX5_isDeepBehind_r2 ++ (wsX5_isDeepBehind_r3 ++ wsX5_isDeepBehind_r4))) ++ wsX50 ++ wsX20 ++ wsX40)
def wsX5_twice_r1 : List Cond := [Cond.methodLink RX5 93 yX5_isStreet, Cond.static yX5_isStreet, Cond.initialized RX5, Cond.code yX5_isStreet cX5_isStreet 1 (some .boolean), Cond.methodLink RX5 61 yX5_within, Cond.static yX5_within, Cond.code yX5_within cX5_within 3 (some .boolean), Cond.methodLink RX5 224 yX5_isDeepBehind, Cond.instanceMethod yX5_isDeepBehind, Cond.selects RX5 yX5_isDeepBehind yX5_isDeepBehind, Cond.code yX5_isDeepBehind cX5_isDeepBehind 6 (some .boolean), Cond.methodLink RX5 173 yX5_fromNow, Cond.instanceMethod yX5_fromNow, Cond.selects RX5 yX5_fromNow yX5_fromNow, Cond.code yX5_fromNow cX5_fromNow 1 (some (.object "DustVote$Moment")), Cond.fieldLink RX5 32 "DustVote" "trial" "LDustVote$Moment;", Cond.fieldLink RX5 28 "DustVote" "now" "LDustVote$Moment;", Cond.methodLink RX5 247 yX2_copy, Cond.instanceMethod yX2_copy, Cond.selects RX2 yX2_copy yX2_copy, Cond.initialized RX2, Cond.code yX2_copy cX2_copy 2 none, Cond.fieldLink RX2 9 "DustVote$Moment" "dust" "[I", Cond.methodLink RX2 42 arraycopyName]
def wsX5_twice_r2 : List Cond := [Cond.native arraycopyName, Cond.static arraycopyName, Cond.initialized "java/lang/System", Cond.fieldLink RX2 15 "DustVote$Moment" "place" "[I", Cond.fieldLink RX2 22 "DustVote$Moment" "given" "Z", Cond.fieldLink RX2 26 "DustVote$Moment" "bent" "I", Cond.fieldLink RX2 30 "DustVote$Moment" "dawns" "I", Cond.methodLink RX5 129 yX2_passDawn, Cond.instanceMethod yX2_passDawn, Cond.selects RX2 yX2_passDawn yX2_passDawn, Cond.code yX2_passDawn cX2_passDawn 4 none, Cond.fieldLink RX2 33 "DustVote$Moment" "told" "LDustVote$Told;", Cond.methodLink RX2 87 yX2_comeDown, Cond.instanceMethod yX2_comeDown, Cond.selects RX2 yX2_comeDown yX2_comeDown, Cond.code yX2_comeDown cX2_comeDown 4 none, Cond.methodLink RX2 106 yX2_pour, Cond.instanceMethod yX2_pour, Cond.selects RX2 yX2_pour yX2_pour, Cond.code yX2_pour cX2_pour 3 none, Cond.methodLink RX2 119 Lib.Math.min.name, Cond.static Lib.Math.min.name, Cond.initialized "java/lang/Math", Cond.code Lib.Math.min.name Lib.Math.min.code 2 (some .int)]
def wsX5_twice_r3 : List Cond := [Cond.methodLink RX2 91 yX2_work, Cond.instanceMethod yX2_work, Cond.selects RX2 yX2_work yX2_work, Cond.code yX2_work cX2_work 4 none, Cond.methodLink RX2 68 yX2_placeOf, Cond.instanceMethod yX2_placeOf, Cond.selects RX2 yX2_placeOf yX2_placeOf, Cond.code yX2_placeOf cX2_placeOf 2 (some .int), Cond.methodLink RX2 55 yX4_hasBroom, Cond.instanceMethod yX4_hasBroom, Cond.selects RX4 yX4_hasBroom yX4_hasBroom, Cond.initialized RX4, Cond.code yX4_hasBroom cX4_hasBroom 2 (some .boolean), Cond.fieldLink RX4 30 "DustVote$Told" "brooms" "I", Cond.methodLink RX2 109 yX4_strengthOf, Cond.instanceMethod yX4_strengthOf, Cond.selects RX4 yX4_strengthOf yX4_strengthOf, Cond.code yX4_strengthOf cX4_strengthOf 2 (some .int), Cond.fieldLink RX4 18 "DustVote$Told" "strength" "[I", Cond.methodLink RX2 112 yX2_worksAs, Cond.instanceMethod yX2_worksAs, Cond.selects RX2 yX2_worksAs yX2_worksAs, Cond.code yX2_worksAs cX2_worksAs 3 (some .int), Cond.methodLink RX2 71 yX4_kindOf]
def wsX5_twice_r4 : List Cond := [Cond.instanceMethod yX4_kindOf, Cond.selects RX4 yX4_kindOf yX4_kindOf, Cond.code yX4_kindOf cX4_kindOf 2 (some .int), Cond.fieldLink RX4 21 "DustVote$Told" "kind" "[I", Cond.methodLink RX2 74 yX2_isBent, Cond.instanceMethod yX2_isBent, Cond.selects RX2 yX2_isBent yX2_isBent, Cond.code yX2_isBent cX2_isBent 2 (some .boolean), Cond.methodLink RX2 115 yX2_sweep, Cond.instanceMethod yX2_sweep, Cond.selects RX2 yX2_sweep yX2_sweep, Cond.code yX2_sweep cX2_sweep 4 (some .int), Cond.methodLink RX2 80 yX2_rightOf, Cond.static yX2_rightOf, Cond.code yX2_rightOf cX2_rightOf 1 (some .int), Cond.methodLink RX2 77 yX2_leftOf, Cond.static yX2_leftOf, Cond.code yX2_leftOf cX2_leftOf 1 (some .int), Cond.methodLink RX2 94 yX2_spread, Cond.instanceMethod yX2_spread, Cond.selects RX2 yX2_spread yX2_spread, Cond.code yX2_spread cX2_spread 2 none, Cond.fieldLink RX2 18 "DustVote$Moment" "deep" "[Z", Cond.methodLink RX5 101 yX2_isDeep]
def wsX5_twice_r5 : List Cond := [Cond.instanceMethod yX2_isDeep, Cond.selects RX2 yX2_isDeep yX2_isDeep, Cond.code yX2_isDeep cX2_isDeep 2 (some .boolean), Cond.methodLink RX2 58 yX2_dustIn, Cond.instanceMethod yX2_dustIn, Cond.selects RX2 yX2_dustIn yX2_dustIn, Cond.code yX2_dustIn cX2_dustIn 2 (some .int), Cond.methodLink RX5 152 yJ6_bitCount_0f7a4, Cond.static yJ6_bitCount_0f7a4, Cond.initialized RJ6, Cond.code yJ6_bitCount_0f7a4 cJ6_bitCount_0f7a4 1 (some .int), Cond.constant RJ6 265 (1431655765), Cond.constant RJ6 266 (858993459), Cond.constant RJ6 267 (252645135), Cond.methodLink RX5 187 yX5_power, Cond.static yX5_power, Cond.code yX5_power cX5_power 5 (some .long), Cond.methodLink RX5 217 yX5_fraction, Cond.static yX5_fraction, Cond.code yX5_fraction cX5_fraction 7 (some .int), Cond.methodLink RX5 272 Lib.MathLoose.abs_long.x, Cond.static Lib.MathLoose.abs_long.x, Cond.code Lib.MathLoose.abs_long.x Lib.MathLoose.abs_long.code 2 (some .long), Cond.methodLink RX5 191 Lib.MathLoose.max_long.x]
def wsX5_twice_r6 : List Cond := [Cond.static Lib.MathLoose.max_long.x, Cond.code Lib.MathLoose.max_long.x Lib.MathLoose.max_long.code 4 (some .long), Cond.methodLink RX5 276 yX5_commonDivisor, Cond.static yX5_commonDivisor, Cond.code yX5_commonDivisor cX5_commonDivisor 11 (some .long)]
def wsX5_twice : List Cond := .code yX5_twice cX5_twice 9 (some .int) :: ((wsX5_twice_r1 ++ (wsX5_twice_r2 ++ (wsX5_twice_r3 ++ (wsX5_twice_r4 ++ (wsX5_twice_r5 ++ wsX5_twice_r6))))) ++ wsX50 ++ wsX20 ++ wsX40)
def wsX5_seed : List Cond := .code yX5_seed cX5_seed 5 (some .long) :: ([.fieldLink RX5 57 "DustVote" "chance" "J"] ++ wsX50)
def wsX5_happen_r1 : List Cond := [Cond.methodLink RX5 250 yX5_tryStep, Cond.instanceMethod yX5_tryStep, Cond.selects RX5 yX5_tryStep yX5_tryStep, Cond.initialized RX5, Cond.code yX5_tryStep cX5_tryStep 4 (some .boolean), Cond.fieldLink RX5 19 "DustVote" "told" "LDustVote$Told;", Cond.methodLink RX5 107 yX4_hasBroom, Cond.instanceMethod yX4_hasBroom, Cond.selects RX4 yX4_hasBroom yX4_hasBroom, Cond.initialized RX4, Cond.code yX4_hasBroom cX4_hasBroom 2 (some .boolean), Cond.fieldLink RX4 30 "DustVote$Told" "brooms" "I", Cond.methodLink RX5 61 yX5_within, Cond.static yX5_within, Cond.code yX5_within cX5_within 3 (some .boolean), Cond.methodLink RX5 136 yX2_step, Cond.instanceMethod yX2_step, Cond.selects RX2 yX2_step yX2_step, Cond.initialized RX2, Cond.code yX2_step cX2_step 4 none, Cond.methodLink RX2 68 yX2_placeOf, Cond.instanceMethod yX2_placeOf, Cond.selects RX2 yX2_placeOf yX2_placeOf, Cond.code yX2_placeOf cX2_placeOf 2 (some .int)]
def wsX5_happen_r2 : List Cond := [Cond.fieldLink RX2 33 "DustVote$Moment" "told" "LDustVote$Told;", Cond.fieldLink RX2 15 "DustVote$Moment" "place" "[I", Cond.methodLink RX2 55 yX4_hasBroom, Cond.methodLink RX2 77 yX2_leftOf, Cond.static yX2_leftOf, Cond.code yX2_leftOf cX2_leftOf 1 (some .int), Cond.methodLink RX2 80 yX2_rightOf, Cond.static yX2_rightOf, Cond.code yX2_rightOf cX2_rightOf 1 (some .int), Cond.methodLink RX2 83 yX2_goTo, Cond.instanceMethod yX2_goTo, Cond.selects RX2 yX2_goTo yX2_goTo, Cond.code yX2_goTo cX2_goTo 3 none, Cond.methodLink RX5 258 yX5_tryVote, Cond.instanceMethod yX5_tryVote, Cond.selects RX5 yX5_tryVote yX5_tryVote, Cond.code yX5_tryVote cX5_tryVote 2 (some .boolean), Cond.methodLink RX5 139 yX2_turnVote, Cond.instanceMethod yX2_turnVote, Cond.selects RX2 yX2_turnVote yX2_turnVote, Cond.code yX2_turnVote cX2_turnVote 1 none, Cond.fieldLink RX2 22 "DustVote$Moment" "given" "Z", Cond.methodLink RX5 265 yX5_tryEmpty, Cond.instanceMethod yX5_tryEmpty]
def wsX5_happen_r3 : List Cond := [Cond.selects RX5 yX5_tryEmpty yX5_tryEmpty, Cond.code yX5_tryEmpty cX5_tryEmpty 3 (some .boolean), Cond.methodLink RX5 93 yX5_isStreet, Cond.static yX5_isStreet, Cond.code yX5_isStreet cX5_isStreet 1 (some .boolean), Cond.methodLink RX5 97 yX2_dustIn, Cond.instanceMethod yX2_dustIn, Cond.selects RX2 yX2_dustIn yX2_dustIn, Cond.code yX2_dustIn cX2_dustIn 2 (some .int), Cond.fieldLink RX2 9 "DustVote$Moment" "dust" "[I", Cond.methodLink RX5 157 yX2_empty, Cond.instanceMethod yX2_empty, Cond.selects RX2 yX2_empty yX2_empty, Cond.code yX2_empty cX2_empty 2 none, Cond.methodLink RX5 254 yX5_tryDawn, Cond.instanceMethod yX5_tryDawn, Cond.selects RX5 yX5_tryDawn yX5_tryDawn, Cond.code yX5_tryDawn cX5_tryDawn 2 (some .boolean), Cond.methodLink RX5 129 yX2_passDawn, Cond.instanceMethod yX2_passDawn, Cond.selects RX2 yX2_passDawn yX2_passDawn, Cond.code yX2_passDawn cX2_passDawn 4 none, Cond.fieldLink RX2 30 "DustVote$Moment" "dawns" "I", Cond.methodLink RX2 87 yX2_comeDown]
def wsX5_happen_r4 : List Cond := [Cond.instanceMethod yX2_comeDown, Cond.selects RX2 yX2_comeDown yX2_comeDown, Cond.code yX2_comeDown cX2_comeDown 4 none, Cond.methodLink RX2 106 yX2_pour, Cond.instanceMethod yX2_pour, Cond.selects RX2 yX2_pour yX2_pour, Cond.code yX2_pour cX2_pour 3 none, Cond.methodLink RX2 119 Lib.Math.min.name, Cond.static Lib.Math.min.name, Cond.initialized "java/lang/Math", Cond.code Lib.Math.min.name Lib.Math.min.code 2 (some .int), Cond.methodLink RX2 91 yX2_work, Cond.instanceMethod yX2_work, Cond.selects RX2 yX2_work yX2_work, Cond.code yX2_work cX2_work 4 none, Cond.methodLink RX2 109 yX4_strengthOf, Cond.instanceMethod yX4_strengthOf, Cond.selects RX4 yX4_strengthOf yX4_strengthOf, Cond.code yX4_strengthOf cX4_strengthOf 2 (some .int), Cond.fieldLink RX4 18 "DustVote$Told" "strength" "[I", Cond.methodLink RX2 112 yX2_worksAs, Cond.instanceMethod yX2_worksAs, Cond.selects RX2 yX2_worksAs yX2_worksAs, Cond.code yX2_worksAs cX2_worksAs 3 (some .int)]
def wsX5_happen_r5 : List Cond := [Cond.methodLink RX2 71 yX4_kindOf, Cond.instanceMethod yX4_kindOf, Cond.selects RX4 yX4_kindOf yX4_kindOf, Cond.code yX4_kindOf cX4_kindOf 2 (some .int), Cond.fieldLink RX4 21 "DustVote$Told" "kind" "[I", Cond.methodLink RX2 74 yX2_isBent, Cond.instanceMethod yX2_isBent, Cond.selects RX2 yX2_isBent yX2_isBent, Cond.code yX2_isBent cX2_isBent 2 (some .boolean), Cond.fieldLink RX2 26 "DustVote$Moment" "bent" "I", Cond.methodLink RX2 115 yX2_sweep, Cond.instanceMethod yX2_sweep, Cond.selects RX2 yX2_sweep yX2_sweep, Cond.code yX2_sweep cX2_sweep 4 (some .int), Cond.methodLink RX2 94 yX2_spread, Cond.instanceMethod yX2_spread, Cond.selects RX2 yX2_spread yX2_spread, Cond.code yX2_spread cX2_spread 2 none, Cond.fieldLink RX2 18 "DustVote$Moment" "deep" "[Z"]
def wsX5_happen : List Cond := .code yX5_happen cX5_happen 3 none :: ((wsX5_happen_r1 ++ (wsX5_happen_r2 ++ (wsX5_happen_r3 ++ (wsX5_happen_r4 ++ wsX5_happen_r5)))) ++ wsX50 ++ wsX40 ++ wsX20)
def wsX5_years_r1 : List Cond := [Cond.fieldLink RX5 57 "DustVote" "chance" "J", Cond.constantLong RX5 227 (6364136223846793005), Cond.constantLong RX5 229 (1442695040888963407), Cond.constantLong RX5 231 (32), Cond.methodLink RX5 61 yX5_within, Cond.static yX5_within, Cond.initialized RX5, Cond.code yX5_within cX5_within 3 (some .boolean), Cond.methodLink RX5 173 yX5_fromNow, Cond.instanceMethod yX5_fromNow, Cond.selects RX5 yX5_fromNow yX5_fromNow, Cond.code yX5_fromNow cX5_fromNow 1 (some (.object "DustVote$Moment")), Cond.fieldLink RX5 32 "DustVote" "trial" "LDustVote$Moment;", Cond.fieldLink RX5 28 "DustVote" "now" "LDustVote$Moment;", Cond.methodLink RX5 247 yX2_copy, Cond.instanceMethod yX2_copy, Cond.selects RX2 yX2_copy yX2_copy, Cond.initialized RX2, Cond.code yX2_copy cX2_copy 2 none, Cond.fieldLink RX2 9 "DustVote$Moment" "dust" "[I", Cond.methodLink RX2 42 arraycopyName, Cond.native arraycopyName, Cond.static arraycopyName, Cond.initialized "java/lang/System"]
def wsX5_years_r2 : List Cond := [Cond.fieldLink RX2 15 "DustVote$Moment" "place" "[I", Cond.fieldLink RX2 22 "DustVote$Moment" "given" "Z", Cond.fieldLink RX2 26 "DustVote$Moment" "bent" "I", Cond.fieldLink RX2 30 "DustVote$Moment" "dawns" "I", Cond.methodLink RX5 233 yX5_happen, Cond.instanceMethod yX5_happen, Cond.selects RX5 yX5_happen yX5_happen, Cond.code yX5_happen cX5_happen 3 none, Cond.methodLink RX5 250 yX5_tryStep, Cond.instanceMethod yX5_tryStep, Cond.selects RX5 yX5_tryStep yX5_tryStep, Cond.code yX5_tryStep cX5_tryStep 4 (some .boolean), Cond.fieldLink RX5 19 "DustVote" "told" "LDustVote$Told;", Cond.methodLink RX5 107 yX4_hasBroom, Cond.instanceMethod yX4_hasBroom, Cond.selects RX4 yX4_hasBroom yX4_hasBroom, Cond.initialized RX4, Cond.code yX4_hasBroom cX4_hasBroom 2 (some .boolean), Cond.fieldLink RX4 30 "DustVote$Told" "brooms" "I", Cond.methodLink RX5 136 yX2_step, Cond.instanceMethod yX2_step, Cond.selects RX2 yX2_step yX2_step, Cond.code yX2_step cX2_step 4 none, Cond.methodLink RX2 68 yX2_placeOf]
def wsX5_years_r3 : List Cond := [Cond.instanceMethod yX2_placeOf, Cond.selects RX2 yX2_placeOf yX2_placeOf, Cond.code yX2_placeOf cX2_placeOf 2 (some .int), Cond.fieldLink RX2 33 "DustVote$Moment" "told" "LDustVote$Told;", Cond.methodLink RX2 55 yX4_hasBroom, Cond.methodLink RX2 77 yX2_leftOf, Cond.static yX2_leftOf, Cond.code yX2_leftOf cX2_leftOf 1 (some .int), Cond.methodLink RX2 80 yX2_rightOf, Cond.static yX2_rightOf, Cond.code yX2_rightOf cX2_rightOf 1 (some .int), Cond.methodLink RX2 83 yX2_goTo, Cond.instanceMethod yX2_goTo, Cond.selects RX2 yX2_goTo yX2_goTo, Cond.code yX2_goTo cX2_goTo 3 none, Cond.methodLink RX5 258 yX5_tryVote, Cond.instanceMethod yX5_tryVote, Cond.selects RX5 yX5_tryVote yX5_tryVote, Cond.code yX5_tryVote cX5_tryVote 2 (some .boolean), Cond.methodLink RX5 139 yX2_turnVote, Cond.instanceMethod yX2_turnVote, Cond.selects RX2 yX2_turnVote yX2_turnVote, Cond.code yX2_turnVote cX2_turnVote 1 none, Cond.methodLink RX5 265 yX5_tryEmpty]
def wsX5_years_r4 : List Cond := [Cond.instanceMethod yX5_tryEmpty, Cond.selects RX5 yX5_tryEmpty yX5_tryEmpty, Cond.code yX5_tryEmpty cX5_tryEmpty 3 (some .boolean), Cond.methodLink RX5 93 yX5_isStreet, Cond.static yX5_isStreet, Cond.code yX5_isStreet cX5_isStreet 1 (some .boolean), Cond.methodLink RX5 97 yX2_dustIn, Cond.instanceMethod yX2_dustIn, Cond.selects RX2 yX2_dustIn yX2_dustIn, Cond.code yX2_dustIn cX2_dustIn 2 (some .int), Cond.methodLink RX5 157 yX2_empty, Cond.instanceMethod yX2_empty, Cond.selects RX2 yX2_empty yX2_empty, Cond.code yX2_empty cX2_empty 2 none, Cond.methodLink RX5 254 yX5_tryDawn, Cond.instanceMethod yX5_tryDawn, Cond.selects RX5 yX5_tryDawn yX5_tryDawn, Cond.code yX5_tryDawn cX5_tryDawn 2 (some .boolean), Cond.methodLink RX5 129 yX2_passDawn, Cond.instanceMethod yX2_passDawn, Cond.selects RX2 yX2_passDawn yX2_passDawn, Cond.code yX2_passDawn cX2_passDawn 4 none, Cond.methodLink RX2 87 yX2_comeDown, Cond.instanceMethod yX2_comeDown]
def wsX5_years_r5 : List Cond := [Cond.selects RX2 yX2_comeDown yX2_comeDown, Cond.code yX2_comeDown cX2_comeDown 4 none, Cond.methodLink RX2 106 yX2_pour, Cond.instanceMethod yX2_pour, Cond.selects RX2 yX2_pour yX2_pour, Cond.code yX2_pour cX2_pour 3 none, Cond.methodLink RX2 119 Lib.Math.min.name, Cond.static Lib.Math.min.name, Cond.initialized "java/lang/Math", Cond.code Lib.Math.min.name Lib.Math.min.code 2 (some .int), Cond.methodLink RX2 91 yX2_work, Cond.instanceMethod yX2_work, Cond.selects RX2 yX2_work yX2_work, Cond.code yX2_work cX2_work 4 none, Cond.methodLink RX2 109 yX4_strengthOf, Cond.instanceMethod yX4_strengthOf, Cond.selects RX4 yX4_strengthOf yX4_strengthOf, Cond.code yX4_strengthOf cX4_strengthOf 2 (some .int), Cond.fieldLink RX4 18 "DustVote$Told" "strength" "[I", Cond.methodLink RX2 112 yX2_worksAs, Cond.instanceMethod yX2_worksAs, Cond.selects RX2 yX2_worksAs yX2_worksAs, Cond.code yX2_worksAs cX2_worksAs 3 (some .int), Cond.methodLink RX2 71 yX4_kindOf]
def wsX5_years_r6 : List Cond := [Cond.instanceMethod yX4_kindOf, Cond.selects RX4 yX4_kindOf yX4_kindOf, Cond.code yX4_kindOf cX4_kindOf 2 (some .int), Cond.fieldLink RX4 21 "DustVote$Told" "kind" "[I", Cond.methodLink RX2 74 yX2_isBent, Cond.instanceMethod yX2_isBent, Cond.selects RX2 yX2_isBent yX2_isBent, Cond.code yX2_isBent cX2_isBent 2 (some .boolean), Cond.methodLink RX2 115 yX2_sweep, Cond.instanceMethod yX2_sweep, Cond.selects RX2 yX2_sweep yX2_sweep, Cond.code yX2_sweep cX2_sweep 4 (some .int), Cond.methodLink RX2 94 yX2_spread, Cond.instanceMethod yX2_spread, Cond.selects RX2 yX2_spread yX2_spread, Cond.code yX2_spread cX2_spread 2 none, Cond.fieldLink RX2 18 "DustVote$Moment" "deep" "[Z", Cond.methodLink RX5 133 yX2_allDust, Cond.instanceMethod yX2_allDust, Cond.selects RX2 yX2_allDust yX2_allDust, Cond.code yX2_allDust cX2_allDust 3 (some .int)]
def wsX5_years : List Cond := .code yX5_years cX5_years 5 (some .int) :: ((wsX5_years_r1 ++ (wsX5_years_r2 ++ (wsX5_years_r3 ++ (wsX5_years_r4 ++ (wsX5_years_r5 ++ wsX5_years_r6))))) ++ wsX50 ++ wsX20 ++ wsX40)
def wsX5_keep : List Cond := .code yX5_keep cX5_keep 2 (some .int) :: ([.fieldLink RX5 28 "DustVote" "now" "LDustVote$Moment;", .fieldLink RX5 49 "DustVote" "slots" "[I", .fieldLink RX5 53 "DustVote" "filled" "[Z", .methodLink RX5 61 yX5_within, .static yX5_within, .initialized RX5, .code yX5_within cX5_within 3 (some .boolean), .methodLink RX5 237 yX2_save, .instanceMethod yX2_save, .selects RX2 yX2_save yX2_save, .initialized RX2, .code yX2_save cX2_save 4 none, .fieldLink RX2 9 "DustVote$Moment" "dust" "[I", .methodLink RX2 42 arraycopyName, .native arraycopyName, .static arraycopyName, .initialized "java/lang/System", .fieldLink RX2 15 "DustVote$Moment" "place" "[I", .fieldLink RX2 22 "DustVote$Moment" "given" "Z", .fieldLink RX2 26 "DustVote$Moment" "bent" "I", .fieldLink RX2 30 "DustVote$Moment" "dawns" "I"] ++ wsX50 ++ wsX20)
def wsX5_again_r1 : List Cond := [Cond.fieldLink RX5 53 "DustVote" "filled" "[Z", Cond.fieldLink RX5 28 "DustVote" "now" "LDustVote$Moment;", Cond.fieldLink RX5 49 "DustVote" "slots" "[I", Cond.fieldLink RX5 38 "DustVote" "acts" "LDustVote$ActRow;", Cond.methodLink RX5 61 yX5_within, Cond.static yX5_within, Cond.initialized RX5, Cond.code yX5_within cX5_within 3 (some .boolean), Cond.methodLink RX5 244 yX2_load, Cond.instanceMethod yX2_load, Cond.selects RX2 yX2_load yX2_load, Cond.initialized RX2, Cond.code yX2_load cX2_load 4 none, Cond.fieldLink RX2 9 "DustVote$Moment" "dust" "[I", Cond.methodLink RX2 42 arraycopyName, Cond.native arraycopyName, Cond.static arraycopyName, Cond.initialized "java/lang/System", Cond.fieldLink RX2 15 "DustVote$Moment" "place" "[I", Cond.fieldLink RX2 22 "DustVote$Moment" "given" "Z", Cond.fieldLink RX2 26 "DustVote$Moment" "bent" "I", Cond.fieldLink RX2 30 "DustVote$Moment" "dawns" "I", Cond.methodLink RX5 84 yX0_clear, Cond.instanceMethod yX0_clear]
def wsX5_again_r2 : List Cond := [Cond.selects RX0 yX0_clear yX0_clear, Cond.initialized RX0, Cond.code yX0_clear cX0_clear 1 none, Cond.fieldLink RX0 15 "DustVote$ActRow" "first" "I", Cond.fieldLink RX0 19 "DustVote$ActRow" "size" "I"]
def wsX5_again : List Cond := .code yX5_again cX5_again 2 (some .int) :: ((wsX5_again_r1 ++ wsX5_again_r2) ++ wsX50 ++ wsX20 ++ wsX00)
def wsX5_count_r1 : List Cond := [Cond.fieldLink RX5 12 "DustVote" "script" "LDustVote$Script;", Cond.fieldLink RX5 19 "DustVote" "told" "LDustVote$Told;", Cond.fieldLink RX5 28 "DustVote" "now" "LDustVote$Moment;", Cond.fieldLink RX5 38 "DustVote" "acts" "LDustVote$ActRow;", Cond.fieldLink RX5 45 "DustVote" "heaps" "LDustVote$Heaps;", Cond.methodLink RX5 133 yX2_allDust, Cond.instanceMethod yX2_allDust, Cond.selects RX2 yX2_allDust yX2_allDust, Cond.initialized RX2, Cond.code yX2_allDust cX2_allDust 3 (some .int), Cond.fieldLink RX2 9 "DustVote$Moment" "dust" "[I", Cond.methodLink RX5 170 yX2_deepStreets, Cond.instanceMethod yX2_deepStreets, Cond.selects RX2 yX2_deepStreets yX2_deepStreets, Cond.code yX2_deepStreets cX2_deepStreets 3 (some .int), Cond.methodLink RX2 62 yX2_isDeep, Cond.instanceMethod yX2_isDeep, Cond.selects RX2 yX2_isDeep yX2_isDeep, Cond.code yX2_isDeep cX2_isDeep 2 (some .boolean), Cond.methodLink RX2 58 yX2_dustIn, Cond.instanceMethod yX2_dustIn, Cond.selects RX2 yX2_dustIn yX2_dustIn, Cond.code yX2_dustIn cX2_dustIn 2 (some .int), Cond.static yX5_isStreet]
def wsX5_count_r2 : List Cond := [Cond.initialized RX5, Cond.code yX5_isStreet cX5_isStreet 1 (some .boolean)]
def wsX5_count : List Cond := .code yX5_count cX5_count 2 (some .int) :: ((wsX5_count_r1 ++ wsX5_count_r2) ++ wsX50 ++ wsX30 ++ wsX40 ++ wsX20 ++ wsX00 ++ wsX10)
def wsX6_init : List Cond := .code yX6_init cX6_init 1 none :: ([.methodLink RX6 1 objectInit, .instanceMethod objectInit, .code objectInit ⟨#[0xb1]⟩ 1 none, .arrayClass .int, .fieldLink RX6 7 "DustVoteModel" "strength" "[I", .fieldLink RX6 13 "DustVoteModel" "kind" "[I", .fieldLink RX6 16 "DustVoteModel" "fallAt" "[I", .fieldLink RX6 19 "DustVoteModel" "fallen" "[I", .fieldLink RX6 22 "DustVoteModel" "now" "[I", .fieldLink RX6 25 "DustVoteModel" "readDust" "[I", .fieldLink RX6 28 "DustVoteModel" "readBroom" "[I", .fieldLink RX6 31 "DustVoteModel" "readFall" "[I", .fieldLink RX6 34 "DustVoteModel" "text" "[I", .fieldLink RX6 37 "DustVoteModel" "working" "I", .fieldLink RX6 41 "DustVoteModel" "row" "[I", .fieldLink RX6 44 "DustVoteModel" "heapHad" "[I", .fieldLink RX6 47 "DustVoteModel" "heapLeft" "[I", .fieldLink RX6 50 "DustVoteModel" "heapWent" "[I", .arrayClass .boolean, .fieldLink RX6 53 "DustVoteModel" "isKept" "[Z", .fieldLink RX6 57 "DustVoteModel" "kept" "[I"] ++ wsX60)
def wsX6_in : List Cond := .code yX6_in cX6_in 6 (some .boolean) :: ([])
def wsX6_has : List Cond := .code yX6_has cX6_has 2 (some .boolean) :: ([])
def wsX6_ones : List Cond := .code yX6_ones cX6_ones 3 (some .int) :: ([])
def wsX6_write : List Cond := .code yX6_write cX6_write 2 (some .int) :: ([.constantLong RX6 60 (255), .fieldLink RX6 66 "DustVoteModel" "length" "I", .fieldLink RX6 34 "DustVoteModel" "text" "[I", .methodLink RX6 62 yX6_in, .static yX6_in, .initialized RX6, .code yX6_in cX6_in 6 (some .boolean)] ++ wsX60)
def wsX6_wipe : List Cond := .code yX6_wipe cX6_wipe 2 (some .int) :: ([.fieldLink RX6 66 "DustVoteModel" "length" "I"] ++ wsX60)
def wsX6_figureOf : List Cond := .code yX6_figureOf cX6_figureOf 5 (some .int) :: ([.fieldLink RX6 69 "DustVoteModel" "faultAt" "I", .fieldLink RX6 72 "DustVoteModel" "at" "I", .fieldLink RX6 66 "DustVoteModel" "length" "I", .fieldLink RX6 34 "DustVoteModel" "text" "[I", .methodLink RX6 62 yX6_in, .static yX6_in, .initialized RX6, .code yX6_in cX6_in 6 (some .boolean)] ++ wsX60)
def wsX6_readPart : List Cond := .code yX6_readPart cX6_readPart 2 none :: ([.fieldLink RX6 75 "DustVoteModel" "readBrooms" "I", .fieldLink RX6 72 "DustVoteModel" "at" "I", .fieldLink RX6 28 "DustVoteModel" "readBroom" "[I", .fieldLink RX6 78 "DustVoteModel" "readFalls" "I", .fieldLink RX6 31 "DustVoteModel" "readFall" "[I", .fieldLink RX6 69 "DustVoteModel" "faultAt" "I", .methodLink RX6 81 yX6_figureOf, .instanceMethod yX6_figureOf, .selects RX6 yX6_figureOf yX6_figureOf, .initialized RX6, .code yX6_figureOf cX6_figureOf 5 (some .int), .fieldLink RX6 66 "DustVoteModel" "length" "I", .fieldLink RX6 34 "DustVoteModel" "text" "[I", .methodLink RX6 62 yX6_in, .static yX6_in, .code yX6_in cX6_in 6 (some .boolean)] ++ wsX60)
def wsX6_readText : List Cond := .code yX6_readText cX6_readText 2 (some .int) :: ([.fieldLink RX6 72 "DustVoteModel" "at" "I", .fieldLink RX6 69 "DustVoteModel" "faultAt" "I", .fieldLink RX6 75 "DustVoteModel" "readBrooms" "I", .fieldLink RX6 78 "DustVoteModel" "readFalls" "I", .fieldLink RX6 66 "DustVoteModel" "length" "I", .fieldLink RX6 34 "DustVoteModel" "text" "[I", .fieldLink RX6 25 "DustVoteModel" "readDust" "[I", .methodLink RX6 81 yX6_figureOf, .instanceMethod yX6_figureOf, .selects RX6 yX6_figureOf yX6_figureOf, .initialized RX6, .code yX6_figureOf cX6_figureOf 5 (some .int), .methodLink RX6 62 yX6_in, .static yX6_in, .code yX6_in cX6_in 6 (some .boolean), .methodLink RX6 85 yX6_readPart, .instanceMethod yX6_readPart, .selects RX6 yX6_readPart yX6_readPart, .code yX6_readPart cX6_readPart 2 none, .fieldLink RX6 28 "DustVoteModel" "readBroom" "[I", .fieldLink RX6 31 "DustVoteModel" "readFall" "[I"] ++ wsX60)
def wsX6_fault_r1 : List Cond := [Cond.methodLink RX6 89 yX6_readText, Cond.instanceMethod yX6_readText, Cond.selects RX6 yX6_readText yX6_readText, Cond.initialized RX6, Cond.code yX6_readText cX6_readText 2 (some .int), Cond.fieldLink RX6 72 "DustVoteModel" "at" "I", Cond.fieldLink RX6 69 "DustVoteModel" "faultAt" "I", Cond.fieldLink RX6 75 "DustVoteModel" "readBrooms" "I", Cond.fieldLink RX6 78 "DustVoteModel" "readFalls" "I", Cond.fieldLink RX6 66 "DustVoteModel" "length" "I", Cond.fieldLink RX6 34 "DustVoteModel" "text" "[I", Cond.fieldLink RX6 25 "DustVoteModel" "readDust" "[I", Cond.methodLink RX6 81 yX6_figureOf, Cond.instanceMethod yX6_figureOf, Cond.selects RX6 yX6_figureOf yX6_figureOf, Cond.code yX6_figureOf cX6_figureOf 5 (some .int), Cond.methodLink RX6 62 yX6_in, Cond.static yX6_in, Cond.code yX6_in cX6_in 6 (some .boolean), Cond.methodLink RX6 85 yX6_readPart, Cond.instanceMethod yX6_readPart, Cond.selects RX6 yX6_readPart yX6_readPart, Cond.code yX6_readPart cX6_readPart 2 none, Cond.fieldLink RX6 28 "DustVoteModel" "readBroom" "[I"]
def wsX6_fault_r2 : List Cond := [Cond.fieldLink RX6 31 "DustVoteModel" "readFall" "[I"]
def wsX6_fault : List Cond := .code yX6_fault cX6_fault 1 (some .int) :: ((wsX6_fault_r1 ++ wsX6_fault_r2) ++ wsX60)
def wsX6_city_r1 : List Cond := [Cond.fieldLink RX6 75 "DustVoteModel" "readBrooms" "I", Cond.fieldLink RX6 93 "DustVoteModel" "brooms" "I", Cond.fieldLink RX6 78 "DustVoteModel" "readFalls" "I", Cond.fieldLink RX6 96 "DustVoteModel" "falls" "I", Cond.fieldLink RX6 22 "DustVoteModel" "now" "[I", Cond.fieldLink RX6 25 "DustVoteModel" "readDust" "[I", Cond.fieldLink RX6 28 "DustVoteModel" "readBroom" "[I", Cond.fieldLink RX6 7 "DustVoteModel" "strength" "[I", Cond.fieldLink RX6 13 "DustVoteModel" "kind" "[I", Cond.fieldLink RX6 16 "DustVoteModel" "fallAt" "[I", Cond.fieldLink RX6 31 "DustVoteModel" "readFall" "[I", Cond.fieldLink RX6 19 "DustVoteModel" "fallen" "[I", Cond.fieldLink RX6 99 "DustVoteModel" "acts" "I", Cond.fieldLink RX6 53 "DustVoteModel" "isKept" "[Z", Cond.methodLink RX6 89 yX6_readText, Cond.instanceMethod yX6_readText, Cond.selects RX6 yX6_readText yX6_readText, Cond.initialized RX6, Cond.code yX6_readText cX6_readText 2 (some .int), Cond.fieldLink RX6 72 "DustVoteModel" "at" "I", Cond.fieldLink RX6 69 "DustVoteModel" "faultAt" "I", Cond.fieldLink RX6 66 "DustVoteModel" "length" "I", Cond.fieldLink RX6 34 "DustVoteModel" "text" "[I", Cond.methodLink RX6 81 yX6_figureOf]
def wsX6_city_r2 : List Cond := [Cond.instanceMethod yX6_figureOf, Cond.selects RX6 yX6_figureOf yX6_figureOf, Cond.code yX6_figureOf cX6_figureOf 5 (some .int), Cond.methodLink RX6 62 yX6_in, Cond.static yX6_in, Cond.code yX6_in cX6_in 6 (some .boolean), Cond.methodLink RX6 85 yX6_readPart, Cond.instanceMethod yX6_readPart, Cond.selects RX6 yX6_readPart yX6_readPart, Cond.code yX6_readPart cX6_readPart 2 none]
def wsX6_city : List Cond := .code yX6_city cX6_city 2 (some .int) :: ((wsX6_city_r1 ++ wsX6_city_r2) ++ wsX60)
def wsX6_isBroom : List Cond := .code yX6_isBroom cX6_isBroom 2 (some .boolean) :: ([.fieldLink RX6 93 "DustVoteModel" "brooms" "I", .methodLink RX6 62 yX6_in, .static yX6_in, .initialized RX6, .code yX6_in cX6_in 6 (some .boolean)] ++ wsX60)
def wsX6_isStreet : List Cond := .code yX6_isStreet cX6_isStreet 1 (some .boolean) :: ([.constantLong RX6 102 (7), .methodLink RX6 62 yX6_in, .static yX6_in, .initialized RX6, .code yX6_in cX6_in 6 (some .boolean)])
def wsX6_worksAs : List Cond := .code yX6_worksAs cX6_worksAs 4 (some .int) :: ([.fieldLink RX6 22 "DustVoteModel" "now" "[I", .fieldLink RX6 13 "DustVoteModel" "kind" "[I", .methodLink RX6 104 yX6_has, .static yX6_has, .initialized RX6, .code yX6_has cX6_has 2 (some .boolean)] ++ wsX60)
def wsX6_add : List Cond := .code yX6_add cX6_add 5 none :: ([.fieldLink RX6 22 "DustVoteModel" "now" "[I"] ++ wsX60)
def wsX6_takeOff : List Cond := .code yX6_takeOff cX6_takeOff 6 (some .int) :: ([.fieldLink RX6 22 "DustVoteModel" "now" "[I"] ++ wsX60)
def wsX6_sweep : List Cond := .code yX6_sweep cX6_sweep 6 none :: ([.fieldLink RX6 22 "DustVoteModel" "now" "[I", .fieldLink RX6 37 "DustVoteModel" "working" "I", .fieldLink RX6 7 "DustVoteModel" "strength" "[I", .methodLink RX6 108 yX6_worksAs, .instanceMethod yX6_worksAs, .selects RX6 yX6_worksAs yX6_worksAs, .initialized RX6, .code yX6_worksAs cX6_worksAs 4 (some .int), .fieldLink RX6 13 "DustVoteModel" "kind" "[I", .methodLink RX6 104 yX6_has, .static yX6_has, .code yX6_has cX6_has 2 (some .boolean), .methodLink RX6 111 yX6_takeOff, .instanceMethod yX6_takeOff, .selects RX6 yX6_takeOff yX6_takeOff, .code yX6_takeOff cX6_takeOff 6 (some .int), .methodLink RX6 115 yX6_add, .instanceMethod yX6_add, .selects RX6 yX6_add yX6_add, .code yX6_add cX6_add 5 none] ++ wsX60)
def wsX6_kneesOn : List Cond := .code yX6_kneesOn cX6_kneesOn 4 (some .int) :: ([.fieldLink RX6 22 "DustVoteModel" "now" "[I"] ++ wsX60)
def wsX6_passOn_r1 : List Cond := [Cond.fieldLink RX6 96 "DustVoteModel" "falls" "I", Cond.fieldLink RX6 22 "DustVoteModel" "now" "[I", Cond.fieldLink RX6 16 "DustVoteModel" "fallAt" "[I", Cond.fieldLink RX6 19 "DustVoteModel" "fallen" "[I", Cond.fieldLink RX6 93 "DustVoteModel" "brooms" "I", Cond.methodLink RX6 115 yX6_add, Cond.instanceMethod yX6_add, Cond.selects RX6 yX6_add yX6_add, Cond.initialized RX6, Cond.code yX6_add cX6_add 5 none, Cond.methodLink RX6 119 yX6_sweep, Cond.instanceMethod yX6_sweep, Cond.selects RX6 yX6_sweep yX6_sweep, Cond.code yX6_sweep cX6_sweep 6 none, Cond.fieldLink RX6 37 "DustVoteModel" "working" "I", Cond.fieldLink RX6 7 "DustVoteModel" "strength" "[I", Cond.methodLink RX6 108 yX6_worksAs, Cond.instanceMethod yX6_worksAs, Cond.selects RX6 yX6_worksAs yX6_worksAs, Cond.code yX6_worksAs cX6_worksAs 4 (some .int), Cond.fieldLink RX6 13 "DustVoteModel" "kind" "[I", Cond.methodLink RX6 104 yX6_has, Cond.static yX6_has, Cond.code yX6_has cX6_has 2 (some .boolean)]
def wsX6_passOn_r2 : List Cond := [Cond.methodLink RX6 111 yX6_takeOff, Cond.instanceMethod yX6_takeOff, Cond.selects RX6 yX6_takeOff yX6_takeOff, Cond.code yX6_takeOff cX6_takeOff 6 (some .int), Cond.methodLink RX6 123 yX6_kneesOn, Cond.instanceMethod yX6_kneesOn, Cond.selects RX6 yX6_kneesOn yX6_kneesOn, Cond.code yX6_kneesOn cX6_kneesOn 4 (some .int)]
def wsX6_passOn : List Cond := .code yX6_passOn cX6_passOn 6 none :: ((wsX6_passOn_r1 ++ wsX6_passOn_r2) ++ wsX60)
def wsX6_dustOn : List Cond := .code yX6_dustOn cX6_dustOn 4 (some .int) :: ([.fieldLink RX6 22 "DustVoteModel" "now" "[I"] ++ wsX60)
def wsX6_broomsIn : List Cond := .code yX6_broomsIn cX6_broomsIn 4 (some .int) :: ([.fieldLink RX6 93 "DustVoteModel" "brooms" "I", .fieldLink RX6 22 "DustVoteModel" "now" "[I"] ++ wsX60)
def wsX6_street : List Cond := .code yX6_street cX6_street 3 (some .int) :: ([.fieldLink RX6 22 "DustVoteModel" "now" "[I", .methodLink RX6 127 yX6_isStreet, .static yX6_isStreet, .initialized RX6, .code yX6_isStreet cX6_isStreet 1 (some .boolean), .constantLong RX6 102 (7), .methodLink RX6 62 yX6_in, .static yX6_in, .code yX6_in cX6_in 6 (some .boolean), .methodLink RX6 131 yX6_broomsIn, .instanceMethod yX6_broomsIn, .selects RX6 yX6_broomsIn yX6_broomsIn, .code yX6_broomsIn cX6_broomsIn 4 (some .int), .fieldLink RX6 93 "DustVoteModel" "brooms" "I"] ++ wsX60)
def wsX6_broom : List Cond := .code yX6_broom cX6_broom 3 (some .int) :: ([.fieldLink RX6 22 "DustVoteModel" "now" "[I", .fieldLink RX6 7 "DustVoteModel" "strength" "[I", .fieldLink RX6 13 "DustVoteModel" "kind" "[I", .methodLink RX6 134 yX6_isBroom, .instanceMethod yX6_isBroom, .selects RX6 yX6_isBroom yX6_isBroom, .initialized RX6, .code yX6_isBroom cX6_isBroom 2 (some .boolean), .fieldLink RX6 93 "DustVoteModel" "brooms" "I", .methodLink RX6 62 yX6_in, .static yX6_in, .code yX6_in cX6_in 6 (some .boolean), .methodLink RX6 108 yX6_worksAs, .instanceMethod yX6_worksAs, .selects RX6 yX6_worksAs yX6_worksAs, .code yX6_worksAs cX6_worksAs 4 (some .int), .methodLink RX6 104 yX6_has, .static yX6_has, .code yX6_has cX6_has 2 (some .boolean)] ++ wsX60)
def wsX6_keepAct : List Cond := .code yX6_keepAct cX6_keepAct 2 none :: ([.fieldLink RX6 41 "DustVoteModel" "row" "[I", .fieldLink RX6 137 "DustVoteModel" "next" "I", .fieldLink RX6 22 "DustVoteModel" "now" "[I", .fieldLink RX6 99 "DustVoteModel" "acts" "I"] ++ wsX60)
def wsX6_dawn_r1 : List Cond := [Cond.methodLink RX6 140 yX6_keepAct, Cond.instanceMethod yX6_keepAct, Cond.selects RX6 yX6_keepAct yX6_keepAct, Cond.initialized RX6, Cond.code yX6_keepAct cX6_keepAct 2 none, Cond.fieldLink RX6 41 "DustVoteModel" "row" "[I", Cond.fieldLink RX6 137 "DustVoteModel" "next" "I", Cond.fieldLink RX6 22 "DustVoteModel" "now" "[I", Cond.fieldLink RX6 99 "DustVoteModel" "acts" "I", Cond.methodLink RX6 143 yX6_passOn, Cond.instanceMethod yX6_passOn, Cond.selects RX6 yX6_passOn yX6_passOn, Cond.code yX6_passOn cX6_passOn 6 none, Cond.fieldLink RX6 96 "DustVoteModel" "falls" "I", Cond.fieldLink RX6 16 "DustVoteModel" "fallAt" "[I", Cond.fieldLink RX6 19 "DustVoteModel" "fallen" "[I", Cond.fieldLink RX6 93 "DustVoteModel" "brooms" "I", Cond.methodLink RX6 115 yX6_add, Cond.instanceMethod yX6_add, Cond.selects RX6 yX6_add yX6_add, Cond.code yX6_add cX6_add 5 none, Cond.methodLink RX6 119 yX6_sweep, Cond.instanceMethod yX6_sweep, Cond.selects RX6 yX6_sweep yX6_sweep]
def wsX6_dawn_r2 : List Cond := [Cond.code yX6_sweep cX6_sweep 6 none, Cond.fieldLink RX6 37 "DustVoteModel" "working" "I", Cond.fieldLink RX6 7 "DustVoteModel" "strength" "[I", Cond.methodLink RX6 108 yX6_worksAs, Cond.instanceMethod yX6_worksAs, Cond.selects RX6 yX6_worksAs yX6_worksAs, Cond.code yX6_worksAs cX6_worksAs 4 (some .int), Cond.fieldLink RX6 13 "DustVoteModel" "kind" "[I", Cond.methodLink RX6 104 yX6_has, Cond.static yX6_has, Cond.code yX6_has cX6_has 2 (some .boolean), Cond.methodLink RX6 111 yX6_takeOff, Cond.instanceMethod yX6_takeOff, Cond.selects RX6 yX6_takeOff yX6_takeOff, Cond.code yX6_takeOff cX6_takeOff 6 (some .int), Cond.methodLink RX6 123 yX6_kneesOn, Cond.instanceMethod yX6_kneesOn, Cond.selects RX6 yX6_kneesOn yX6_kneesOn, Cond.code yX6_kneesOn cX6_kneesOn 4 (some .int), Cond.methodLink RX6 146 yX6_dustOn, Cond.instanceMethod yX6_dustOn, Cond.selects RX6 yX6_dustOn yX6_dustOn, Cond.code yX6_dustOn cX6_dustOn 4 (some .int)]
def wsX6_dawn : List Cond := .code yX6_dawn cX6_dawn 1 (some .int) :: ((wsX6_dawn_r1 ++ wsX6_dawn_r2) ++ wsX60)
def wsX6_walkOn : List Cond := .code yX6_walkOn cX6_walkOn 5 none :: ([.fieldLink RX6 22 "DustVoteModel" "now" "[I"] ++ wsX60)
def wsX6_walk : List Cond := .code yX6_walk cX6_walk 3 (some .int) :: ([.fieldLink RX6 22 "DustVoteModel" "now" "[I", .methodLink RX6 134 yX6_isBroom, .instanceMethod yX6_isBroom, .selects RX6 yX6_isBroom yX6_isBroom, .initialized RX6, .code yX6_isBroom cX6_isBroom 2 (some .boolean), .fieldLink RX6 93 "DustVoteModel" "brooms" "I", .methodLink RX6 62 yX6_in, .static yX6_in, .code yX6_in cX6_in 6 (some .boolean), .methodLink RX6 140 yX6_keepAct, .instanceMethod yX6_keepAct, .selects RX6 yX6_keepAct yX6_keepAct, .code yX6_keepAct cX6_keepAct 2 none, .fieldLink RX6 41 "DustVoteModel" "row" "[I", .fieldLink RX6 137 "DustVoteModel" "next" "I", .fieldLink RX6 99 "DustVoteModel" "acts" "I", .methodLink RX6 149 yX6_walkOn, .instanceMethod yX6_walkOn, .selects RX6 yX6_walkOn yX6_walkOn, .code yX6_walkOn cX6_walkOn 5 none] ++ wsX60)
def wsX6_vote : List Cond := .code yX6_vote cX6_vote 1 (some .int) :: ([.fieldLink RX6 22 "DustVoteModel" "now" "[I", .methodLink RX6 140 yX6_keepAct, .instanceMethod yX6_keepAct, .selects RX6 yX6_keepAct yX6_keepAct, .initialized RX6, .code yX6_keepAct cX6_keepAct 2 none, .fieldLink RX6 41 "DustVoteModel" "row" "[I", .fieldLink RX6 137 "DustVoteModel" "next" "I", .fieldLink RX6 99 "DustVoteModel" "acts" "I"] ++ wsX60)
def wsX6_bend : List Cond := .code yX6_bend cX6_bend 2 (some .int) :: ([.fieldLink RX6 22 "DustVoteModel" "now" "[I", .methodLink RX6 134 yX6_isBroom, .instanceMethod yX6_isBroom, .selects RX6 yX6_isBroom yX6_isBroom, .initialized RX6, .code yX6_isBroom cX6_isBroom 2 (some .boolean), .fieldLink RX6 93 "DustVoteModel" "brooms" "I", .methodLink RX6 62 yX6_in, .static yX6_in, .code yX6_in cX6_in 6 (some .boolean), .methodLink RX6 104 yX6_has, .static yX6_has, .code yX6_has cX6_has 2 (some .boolean), .methodLink RX6 140 yX6_keepAct, .instanceMethod yX6_keepAct, .selects RX6 yX6_keepAct yX6_keepAct, .code yX6_keepAct cX6_keepAct 2 none, .fieldLink RX6 41 "DustVoteModel" "row" "[I", .fieldLink RX6 137 "DustVoteModel" "next" "I", .fieldLink RX6 99 "DustVoteModel" "acts" "I", .methodLink RX6 152 yX6_ones, .static yX6_ones, .code yX6_ones cX6_ones 3 (some .int)] ++ wsX60)
def wsX6_hand : List Cond := .code yX6_hand cX6_hand 3 (some .int) :: ([.fieldLink RX6 22 "DustVoteModel" "now" "[I", .methodLink RX6 127 yX6_isStreet, .static yX6_isStreet, .initialized RX6, .code yX6_isStreet cX6_isStreet 1 (some .boolean), .constantLong RX6 102 (7), .methodLink RX6 62 yX6_in, .static yX6_in, .code yX6_in cX6_in 6 (some .boolean), .methodLink RX6 140 yX6_keepAct, .instanceMethod yX6_keepAct, .selects RX6 yX6_keepAct yX6_keepAct, .code yX6_keepAct cX6_keepAct 2 none, .fieldLink RX6 41 "DustVoteModel" "row" "[I", .fieldLink RX6 137 "DustVoteModel" "next" "I", .fieldLink RX6 99 "DustVoteModel" "acts" "I"] ++ wsX60)
def wsX6_undo : List Cond := .code yX6_undo cX6_undo 2 (some .int) :: ([.fieldLink RX6 99 "DustVoteModel" "acts" "I", .fieldLink RX6 137 "DustVoteModel" "next" "I", .fieldLink RX6 22 "DustVoteModel" "now" "[I", .fieldLink RX6 41 "DustVoteModel" "row" "[I"] ++ wsX60)
def wsX6_layTrial : List Cond := .code yX6_layTrial cX6_layTrial 2 none :: ([.fieldLink RX6 22 "DustVoteModel" "now" "[I"] ++ wsX60)
def wsX6_goOn_r1 : List Cond := [Cond.methodLink RX6 143 yX6_passOn, Cond.instanceMethod yX6_passOn, Cond.selects RX6 yX6_passOn yX6_passOn, Cond.initialized RX6, Cond.code yX6_passOn cX6_passOn 6 none, Cond.fieldLink RX6 96 "DustVoteModel" "falls" "I", Cond.fieldLink RX6 22 "DustVoteModel" "now" "[I", Cond.fieldLink RX6 16 "DustVoteModel" "fallAt" "[I", Cond.fieldLink RX6 19 "DustVoteModel" "fallen" "[I", Cond.fieldLink RX6 93 "DustVoteModel" "brooms" "I", Cond.methodLink RX6 115 yX6_add, Cond.instanceMethod yX6_add, Cond.selects RX6 yX6_add yX6_add, Cond.code yX6_add cX6_add 5 none, Cond.methodLink RX6 119 yX6_sweep, Cond.instanceMethod yX6_sweep, Cond.selects RX6 yX6_sweep yX6_sweep, Cond.code yX6_sweep cX6_sweep 6 none, Cond.fieldLink RX6 37 "DustVoteModel" "working" "I", Cond.fieldLink RX6 7 "DustVoteModel" "strength" "[I", Cond.methodLink RX6 108 yX6_worksAs, Cond.instanceMethod yX6_worksAs, Cond.selects RX6 yX6_worksAs yX6_worksAs, Cond.code yX6_worksAs cX6_worksAs 4 (some .int)]
def wsX6_goOn_r2 : List Cond := [Cond.fieldLink RX6 13 "DustVoteModel" "kind" "[I", Cond.methodLink RX6 104 yX6_has, Cond.static yX6_has, Cond.code yX6_has cX6_has 2 (some .boolean), Cond.methodLink RX6 111 yX6_takeOff, Cond.instanceMethod yX6_takeOff, Cond.selects RX6 yX6_takeOff yX6_takeOff, Cond.code yX6_takeOff cX6_takeOff 6 (some .int), Cond.methodLink RX6 123 yX6_kneesOn, Cond.instanceMethod yX6_kneesOn, Cond.selects RX6 yX6_kneesOn yX6_kneesOn, Cond.code yX6_kneesOn cX6_kneesOn 4 (some .int)]
def wsX6_goOn : List Cond := .code yX6_goOn cX6_goOn 3 none :: ((wsX6_goOn_r1 ++ wsX6_goOn_r2) ++ wsX60)
def wsX6_dust_r1 : List Cond := [Cond.constantLong RX6 155 (30), Cond.fieldLink RX6 22 "DustVoteModel" "now" "[I", Cond.methodLink RX6 127 yX6_isStreet, Cond.static yX6_isStreet, Cond.initialized RX6, Cond.code yX6_isStreet cX6_isStreet 1 (some .boolean), Cond.constantLong RX6 102 (7), Cond.methodLink RX6 62 yX6_in, Cond.static yX6_in, Cond.code yX6_in cX6_in 6 (some .boolean), Cond.methodLink RX6 157 yX6_layTrial, Cond.instanceMethod yX6_layTrial, Cond.selects RX6 yX6_layTrial yX6_layTrial, Cond.code yX6_layTrial cX6_layTrial 2 none, Cond.methodLink RX6 160 yX6_goOn, Cond.instanceMethod yX6_goOn, Cond.selects RX6 yX6_goOn yX6_goOn, Cond.code yX6_goOn cX6_goOn 3 none, Cond.methodLink RX6 143 yX6_passOn, Cond.instanceMethod yX6_passOn, Cond.selects RX6 yX6_passOn yX6_passOn, Cond.code yX6_passOn cX6_passOn 6 none, Cond.fieldLink RX6 96 "DustVoteModel" "falls" "I", Cond.fieldLink RX6 16 "DustVoteModel" "fallAt" "[I"]
def wsX6_dust_r2 : List Cond := [Cond.fieldLink RX6 19 "DustVoteModel" "fallen" "[I", Cond.fieldLink RX6 93 "DustVoteModel" "brooms" "I", Cond.methodLink RX6 115 yX6_add, Cond.instanceMethod yX6_add, Cond.selects RX6 yX6_add yX6_add, Cond.code yX6_add cX6_add 5 none, Cond.methodLink RX6 119 yX6_sweep, Cond.instanceMethod yX6_sweep, Cond.selects RX6 yX6_sweep yX6_sweep, Cond.code yX6_sweep cX6_sweep 6 none, Cond.fieldLink RX6 37 "DustVoteModel" "working" "I", Cond.fieldLink RX6 7 "DustVoteModel" "strength" "[I", Cond.methodLink RX6 108 yX6_worksAs, Cond.instanceMethod yX6_worksAs, Cond.selects RX6 yX6_worksAs yX6_worksAs, Cond.code yX6_worksAs cX6_worksAs 4 (some .int), Cond.fieldLink RX6 13 "DustVoteModel" "kind" "[I", Cond.methodLink RX6 104 yX6_has, Cond.static yX6_has, Cond.code yX6_has cX6_has 2 (some .boolean), Cond.methodLink RX6 111 yX6_takeOff, Cond.instanceMethod yX6_takeOff, Cond.selects RX6 yX6_takeOff yX6_takeOff, Cond.code yX6_takeOff cX6_takeOff 6 (some .int)]
def wsX6_dust_r3 : List Cond := [Cond.methodLink RX6 123 yX6_kneesOn, Cond.instanceMethod yX6_kneesOn, Cond.selects RX6 yX6_kneesOn yX6_kneesOn, Cond.code yX6_kneesOn cX6_kneesOn 4 (some .int)]
def wsX6_dust : List Cond := .code yX6_dust cX6_dust 3 (some .int) :: ((wsX6_dust_r1 ++ (wsX6_dust_r2 ++ wsX6_dust_r3)) ++ wsX60)
def wsX6_knees_r1 : List Cond := [Cond.constantLong RX6 155 (30), Cond.methodLink RX6 62 yX6_in, Cond.static yX6_in, Cond.initialized RX6, Cond.code yX6_in cX6_in 6 (some .boolean), Cond.methodLink RX6 157 yX6_layTrial, Cond.instanceMethod yX6_layTrial, Cond.selects RX6 yX6_layTrial yX6_layTrial, Cond.code yX6_layTrial cX6_layTrial 2 none, Cond.fieldLink RX6 22 "DustVoteModel" "now" "[I", Cond.methodLink RX6 160 yX6_goOn, Cond.instanceMethod yX6_goOn, Cond.selects RX6 yX6_goOn yX6_goOn, Cond.code yX6_goOn cX6_goOn 3 none, Cond.methodLink RX6 143 yX6_passOn, Cond.instanceMethod yX6_passOn, Cond.selects RX6 yX6_passOn yX6_passOn, Cond.code yX6_passOn cX6_passOn 6 none, Cond.fieldLink RX6 96 "DustVoteModel" "falls" "I", Cond.fieldLink RX6 16 "DustVoteModel" "fallAt" "[I", Cond.fieldLink RX6 19 "DustVoteModel" "fallen" "[I", Cond.fieldLink RX6 93 "DustVoteModel" "brooms" "I", Cond.methodLink RX6 115 yX6_add, Cond.instanceMethod yX6_add]
def wsX6_knees_r2 : List Cond := [Cond.selects RX6 yX6_add yX6_add, Cond.code yX6_add cX6_add 5 none, Cond.methodLink RX6 119 yX6_sweep, Cond.instanceMethod yX6_sweep, Cond.selects RX6 yX6_sweep yX6_sweep, Cond.code yX6_sweep cX6_sweep 6 none, Cond.fieldLink RX6 37 "DustVoteModel" "working" "I", Cond.fieldLink RX6 7 "DustVoteModel" "strength" "[I", Cond.methodLink RX6 108 yX6_worksAs, Cond.instanceMethod yX6_worksAs, Cond.selects RX6 yX6_worksAs yX6_worksAs, Cond.code yX6_worksAs cX6_worksAs 4 (some .int), Cond.fieldLink RX6 13 "DustVoteModel" "kind" "[I", Cond.methodLink RX6 104 yX6_has, Cond.static yX6_has, Cond.code yX6_has cX6_has 2 (some .boolean), Cond.methodLink RX6 111 yX6_takeOff, Cond.instanceMethod yX6_takeOff, Cond.selects RX6 yX6_takeOff yX6_takeOff, Cond.code yX6_takeOff cX6_takeOff 6 (some .int), Cond.methodLink RX6 123 yX6_kneesOn, Cond.instanceMethod yX6_kneesOn, Cond.selects RX6 yX6_kneesOn yX6_kneesOn, Cond.code yX6_kneesOn cX6_kneesOn 4 (some .int)]
def wsX6_knees : List Cond := .code yX6_knees cX6_knees 2 (some .int) :: ((wsX6_knees_r1 ++ wsX6_knees_r2) ++ wsX60)
def wsX6_leastOf : List Cond := .code yX6_leastOf cX6_leastOf 2 (some .int) :: ([.methodLink RX6 104 yX6_has, .static yX6_has, .initialized RX6, .code yX6_has cX6_has 2 (some .boolean)])
def wsX6_knee_r1 : List Cond := [Cond.methodLink RX6 62 yX6_in, Cond.static yX6_in, Cond.initialized RX6, Cond.code yX6_in cX6_in 6 (some .boolean), Cond.methodLink RX6 157 yX6_layTrial, Cond.instanceMethod yX6_layTrial, Cond.selects RX6 yX6_layTrial yX6_layTrial, Cond.code yX6_layTrial cX6_layTrial 2 none, Cond.fieldLink RX6 22 "DustVoteModel" "now" "[I", Cond.methodLink RX6 123 yX6_kneesOn, Cond.instanceMethod yX6_kneesOn, Cond.selects RX6 yX6_kneesOn yX6_kneesOn, Cond.code yX6_kneesOn cX6_kneesOn 4 (some .int), Cond.methodLink RX6 163 yX6_leastOf, Cond.static yX6_leastOf, Cond.code yX6_leastOf cX6_leastOf 2 (some .int), Cond.methodLink RX6 104 yX6_has, Cond.static yX6_has, Cond.code yX6_has cX6_has 2 (some .boolean), Cond.methodLink RX6 143 yX6_passOn, Cond.instanceMethod yX6_passOn, Cond.selects RX6 yX6_passOn yX6_passOn, Cond.code yX6_passOn cX6_passOn 6 none, Cond.fieldLink RX6 96 "DustVoteModel" "falls" "I"]
def wsX6_knee_r2 : List Cond := [Cond.fieldLink RX6 16 "DustVoteModel" "fallAt" "[I", Cond.fieldLink RX6 19 "DustVoteModel" "fallen" "[I", Cond.fieldLink RX6 93 "DustVoteModel" "brooms" "I", Cond.methodLink RX6 115 yX6_add, Cond.instanceMethod yX6_add, Cond.selects RX6 yX6_add yX6_add, Cond.code yX6_add cX6_add 5 none, Cond.methodLink RX6 119 yX6_sweep, Cond.instanceMethod yX6_sweep, Cond.selects RX6 yX6_sweep yX6_sweep, Cond.code yX6_sweep cX6_sweep 6 none, Cond.fieldLink RX6 37 "DustVoteModel" "working" "I", Cond.fieldLink RX6 7 "DustVoteModel" "strength" "[I", Cond.methodLink RX6 108 yX6_worksAs, Cond.instanceMethod yX6_worksAs, Cond.selects RX6 yX6_worksAs yX6_worksAs, Cond.code yX6_worksAs cX6_worksAs 4 (some .int), Cond.fieldLink RX6 13 "DustVoteModel" "kind" "[I", Cond.methodLink RX6 111 yX6_takeOff, Cond.instanceMethod yX6_takeOff, Cond.selects RX6 yX6_takeOff yX6_takeOff, Cond.code yX6_takeOff cX6_takeOff 6 (some .int)]
def wsX6_knee : List Cond := .code yX6_knee cX6_knee 4 (some .int) :: ((wsX6_knee_r1 ++ wsX6_knee_r2) ++ wsX60)
def wsX6_best_r1 : List Cond := [Cond.constantLong RX6 166 (9), Cond.fieldLink RX6 22 "DustVoteModel" "now" "[I", Cond.methodLink RX6 134 yX6_isBroom, Cond.instanceMethod yX6_isBroom, Cond.selects RX6 yX6_isBroom yX6_isBroom, Cond.initialized RX6, Cond.code yX6_isBroom cX6_isBroom 2 (some .boolean), Cond.fieldLink RX6 93 "DustVoteModel" "brooms" "I", Cond.methodLink RX6 62 yX6_in, Cond.static yX6_in, Cond.code yX6_in cX6_in 6 (some .boolean), Cond.methodLink RX6 157 yX6_layTrial, Cond.instanceMethod yX6_layTrial, Cond.selects RX6 yX6_layTrial yX6_layTrial, Cond.code yX6_layTrial cX6_layTrial 2 none, Cond.methodLink RX6 160 yX6_goOn, Cond.instanceMethod yX6_goOn, Cond.selects RX6 yX6_goOn yX6_goOn, Cond.code yX6_goOn cX6_goOn 3 none, Cond.methodLink RX6 143 yX6_passOn, Cond.instanceMethod yX6_passOn, Cond.selects RX6 yX6_passOn yX6_passOn, Cond.code yX6_passOn cX6_passOn 6 none, Cond.fieldLink RX6 96 "DustVoteModel" "falls" "I"]
def wsX6_best_r2 : List Cond := [Cond.fieldLink RX6 16 "DustVoteModel" "fallAt" "[I", Cond.fieldLink RX6 19 "DustVoteModel" "fallen" "[I", Cond.methodLink RX6 115 yX6_add, Cond.instanceMethod yX6_add, Cond.selects RX6 yX6_add yX6_add, Cond.code yX6_add cX6_add 5 none, Cond.methodLink RX6 119 yX6_sweep, Cond.instanceMethod yX6_sweep, Cond.selects RX6 yX6_sweep yX6_sweep, Cond.code yX6_sweep cX6_sweep 6 none, Cond.fieldLink RX6 37 "DustVoteModel" "working" "I", Cond.fieldLink RX6 7 "DustVoteModel" "strength" "[I", Cond.methodLink RX6 108 yX6_worksAs, Cond.instanceMethod yX6_worksAs, Cond.selects RX6 yX6_worksAs yX6_worksAs, Cond.code yX6_worksAs cX6_worksAs 4 (some .int), Cond.fieldLink RX6 13 "DustVoteModel" "kind" "[I", Cond.methodLink RX6 104 yX6_has, Cond.static yX6_has, Cond.code yX6_has cX6_has 2 (some .boolean), Cond.methodLink RX6 111 yX6_takeOff, Cond.instanceMethod yX6_takeOff, Cond.selects RX6 yX6_takeOff yX6_takeOff, Cond.code yX6_takeOff cX6_takeOff 6 (some .int)]
def wsX6_best_r3 : List Cond := [Cond.methodLink RX6 123 yX6_kneesOn, Cond.instanceMethod yX6_kneesOn, Cond.selects RX6 yX6_kneesOn yX6_kneesOn, Cond.code yX6_kneesOn cX6_kneesOn 4 (some .int), Cond.methodLink RX6 146 yX6_dustOn, Cond.instanceMethod yX6_dustOn, Cond.selects RX6 yX6_dustOn yX6_dustOn, Cond.code yX6_dustOn cX6_dustOn 4 (some .int)]
def wsX6_best : List Cond := .code yX6_best cX6_best 8 (some .int) :: ((wsX6_best_r1 ++ (wsX6_best_r2 ++ wsX6_best_r3)) ++ wsX60)
def wsX6_keepsBelow_r1 : List Cond := [Cond.fieldLink RX6 22 "DustVoteModel" "now" "[I", Cond.methodLink RX6 157 yX6_layTrial, Cond.instanceMethod yX6_layTrial, Cond.selects RX6 yX6_layTrial yX6_layTrial, Cond.initialized RX6, Cond.code yX6_layTrial cX6_layTrial 2 none, Cond.methodLink RX6 143 yX6_passOn, Cond.instanceMethod yX6_passOn, Cond.selects RX6 yX6_passOn yX6_passOn, Cond.code yX6_passOn cX6_passOn 6 none, Cond.fieldLink RX6 96 "DustVoteModel" "falls" "I", Cond.fieldLink RX6 16 "DustVoteModel" "fallAt" "[I", Cond.fieldLink RX6 19 "DustVoteModel" "fallen" "[I", Cond.fieldLink RX6 93 "DustVoteModel" "brooms" "I", Cond.methodLink RX6 115 yX6_add, Cond.instanceMethod yX6_add, Cond.selects RX6 yX6_add yX6_add, Cond.code yX6_add cX6_add 5 none, Cond.methodLink RX6 119 yX6_sweep, Cond.instanceMethod yX6_sweep, Cond.selects RX6 yX6_sweep yX6_sweep, Cond.code yX6_sweep cX6_sweep 6 none, Cond.fieldLink RX6 37 "DustVoteModel" "working" "I", Cond.fieldLink RX6 7 "DustVoteModel" "strength" "[I"]
def wsX6_keepsBelow_r2 : List Cond := [Cond.methodLink RX6 108 yX6_worksAs, Cond.instanceMethod yX6_worksAs, Cond.selects RX6 yX6_worksAs yX6_worksAs, Cond.code yX6_worksAs cX6_worksAs 4 (some .int), Cond.fieldLink RX6 13 "DustVoteModel" "kind" "[I", Cond.methodLink RX6 104 yX6_has, Cond.static yX6_has, Cond.code yX6_has cX6_has 2 (some .boolean), Cond.methodLink RX6 111 yX6_takeOff, Cond.instanceMethod yX6_takeOff, Cond.selects RX6 yX6_takeOff yX6_takeOff, Cond.code yX6_takeOff cX6_takeOff 6 (some .int), Cond.methodLink RX6 123 yX6_kneesOn, Cond.instanceMethod yX6_kneesOn, Cond.selects RX6 yX6_kneesOn yX6_kneesOn, Cond.code yX6_kneesOn cX6_kneesOn 4 (some .int)]
def wsX6_keepsBelow : List Cond := .code yX6_keepsBelow cX6_keepsBelow 4 (some .boolean) :: ((wsX6_keepsBelow_r1 ++ wsX6_keepsBelow_r2) ++ wsX60)
def wsX6_bends_r1 : List Cond := [Cond.constantLong RX6 166 (9), Cond.fieldLink RX6 93 "DustVoteModel" "brooms" "I", Cond.fieldLink RX6 22 "DustVoteModel" "now" "[I", Cond.methodLink RX6 62 yX6_in, Cond.static yX6_in, Cond.initialized RX6, Cond.code yX6_in cX6_in 6 (some .boolean), Cond.methodLink RX6 152 yX6_ones, Cond.static yX6_ones, Cond.code yX6_ones cX6_ones 3 (some .int), Cond.methodLink RX6 168 yX6_keepsBelow, Cond.instanceMethod yX6_keepsBelow, Cond.selects RX6 yX6_keepsBelow yX6_keepsBelow, Cond.code yX6_keepsBelow cX6_keepsBelow 4 (some .boolean), Cond.methodLink RX6 157 yX6_layTrial, Cond.instanceMethod yX6_layTrial, Cond.selects RX6 yX6_layTrial yX6_layTrial, Cond.code yX6_layTrial cX6_layTrial 2 none, Cond.methodLink RX6 143 yX6_passOn, Cond.instanceMethod yX6_passOn, Cond.selects RX6 yX6_passOn yX6_passOn, Cond.code yX6_passOn cX6_passOn 6 none, Cond.fieldLink RX6 96 "DustVoteModel" "falls" "I", Cond.fieldLink RX6 16 "DustVoteModel" "fallAt" "[I"]
def wsX6_bends_r2 : List Cond := [Cond.fieldLink RX6 19 "DustVoteModel" "fallen" "[I", Cond.methodLink RX6 115 yX6_add, Cond.instanceMethod yX6_add, Cond.selects RX6 yX6_add yX6_add, Cond.code yX6_add cX6_add 5 none, Cond.methodLink RX6 119 yX6_sweep, Cond.instanceMethod yX6_sweep, Cond.selects RX6 yX6_sweep yX6_sweep, Cond.code yX6_sweep cX6_sweep 6 none, Cond.fieldLink RX6 37 "DustVoteModel" "working" "I", Cond.fieldLink RX6 7 "DustVoteModel" "strength" "[I", Cond.methodLink RX6 108 yX6_worksAs, Cond.instanceMethod yX6_worksAs, Cond.selects RX6 yX6_worksAs yX6_worksAs, Cond.code yX6_worksAs cX6_worksAs 4 (some .int), Cond.fieldLink RX6 13 "DustVoteModel" "kind" "[I", Cond.methodLink RX6 104 yX6_has, Cond.static yX6_has, Cond.code yX6_has cX6_has 2 (some .boolean), Cond.methodLink RX6 111 yX6_takeOff, Cond.instanceMethod yX6_takeOff, Cond.selects RX6 yX6_takeOff yX6_takeOff, Cond.code yX6_takeOff cX6_takeOff 6 (some .int), Cond.methodLink RX6 123 yX6_kneesOn]
def wsX6_bends_r3 : List Cond := [Cond.instanceMethod yX6_kneesOn, Cond.selects RX6 yX6_kneesOn yX6_kneesOn, Cond.code yX6_kneesOn cX6_kneesOn 4 (some .int)]
def wsX6_bends : List Cond := .code yX6_bends cX6_bends 5 (some .int) :: ((wsX6_bends_r1 ++ (wsX6_bends_r2 ++ wsX6_bends_r3)) ++ wsX60)
def wsX6_tryThing_r1 : List Cond := [Cond.fieldLink RX6 22 "DustVoteModel" "now" "[I", Cond.methodLink RX6 143 yX6_passOn, Cond.instanceMethod yX6_passOn, Cond.selects RX6 yX6_passOn yX6_passOn, Cond.initialized RX6, Cond.code yX6_passOn cX6_passOn 6 none, Cond.fieldLink RX6 96 "DustVoteModel" "falls" "I", Cond.fieldLink RX6 16 "DustVoteModel" "fallAt" "[I", Cond.fieldLink RX6 19 "DustVoteModel" "fallen" "[I", Cond.fieldLink RX6 93 "DustVoteModel" "brooms" "I", Cond.methodLink RX6 115 yX6_add, Cond.instanceMethod yX6_add, Cond.selects RX6 yX6_add yX6_add, Cond.code yX6_add cX6_add 5 none, Cond.methodLink RX6 119 yX6_sweep, Cond.instanceMethod yX6_sweep, Cond.selects RX6 yX6_sweep yX6_sweep, Cond.code yX6_sweep cX6_sweep 6 none, Cond.fieldLink RX6 37 "DustVoteModel" "working" "I", Cond.fieldLink RX6 7 "DustVoteModel" "strength" "[I", Cond.methodLink RX6 108 yX6_worksAs, Cond.instanceMethod yX6_worksAs, Cond.selects RX6 yX6_worksAs yX6_worksAs, Cond.code yX6_worksAs cX6_worksAs 4 (some .int)]
def wsX6_tryThing_r2 : List Cond := [Cond.fieldLink RX6 13 "DustVoteModel" "kind" "[I", Cond.methodLink RX6 104 yX6_has, Cond.static yX6_has, Cond.code yX6_has cX6_has 2 (some .boolean), Cond.methodLink RX6 111 yX6_takeOff, Cond.instanceMethod yX6_takeOff, Cond.selects RX6 yX6_takeOff yX6_takeOff, Cond.code yX6_takeOff cX6_takeOff 6 (some .int), Cond.methodLink RX6 123 yX6_kneesOn, Cond.instanceMethod yX6_kneesOn, Cond.selects RX6 yX6_kneesOn yX6_kneesOn, Cond.code yX6_kneesOn cX6_kneesOn 4 (some .int), Cond.methodLink RX6 134 yX6_isBroom, Cond.instanceMethod yX6_isBroom, Cond.selects RX6 yX6_isBroom yX6_isBroom, Cond.code yX6_isBroom cX6_isBroom 2 (some .boolean), Cond.methodLink RX6 62 yX6_in, Cond.static yX6_in, Cond.code yX6_in cX6_in 6 (some .boolean), Cond.methodLink RX6 149 yX6_walkOn, Cond.instanceMethod yX6_walkOn, Cond.selects RX6 yX6_walkOn yX6_walkOn, Cond.code yX6_walkOn cX6_walkOn 5 none, Cond.methodLink RX6 127 yX6_isStreet]
def wsX6_tryThing_r3 : List Cond := [Cond.static yX6_isStreet, Cond.code yX6_isStreet cX6_isStreet 1 (some .boolean), Cond.constantLong RX6 102 (7)]
def wsX6_tryThing : List Cond := .code yX6_tryThing cX6_tryThing 7 (some .boolean) :: ((wsX6_tryThing_r1 ++ (wsX6_tryThing_r2 ++ wsX6_tryThing_r3)) ++ wsX60)
def wsX6_thousandTo : List Cond := .code yX6_thousandTo cX6_thousandTo 4 (some .long) :: ([.constantLong RX6 171 (1000)])
def wsX6_judge_r1 : List Cond := [Cond.constantLong RX6 173 (4), Cond.constantLong RX6 171 (1000), Cond.methodLink RX6 62 yX6_in, Cond.static yX6_in, Cond.initialized RX6, Cond.code yX6_in cX6_in 6 (some .boolean), Cond.methodLink RX6 175 yX6_thousandTo, Cond.static yX6_thousandTo, Cond.code yX6_thousandTo cX6_thousandTo 4 (some .long), Cond.methodLink RX6 157 yX6_layTrial, Cond.instanceMethod yX6_layTrial, Cond.selects RX6 yX6_layTrial yX6_layTrial, Cond.code yX6_layTrial cX6_layTrial 2 none, Cond.fieldLink RX6 22 "DustVoteModel" "now" "[I", Cond.methodLink RX6 179 yX6_tryThing, Cond.instanceMethod yX6_tryThing, Cond.selects RX6 yX6_tryThing yX6_tryThing, Cond.code yX6_tryThing cX6_tryThing 7 (some .boolean), Cond.methodLink RX6 143 yX6_passOn, Cond.instanceMethod yX6_passOn, Cond.selects RX6 yX6_passOn yX6_passOn, Cond.code yX6_passOn cX6_passOn 6 none, Cond.fieldLink RX6 96 "DustVoteModel" "falls" "I", Cond.fieldLink RX6 16 "DustVoteModel" "fallAt" "[I"]
def wsX6_judge_r2 : List Cond := [Cond.fieldLink RX6 19 "DustVoteModel" "fallen" "[I", Cond.fieldLink RX6 93 "DustVoteModel" "brooms" "I", Cond.methodLink RX6 115 yX6_add, Cond.instanceMethod yX6_add, Cond.selects RX6 yX6_add yX6_add, Cond.code yX6_add cX6_add 5 none, Cond.methodLink RX6 119 yX6_sweep, Cond.instanceMethod yX6_sweep, Cond.selects RX6 yX6_sweep yX6_sweep, Cond.code yX6_sweep cX6_sweep 6 none, Cond.fieldLink RX6 37 "DustVoteModel" "working" "I", Cond.fieldLink RX6 7 "DustVoteModel" "strength" "[I", Cond.methodLink RX6 108 yX6_worksAs, Cond.instanceMethod yX6_worksAs, Cond.selects RX6 yX6_worksAs yX6_worksAs, Cond.code yX6_worksAs cX6_worksAs 4 (some .int), Cond.fieldLink RX6 13 "DustVoteModel" "kind" "[I", Cond.methodLink RX6 104 yX6_has, Cond.static yX6_has, Cond.code yX6_has cX6_has 2 (some .boolean), Cond.methodLink RX6 111 yX6_takeOff, Cond.instanceMethod yX6_takeOff, Cond.selects RX6 yX6_takeOff yX6_takeOff, Cond.code yX6_takeOff cX6_takeOff 6 (some .int)]
def wsX6_judge_r3 : List Cond := [Cond.methodLink RX6 123 yX6_kneesOn, Cond.instanceMethod yX6_kneesOn, Cond.selects RX6 yX6_kneesOn yX6_kneesOn, Cond.code yX6_kneesOn cX6_kneesOn 4 (some .int), Cond.methodLink RX6 134 yX6_isBroom, Cond.instanceMethod yX6_isBroom, Cond.selects RX6 yX6_isBroom yX6_isBroom, Cond.code yX6_isBroom cX6_isBroom 2 (some .boolean), Cond.methodLink RX6 149 yX6_walkOn, Cond.instanceMethod yX6_walkOn, Cond.selects RX6 yX6_walkOn yX6_walkOn, Cond.code yX6_walkOn cX6_walkOn 5 none, Cond.methodLink RX6 127 yX6_isStreet, Cond.static yX6_isStreet, Cond.code yX6_isStreet cX6_isStreet 1 (some .boolean), Cond.constantLong RX6 102 (7)]
def wsX6_judge : List Cond := .code yX6_judge cX6_judge 6 (some .int) :: ((wsX6_judge_r1 ++ (wsX6_judge_r2 ++ wsX6_judge_r3)) ++ wsX60)
def wsX6_heap : List Cond := .code yX6_heap cX6_heap 4 (some .int) :: ([.constantLong RX6 183 (20), .constantLong RX6 166 (9), .fieldLink RX6 185 "DustVoteModel" "heaps" "I", .fieldLink RX6 44 "DustVoteModel" "heapHad" "[I", .fieldLink RX6 47 "DustVoteModel" "heapLeft" "[I", .fieldLink RX6 50 "DustVoteModel" "heapWent" "[I", .methodLink RX6 62 yX6_in, .static yX6_in, .initialized RX6, .code yX6_in cX6_in 6 (some .boolean)] ++ wsX60)
def wsX6_unheap : List Cond := .code yX6_unheap cX6_unheap 2 (some .int) :: ([.fieldLink RX6 185 "DustVoteModel" "heaps" "I"] ++ wsX60)
def wsX6_whose : List Cond := .code yX6_whose cX6_whose 9 (some .int) :: ([.fieldLink RX6 185 "DustVoteModel" "heaps" "I", .fieldLink RX6 44 "DustVoteModel" "heapHad" "[I", .fieldLink RX6 47 "DustVoteModel" "heapLeft" "[I", .fieldLink RX6 50 "DustVoteModel" "heapWent" "[I", .methodLink RX6 62 yX6_in, .static yX6_in, .initialized RX6, .code yX6_in cX6_in 6 (some .boolean)] ++ wsX60)
def wsX6_factorial : List Cond := .code yX6_factorial cX6_factorial 3 (some .int) :: ([])
def wsX6_common : List Cond := .code yX6_common cX6_common 5 (some .int) :: ([])
def wsX6_dustBy_r1 : List Cond := [Cond.fieldLink RX6 37 "DustVoteModel" "working" "I", Cond.methodLink RX6 157 yX6_layTrial, Cond.instanceMethod yX6_layTrial, Cond.selects RX6 yX6_layTrial yX6_layTrial, Cond.initialized RX6, Cond.code yX6_layTrial cX6_layTrial 2 none, Cond.fieldLink RX6 22 "DustVoteModel" "now" "[I", Cond.methodLink RX6 160 yX6_goOn, Cond.instanceMethod yX6_goOn, Cond.selects RX6 yX6_goOn yX6_goOn, Cond.code yX6_goOn cX6_goOn 3 none, Cond.methodLink RX6 143 yX6_passOn, Cond.instanceMethod yX6_passOn, Cond.selects RX6 yX6_passOn yX6_passOn, Cond.code yX6_passOn cX6_passOn 6 none, Cond.fieldLink RX6 96 "DustVoteModel" "falls" "I", Cond.fieldLink RX6 16 "DustVoteModel" "fallAt" "[I", Cond.fieldLink RX6 19 "DustVoteModel" "fallen" "[I", Cond.fieldLink RX6 93 "DustVoteModel" "brooms" "I", Cond.methodLink RX6 115 yX6_add, Cond.instanceMethod yX6_add, Cond.selects RX6 yX6_add yX6_add, Cond.code yX6_add cX6_add 5 none, Cond.methodLink RX6 119 yX6_sweep]
def wsX6_dustBy_r2 : List Cond := [Cond.instanceMethod yX6_sweep, Cond.selects RX6 yX6_sweep yX6_sweep, Cond.code yX6_sweep cX6_sweep 6 none, Cond.fieldLink RX6 7 "DustVoteModel" "strength" "[I", Cond.methodLink RX6 108 yX6_worksAs, Cond.instanceMethod yX6_worksAs, Cond.selects RX6 yX6_worksAs yX6_worksAs, Cond.code yX6_worksAs cX6_worksAs 4 (some .int), Cond.fieldLink RX6 13 "DustVoteModel" "kind" "[I", Cond.methodLink RX6 104 yX6_has, Cond.static yX6_has, Cond.code yX6_has cX6_has 2 (some .boolean), Cond.methodLink RX6 111 yX6_takeOff, Cond.instanceMethod yX6_takeOff, Cond.selects RX6 yX6_takeOff yX6_takeOff, Cond.code yX6_takeOff cX6_takeOff 6 (some .int), Cond.methodLink RX6 123 yX6_kneesOn, Cond.instanceMethod yX6_kneesOn, Cond.selects RX6 yX6_kneesOn yX6_kneesOn, Cond.code yX6_kneesOn cX6_kneesOn 4 (some .int), Cond.methodLink RX6 146 yX6_dustOn, Cond.instanceMethod yX6_dustOn, Cond.selects RX6 yX6_dustOn yX6_dustOn, Cond.code yX6_dustOn cX6_dustOn 4 (some .int)]
def wsX6_dustBy : List Cond := .code yX6_dustBy cX6_dustBy 2 (some .int) :: ((wsX6_dustBy_r1 ++ wsX6_dustBy_r2) ++ wsX60)
def wsX6_share_r1 : List Cond := [Cond.fieldLink RX6 93 "DustVoteModel" "brooms" "I", Cond.methodLink RX6 134 yX6_isBroom, Cond.instanceMethod yX6_isBroom, Cond.selects RX6 yX6_isBroom yX6_isBroom, Cond.initialized RX6, Cond.code yX6_isBroom cX6_isBroom 2 (some .boolean), Cond.methodLink RX6 62 yX6_in, Cond.static yX6_in, Cond.code yX6_in cX6_in 6 (some .boolean), Cond.methodLink RX6 104 yX6_has, Cond.static yX6_has, Cond.code yX6_has cX6_has 2 (some .boolean), Cond.methodLink RX6 152 yX6_ones, Cond.static yX6_ones, Cond.code yX6_ones cX6_ones 3 (some .int), Cond.methodLink RX6 188 yX6_factorial, Cond.static yX6_factorial, Cond.code yX6_factorial cX6_factorial 3 (some .int), Cond.methodLink RX6 191 yX6_dustBy, Cond.instanceMethod yX6_dustBy, Cond.selects RX6 yX6_dustBy yX6_dustBy, Cond.code yX6_dustBy cX6_dustBy 2 (some .int), Cond.fieldLink RX6 37 "DustVoteModel" "working" "I", Cond.methodLink RX6 157 yX6_layTrial]
def wsX6_share_r2 : List Cond := [Cond.instanceMethod yX6_layTrial, Cond.selects RX6 yX6_layTrial yX6_layTrial, Cond.code yX6_layTrial cX6_layTrial 2 none, Cond.fieldLink RX6 22 "DustVoteModel" "now" "[I", Cond.methodLink RX6 160 yX6_goOn, Cond.instanceMethod yX6_goOn, Cond.selects RX6 yX6_goOn yX6_goOn, Cond.code yX6_goOn cX6_goOn 3 none, Cond.methodLink RX6 143 yX6_passOn, Cond.instanceMethod yX6_passOn, Cond.selects RX6 yX6_passOn yX6_passOn, Cond.code yX6_passOn cX6_passOn 6 none, Cond.fieldLink RX6 96 "DustVoteModel" "falls" "I", Cond.fieldLink RX6 16 "DustVoteModel" "fallAt" "[I", Cond.fieldLink RX6 19 "DustVoteModel" "fallen" "[I", Cond.methodLink RX6 115 yX6_add, Cond.instanceMethod yX6_add, Cond.selects RX6 yX6_add yX6_add, Cond.code yX6_add cX6_add 5 none, Cond.methodLink RX6 119 yX6_sweep, Cond.instanceMethod yX6_sweep, Cond.selects RX6 yX6_sweep yX6_sweep, Cond.code yX6_sweep cX6_sweep 6 none, Cond.fieldLink RX6 7 "DustVoteModel" "strength" "[I"]
def wsX6_share_r3 : List Cond := [Cond.methodLink RX6 108 yX6_worksAs, Cond.instanceMethod yX6_worksAs, Cond.selects RX6 yX6_worksAs yX6_worksAs, Cond.code yX6_worksAs cX6_worksAs 4 (some .int), Cond.fieldLink RX6 13 "DustVoteModel" "kind" "[I", Cond.methodLink RX6 111 yX6_takeOff, Cond.instanceMethod yX6_takeOff, Cond.selects RX6 yX6_takeOff yX6_takeOff, Cond.code yX6_takeOff cX6_takeOff 6 (some .int), Cond.methodLink RX6 123 yX6_kneesOn, Cond.instanceMethod yX6_kneesOn, Cond.selects RX6 yX6_kneesOn yX6_kneesOn, Cond.code yX6_kneesOn cX6_kneesOn 4 (some .int), Cond.methodLink RX6 146 yX6_dustOn, Cond.instanceMethod yX6_dustOn, Cond.selects RX6 yX6_dustOn yX6_dustOn, Cond.code yX6_dustOn cX6_dustOn 4 (some .int), Cond.methodLink RX6 194 yX6_common, Cond.static yX6_common, Cond.code yX6_common cX6_common 5 (some .int)]
def wsX6_share : List Cond := .code yX6_share cX6_share 6 (some .int) :: ((wsX6_share_r1 ++ (wsX6_share_r2 ++ wsX6_share_r3)) ++ wsX60)
def wsX6_gain_r1 : List Cond := [Cond.fieldLink RX6 37 "DustVoteModel" "working" "I", Cond.fieldLink RX6 22 "DustVoteModel" "now" "[I", Cond.methodLink RX6 157 yX6_layTrial, Cond.instanceMethod yX6_layTrial, Cond.selects RX6 yX6_layTrial yX6_layTrial, Cond.initialized RX6, Cond.code yX6_layTrial cX6_layTrial 2 none, Cond.methodLink RX6 160 yX6_goOn, Cond.instanceMethod yX6_goOn, Cond.selects RX6 yX6_goOn yX6_goOn, Cond.code yX6_goOn cX6_goOn 3 none, Cond.methodLink RX6 143 yX6_passOn, Cond.instanceMethod yX6_passOn, Cond.selects RX6 yX6_passOn yX6_passOn, Cond.code yX6_passOn cX6_passOn 6 none, Cond.fieldLink RX6 96 "DustVoteModel" "falls" "I", Cond.fieldLink RX6 16 "DustVoteModel" "fallAt" "[I", Cond.fieldLink RX6 19 "DustVoteModel" "fallen" "[I", Cond.fieldLink RX6 93 "DustVoteModel" "brooms" "I", Cond.methodLink RX6 115 yX6_add, Cond.instanceMethod yX6_add, Cond.selects RX6 yX6_add yX6_add, Cond.code yX6_add cX6_add 5 none, Cond.methodLink RX6 119 yX6_sweep]
def wsX6_gain_r2 : List Cond := [Cond.instanceMethod yX6_sweep, Cond.selects RX6 yX6_sweep yX6_sweep, Cond.code yX6_sweep cX6_sweep 6 none, Cond.fieldLink RX6 7 "DustVoteModel" "strength" "[I", Cond.methodLink RX6 108 yX6_worksAs, Cond.instanceMethod yX6_worksAs, Cond.selects RX6 yX6_worksAs yX6_worksAs, Cond.code yX6_worksAs cX6_worksAs 4 (some .int), Cond.fieldLink RX6 13 "DustVoteModel" "kind" "[I", Cond.methodLink RX6 104 yX6_has, Cond.static yX6_has, Cond.code yX6_has cX6_has 2 (some .boolean), Cond.methodLink RX6 111 yX6_takeOff, Cond.instanceMethod yX6_takeOff, Cond.selects RX6 yX6_takeOff yX6_takeOff, Cond.code yX6_takeOff cX6_takeOff 6 (some .int), Cond.methodLink RX6 123 yX6_kneesOn, Cond.instanceMethod yX6_kneesOn, Cond.selects RX6 yX6_kneesOn yX6_kneesOn, Cond.code yX6_kneesOn cX6_kneesOn 4 (some .int)]
def wsX6_gain : List Cond := .code yX6_gain cX6_gain 5 (some .int) :: ((wsX6_gain_r1 ++ wsX6_gain_r2) ++ wsX60)
def wsX6_isRest_r1 : List Cond := [Cond.methodLink RX6 197 yX6_gain, Cond.instanceMethod yX6_gain, Cond.selects RX6 yX6_gain yX6_gain, Cond.initialized RX6, Cond.code yX6_gain cX6_gain 5 (some .int), Cond.fieldLink RX6 37 "DustVoteModel" "working" "I", Cond.fieldLink RX6 22 "DustVoteModel" "now" "[I", Cond.methodLink RX6 157 yX6_layTrial, Cond.instanceMethod yX6_layTrial, Cond.selects RX6 yX6_layTrial yX6_layTrial, Cond.code yX6_layTrial cX6_layTrial 2 none, Cond.methodLink RX6 160 yX6_goOn, Cond.instanceMethod yX6_goOn, Cond.selects RX6 yX6_goOn yX6_goOn, Cond.code yX6_goOn cX6_goOn 3 none, Cond.methodLink RX6 143 yX6_passOn, Cond.instanceMethod yX6_passOn, Cond.selects RX6 yX6_passOn yX6_passOn, Cond.code yX6_passOn cX6_passOn 6 none, Cond.fieldLink RX6 96 "DustVoteModel" "falls" "I", Cond.fieldLink RX6 16 "DustVoteModel" "fallAt" "[I", Cond.fieldLink RX6 19 "DustVoteModel" "fallen" "[I", Cond.fieldLink RX6 93 "DustVoteModel" "brooms" "I", Cond.methodLink RX6 115 yX6_add]
def wsX6_isRest_r2 : List Cond := [Cond.instanceMethod yX6_add, Cond.selects RX6 yX6_add yX6_add, Cond.code yX6_add cX6_add 5 none, Cond.methodLink RX6 119 yX6_sweep, Cond.instanceMethod yX6_sweep, Cond.selects RX6 yX6_sweep yX6_sweep, Cond.code yX6_sweep cX6_sweep 6 none, Cond.fieldLink RX6 7 "DustVoteModel" "strength" "[I", Cond.methodLink RX6 108 yX6_worksAs, Cond.instanceMethod yX6_worksAs, Cond.selects RX6 yX6_worksAs yX6_worksAs, Cond.code yX6_worksAs cX6_worksAs 4 (some .int), Cond.fieldLink RX6 13 "DustVoteModel" "kind" "[I", Cond.methodLink RX6 104 yX6_has, Cond.static yX6_has, Cond.code yX6_has cX6_has 2 (some .boolean), Cond.methodLink RX6 111 yX6_takeOff, Cond.instanceMethod yX6_takeOff, Cond.selects RX6 yX6_takeOff yX6_takeOff, Cond.code yX6_takeOff cX6_takeOff 6 (some .int), Cond.methodLink RX6 123 yX6_kneesOn, Cond.instanceMethod yX6_kneesOn, Cond.selects RX6 yX6_kneesOn yX6_kneesOn, Cond.code yX6_kneesOn cX6_kneesOn 4 (some .int)]
def wsX6_isRest : List Cond := .code yX6_isRest cX6_isRest 5 (some .boolean) :: ((wsX6_isRest_r1 ++ wsX6_isRest_r2) ++ wsX60)
def wsX6_rests_r1 : List Cond := [Cond.methodLink RX6 134 yX6_isBroom, Cond.instanceMethod yX6_isBroom, Cond.selects RX6 yX6_isBroom yX6_isBroom, Cond.initialized RX6, Cond.code yX6_isBroom cX6_isBroom 2 (some .boolean), Cond.fieldLink RX6 93 "DustVoteModel" "brooms" "I", Cond.methodLink RX6 62 yX6_in, Cond.static yX6_in, Cond.code yX6_in cX6_in 6 (some .boolean), Cond.methodLink RX6 201 yX6_isRest, Cond.instanceMethod yX6_isRest, Cond.selects RX6 yX6_isRest yX6_isRest, Cond.code yX6_isRest cX6_isRest 5 (some .boolean), Cond.methodLink RX6 197 yX6_gain, Cond.instanceMethod yX6_gain, Cond.selects RX6 yX6_gain yX6_gain, Cond.code yX6_gain cX6_gain 5 (some .int), Cond.fieldLink RX6 37 "DustVoteModel" "working" "I", Cond.fieldLink RX6 22 "DustVoteModel" "now" "[I", Cond.methodLink RX6 157 yX6_layTrial, Cond.instanceMethod yX6_layTrial, Cond.selects RX6 yX6_layTrial yX6_layTrial, Cond.code yX6_layTrial cX6_layTrial 2 none, Cond.methodLink RX6 160 yX6_goOn]
def wsX6_rests_r2 : List Cond := [Cond.instanceMethod yX6_goOn, Cond.selects RX6 yX6_goOn yX6_goOn, Cond.code yX6_goOn cX6_goOn 3 none, Cond.methodLink RX6 143 yX6_passOn, Cond.instanceMethod yX6_passOn, Cond.selects RX6 yX6_passOn yX6_passOn, Cond.code yX6_passOn cX6_passOn 6 none, Cond.fieldLink RX6 96 "DustVoteModel" "falls" "I", Cond.fieldLink RX6 16 "DustVoteModel" "fallAt" "[I", Cond.fieldLink RX6 19 "DustVoteModel" "fallen" "[I", Cond.methodLink RX6 115 yX6_add, Cond.instanceMethod yX6_add, Cond.selects RX6 yX6_add yX6_add, Cond.code yX6_add cX6_add 5 none, Cond.methodLink RX6 119 yX6_sweep, Cond.instanceMethod yX6_sweep, Cond.selects RX6 yX6_sweep yX6_sweep, Cond.code yX6_sweep cX6_sweep 6 none, Cond.fieldLink RX6 7 "DustVoteModel" "strength" "[I", Cond.methodLink RX6 108 yX6_worksAs, Cond.instanceMethod yX6_worksAs, Cond.selects RX6 yX6_worksAs yX6_worksAs, Cond.code yX6_worksAs cX6_worksAs 4 (some .int), Cond.fieldLink RX6 13 "DustVoteModel" "kind" "[I"]
def wsX6_rests_r3 : List Cond := [Cond.methodLink RX6 104 yX6_has, Cond.static yX6_has, Cond.code yX6_has cX6_has 2 (some .boolean), Cond.methodLink RX6 111 yX6_takeOff, Cond.instanceMethod yX6_takeOff, Cond.selects RX6 yX6_takeOff yX6_takeOff, Cond.code yX6_takeOff cX6_takeOff 6 (some .int), Cond.methodLink RX6 123 yX6_kneesOn, Cond.instanceMethod yX6_kneesOn, Cond.selects RX6 yX6_kneesOn yX6_kneesOn, Cond.code yX6_kneesOn cX6_kneesOn 4 (some .int)]
def wsX6_rests : List Cond := .code yX6_rests cX6_rests 7 (some .int) :: ((wsX6_rests_r1 ++ (wsX6_rests_r2 ++ wsX6_rests_r3)) ++ wsX60)
def wsX6_twice_r1 : List Cond := [Cond.constantLong RX6 205 (6), Cond.constantLong RX6 207 (10), Cond.fieldLink RX6 22 "DustVoteModel" "now" "[I", Cond.methodLink RX6 127 yX6_isStreet, Cond.static yX6_isStreet, Cond.initialized RX6, Cond.code yX6_isStreet cX6_isStreet 1 (some .boolean), Cond.constantLong RX6 102 (7), Cond.methodLink RX6 62 yX6_in, Cond.static yX6_in, Cond.code yX6_in cX6_in 6 (some .boolean), Cond.methodLink RX6 157 yX6_layTrial, Cond.instanceMethod yX6_layTrial, Cond.selects RX6 yX6_layTrial yX6_layTrial, Cond.code yX6_layTrial cX6_layTrial 2 none, Cond.methodLink RX6 104 yX6_has, Cond.static yX6_has, Cond.code yX6_has cX6_has 2 (some .boolean), Cond.methodLink RX6 143 yX6_passOn, Cond.instanceMethod yX6_passOn, Cond.selects RX6 yX6_passOn yX6_passOn, Cond.code yX6_passOn cX6_passOn 6 none, Cond.fieldLink RX6 96 "DustVoteModel" "falls" "I", Cond.fieldLink RX6 16 "DustVoteModel" "fallAt" "[I"]
def wsX6_twice_r2 : List Cond := [Cond.fieldLink RX6 19 "DustVoteModel" "fallen" "[I", Cond.fieldLink RX6 93 "DustVoteModel" "brooms" "I", Cond.methodLink RX6 115 yX6_add, Cond.instanceMethod yX6_add, Cond.selects RX6 yX6_add yX6_add, Cond.code yX6_add cX6_add 5 none, Cond.methodLink RX6 119 yX6_sweep, Cond.instanceMethod yX6_sweep, Cond.selects RX6 yX6_sweep yX6_sweep, Cond.code yX6_sweep cX6_sweep 6 none, Cond.fieldLink RX6 37 "DustVoteModel" "working" "I", Cond.fieldLink RX6 7 "DustVoteModel" "strength" "[I", Cond.methodLink RX6 108 yX6_worksAs, Cond.instanceMethod yX6_worksAs, Cond.selects RX6 yX6_worksAs yX6_worksAs, Cond.code yX6_worksAs cX6_worksAs 4 (some .int), Cond.fieldLink RX6 13 "DustVoteModel" "kind" "[I", Cond.methodLink RX6 111 yX6_takeOff, Cond.instanceMethod yX6_takeOff, Cond.selects RX6 yX6_takeOff yX6_takeOff, Cond.code yX6_takeOff cX6_takeOff 6 (some .int), Cond.methodLink RX6 123 yX6_kneesOn, Cond.instanceMethod yX6_kneesOn, Cond.selects RX6 yX6_kneesOn yX6_kneesOn]
def wsX6_twice_r3 : List Cond := [Cond.code yX6_kneesOn cX6_kneesOn 4 (some .int), Cond.methodLink RX6 194 yX6_common, Cond.static yX6_common, Cond.code yX6_common cX6_common 5 (some .int)]
def wsX6_twice : List Cond := .code yX6_twice cX6_twice 10 (some .int) :: ((wsX6_twice_r1 ++ (wsX6_twice_r2 ++ wsX6_twice_r3)) ++ wsX60)
def wsX6_seed : List Cond := .code yX6_seed cX6_seed 5 (some .long) :: ([.fieldLink RX6 209 "DustVoteModel" "seed" "J"] ++ wsX60)
def wsX6_years_r1 : List Cond := [Cond.constantLong RX6 155 (30), Cond.fieldLink RX6 209 "DustVoteModel" "seed" "J", Cond.constantLong RX6 213 (6364136223846793005), Cond.constantLong RX6 215 (1442695040888963407), Cond.constantLong RX6 217 (32), Cond.methodLink RX6 62 yX6_in, Cond.static yX6_in, Cond.initialized RX6, Cond.code yX6_in cX6_in 6 (some .boolean), Cond.methodLink RX6 157 yX6_layTrial, Cond.instanceMethod yX6_layTrial, Cond.selects RX6 yX6_layTrial yX6_layTrial, Cond.code yX6_layTrial cX6_layTrial 2 none, Cond.fieldLink RX6 22 "DustVoteModel" "now" "[I", Cond.methodLink RX6 143 yX6_passOn, Cond.instanceMethod yX6_passOn, Cond.selects RX6 yX6_passOn yX6_passOn, Cond.code yX6_passOn cX6_passOn 6 none, Cond.fieldLink RX6 96 "DustVoteModel" "falls" "I", Cond.fieldLink RX6 16 "DustVoteModel" "fallAt" "[I", Cond.fieldLink RX6 19 "DustVoteModel" "fallen" "[I", Cond.fieldLink RX6 93 "DustVoteModel" "brooms" "I", Cond.methodLink RX6 115 yX6_add, Cond.instanceMethod yX6_add]
def wsX6_years_r2 : List Cond := [Cond.selects RX6 yX6_add yX6_add, Cond.code yX6_add cX6_add 5 none, Cond.methodLink RX6 119 yX6_sweep, Cond.instanceMethod yX6_sweep, Cond.selects RX6 yX6_sweep yX6_sweep, Cond.code yX6_sweep cX6_sweep 6 none, Cond.fieldLink RX6 37 "DustVoteModel" "working" "I", Cond.fieldLink RX6 7 "DustVoteModel" "strength" "[I", Cond.methodLink RX6 108 yX6_worksAs, Cond.instanceMethod yX6_worksAs, Cond.selects RX6 yX6_worksAs yX6_worksAs, Cond.code yX6_worksAs cX6_worksAs 4 (some .int), Cond.fieldLink RX6 13 "DustVoteModel" "kind" "[I", Cond.methodLink RX6 104 yX6_has, Cond.static yX6_has, Cond.code yX6_has cX6_has 2 (some .boolean), Cond.methodLink RX6 111 yX6_takeOff, Cond.instanceMethod yX6_takeOff, Cond.selects RX6 yX6_takeOff yX6_takeOff, Cond.code yX6_takeOff cX6_takeOff 6 (some .int), Cond.methodLink RX6 123 yX6_kneesOn, Cond.instanceMethod yX6_kneesOn, Cond.selects RX6 yX6_kneesOn yX6_kneesOn, Cond.code yX6_kneesOn cX6_kneesOn 4 (some .int)]
def wsX6_years_r3 : List Cond := [Cond.methodLink RX6 179 yX6_tryThing, Cond.instanceMethod yX6_tryThing, Cond.selects RX6 yX6_tryThing yX6_tryThing, Cond.code yX6_tryThing cX6_tryThing 7 (some .boolean), Cond.methodLink RX6 134 yX6_isBroom, Cond.instanceMethod yX6_isBroom, Cond.selects RX6 yX6_isBroom yX6_isBroom, Cond.code yX6_isBroom cX6_isBroom 2 (some .boolean), Cond.methodLink RX6 149 yX6_walkOn, Cond.instanceMethod yX6_walkOn, Cond.selects RX6 yX6_walkOn yX6_walkOn, Cond.code yX6_walkOn cX6_walkOn 5 none, Cond.methodLink RX6 127 yX6_isStreet, Cond.static yX6_isStreet, Cond.code yX6_isStreet cX6_isStreet 1 (some .boolean), Cond.constantLong RX6 102 (7), Cond.methodLink RX6 146 yX6_dustOn, Cond.instanceMethod yX6_dustOn, Cond.selects RX6 yX6_dustOn yX6_dustOn, Cond.code yX6_dustOn cX6_dustOn 4 (some .int)]
def wsX6_years : List Cond := .code yX6_years cX6_years 5 (some .int) :: ((wsX6_years_r1 ++ (wsX6_years_r2 ++ wsX6_years_r3)) ++ wsX60)
def wsX6_keep : List Cond := .code yX6_keep cX6_keep 3 (some .int) :: ([.fieldLink RX6 53 "DustVoteModel" "isKept" "[Z", .fieldLink RX6 57 "DustVoteModel" "kept" "[I", .fieldLink RX6 22 "DustVoteModel" "now" "[I", .methodLink RX6 62 yX6_in, .static yX6_in, .initialized RX6, .code yX6_in cX6_in 6 (some .boolean)] ++ wsX60)
def wsX6_again : List Cond := .code yX6_again cX6_again 3 (some .int) :: ([.fieldLink RX6 53 "DustVoteModel" "isKept" "[Z", .fieldLink RX6 22 "DustVoteModel" "now" "[I", .fieldLink RX6 57 "DustVoteModel" "kept" "[I", .fieldLink RX6 99 "DustVoteModel" "acts" "I", .methodLink RX6 62 yX6_in, .static yX6_in, .initialized RX6, .code yX6_in cX6_in 6 (some .boolean)] ++ wsX60)
def wsX6_count : List Cond := .code yX6_count cX6_count 2 (some .int) :: ([.fieldLink RX6 66 "DustVoteModel" "length" "I", .fieldLink RX6 93 "DustVoteModel" "brooms" "I", .fieldLink RX6 96 "DustVoteModel" "falls" "I", .fieldLink RX6 22 "DustVoteModel" "now" "[I", .fieldLink RX6 99 "DustVoteModel" "acts" "I", .fieldLink RX6 185 "DustVoteModel" "heaps" "I", .methodLink RX6 146 yX6_dustOn, .instanceMethod yX6_dustOn, .selects RX6 yX6_dustOn yX6_dustOn, .initialized RX6, .code yX6_dustOn cX6_dustOn 4 (some .int), .methodLink RX6 123 yX6_kneesOn, .instanceMethod yX6_kneesOn, .selects RX6 yX6_kneesOn yX6_kneesOn, .code yX6_kneesOn cX6_kneesOn 4 (some .int)] ++ wsX60)
def wsJ9_abs_067f4 : List Cond := .code yJ9_abs_067f4 cJ9_abs_067f4 2 (some .long) :: ([])
def wsJ9_max_f86c9 : List Cond := .code yJ9_max_f86c9 cJ9_max_f86c9 4 (some .long) :: ([])
def wsJ9_min_7cf53 : List Cond := .code yJ9_min_7cf53 cJ9_min_7cf53 2 (some .int) :: ([])
theorem inJ6 : ∀ w ∈ wsJ60, w ∈ lw_tbl := by decide +kernel
theorem inJ9 : ∀ w ∈ wsJ90, w ∈ lw_tbl := by decide +kernel
theorem inJ10 : ∀ w ∈ wsJ100, w ∈ lw_tbl := by decide +kernel
theorem dX0_init_0 : decode cX0_init 0 = .ok (.aload_n 0, 1) := by decide +kernel
theorem dX0_init_1 : decode cX0_init 1 = .ok (.invokespecial 3, 3) := by decide +kernel
theorem dX0_init_4 : decode cX0_init 4 = .ok (.aload_n 0, 1) := by decide +kernel
theorem dX0_init_5 : decode cX0_init 5 = .ok (.sipush 224, 3) := by decide +kernel
theorem dX0_init_8 : decode cX0_init 8 = .ok (.newarray .int, 2) := by decide +kernel
theorem dX0_init_10 : decode cX0_init 10 = .ok (.putfield 9, 3) := by decide +kernel
theorem dX0_init_13 : decode cX0_init 13 = .ok (.aload_n 0, 1) := by decide +kernel
theorem dX0_init_14 : decode cX0_init 14 = .ok (.iconst 0, 1) := by decide +kernel
theorem dX0_init_15 : decode cX0_init 15 = .ok (.putfield 15, 3) := by decide +kernel
theorem dX0_init_18 : decode cX0_init 18 = .ok (.aload_n 0, 1) := by decide +kernel
theorem dX0_init_19 : decode cX0_init 19 = .ok (.iconst 0, 1) := by decide +kernel
theorem dX0_init_20 : decode cX0_init 20 = .ok (.putfield 19, 3) := by decide +kernel
theorem dX0_init_23 : decode cX0_init 23 = .ok (.return_, 1) := by decide +kernel
theorem dX0_clear_0 : decode cX0_clear 0 = .ok (.aload_n 0, 1) := by decide +kernel
theorem dX0_clear_1 : decode cX0_clear 1 = .ok (.iconst 0, 1) := by decide +kernel
theorem dX0_clear_2 : decode cX0_clear 2 = .ok (.putfield 15, 3) := by decide +kernel
theorem dX0_clear_5 : decode cX0_clear 5 = .ok (.aload_n 0, 1) := by decide +kernel
theorem dX0_clear_6 : decode cX0_clear 6 = .ok (.iconst 0, 1) := by decide +kernel
theorem dX0_clear_7 : decode cX0_clear 7 = .ok (.putfield 19, 3) := by decide +kernel
theorem dX0_clear_10 : decode cX0_clear 10 = .ok (.return_, 1) := by decide +kernel
theorem dX0_spotOf_0 : decode cX0_spotOf 0 = .ok (.iload_n 0, 1) := by decide +kernel
theorem dX0_spotOf_1 : decode cX0_spotOf 1 = .ok (.bipush 14, 2) := by decide +kernel
theorem dX0_spotOf_3 : decode cX0_spotOf 3 = .ok (.irem, 1) := by decide +kernel
theorem dX0_spotOf_4 : decode cX0_spotOf 4 = .ok (.bipush 16, 2) := by decide +kernel
theorem dX0_spotOf_6 : decode cX0_spotOf 6 = .ok (.imul, 1) := by decide +kernel
theorem dX0_spotOf_7 : decode cX0_spotOf 7 = .ok (.ireturn, 1) := by decide +kernel
set_option maxRecDepth 20000 in
theorem ggX0_push_X0_spotOf : GoodIn wsX0_push wsX0_spotOf := goodIn_r _ [7] (by decide +kernel) (by decide +kernel)
set_option maxRecDepth 20000 in
theorem gX0_push_X0_spotOf : GoodIn wsX0_push (va_wsS RX0 22 yX0_spotOf wsX0_spotOf) := goodIn_app (goodIn_of _ (by decide +kernel)) ggX0_push_X0_spotOf
set_option maxRecDepth 20000 in
theorem ggX0_push_X2_save : GoodIn wsX0_push wsX2_save := goodIn_r _ [12, 13, 14, 15, 16, 17, 18, 19, 20, 21, 25, 26, 27, 28, 29, 30, 31] (by decide +kernel) (by decide +kernel)
set_option maxRecDepth 20000 in
theorem gX0_push_X2_save : GoodIn wsX0_push (wsV RX0 26 RX2 yX2_save wsX2_save) := goodIn_app (goodIn_of _ (by decide +kernel)) ggX0_push_X2_save
theorem dX0_push_0 : decode cX0_push 0 = .ok (.aload_n 1, 1) := by decide +kernel
theorem dX0_push_1 : decode cX0_push 1 = .ok (.aload_n 0, 1) := by decide +kernel
theorem dX0_push_2 : decode cX0_push 2 = .ok (.getfield 9, 3) := by decide +kernel
theorem dX0_push_5 : decode cX0_push 5 = .ok (.aload_n 0, 1) := by decide +kernel
theorem dX0_push_6 : decode cX0_push 6 = .ok (.getfield 15, 3) := by decide +kernel
theorem dX0_push_9 : decode cX0_push 9 = .ok (.aload_n 0, 1) := by decide +kernel
theorem dX0_push_10 : decode cX0_push 10 = .ok (.getfield 19, 3) := by decide +kernel
theorem dX0_push_13 : decode cX0_push 13 = .ok (.iadd, 1) := by decide +kernel
theorem dX0_push_14 : decode cX0_push 14 = .ok (.invokestatic 22, 3) := by decide +kernel
theorem dX0_push_17 : decode cX0_push 17 = .ok (.invokevirtual 26, 3) := by decide +kernel
theorem dX0_push_20 : decode cX0_push 20 = .ok (.aload_n 0, 1) := by decide +kernel
theorem dX0_push_21 : decode cX0_push 21 = .ok (.getfield 19, 3) := by decide +kernel
theorem dX0_push_24 : decode cX0_push 24 = .ok (.bipush 14, 2) := by decide +kernel
theorem dX0_push_26 : decode cX0_push 26 = .ok (.if_icmp .ge 16, 3) := by decide +kernel
theorem dX0_push_29 : decode cX0_push 29 = .ok (.aload_n 0, 1) := by decide +kernel
theorem dX0_push_30 : decode cX0_push 30 = .ok (.dup, 1) := by decide +kernel
theorem dX0_push_31 : decode cX0_push 31 = .ok (.getfield 19, 3) := by decide +kernel
theorem dX0_push_34 : decode cX0_push 34 = .ok (.iconst 1, 1) := by decide +kernel
theorem dX0_push_35 : decode cX0_push 35 = .ok (.iadd, 1) := by decide +kernel
theorem dX0_push_36 : decode cX0_push 36 = .ok (.putfield 19, 3) := by decide +kernel
theorem dX0_push_39 : decode cX0_push 39 = .ok (.goto 16, 3) := by decide +kernel
theorem dX0_push_42 : decode cX0_push 42 = .ok (.aload_n 0, 1) := by decide +kernel
theorem dX0_push_43 : decode cX0_push 43 = .ok (.aload_n 0, 1) := by decide +kernel
theorem dX0_push_44 : decode cX0_push 44 = .ok (.getfield 15, 3) := by decide +kernel
theorem dX0_push_47 : decode cX0_push 47 = .ok (.iconst 1, 1) := by decide +kernel
theorem dX0_push_48 : decode cX0_push 48 = .ok (.iadd, 1) := by decide +kernel
theorem dX0_push_49 : decode cX0_push 49 = .ok (.bipush 14, 2) := by decide +kernel
theorem dX0_push_51 : decode cX0_push 51 = .ok (.irem, 1) := by decide +kernel
theorem dX0_push_52 : decode cX0_push 52 = .ok (.putfield 15, 3) := by decide +kernel
theorem dX0_push_55 : decode cX0_push 55 = .ok (.return_, 1) := by decide +kernel
set_option maxRecDepth 20000 in
theorem ggX0_pop_X0_spotOf : GoodIn wsX0_pop wsX0_spotOf := goodIn_r _ [7] (by decide +kernel) (by decide +kernel)
set_option maxRecDepth 20000 in
theorem gX0_pop_X0_spotOf : GoodIn wsX0_pop (va_wsS RX0 22 yX0_spotOf wsX0_spotOf) := goodIn_app (goodIn_of _ (by decide +kernel)) ggX0_pop_X0_spotOf
set_option maxRecDepth 20000 in
theorem ggX0_pop_X2_load : GoodIn wsX0_pop wsX2_load := goodIn_r _ [12, 13, 14, 15, 16, 17, 18, 19, 20, 21, 25, 26, 27, 28, 29, 30, 31] (by decide +kernel) (by decide +kernel)
set_option maxRecDepth 20000 in
theorem gX0_pop_X2_load : GoodIn wsX0_pop (wsV RX0 32 RX2 yX2_load wsX2_load) := goodIn_app (goodIn_of _ (by decide +kernel)) ggX0_pop_X2_load
theorem dX0_pop_0 : decode cX0_pop 0 = .ok (.aload_n 0, 1) := by decide +kernel
theorem dX0_pop_1 : decode cX0_pop 1 = .ok (.getfield 19, 3) := by decide +kernel
theorem dX0_pop_4 : decode cX0_pop 4 = .ok (.ifCond .le 33, 3) := by decide +kernel
theorem dX0_pop_7 : decode cX0_pop 7 = .ok (.aload_n 0, 1) := by decide +kernel
theorem dX0_pop_8 : decode cX0_pop 8 = .ok (.dup, 1) := by decide +kernel
theorem dX0_pop_9 : decode cX0_pop 9 = .ok (.getfield 19, 3) := by decide +kernel
theorem dX0_pop_12 : decode cX0_pop 12 = .ok (.iconst 1, 1) := by decide +kernel
theorem dX0_pop_13 : decode cX0_pop 13 = .ok (.isub, 1) := by decide +kernel
theorem dX0_pop_14 : decode cX0_pop 14 = .ok (.putfield 19, 3) := by decide +kernel
theorem dX0_pop_17 : decode cX0_pop 17 = .ok (.aload_n 1, 1) := by decide +kernel
theorem dX0_pop_18 : decode cX0_pop 18 = .ok (.aload_n 0, 1) := by decide +kernel
theorem dX0_pop_19 : decode cX0_pop 19 = .ok (.getfield 9, 3) := by decide +kernel
theorem dX0_pop_22 : decode cX0_pop 22 = .ok (.aload_n 0, 1) := by decide +kernel
theorem dX0_pop_23 : decode cX0_pop 23 = .ok (.getfield 15, 3) := by decide +kernel
theorem dX0_pop_26 : decode cX0_pop 26 = .ok (.aload_n 0, 1) := by decide +kernel
theorem dX0_pop_27 : decode cX0_pop 27 = .ok (.getfield 19, 3) := by decide +kernel
theorem dX0_pop_30 : decode cX0_pop 30 = .ok (.iadd, 1) := by decide +kernel
theorem dX0_pop_31 : decode cX0_pop 31 = .ok (.invokestatic 22, 3) := by decide +kernel
theorem dX0_pop_34 : decode cX0_pop 34 = .ok (.invokevirtual 32, 3) := by decide +kernel
theorem dX0_pop_37 : decode cX0_pop 37 = .ok (.return_, 1) := by decide +kernel
theorem dX1_init_0 : decode cX1_init 0 = .ok (.aload_n 0, 1) := by decide +kernel
theorem dX1_init_1 : decode cX1_init 1 = .ok (.invokespecial 3, 3) := by decide +kernel
theorem dX1_init_4 : decode cX1_init 4 = .ok (.aload_n 0, 1) := by decide +kernel
theorem dX1_init_5 : decode cX1_init 5 = .ok (.bipush 6, 2) := by decide +kernel
theorem dX1_init_7 : decode cX1_init 7 = .ok (.newarray .int, 2) := by decide +kernel
theorem dX1_init_9 : decode cX1_init 9 = .ok (.putfield 9, 3) := by decide +kernel
theorem dX1_init_12 : decode cX1_init 12 = .ok (.aload_n 0, 1) := by decide +kernel
theorem dX1_init_13 : decode cX1_init 13 = .ok (.bipush 6, 2) := by decide +kernel
theorem dX1_init_15 : decode cX1_init 15 = .ok (.newarray .int, 2) := by decide +kernel
theorem dX1_init_17 : decode cX1_init 17 = .ok (.putfield 15, 3) := by decide +kernel
theorem dX1_init_20 : decode cX1_init 20 = .ok (.aload_n 0, 1) := by decide +kernel
theorem dX1_init_21 : decode cX1_init 21 = .ok (.bipush 6, 2) := by decide +kernel
theorem dX1_init_23 : decode cX1_init 23 = .ok (.newarray .int, 2) := by decide +kernel
theorem dX1_init_25 : decode cX1_init 25 = .ok (.putfield 18, 3) := by decide +kernel
theorem dX1_init_28 : decode cX1_init 28 = .ok (.aload_n 0, 1) := by decide +kernel
theorem dX1_init_29 : decode cX1_init 29 = .ok (.iconst 0, 1) := by decide +kernel
theorem dX1_init_30 : decode cX1_init 30 = .ok (.putfield 21, 3) := by decide +kernel
theorem dX1_init_33 : decode cX1_init 33 = .ok (.return_, 1) := by decide +kernel
theorem dX1_add_0 : decode cX1_add 0 = .ok (.aload_n 0, 1) := by decide +kernel
theorem dX1_add_1 : decode cX1_add 1 = .ok (.getfield 21, 3) := by decide +kernel
theorem dX1_add_4 : decode cX1_add 4 = .ok (.bipush 6, 2) := by decide +kernel
theorem dX1_add_6 : decode cX1_add 6 = .ok (.if_icmp .ge 43, 3) := by decide +kernel
theorem dX1_add_9 : decode cX1_add 9 = .ok (.aload_n 0, 1) := by decide +kernel
theorem dX1_add_10 : decode cX1_add 10 = .ok (.getfield 9, 3) := by decide +kernel
theorem dX1_add_13 : decode cX1_add 13 = .ok (.aload_n 0, 1) := by decide +kernel
theorem dX1_add_14 : decode cX1_add 14 = .ok (.getfield 21, 3) := by decide +kernel
theorem dX1_add_17 : decode cX1_add 17 = .ok (.iload_n 1, 1) := by decide +kernel
theorem dX1_add_18 : decode cX1_add 18 = .ok (.iastore, 1) := by decide +kernel
theorem dX1_add_19 : decode cX1_add 19 = .ok (.aload_n 0, 1) := by decide +kernel
theorem dX1_add_20 : decode cX1_add 20 = .ok (.getfield 15, 3) := by decide +kernel
theorem dX1_add_23 : decode cX1_add 23 = .ok (.aload_n 0, 1) := by decide +kernel
theorem dX1_add_24 : decode cX1_add 24 = .ok (.getfield 21, 3) := by decide +kernel
theorem dX1_add_27 : decode cX1_add 27 = .ok (.iload_n 2, 1) := by decide +kernel
theorem dX1_add_28 : decode cX1_add 28 = .ok (.iastore, 1) := by decide +kernel
theorem dX1_add_29 : decode cX1_add 29 = .ok (.aload_n 0, 1) := by decide +kernel
theorem dX1_add_30 : decode cX1_add 30 = .ok (.getfield 18, 3) := by decide +kernel
theorem dX1_add_33 : decode cX1_add 33 = .ok (.aload_n 0, 1) := by decide +kernel
theorem dX1_add_34 : decode cX1_add 34 = .ok (.getfield 21, 3) := by decide +kernel
theorem dX1_add_37 : decode cX1_add 37 = .ok (.iload_n 3, 1) := by decide +kernel
theorem dX1_add_38 : decode cX1_add 38 = .ok (.iastore, 1) := by decide +kernel
theorem dX1_add_39 : decode cX1_add 39 = .ok (.aload_n 0, 1) := by decide +kernel
theorem dX1_add_40 : decode cX1_add 40 = .ok (.dup, 1) := by decide +kernel
theorem dX1_add_41 : decode cX1_add 41 = .ok (.getfield 21, 3) := by decide +kernel
theorem dX1_add_44 : decode cX1_add 44 = .ok (.iconst 1, 1) := by decide +kernel
theorem dX1_add_45 : decode cX1_add 45 = .ok (.iadd, 1) := by decide +kernel
theorem dX1_add_46 : decode cX1_add 46 = .ok (.putfield 21, 3) := by decide +kernel
theorem dX1_add_49 : decode cX1_add 49 = .ok (.return_, 1) := by decide +kernel
theorem dX1_fit_0 : decode cX1_fit 0 = .ok (.iconst 0, 1) := by decide +kernel
theorem dX1_fit_1 : decode cX1_fit 1 = .ok (.istore_n 3, 1) := by decide +kernel
theorem dX1_fit_2 : decode cX1_fit 2 = .ok (.iload_n 3, 1) := by decide +kernel
theorem dX1_fit_3 : decode cX1_fit 3 = .ok (.aload_n 0, 1) := by decide +kernel
theorem dX1_fit_4 : decode cX1_fit 4 = .ok (.getfield 21, 3) := by decide +kernel
theorem dX1_fit_7 : decode cX1_fit 7 = .ok (.if_icmp .ge 71, 3) := by decide +kernel
theorem dX1_fit_10 : decode cX1_fit 10 = .ok (.iload_n 3, 1) := by decide +kernel
theorem dX1_fit_11 : decode cX1_fit 11 = .ok (.bipush 6, 2) := by decide +kernel
theorem dX1_fit_13 : decode cX1_fit 13 = .ok (.if_icmp .ge 65, 3) := by decide +kernel
theorem dX1_fit_16 : decode cX1_fit 16 = .ok (.iload_n 2, 1) := by decide +kernel
theorem dX1_fit_17 : decode cX1_fit 17 = .ok (.aload_n 0, 1) := by decide +kernel
theorem dX1_fit_18 : decode cX1_fit 18 = .ok (.getfield 9, 3) := by decide +kernel
theorem dX1_fit_21 : decode cX1_fit 21 = .ok (.iload_n 3, 1) := by decide +kernel
theorem dX1_fit_22 : decode cX1_fit 22 = .ok (.iaload, 1) := by decide +kernel
theorem dX1_fit_23 : decode cX1_fit 23 = .ok (.invokestatic 25, 3) := by decide +kernel
theorem dX1_fit_26 : decode cX1_fit 26 = .ok (.istore 4, 2) := by decide +kernel
theorem dX1_fit_28 : decode cX1_fit 28 = .ok (.iload_n 1, 1) := by decide +kernel
theorem dX1_fit_29 : decode cX1_fit 29 = .ok (.iconst 1, 1) := by decide +kernel
theorem dX1_fit_30 : decode cX1_fit 30 = .ok (.if_icmp .ne 8, 3) := by decide +kernel
theorem dX1_fit_33 : decode cX1_fit 33 = .ok (.iload 4, 2) := by decide +kernel
theorem dX1_fit_35 : decode cX1_fit 35 = .ok (.goto 4, 3) := by decide +kernel
theorem dX1_fit_38 : decode cX1_fit 38 = .ok (.iconst 0, 1) := by decide +kernel
theorem dX1_fit_39 : decode cX1_fit 39 = .ok (.istore 5, 2) := by decide +kernel
theorem dX1_fit_41 : decode cX1_fit 41 = .ok (.aload_n 0, 1) := by decide +kernel
theorem dX1_fit_42 : decode cX1_fit 42 = .ok (.getfield 15, 3) := by decide +kernel
theorem dX1_fit_45 : decode cX1_fit 45 = .ok (.iload_n 3, 1) := by decide +kernel
theorem dX1_fit_46 : decode cX1_fit 46 = .ok (.iaload, 1) := by decide +kernel
theorem dX1_fit_47 : decode cX1_fit 47 = .ok (.aload_n 0, 1) := by decide +kernel
theorem dX1_fit_48 : decode cX1_fit 48 = .ok (.getfield 9, 3) := by decide +kernel
theorem dX1_fit_51 : decode cX1_fit 51 = .ok (.iload_n 3, 1) := by decide +kernel
theorem dX1_fit_52 : decode cX1_fit 52 = .ok (.iaload, 1) := by decide +kernel
theorem dX1_fit_53 : decode cX1_fit 53 = .ok (.iload 4, 2) := by decide +kernel
theorem dX1_fit_55 : decode cX1_fit 55 = .ok (.isub, 1) := by decide +kernel
theorem dX1_fit_56 : decode cX1_fit 56 = .ok (.if_icmp .ne 14, 3) := by decide +kernel
theorem dX1_fit_59 : decode cX1_fit 59 = .ok (.aload_n 0, 1) := by decide +kernel
theorem dX1_fit_60 : decode cX1_fit 60 = .ok (.getfield 18, 3) := by decide +kernel
theorem dX1_fit_63 : decode cX1_fit 63 = .ok (.iload_n 3, 1) := by decide +kernel
theorem dX1_fit_64 : decode cX1_fit 64 = .ok (.iaload, 1) := by decide +kernel
theorem dX1_fit_65 : decode cX1_fit 65 = .ok (.iload 5, 2) := by decide +kernel
theorem dX1_fit_67 : decode cX1_fit 67 = .ok (.if_icmp .eq 5, 3) := by decide +kernel
theorem dX1_fit_70 : decode cX1_fit 70 = .ok (.iconst 0, 1) := by decide +kernel
theorem dX1_fit_71 : decode cX1_fit 71 = .ok (.ireturn, 1) := by decide +kernel
theorem dX1_fit_72 : decode cX1_fit 72 = .ok (.iinc 3 1, 3) := by decide +kernel
theorem dX1_fit_75 : decode cX1_fit 75 = .ok (.goto (-73), 3) := by decide +kernel
theorem dX1_fit_78 : decode cX1_fit 78 = .ok (.iconst 1, 1) := by decide +kernel
theorem dX1_fit_79 : decode cX1_fit 79 = .ok (.ireturn, 1) := by decide +kernel
theorem dX2_init_0 : decode cX2_init 0 = .ok (.aload_n 0, 1) := by decide +kernel
theorem dX2_init_1 : decode cX2_init 1 = .ok (.invokespecial 3, 3) := by decide +kernel
theorem dX2_init_4 : decode cX2_init 4 = .ok (.aload_n 0, 1) := by decide +kernel
theorem dX2_init_5 : decode cX2_init 5 = .ok (.bipush 8, 2) := by decide +kernel
theorem dX2_init_7 : decode cX2_init 7 = .ok (.newarray .int, 2) := by decide +kernel
theorem dX2_init_9 : decode cX2_init 9 = .ok (.putfield 9, 3) := by decide +kernel
theorem dX2_init_12 : decode cX2_init 12 = .ok (.aload_n 0, 1) := by decide +kernel
theorem dX2_init_13 : decode cX2_init 13 = .ok (.iconst 5, 1) := by decide +kernel
theorem dX2_init_14 : decode cX2_init 14 = .ok (.newarray .int, 2) := by decide +kernel
theorem dX2_init_16 : decode cX2_init 16 = .ok (.putfield 15, 3) := by decide +kernel
theorem dX2_init_19 : decode cX2_init 19 = .ok (.aload_n 0, 1) := by decide +kernel
theorem dX2_init_20 : decode cX2_init 20 = .ok (.bipush 8, 2) := by decide +kernel
theorem dX2_init_22 : decode cX2_init 22 = .ok (.newarray .boolean, 2) := by decide +kernel
theorem dX2_init_24 : decode cX2_init 24 = .ok (.putfield 18, 3) := by decide +kernel
theorem dX2_init_27 : decode cX2_init 27 = .ok (.aload_n 0, 1) := by decide +kernel
theorem dX2_init_28 : decode cX2_init 28 = .ok (.iconst 0, 1) := by decide +kernel
theorem dX2_init_29 : decode cX2_init 29 = .ok (.putfield 22, 3) := by decide +kernel
theorem dX2_init_32 : decode cX2_init 32 = .ok (.aload_n 0, 1) := by decide +kernel
theorem dX2_init_33 : decode cX2_init 33 = .ok (.iconst 0, 1) := by decide +kernel
theorem dX2_init_34 : decode cX2_init 34 = .ok (.putfield 26, 3) := by decide +kernel
theorem dX2_init_37 : decode cX2_init 37 = .ok (.aload_n 0, 1) := by decide +kernel
theorem dX2_init_38 : decode cX2_init 38 = .ok (.iconst 0, 1) := by decide +kernel
theorem dX2_init_39 : decode cX2_init 39 = .ok (.putfield 30, 3) := by decide +kernel
theorem dX2_init_42 : decode cX2_init 42 = .ok (.aload_n 0, 1) := by decide +kernel
theorem dX2_init_43 : decode cX2_init 43 = .ok (.aload_n 1, 1) := by decide +kernel
theorem dX2_init_44 : decode cX2_init 44 = .ok (.putfield 33, 3) := by decide +kernel
theorem dX2_init_47 : decode cX2_init 47 = .ok (.return_, 1) := by decide +kernel
theorem dX2_begin_0 : decode cX2_begin 0 = .ok (.aload_n 0, 1) := by decide +kernel
theorem dX2_begin_1 : decode cX2_begin 1 = .ok (.getfield 33, 3) := by decide +kernel
theorem dX2_begin_4 : decode cX2_begin 4 = .ok (.getfield 37, 3) := by decide +kernel
theorem dX2_begin_7 : decode cX2_begin 7 = .ok (.iconst 0, 1) := by decide +kernel
theorem dX2_begin_8 : decode cX2_begin 8 = .ok (.aload_n 0, 1) := by decide +kernel
theorem dX2_begin_9 : decode cX2_begin 9 = .ok (.getfield 9, 3) := by decide +kernel
theorem dX2_begin_12 : decode cX2_begin 12 = .ok (.iconst 0, 1) := by decide +kernel
theorem dX2_begin_13 : decode cX2_begin 13 = .ok (.bipush 8, 2) := by decide +kernel
theorem dX2_begin_15 : decode cX2_begin 15 = .ok (.invokestatic 42, 3) := by decide +kernel
theorem dX2_begin_18 : decode cX2_begin 18 = .ok (.aload_n 0, 1) := by decide +kernel
theorem dX2_begin_19 : decode cX2_begin 19 = .ok (.getfield 33, 3) := by decide +kernel
theorem dX2_begin_22 : decode cX2_begin 22 = .ok (.getfield 48, 3) := by decide +kernel
theorem dX2_begin_25 : decode cX2_begin 25 = .ok (.iconst 0, 1) := by decide +kernel
theorem dX2_begin_26 : decode cX2_begin 26 = .ok (.aload_n 0, 1) := by decide +kernel
theorem dX2_begin_27 : decode cX2_begin 27 = .ok (.getfield 15, 3) := by decide +kernel
theorem dX2_begin_30 : decode cX2_begin 30 = .ok (.iconst 0, 1) := by decide +kernel
theorem dX2_begin_31 : decode cX2_begin 31 = .ok (.iconst 5, 1) := by decide +kernel
theorem dX2_begin_32 : decode cX2_begin 32 = .ok (.invokestatic 42, 3) := by decide +kernel
theorem dX2_begin_35 : decode cX2_begin 35 = .ok (.aload_n 0, 1) := by decide +kernel
theorem dX2_begin_36 : decode cX2_begin 36 = .ok (.iconst 0, 1) := by decide +kernel
theorem dX2_begin_37 : decode cX2_begin 37 = .ok (.putfield 22, 3) := by decide +kernel
theorem dX2_begin_40 : decode cX2_begin 40 = .ok (.aload_n 0, 1) := by decide +kernel
theorem dX2_begin_41 : decode cX2_begin 41 = .ok (.iconst 0, 1) := by decide +kernel
theorem dX2_begin_42 : decode cX2_begin 42 = .ok (.putfield 26, 3) := by decide +kernel
theorem dX2_begin_45 : decode cX2_begin 45 = .ok (.aload_n 0, 1) := by decide +kernel
theorem dX2_begin_46 : decode cX2_begin 46 = .ok (.iconst 0, 1) := by decide +kernel
theorem dX2_begin_47 : decode cX2_begin 47 = .ok (.putfield 30, 3) := by decide +kernel
theorem dX2_begin_50 : decode cX2_begin 50 = .ok (.return_, 1) := by decide +kernel
theorem dX2_copy_0 : decode cX2_copy 0 = .ok (.aload_n 1, 1) := by decide +kernel
theorem dX2_copy_1 : decode cX2_copy 1 = .ok (.getfield 9, 3) := by decide +kernel
theorem dX2_copy_4 : decode cX2_copy 4 = .ok (.iconst 0, 1) := by decide +kernel
theorem dX2_copy_5 : decode cX2_copy 5 = .ok (.aload_n 0, 1) := by decide +kernel
theorem dX2_copy_6 : decode cX2_copy 6 = .ok (.getfield 9, 3) := by decide +kernel
theorem dX2_copy_9 : decode cX2_copy 9 = .ok (.iconst 0, 1) := by decide +kernel
theorem dX2_copy_10 : decode cX2_copy 10 = .ok (.bipush 8, 2) := by decide +kernel
theorem dX2_copy_12 : decode cX2_copy 12 = .ok (.invokestatic 42, 3) := by decide +kernel
theorem dX2_copy_15 : decode cX2_copy 15 = .ok (.aload_n 1, 1) := by decide +kernel
theorem dX2_copy_16 : decode cX2_copy 16 = .ok (.getfield 15, 3) := by decide +kernel
theorem dX2_copy_19 : decode cX2_copy 19 = .ok (.iconst 0, 1) := by decide +kernel
theorem dX2_copy_20 : decode cX2_copy 20 = .ok (.aload_n 0, 1) := by decide +kernel
theorem dX2_copy_21 : decode cX2_copy 21 = .ok (.getfield 15, 3) := by decide +kernel
theorem dX2_copy_24 : decode cX2_copy 24 = .ok (.iconst 0, 1) := by decide +kernel
theorem dX2_copy_25 : decode cX2_copy 25 = .ok (.iconst 5, 1) := by decide +kernel
theorem dX2_copy_26 : decode cX2_copy 26 = .ok (.invokestatic 42, 3) := by decide +kernel
theorem dX2_copy_29 : decode cX2_copy 29 = .ok (.aload_n 0, 1) := by decide +kernel
theorem dX2_copy_30 : decode cX2_copy 30 = .ok (.aload_n 1, 1) := by decide +kernel
theorem dX2_copy_31 : decode cX2_copy 31 = .ok (.getfield 22, 3) := by decide +kernel
theorem dX2_copy_34 : decode cX2_copy 34 = .ok (.putfield 22, 3) := by decide +kernel
theorem dX2_copy_37 : decode cX2_copy 37 = .ok (.aload_n 0, 1) := by decide +kernel
theorem dX2_copy_38 : decode cX2_copy 38 = .ok (.aload_n 1, 1) := by decide +kernel
theorem dX2_copy_39 : decode cX2_copy 39 = .ok (.getfield 26, 3) := by decide +kernel
theorem dX2_copy_42 : decode cX2_copy 42 = .ok (.putfield 26, 3) := by decide +kernel
theorem dX2_copy_45 : decode cX2_copy 45 = .ok (.aload_n 0, 1) := by decide +kernel
theorem dX2_copy_46 : decode cX2_copy 46 = .ok (.aload_n 1, 1) := by decide +kernel
theorem dX2_copy_47 : decode cX2_copy 47 = .ok (.getfield 30, 3) := by decide +kernel
theorem dX2_copy_50 : decode cX2_copy 50 = .ok (.putfield 30, 3) := by decide +kernel
theorem dX2_copy_53 : decode cX2_copy 53 = .ok (.return_, 1) := by decide +kernel
theorem dX2_save_0 : decode cX2_save 0 = .ok (.iload_n 2, 1) := by decide +kernel
theorem dX2_save_1 : decode cX2_save 1 = .ok (.ifCond .lt 12, 3) := by decide +kernel
theorem dX2_save_4 : decode cX2_save 4 = .ok (.iload_n 2, 1) := by decide +kernel
theorem dX2_save_5 : decode cX2_save 5 = .ok (.aload_n 1, 1) := by decide +kernel
theorem dX2_save_6 : decode cX2_save 6 = .ok (.arraylength, 1) := by decide +kernel
theorem dX2_save_7 : decode cX2_save 7 = .ok (.bipush 16, 2) := by decide +kernel
theorem dX2_save_9 : decode cX2_save 9 = .ok (.isub, 1) := by decide +kernel
theorem dX2_save_10 : decode cX2_save 10 = .ok (.if_icmp .le 4, 3) := by decide +kernel
theorem dX2_save_13 : decode cX2_save 13 = .ok (.return_, 1) := by decide +kernel
theorem dX2_save_14 : decode cX2_save 14 = .ok (.aload_n 0, 1) := by decide +kernel
theorem dX2_save_15 : decode cX2_save 15 = .ok (.getfield 9, 3) := by decide +kernel
theorem dX2_save_18 : decode cX2_save 18 = .ok (.iconst 0, 1) := by decide +kernel
theorem dX2_save_19 : decode cX2_save 19 = .ok (.aload_n 1, 1) := by decide +kernel
theorem dX2_save_20 : decode cX2_save 20 = .ok (.iload_n 2, 1) := by decide +kernel
theorem dX2_save_21 : decode cX2_save 21 = .ok (.bipush 8, 2) := by decide +kernel
theorem dX2_save_23 : decode cX2_save 23 = .ok (.invokestatic 42, 3) := by decide +kernel
theorem dX2_save_26 : decode cX2_save 26 = .ok (.aload_n 0, 1) := by decide +kernel
theorem dX2_save_27 : decode cX2_save 27 = .ok (.getfield 15, 3) := by decide +kernel
theorem dX2_save_30 : decode cX2_save 30 = .ok (.iconst 0, 1) := by decide +kernel
theorem dX2_save_31 : decode cX2_save 31 = .ok (.aload_n 1, 1) := by decide +kernel
theorem dX2_save_32 : decode cX2_save 32 = .ok (.iload_n 2, 1) := by decide +kernel
theorem dX2_save_33 : decode cX2_save 33 = .ok (.bipush 8, 2) := by decide +kernel
theorem dX2_save_35 : decode cX2_save 35 = .ok (.iadd, 1) := by decide +kernel
theorem dX2_save_36 : decode cX2_save 36 = .ok (.iconst 5, 1) := by decide +kernel
theorem dX2_save_37 : decode cX2_save 37 = .ok (.invokestatic 42, 3) := by decide +kernel
theorem dX2_save_40 : decode cX2_save 40 = .ok (.iload_n 2, 1) := by decide +kernel
theorem dX2_save_41 : decode cX2_save 41 = .ok (.bipush 8, 2) := by decide +kernel
theorem dX2_save_43 : decode cX2_save 43 = .ok (.iadd, 1) := by decide +kernel
theorem dX2_save_44 : decode cX2_save 44 = .ok (.iconst 5, 1) := by decide +kernel
theorem dX2_save_45 : decode cX2_save 45 = .ok (.iadd, 1) := by decide +kernel
theorem dX2_save_46 : decode cX2_save 46 = .ok (.istore_n 3, 1) := by decide +kernel
theorem dX2_save_47 : decode cX2_save 47 = .ok (.aload_n 1, 1) := by decide +kernel
theorem dX2_save_48 : decode cX2_save 48 = .ok (.iload_n 3, 1) := by decide +kernel
theorem dX2_save_49 : decode cX2_save 49 = .ok (.aload_n 0, 1) := by decide +kernel
theorem dX2_save_50 : decode cX2_save 50 = .ok (.getfield 22, 3) := by decide +kernel
theorem dX2_save_53 : decode cX2_save 53 = .ok (.ifCond .eq 7, 3) := by decide +kernel
theorem dX2_save_56 : decode cX2_save 56 = .ok (.iconst 1, 1) := by decide +kernel
theorem dX2_save_57 : decode cX2_save 57 = .ok (.goto 4, 3) := by decide +kernel
theorem dX2_save_60 : decode cX2_save 60 = .ok (.iconst 0, 1) := by decide +kernel
theorem dX2_save_61 : decode cX2_save 61 = .ok (.iastore, 1) := by decide +kernel
theorem dX2_save_62 : decode cX2_save 62 = .ok (.aload_n 1, 1) := by decide +kernel
theorem dX2_save_63 : decode cX2_save 63 = .ok (.iload_n 3, 1) := by decide +kernel
theorem dX2_save_64 : decode cX2_save 64 = .ok (.iconst 1, 1) := by decide +kernel
theorem dX2_save_65 : decode cX2_save 65 = .ok (.iadd, 1) := by decide +kernel
theorem dX2_save_66 : decode cX2_save 66 = .ok (.aload_n 0, 1) := by decide +kernel
theorem dX2_save_67 : decode cX2_save 67 = .ok (.getfield 26, 3) := by decide +kernel
theorem dX2_save_70 : decode cX2_save 70 = .ok (.iastore, 1) := by decide +kernel
theorem dX2_save_71 : decode cX2_save 71 = .ok (.aload_n 1, 1) := by decide +kernel
theorem dX2_save_72 : decode cX2_save 72 = .ok (.iload_n 3, 1) := by decide +kernel
theorem dX2_save_73 : decode cX2_save 73 = .ok (.iconst 2, 1) := by decide +kernel
theorem dX2_save_74 : decode cX2_save 74 = .ok (.iadd, 1) := by decide +kernel
theorem dX2_save_75 : decode cX2_save 75 = .ok (.aload_n 0, 1) := by decide +kernel
theorem dX2_save_76 : decode cX2_save 76 = .ok (.getfield 30, 3) := by decide +kernel
theorem dX2_save_79 : decode cX2_save 79 = .ok (.iastore, 1) := by decide +kernel
theorem dX2_save_80 : decode cX2_save 80 = .ok (.return_, 1) := by decide +kernel
theorem dX2_load_0 : decode cX2_load 0 = .ok (.iload_n 2, 1) := by decide +kernel
theorem dX2_load_1 : decode cX2_load 1 = .ok (.ifCond .lt 12, 3) := by decide +kernel
theorem dX2_load_4 : decode cX2_load 4 = .ok (.iload_n 2, 1) := by decide +kernel
theorem dX2_load_5 : decode cX2_load 5 = .ok (.aload_n 1, 1) := by decide +kernel
theorem dX2_load_6 : decode cX2_load 6 = .ok (.arraylength, 1) := by decide +kernel
theorem dX2_load_7 : decode cX2_load 7 = .ok (.bipush 16, 2) := by decide +kernel
theorem dX2_load_9 : decode cX2_load 9 = .ok (.isub, 1) := by decide +kernel
theorem dX2_load_10 : decode cX2_load 10 = .ok (.if_icmp .le 4, 3) := by decide +kernel
theorem dX2_load_13 : decode cX2_load 13 = .ok (.return_, 1) := by decide +kernel
theorem dX2_load_14 : decode cX2_load 14 = .ok (.aload_n 1, 1) := by decide +kernel
theorem dX2_load_15 : decode cX2_load 15 = .ok (.iload_n 2, 1) := by decide +kernel
theorem dX2_load_16 : decode cX2_load 16 = .ok (.aload_n 0, 1) := by decide +kernel
theorem dX2_load_17 : decode cX2_load 17 = .ok (.getfield 9, 3) := by decide +kernel
theorem dX2_load_20 : decode cX2_load 20 = .ok (.iconst 0, 1) := by decide +kernel
theorem dX2_load_21 : decode cX2_load 21 = .ok (.bipush 8, 2) := by decide +kernel
theorem dX2_load_23 : decode cX2_load 23 = .ok (.invokestatic 42, 3) := by decide +kernel
theorem dX2_load_26 : decode cX2_load 26 = .ok (.aload_n 1, 1) := by decide +kernel
theorem dX2_load_27 : decode cX2_load 27 = .ok (.iload_n 2, 1) := by decide +kernel
theorem dX2_load_28 : decode cX2_load 28 = .ok (.bipush 8, 2) := by decide +kernel
theorem dX2_load_30 : decode cX2_load 30 = .ok (.iadd, 1) := by decide +kernel
theorem dX2_load_31 : decode cX2_load 31 = .ok (.aload_n 0, 1) := by decide +kernel
theorem dX2_load_32 : decode cX2_load 32 = .ok (.getfield 15, 3) := by decide +kernel
theorem dX2_load_35 : decode cX2_load 35 = .ok (.iconst 0, 1) := by decide +kernel
theorem dX2_load_36 : decode cX2_load 36 = .ok (.iconst 5, 1) := by decide +kernel
theorem dX2_load_37 : decode cX2_load 37 = .ok (.invokestatic 42, 3) := by decide +kernel
theorem dX2_load_40 : decode cX2_load 40 = .ok (.iload_n 2, 1) := by decide +kernel
theorem dX2_load_41 : decode cX2_load 41 = .ok (.bipush 8, 2) := by decide +kernel
theorem dX2_load_43 : decode cX2_load 43 = .ok (.iadd, 1) := by decide +kernel
theorem dX2_load_44 : decode cX2_load 44 = .ok (.iconst 5, 1) := by decide +kernel
theorem dX2_load_45 : decode cX2_load 45 = .ok (.iadd, 1) := by decide +kernel
theorem dX2_load_46 : decode cX2_load 46 = .ok (.istore_n 3, 1) := by decide +kernel
theorem dX2_load_47 : decode cX2_load 47 = .ok (.aload_n 0, 1) := by decide +kernel
theorem dX2_load_48 : decode cX2_load 48 = .ok (.aload_n 1, 1) := by decide +kernel
theorem dX2_load_49 : decode cX2_load 49 = .ok (.iload_n 3, 1) := by decide +kernel
theorem dX2_load_50 : decode cX2_load 50 = .ok (.iaload, 1) := by decide +kernel
theorem dX2_load_51 : decode cX2_load 51 = .ok (.iconst 1, 1) := by decide +kernel
theorem dX2_load_52 : decode cX2_load 52 = .ok (.if_icmp .ne 7, 3) := by decide +kernel
theorem dX2_load_55 : decode cX2_load 55 = .ok (.iconst 1, 1) := by decide +kernel
theorem dX2_load_56 : decode cX2_load 56 = .ok (.goto 4, 3) := by decide +kernel
theorem dX2_load_59 : decode cX2_load 59 = .ok (.iconst 0, 1) := by decide +kernel
theorem dX2_load_60 : decode cX2_load 60 = .ok (.putfield 22, 3) := by decide +kernel
theorem dX2_load_63 : decode cX2_load 63 = .ok (.aload_n 0, 1) := by decide +kernel
theorem dX2_load_64 : decode cX2_load 64 = .ok (.aload_n 1, 1) := by decide +kernel
theorem dX2_load_65 : decode cX2_load 65 = .ok (.iload_n 3, 1) := by decide +kernel
theorem dX2_load_66 : decode cX2_load 66 = .ok (.iconst 1, 1) := by decide +kernel
theorem dX2_load_67 : decode cX2_load 67 = .ok (.iadd, 1) := by decide +kernel
theorem dX2_load_68 : decode cX2_load 68 = .ok (.iaload, 1) := by decide +kernel
theorem dX2_load_69 : decode cX2_load 69 = .ok (.putfield 26, 3) := by decide +kernel
theorem dX2_load_72 : decode cX2_load 72 = .ok (.aload_n 0, 1) := by decide +kernel
theorem dX2_load_73 : decode cX2_load 73 = .ok (.aload_n 1, 1) := by decide +kernel
theorem dX2_load_74 : decode cX2_load 74 = .ok (.iload_n 3, 1) := by decide +kernel
theorem dX2_load_75 : decode cX2_load 75 = .ok (.iconst 2, 1) := by decide +kernel
theorem dX2_load_76 : decode cX2_load 76 = .ok (.iadd, 1) := by decide +kernel
theorem dX2_load_77 : decode cX2_load 77 = .ok (.iaload, 1) := by decide +kernel
theorem dX2_load_78 : decode cX2_load 78 = .ok (.putfield 30, 3) := by decide +kernel
theorem dX2_load_81 : decode cX2_load 81 = .ok (.return_, 1) := by decide +kernel
set_option maxRecDepth 20000 in
theorem ggX2_dustIn_X5_isStreet : GoodIn wsX2_dustIn wsX5_isStreet := goodIn_r _ [4] (by decide +kernel) (by decide +kernel)
set_option maxRecDepth 20000 in
theorem gX2_dustIn_X5_isStreet_n51 : GoodIn wsX2_dustIn (wsX5_isStreet) := ggX2_dustIn_X5_isStreet
theorem dX2_dustIn_0 : decode cX2_dustIn 0 = .ok (.iload_n 1, 1) := by decide +kernel
theorem dX2_dustIn_1 : decode cX2_dustIn 1 = .ok (.invokestatic 51, 3) := by decide +kernel
theorem dX2_dustIn_4 : decode cX2_dustIn 4 = .ok (.ifCond .eq 12, 3) := by decide +kernel
theorem dX2_dustIn_7 : decode cX2_dustIn 7 = .ok (.aload_n 0, 1) := by decide +kernel
theorem dX2_dustIn_8 : decode cX2_dustIn 8 = .ok (.getfield 9, 3) := by decide +kernel
theorem dX2_dustIn_11 : decode cX2_dustIn 11 = .ok (.iload_n 1, 1) := by decide +kernel
theorem dX2_dustIn_12 : decode cX2_dustIn 12 = .ok (.iaload, 1) := by decide +kernel
theorem dX2_dustIn_13 : decode cX2_dustIn 13 = .ok (.goto 4, 3) := by decide +kernel
theorem dX2_dustIn_16 : decode cX2_dustIn 16 = .ok (.iconst 0, 1) := by decide +kernel
theorem dX2_dustIn_17 : decode cX2_dustIn 17 = .ok (.ireturn, 1) := by decide +kernel
set_option maxRecDepth 20000 in
theorem ggX2_placeOf_X4_hasBroom : GoodIn wsX2_placeOf wsX4_hasBroom := goodIn_r _ [7, 8, 16, 17, 18, 19, 20, 21, 22, 23] (by decide +kernel) (by decide +kernel)
set_option maxRecDepth 20000 in
theorem gX2_placeOf_X4_hasBroom : GoodIn wsX2_placeOf (wsV RX2 55 RX4 yX4_hasBroom wsX4_hasBroom) := goodIn_app (goodIn_of _ (by decide +kernel)) ggX2_placeOf_X4_hasBroom
theorem dX2_placeOf_0 : decode cX2_placeOf 0 = .ok (.aload_n 0, 1) := by decide +kernel
theorem dX2_placeOf_1 : decode cX2_placeOf 1 = .ok (.getfield 33, 3) := by decide +kernel
theorem dX2_placeOf_4 : decode cX2_placeOf 4 = .ok (.iload_n 1, 1) := by decide +kernel
theorem dX2_placeOf_5 : decode cX2_placeOf 5 = .ok (.invokevirtual 55, 3) := by decide +kernel
theorem dX2_placeOf_8 : decode cX2_placeOf 8 = .ok (.ifCond .eq 12, 3) := by decide +kernel
theorem dX2_placeOf_11 : decode cX2_placeOf 11 = .ok (.aload_n 0, 1) := by decide +kernel
theorem dX2_placeOf_12 : decode cX2_placeOf 12 = .ok (.getfield 15, 3) := by decide +kernel
theorem dX2_placeOf_15 : decode cX2_placeOf 15 = .ok (.iload_n 1, 1) := by decide +kernel
theorem dX2_placeOf_16 : decode cX2_placeOf 16 = .ok (.iaload, 1) := by decide +kernel
theorem dX2_placeOf_17 : decode cX2_placeOf 17 = .ok (.goto 4, 3) := by decide +kernel
theorem dX2_placeOf_20 : decode cX2_placeOf 20 = .ok (.iconst 0, 1) := by decide +kernel
theorem dX2_placeOf_21 : decode cX2_placeOf 21 = .ok (.ireturn, 1) := by decide +kernel
theorem dX2_allDust_0 : decode cX2_allDust 0 = .ok (.iconst 0, 1) := by decide +kernel
theorem dX2_allDust_1 : decode cX2_allDust 1 = .ok (.istore_n 1, 1) := by decide +kernel
theorem dX2_allDust_2 : decode cX2_allDust 2 = .ok (.iconst 0, 1) := by decide +kernel
theorem dX2_allDust_3 : decode cX2_allDust 3 = .ok (.istore_n 2, 1) := by decide +kernel
theorem dX2_allDust_4 : decode cX2_allDust 4 = .ok (.iload_n 2, 1) := by decide +kernel
theorem dX2_allDust_5 : decode cX2_allDust 5 = .ok (.bipush 8, 2) := by decide +kernel
theorem dX2_allDust_7 : decode cX2_allDust 7 = .ok (.if_icmp .ge 18, 3) := by decide +kernel
theorem dX2_allDust_10 : decode cX2_allDust 10 = .ok (.iload_n 1, 1) := by decide +kernel
theorem dX2_allDust_11 : decode cX2_allDust 11 = .ok (.aload_n 0, 1) := by decide +kernel
theorem dX2_allDust_12 : decode cX2_allDust 12 = .ok (.getfield 9, 3) := by decide +kernel
theorem dX2_allDust_15 : decode cX2_allDust 15 = .ok (.iload_n 2, 1) := by decide +kernel
theorem dX2_allDust_16 : decode cX2_allDust 16 = .ok (.iaload, 1) := by decide +kernel
theorem dX2_allDust_17 : decode cX2_allDust 17 = .ok (.iadd, 1) := by decide +kernel
theorem dX2_allDust_18 : decode cX2_allDust 18 = .ok (.istore_n 1, 1) := by decide +kernel
theorem dX2_allDust_19 : decode cX2_allDust 19 = .ok (.iinc 2 1, 3) := by decide +kernel
theorem dX2_allDust_22 : decode cX2_allDust 22 = .ok (.goto (-18), 3) := by decide +kernel
theorem dX2_allDust_25 : decode cX2_allDust 25 = .ok (.iload_n 1, 1) := by decide +kernel
theorem dX2_allDust_26 : decode cX2_allDust 26 = .ok (.ireturn, 1) := by decide +kernel
set_option maxRecDepth 20000 in
theorem ggX2_isDeep_X2_dustIn : GoodIn wsX2_isDeep wsX2_dustIn := goodIn_r _ [5, 6, 7, 8, 9, 10, 11, 12, 13, 14, 15, 16] (by decide +kernel) (by decide +kernel)
set_option maxRecDepth 20000 in
theorem gX2_isDeep_X2_dustIn : GoodIn wsX2_isDeep (wsV RX2 58 RX2 yX2_dustIn wsX2_dustIn) := goodIn_app (goodIn_of _ (by decide +kernel)) ggX2_isDeep_X2_dustIn
theorem dX2_isDeep_0 : decode cX2_isDeep 0 = .ok (.aload_n 0, 1) := by decide +kernel
theorem dX2_isDeep_1 : decode cX2_isDeep 1 = .ok (.iload_n 1, 1) := by decide +kernel
theorem dX2_isDeep_2 : decode cX2_isDeep 2 = .ok (.invokevirtual 58, 3) := by decide +kernel
theorem dX2_isDeep_5 : decode cX2_isDeep 5 = .ok (.bipush 10, 2) := by decide +kernel
theorem dX2_isDeep_7 : decode cX2_isDeep 7 = .ok (.if_icmp .lt 7, 3) := by decide +kernel
theorem dX2_isDeep_10 : decode cX2_isDeep 10 = .ok (.iconst 1, 1) := by decide +kernel
theorem dX2_isDeep_11 : decode cX2_isDeep 11 = .ok (.goto 4, 3) := by decide +kernel
theorem dX2_isDeep_14 : decode cX2_isDeep 14 = .ok (.iconst 0, 1) := by decide +kernel
theorem dX2_isDeep_15 : decode cX2_isDeep 15 = .ok (.ireturn, 1) := by decide +kernel
set_option maxRecDepth 20000 in
theorem ggX2_deepStreets_X2_isDeep : GoodIn wsX2_deepStreets wsX2_isDeep := goodIn_r _ [5, 6, 7, 8, 4, 9, 10, 11, 12, 13, 14, 15, 16, 17, 18, 19, 20] (by decide +kernel) (by decide +kernel)
set_option maxRecDepth 20000 in
theorem gX2_deepStreets_X2_isDeep : GoodIn wsX2_deepStreets (wsV RX2 62 RX2 yX2_isDeep wsX2_isDeep) := goodIn_app (goodIn_of _ (by decide +kernel)) ggX2_deepStreets_X2_isDeep
theorem dX2_deepStreets_0 : decode cX2_deepStreets 0 = .ok (.iconst 0, 1) := by decide +kernel
theorem dX2_deepStreets_1 : decode cX2_deepStreets 1 = .ok (.istore_n 1, 1) := by decide +kernel
theorem dX2_deepStreets_2 : decode cX2_deepStreets 2 = .ok (.iconst 0, 1) := by decide +kernel
theorem dX2_deepStreets_3 : decode cX2_deepStreets 3 = .ok (.istore_n 2, 1) := by decide +kernel
theorem dX2_deepStreets_4 : decode cX2_deepStreets 4 = .ok (.iload_n 2, 1) := by decide +kernel
theorem dX2_deepStreets_5 : decode cX2_deepStreets 5 = .ok (.bipush 8, 2) := by decide +kernel
theorem dX2_deepStreets_7 : decode cX2_deepStreets 7 = .ok (.if_icmp .ge 27, 3) := by decide +kernel
theorem dX2_deepStreets_10 : decode cX2_deepStreets 10 = .ok (.iload_n 1, 1) := by decide +kernel
theorem dX2_deepStreets_11 : decode cX2_deepStreets 11 = .ok (.aload_n 0, 1) := by decide +kernel
theorem dX2_deepStreets_12 : decode cX2_deepStreets 12 = .ok (.iload_n 2, 1) := by decide +kernel
theorem dX2_deepStreets_13 : decode cX2_deepStreets 13 = .ok (.invokevirtual 62, 3) := by decide +kernel
theorem dX2_deepStreets_16 : decode cX2_deepStreets 16 = .ok (.ifCond .eq 9, 3) := by decide +kernel
theorem dX2_deepStreets_19 : decode cX2_deepStreets 19 = .ok (.iconst 1, 1) := by decide +kernel
theorem dX2_deepStreets_20 : decode cX2_deepStreets 20 = .ok (.iload_n 2, 1) := by decide +kernel
theorem dX2_deepStreets_21 : decode cX2_deepStreets 21 = .ok (.ishl, 1) := by decide +kernel
theorem dX2_deepStreets_22 : decode cX2_deepStreets 22 = .ok (.goto 4, 3) := by decide +kernel
theorem dX2_deepStreets_25 : decode cX2_deepStreets 25 = .ok (.iconst 0, 1) := by decide +kernel
theorem dX2_deepStreets_26 : decode cX2_deepStreets 26 = .ok (.ior, 1) := by decide +kernel
theorem dX2_deepStreets_27 : decode cX2_deepStreets 27 = .ok (.istore_n 1, 1) := by decide +kernel
theorem dX2_deepStreets_28 : decode cX2_deepStreets 28 = .ok (.iinc 2 1, 3) := by decide +kernel
theorem dX2_deepStreets_31 : decode cX2_deepStreets 31 = .ok (.goto (-27), 3) := by decide +kernel
theorem dX2_deepStreets_34 : decode cX2_deepStreets 34 = .ok (.iload_n 1, 1) := by decide +kernel
theorem dX2_deepStreets_35 : decode cX2_deepStreets 35 = .ok (.ireturn, 1) := by decide +kernel
set_option maxRecDepth 20000 in
theorem ggX2_firstDeep_X2_isDeep : GoodIn wsX2_firstDeep wsX2_isDeep := goodIn_r _ [5, 6, 7, 8, 4, 9, 10, 11, 12, 13, 14, 15, 16, 17, 18, 19, 20] (by decide +kernel) (by decide +kernel)
set_option maxRecDepth 20000 in
theorem gX2_firstDeep_X2_isDeep : GoodIn wsX2_firstDeep (wsV RX2 62 RX2 yX2_isDeep wsX2_isDeep) := goodIn_app (goodIn_of _ (by decide +kernel)) ggX2_firstDeep_X2_isDeep
theorem dX2_firstDeep_0 : decode cX2_firstDeep 0 = .ok (.iconst 0, 1) := by decide +kernel
theorem dX2_firstDeep_1 : decode cX2_firstDeep 1 = .ok (.istore_n 1, 1) := by decide +kernel
theorem dX2_firstDeep_2 : decode cX2_firstDeep 2 = .ok (.iload_n 1, 1) := by decide +kernel
theorem dX2_firstDeep_3 : decode cX2_firstDeep 3 = .ok (.bipush 8, 2) := by decide +kernel
theorem dX2_firstDeep_5 : decode cX2_firstDeep 5 = .ok (.if_icmp .ge 19, 3) := by decide +kernel
theorem dX2_firstDeep_8 : decode cX2_firstDeep 8 = .ok (.aload_n 0, 1) := by decide +kernel
theorem dX2_firstDeep_9 : decode cX2_firstDeep 9 = .ok (.iload_n 1, 1) := by decide +kernel
theorem dX2_firstDeep_10 : decode cX2_firstDeep 10 = .ok (.invokevirtual 62, 3) := by decide +kernel
theorem dX2_firstDeep_13 : decode cX2_firstDeep 13 = .ok (.ifCond .eq 5, 3) := by decide +kernel
theorem dX2_firstDeep_16 : decode cX2_firstDeep 16 = .ok (.iload_n 1, 1) := by decide +kernel
theorem dX2_firstDeep_17 : decode cX2_firstDeep 17 = .ok (.ireturn, 1) := by decide +kernel
theorem dX2_firstDeep_18 : decode cX2_firstDeep 18 = .ok (.iinc 1 1, 3) := by decide +kernel
theorem dX2_firstDeep_21 : decode cX2_firstDeep 21 = .ok (.goto (-19), 3) := by decide +kernel
theorem dX2_firstDeep_24 : decode cX2_firstDeep 24 = .ok (.bipush (-9), 2) := by decide +kernel
theorem dX2_firstDeep_26 : decode cX2_firstDeep 26 = .ok (.ireturn, 1) := by decide +kernel
set_option maxRecDepth 20000 in
theorem ggX2_broomsIn_X2_placeOf : GoodIn wsX2_broomsIn wsX2_placeOf := goodIn_r _ [6, 1, 7, 8, 9, 10, 11, 12, 13, 14, 15, 16, 17, 18, 19, 20, 21, 22, 23, 24, 25, 26, 27, 28] (by decide +kernel) (by decide +kernel)
set_option maxRecDepth 20000 in
theorem gX2_broomsIn_X2_placeOf : GoodIn wsX2_broomsIn (wsV RX2 68 RX2 yX2_placeOf wsX2_placeOf) := goodIn_app (goodIn_of _ (by decide +kernel)) ggX2_broomsIn_X2_placeOf
theorem dX2_broomsIn_0 : decode cX2_broomsIn 0 = .ok (.iconst 0, 1) := by decide +kernel
theorem dX2_broomsIn_1 : decode cX2_broomsIn 1 = .ok (.istore_n 2, 1) := by decide +kernel
theorem dX2_broomsIn_2 : decode cX2_broomsIn 2 = .ok (.iconst 0, 1) := by decide +kernel
theorem dX2_broomsIn_3 : decode cX2_broomsIn 3 = .ok (.istore_n 3, 1) := by decide +kernel
theorem dX2_broomsIn_4 : decode cX2_broomsIn 4 = .ok (.iload_n 3, 1) := by decide +kernel
theorem dX2_broomsIn_5 : decode cX2_broomsIn 5 = .ok (.aload_n 0, 1) := by decide +kernel
theorem dX2_broomsIn_6 : decode cX2_broomsIn 6 = .ok (.getfield 33, 3) := by decide +kernel
theorem dX2_broomsIn_9 : decode cX2_broomsIn 9 = .ok (.getfield 65, 3) := by decide +kernel
theorem dX2_broomsIn_12 : decode cX2_broomsIn 12 = .ok (.if_icmp .ge 28, 3) := by decide +kernel
theorem dX2_broomsIn_15 : decode cX2_broomsIn 15 = .ok (.iload_n 2, 1) := by decide +kernel
theorem dX2_broomsIn_16 : decode cX2_broomsIn 16 = .ok (.aload_n 0, 1) := by decide +kernel
theorem dX2_broomsIn_17 : decode cX2_broomsIn 17 = .ok (.iload_n 3, 1) := by decide +kernel
theorem dX2_broomsIn_18 : decode cX2_broomsIn 18 = .ok (.invokevirtual 68, 3) := by decide +kernel
theorem dX2_broomsIn_21 : decode cX2_broomsIn 21 = .ok (.iload_n 1, 1) := by decide +kernel
theorem dX2_broomsIn_22 : decode cX2_broomsIn 22 = .ok (.if_icmp .ne 9, 3) := by decide +kernel
theorem dX2_broomsIn_25 : decode cX2_broomsIn 25 = .ok (.iconst 1, 1) := by decide +kernel
theorem dX2_broomsIn_26 : decode cX2_broomsIn 26 = .ok (.iload_n 3, 1) := by decide +kernel
theorem dX2_broomsIn_27 : decode cX2_broomsIn 27 = .ok (.ishl, 1) := by decide +kernel
theorem dX2_broomsIn_28 : decode cX2_broomsIn 28 = .ok (.goto 4, 3) := by decide +kernel
theorem dX2_broomsIn_31 : decode cX2_broomsIn 31 = .ok (.iconst 0, 1) := by decide +kernel
theorem dX2_broomsIn_32 : decode cX2_broomsIn 32 = .ok (.ior, 1) := by decide +kernel
theorem dX2_broomsIn_33 : decode cX2_broomsIn 33 = .ok (.istore_n 2, 1) := by decide +kernel
theorem dX2_broomsIn_34 : decode cX2_broomsIn 34 = .ok (.iinc 3 1, 3) := by decide +kernel
theorem dX2_broomsIn_37 : decode cX2_broomsIn 37 = .ok (.goto (-33), 3) := by decide +kernel
theorem dX2_broomsIn_40 : decode cX2_broomsIn 40 = .ok (.iload_n 2, 1) := by decide +kernel
theorem dX2_broomsIn_41 : decode cX2_broomsIn 41 = .ok (.ireturn, 1) := by decide +kernel
theorem dX2_isBent_0 : decode cX2_isBent 0 = .ok (.aload_n 0, 1) := by decide +kernel
theorem dX2_isBent_1 : decode cX2_isBent 1 = .ok (.getfield 26, 3) := by decide +kernel
theorem dX2_isBent_4 : decode cX2_isBent 4 = .ok (.iload_n 1, 1) := by decide +kernel
theorem dX2_isBent_5 : decode cX2_isBent 5 = .ok (.ishr, 1) := by decide +kernel
theorem dX2_isBent_6 : decode cX2_isBent 6 = .ok (.iconst 1, 1) := by decide +kernel
theorem dX2_isBent_7 : decode cX2_isBent 7 = .ok (.iand, 1) := by decide +kernel
theorem dX2_isBent_8 : decode cX2_isBent 8 = .ok (.iconst 1, 1) := by decide +kernel
theorem dX2_isBent_9 : decode cX2_isBent 9 = .ok (.if_icmp .ne 7, 3) := by decide +kernel
theorem dX2_isBent_12 : decode cX2_isBent 12 = .ok (.iconst 1, 1) := by decide +kernel
theorem dX2_isBent_13 : decode cX2_isBent 13 = .ok (.goto 4, 3) := by decide +kernel
theorem dX2_isBent_16 : decode cX2_isBent 16 = .ok (.iconst 0, 1) := by decide +kernel
theorem dX2_isBent_17 : decode cX2_isBent 17 = .ok (.ireturn, 1) := by decide +kernel
set_option maxRecDepth 20000 in
theorem ggX2_worksAs_X4_kindOf : GoodIn wsX2_worksAs wsX4_kindOf := goodIn_r _ [7, 8, 22, 23, 24, 25, 26, 27, 28, 29] (by decide +kernel) (by decide +kernel)
set_option maxRecDepth 20000 in
theorem gX2_worksAs_X4_kindOf : GoodIn wsX2_worksAs (wsV RX2 71 RX4 yX4_kindOf wsX4_kindOf) := goodIn_app (goodIn_of _ (by decide +kernel)) ggX2_worksAs_X4_kindOf
set_option maxRecDepth 20000 in
theorem ggX2_worksAs_X2_isBent : GoodIn wsX2_worksAs wsX2_isBent := goodIn_r _ [13, 14, 15, 16, 17, 18, 19, 20, 21] (by decide +kernel) (by decide +kernel)
set_option maxRecDepth 20000 in
theorem gX2_worksAs_X2_isBent : GoodIn wsX2_worksAs (wsV RX2 74 RX2 yX2_isBent wsX2_isBent) := goodIn_app (goodIn_of _ (by decide +kernel)) ggX2_worksAs_X2_isBent
theorem dX2_worksAs_0 : decode cX2_worksAs 0 = .ok (.aload_n 0, 1) := by decide +kernel
theorem dX2_worksAs_1 : decode cX2_worksAs 1 = .ok (.getfield 33, 3) := by decide +kernel
theorem dX2_worksAs_4 : decode cX2_worksAs 4 = .ok (.iload_n 1, 1) := by decide +kernel
theorem dX2_worksAs_5 : decode cX2_worksAs 5 = .ok (.invokevirtual 71, 3) := by decide +kernel
theorem dX2_worksAs_8 : decode cX2_worksAs 8 = .ok (.istore_n 2, 1) := by decide +kernel
theorem dX2_worksAs_9 : decode cX2_worksAs 9 = .ok (.iload_n 2, 1) := by decide +kernel
theorem dX2_worksAs_10 : decode cX2_worksAs 10 = .ok (.iconst 2, 1) := by decide +kernel
theorem dX2_worksAs_11 : decode cX2_worksAs 11 = .ok (.if_icmp .eq 7, 3) := by decide +kernel
theorem dX2_worksAs_14 : decode cX2_worksAs 14 = .ok (.iload_n 2, 1) := by decide +kernel
theorem dX2_worksAs_15 : decode cX2_worksAs 15 = .ok (.ifCond .ne 5, 3) := by decide +kernel
theorem dX2_worksAs_18 : decode cX2_worksAs 18 = .ok (.iload_n 2, 1) := by decide +kernel
theorem dX2_worksAs_19 : decode cX2_worksAs 19 = .ok (.ireturn, 1) := by decide +kernel
theorem dX2_worksAs_20 : decode cX2_worksAs 20 = .ok (.aload_n 0, 1) := by decide +kernel
theorem dX2_worksAs_21 : decode cX2_worksAs 21 = .ok (.getfield 22, 3) := by decide +kernel
theorem dX2_worksAs_24 : decode cX2_worksAs 24 = .ok (.ifCond .ne 11, 3) := by decide +kernel
theorem dX2_worksAs_27 : decode cX2_worksAs 27 = .ok (.aload_n 0, 1) := by decide +kernel
theorem dX2_worksAs_28 : decode cX2_worksAs 28 = .ok (.iload_n 1, 1) := by decide +kernel
theorem dX2_worksAs_29 : decode cX2_worksAs 29 = .ok (.invokevirtual 74, 3) := by decide +kernel
theorem dX2_worksAs_32 : decode cX2_worksAs 32 = .ok (.ifCond .eq 5, 3) := by decide +kernel
theorem dX2_worksAs_35 : decode cX2_worksAs 35 = .ok (.iconst 0, 1) := by decide +kernel
theorem dX2_worksAs_36 : decode cX2_worksAs 36 = .ok (.ireturn, 1) := by decide +kernel
theorem dX2_worksAs_37 : decode cX2_worksAs 37 = .ok (.iload_n 2, 1) := by decide +kernel
theorem dX2_worksAs_38 : decode cX2_worksAs 38 = .ok (.iconst 1, 1) := by decide +kernel
theorem dX2_worksAs_39 : decode cX2_worksAs 39 = .ok (.if_icmp .ne 7, 3) := by decide +kernel
theorem dX2_worksAs_42 : decode cX2_worksAs 42 = .ok (.iconst 1, 1) := by decide +kernel
theorem dX2_worksAs_43 : decode cX2_worksAs 43 = .ok (.goto 4, 3) := by decide +kernel
theorem dX2_worksAs_46 : decode cX2_worksAs 46 = .ok (.iconst 3, 1) := by decide +kernel
theorem dX2_worksAs_47 : decode cX2_worksAs 47 = .ok (.ireturn, 1) := by decide +kernel
set_option maxRecDepth 20000 in
theorem ggX2_goTo_X4_hasBroom : GoodIn wsX2_goTo wsX4_hasBroom := goodIn_r _ [7, 8, 16, 17, 18, 19, 20, 21, 22, 23] (by decide +kernel) (by decide +kernel)
set_option maxRecDepth 20000 in
theorem gX2_goTo_X4_hasBroom : GoodIn wsX2_goTo (wsV RX2 55 RX4 yX4_hasBroom wsX4_hasBroom) := goodIn_app (goodIn_of _ (by decide +kernel)) ggX2_goTo_X4_hasBroom
theorem dX2_goTo_0 : decode cX2_goTo 0 = .ok (.aload_n 0, 1) := by decide +kernel
theorem dX2_goTo_1 : decode cX2_goTo 1 = .ok (.getfield 33, 3) := by decide +kernel
theorem dX2_goTo_4 : decode cX2_goTo 4 = .ok (.iload_n 1, 1) := by decide +kernel
theorem dX2_goTo_5 : decode cX2_goTo 5 = .ok (.invokevirtual 55, 3) := by decide +kernel
theorem dX2_goTo_8 : decode cX2_goTo 8 = .ok (.ifCond .eq 10, 3) := by decide +kernel
theorem dX2_goTo_11 : decode cX2_goTo 11 = .ok (.aload_n 0, 1) := by decide +kernel
theorem dX2_goTo_12 : decode cX2_goTo 12 = .ok (.getfield 15, 3) := by decide +kernel
theorem dX2_goTo_15 : decode cX2_goTo 15 = .ok (.iload_n 1, 1) := by decide +kernel
theorem dX2_goTo_16 : decode cX2_goTo 16 = .ok (.iload_n 2, 1) := by decide +kernel
theorem dX2_goTo_17 : decode cX2_goTo 17 = .ok (.iastore, 1) := by decide +kernel
theorem dX2_goTo_18 : decode cX2_goTo 18 = .ok (.return_, 1) := by decide +kernel
set_option maxRecDepth 20000 in
theorem ggX2_step_X2_placeOf : GoodIn wsX2_step wsX2_placeOf := goodIn_r _ [5, 6, 7, 8, 9, 10, 11, 12, 13, 24, 25, 26, 27, 28, 29, 30, 31, 32, 33, 34, 35, 36, 37, 38] (by decide +kernel) (by decide +kernel)
set_option maxRecDepth 20000 in
theorem gX2_step_X2_placeOf : GoodIn wsX2_step (wsV RX2 68 RX2 yX2_placeOf wsX2_placeOf) := goodIn_app (goodIn_of _ (by decide +kernel)) ggX2_step_X2_placeOf
set_option maxRecDepth 20000 in
theorem ggX2_step_X2_leftOf : GoodIn wsX2_step wsX2_leftOf := goodIn_r _ [16] (by decide +kernel) (by decide +kernel)
set_option maxRecDepth 20000 in
theorem gX2_step_X2_leftOf : GoodIn wsX2_step (va_wsS RX2 77 yX2_leftOf wsX2_leftOf) := goodIn_app (goodIn_of _ (by decide +kernel)) ggX2_step_X2_leftOf
set_option maxRecDepth 20000 in
theorem ggX2_step_X2_rightOf : GoodIn wsX2_step wsX2_rightOf := goodIn_r _ [19] (by decide +kernel) (by decide +kernel)
set_option maxRecDepth 20000 in
theorem gX2_step_X2_rightOf : GoodIn wsX2_step (va_wsS RX2 80 yX2_rightOf wsX2_rightOf) := goodIn_app (goodIn_of _ (by decide +kernel)) ggX2_step_X2_rightOf
set_option maxRecDepth 20000 in
theorem ggX2_step_X2_goTo : GoodIn wsX2_step wsX2_goTo := goodIn_r _ [23, 6, 7, 8, 9, 10, 11, 12, 13, 24, 25, 26, 27, 28, 29, 30, 31, 32, 33, 34, 35, 36, 37, 38] (by decide +kernel) (by decide +kernel)
set_option maxRecDepth 20000 in
theorem gX2_step_X2_goTo : GoodIn wsX2_step (wsV RX2 83 RX2 yX2_goTo wsX2_goTo) := goodIn_app (goodIn_of _ (by decide +kernel)) ggX2_step_X2_goTo
theorem dX2_step_0 : decode cX2_step 0 = .ok (.aload_n 0, 1) := by decide +kernel
theorem dX2_step_1 : decode cX2_step 1 = .ok (.iload_n 1, 1) := by decide +kernel
theorem dX2_step_2 : decode cX2_step 2 = .ok (.invokevirtual 68, 3) := by decide +kernel
theorem dX2_step_5 : decode cX2_step 5 = .ok (.istore_n 3, 1) := by decide +kernel
theorem dX2_step_6 : decode cX2_step 6 = .ok (.aload_n 0, 1) := by decide +kernel
theorem dX2_step_7 : decode cX2_step 7 = .ok (.iload_n 1, 1) := by decide +kernel
theorem dX2_step_8 : decode cX2_step 8 = .ok (.iload_n 2, 1) := by decide +kernel
theorem dX2_step_9 : decode cX2_step 9 = .ok (.ifCond .ne 10, 3) := by decide +kernel
theorem dX2_step_12 : decode cX2_step 12 = .ok (.iload_n 3, 1) := by decide +kernel
theorem dX2_step_13 : decode cX2_step 13 = .ok (.invokestatic 77, 3) := by decide +kernel
theorem dX2_step_16 : decode cX2_step 16 = .ok (.goto 7, 3) := by decide +kernel
theorem dX2_step_19 : decode cX2_step 19 = .ok (.iload_n 3, 1) := by decide +kernel
theorem dX2_step_20 : decode cX2_step 20 = .ok (.invokestatic 80, 3) := by decide +kernel
theorem dX2_step_23 : decode cX2_step 23 = .ok (.invokevirtual 83, 3) := by decide +kernel
theorem dX2_step_26 : decode cX2_step 26 = .ok (.return_, 1) := by decide +kernel
theorem dX2_turnVote_0 : decode cX2_turnVote 0 = .ok (.aload_n 0, 1) := by decide +kernel
theorem dX2_turnVote_1 : decode cX2_turnVote 1 = .ok (.aload_n 0, 1) := by decide +kernel
theorem dX2_turnVote_2 : decode cX2_turnVote 2 = .ok (.getfield 22, 3) := by decide +kernel
theorem dX2_turnVote_5 : decode cX2_turnVote 5 = .ok (.ifCond .ne 7, 3) := by decide +kernel
theorem dX2_turnVote_8 : decode cX2_turnVote 8 = .ok (.iconst 1, 1) := by decide +kernel
theorem dX2_turnVote_9 : decode cX2_turnVote 9 = .ok (.goto 4, 3) := by decide +kernel
theorem dX2_turnVote_12 : decode cX2_turnVote 12 = .ok (.iconst 0, 1) := by decide +kernel
