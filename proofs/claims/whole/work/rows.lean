section
-- ===== PART A: goes FIRST, ahead of the names: the tables' words, and 'selects' of the private methods out of them =====
/-- a private method of a class that the tables say can be made, by its rows of tables_1 -/
def lw_okq (q : MethodName × Nat) : Prop := (q.1.cls ≠ "java/lang/invoke/MethodHandle" ∧ q.1.cls ≠ "java/lang/invoke/VarHandle") ∧ Cond.instantiable q.1.cls q.2 ∈ tables_1 ∧ Cond.privateMethod q.1 ∈ tables_1 ∧ Cond.instanceMethod q.1 ∈ tables_1
theorem lw_p0 : lw_okq (⟨"DustVote$Script", "firstFaultOfParts", "()I"⟩, 2) := ⟨⟨by decide +kernel, by decide +kernel⟩, List.mem_of_getElem? (i := 20) (by decide +kernel), List.mem_of_getElem? (i := 204) (by decide +kernel), List.mem_of_getElem? (i := 205) (by decide +kernel)⟩
theorem lw_p1 : lw_okq (⟨"DustVote$Script", "faultOfBroom", "(I)I"⟩, 2) := ⟨⟨by decide +kernel, by decide +kernel⟩, List.mem_of_getElem? (i := 20) (by decide +kernel), List.mem_of_getElem? (i := 208) (by decide +kernel), List.mem_of_getElem? (i := 209) (by decide +kernel)⟩
theorem lw_p2 : lw_okq (⟨"DustVote$Script", "faultOfFall", "(I)I"⟩, 2) := ⟨⟨by decide +kernel, by decide +kernel⟩, List.mem_of_getElem? (i := 20) (by decide +kernel), List.mem_of_getElem? (i := 215) (by decide +kernel), List.mem_of_getElem? (i := 216) (by decide +kernel)⟩
theorem lw_p3 : lw_okq (⟨"DustVote$Told", "addBroom", "(LDustVote$Script;I)V"⟩, 8) := ⟨⟨by decide +kernel, by decide +kernel⟩, List.mem_of_getElem? (i := 36) (by decide +kernel), List.mem_of_getElem? (i := 229) (by decide +kernel), List.mem_of_getElem? (i := 230) (by decide +kernel)⟩
theorem lw_p4 : lw_okq (⟨"DustVote$Told", "addFall", "(LDustVote$Script;I)V"⟩, 8) := ⟨⟨by decide +kernel, by decide +kernel⟩, List.mem_of_getElem? (i := 36) (by decide +kernel), List.mem_of_getElem? (i := 233) (by decide +kernel), List.mem_of_getElem? (i := 234) (by decide +kernel)⟩
theorem lw_p5 : lw_okq (⟨"DustVote$Moment", "comeDown", "(I)V"⟩, 7) := ⟨⟨by decide +kernel, by decide +kernel⟩, List.mem_of_getElem? (i := 75) (by decide +kernel), List.mem_of_getElem? (i := 318) (by decide +kernel), List.mem_of_getElem? (i := 319) (by decide +kernel)⟩
theorem lw_p6 : lw_okq (⟨"DustVote$Moment", "pour", "(II)V"⟩, 7) := ⟨⟨by decide +kernel, by decide +kernel⟩, List.mem_of_getElem? (i := 75) (by decide +kernel), List.mem_of_getElem? (i := 322) (by decide +kernel), List.mem_of_getElem? (i := 323) (by decide +kernel)⟩
theorem lw_p7 : lw_okq (⟨"DustVote$Moment", "work", "(I)V"⟩, 7) := ⟨⟨by decide +kernel, by decide +kernel⟩, List.mem_of_getElem? (i := 75) (by decide +kernel), List.mem_of_getElem? (i := 329) (by decide +kernel), List.mem_of_getElem? (i := 330) (by decide +kernel)⟩
theorem lw_p8 : lw_okq (⟨"DustVote$Moment", "sweep", "(II)I"⟩, 7) := ⟨⟨by decide +kernel, by decide +kernel⟩, List.mem_of_getElem? (i := 75) (by decide +kernel), List.mem_of_getElem? (i := 335) (by decide +kernel), List.mem_of_getElem? (i := 336) (by decide +kernel)⟩
theorem lw_p9 : lw_okq (⟨"DustVote$Moment", "spread", "()V"⟩, 7) := ⟨⟨by decide +kernel, by decide +kernel⟩, List.mem_of_getElem? (i := 75) (by decide +kernel), List.mem_of_getElem? (i := 345) (by decide +kernel), List.mem_of_getElem? (i := 346) (by decide +kernel)⟩
theorem lw_p10 : lw_okq (⟨"DustVote", "behind", "(II)LDustVote$Moment;"⟩, 9) := ⟨⟨by decide +kernel, by decide +kernel⟩, List.mem_of_getElem? (i := 12) (by decide +kernel), List.mem_of_getElem? (i := 411) (by decide +kernel), List.mem_of_getElem? (i := 412) (by decide +kernel)⟩
theorem lw_p11 : lw_okq (⟨"DustVote", "fromNow", "()LDustVote$Moment;"⟩, 9) := ⟨⟨by decide +kernel, by decide +kernel⟩, List.mem_of_getElem? (i := 12) (by decide +kernel), List.mem_of_getElem? (i := 415) (by decide +kernel), List.mem_of_getElem? (i := 416) (by decide +kernel)⟩
theorem lw_p12 : lw_okq (⟨"DustVote", "staysShallow", "(II)Z"⟩, 9) := ⟨⟨by decide +kernel, by decide +kernel⟩, List.mem_of_getElem? (i := 12) (by decide +kernel), List.mem_of_getElem? (i := 449) (by decide +kernel), List.mem_of_getElem? (i := 450) (by decide +kernel)⟩
theorem lw_p13 : lw_okq (⟨"DustVote", "isSo", "(LDustVote$Moment;III)Z"⟩, 9) := ⟨⟨by decide +kernel, by decide +kernel⟩, List.mem_of_getElem? (i := 12) (by decide +kernel), List.mem_of_getElem? (i := 464) (by decide +kernel), List.mem_of_getElem? (i := 465) (by decide +kernel)⟩
theorem lw_p14 : lw_okq (⟨"DustVote", "tryStep", "(LDustVote$Moment;II)Z"⟩, 9) := ⟨⟨by decide +kernel, by decide +kernel⟩, List.mem_of_getElem? (i := 12) (by decide +kernel), List.mem_of_getElem? (i := 468) (by decide +kernel), List.mem_of_getElem? (i := 469) (by decide +kernel)⟩
theorem lw_p15 : lw_okq (⟨"DustVote", "tryDawn", "(LDustVote$Moment;)Z"⟩, 9) := ⟨⟨by decide +kernel, by decide +kernel⟩, List.mem_of_getElem? (i := 12) (by decide +kernel), List.mem_of_getElem? (i := 472) (by decide +kernel), List.mem_of_getElem? (i := 473) (by decide +kernel)⟩
def lw_privs_1 : List (MethodName × Nat) := [(⟨"DustVote$Script", "firstFaultOfParts", "()I"⟩, 2), (⟨"DustVote$Script", "faultOfBroom", "(I)I"⟩, 2), (⟨"DustVote$Script", "faultOfFall", "(I)I"⟩, 2), (⟨"DustVote$Told", "addBroom", "(LDustVote$Script;I)V"⟩, 8), (⟨"DustVote$Told", "addFall", "(LDustVote$Script;I)V"⟩, 8), (⟨"DustVote$Moment", "comeDown", "(I)V"⟩, 7), (⟨"DustVote$Moment", "pour", "(II)V"⟩, 7), (⟨"DustVote$Moment", "work", "(I)V"⟩, 7), (⟨"DustVote$Moment", "sweep", "(II)I"⟩, 7), (⟨"DustVote$Moment", "spread", "()V"⟩, 7), (⟨"DustVote", "behind", "(II)LDustVote$Moment;"⟩, 9), (⟨"DustVote", "fromNow", "()LDustVote$Moment;"⟩, 9), (⟨"DustVote", "staysShallow", "(II)Z"⟩, 9), (⟨"DustVote", "isSo", "(LDustVote$Moment;III)Z"⟩, 9), (⟨"DustVote", "tryStep", "(LDustVote$Moment;II)Z"⟩, 9), (⟨"DustVote", "tryDawn", "(LDustVote$Moment;)Z"⟩, 9)]
theorem lw_r1 : ∀ q ∈ lw_privs_1, lw_okq q := List.forall_mem_cons.mpr ⟨lw_p0, List.forall_mem_cons.mpr ⟨lw_p1, List.forall_mem_cons.mpr ⟨lw_p2, List.forall_mem_cons.mpr ⟨lw_p3, List.forall_mem_cons.mpr ⟨lw_p4, List.forall_mem_cons.mpr ⟨lw_p5, List.forall_mem_cons.mpr ⟨lw_p6, List.forall_mem_cons.mpr ⟨lw_p7, List.forall_mem_cons.mpr ⟨lw_p8, List.forall_mem_cons.mpr ⟨lw_p9, List.forall_mem_cons.mpr ⟨lw_p10, List.forall_mem_cons.mpr ⟨lw_p11, List.forall_mem_cons.mpr ⟨lw_p12, List.forall_mem_cons.mpr ⟨lw_p13, List.forall_mem_cons.mpr ⟨lw_p14, List.forall_mem_cons.mpr ⟨lw_p15, fun _ h => absurd h List.not_mem_nil⟩⟩⟩⟩⟩⟩⟩⟩⟩⟩⟩⟩⟩⟩⟩⟩
theorem lw_p16 : lw_okq (⟨"DustVote", "tryVote", "(LDustVote$Moment;)Z"⟩, 9) := ⟨⟨by decide +kernel, by decide +kernel⟩, List.mem_of_getElem? (i := 12) (by decide +kernel), List.mem_of_getElem? (i := 476) (by decide +kernel), List.mem_of_getElem? (i := 477) (by decide +kernel)⟩
theorem lw_p17 : lw_okq (⟨"DustVote", "tryBow", "(LDustVote$Moment;I)Z"⟩, 9) := ⟨⟨by decide +kernel, by decide +kernel⟩, List.mem_of_getElem? (i := 12) (by decide +kernel), List.mem_of_getElem? (i := 480) (by decide +kernel), List.mem_of_getElem? (i := 481) (by decide +kernel)⟩
theorem lw_p18 : lw_okq (⟨"DustVote", "tryEmpty", "(LDustVote$Moment;I)Z"⟩, 9) := ⟨⟨by decide +kernel, by decide +kernel⟩, List.mem_of_getElem? (i := 12) (by decide +kernel), List.mem_of_getElem? (i := 484) (by decide +kernel), List.mem_of_getElem? (i := 485) (by decide +kernel)⟩
theorem lw_p19 : lw_okq (⟨"DustVote", "ordersWith", "(I)J"⟩, 9) := ⟨⟨by decide +kernel, by decide +kernel⟩, List.mem_of_getElem? (i := 12) (by decide +kernel), List.mem_of_getElem? (i := 513) (by decide +kernel), List.mem_of_getElem? (i := 514) (by decide +kernel)⟩
theorem lw_p20 : lw_okq (⟨"DustVote", "isAtRest", "(III)Z"⟩, 9) := ⟨⟨by decide +kernel, by decide +kernel⟩, List.mem_of_getElem? (i := 12) (by decide +kernel), List.mem_of_getElem? (i := 533) (by decide +kernel), List.mem_of_getElem? (i := 534) (by decide +kernel)⟩
theorem lw_p21 : lw_okq (⟨"DustVote", "gain", "(II)I"⟩, 9) := ⟨⟨by decide +kernel, by decide +kernel⟩, List.mem_of_getElem? (i := 12) (by decide +kernel), List.mem_of_getElem? (i := 537) (by decide +kernel), List.mem_of_getElem? (i := 538) (by decide +kernel)⟩
theorem lw_p22 : lw_okq (⟨"DustVote", "isDeepBehind", "(III)Z"⟩, 9) := ⟨⟨by decide +kernel, by decide +kernel⟩, List.mem_of_getElem? (i := 12) (by decide +kernel), List.mem_of_getElem? (i := 545) (by decide +kernel), List.mem_of_getElem? (i := 546) (by decide +kernel)⟩
theorem lw_p23 : lw_okq (⟨"DustVote", "happen", "(LDustVote$Moment;I)V"⟩, 9) := ⟨⟨by decide +kernel, by decide +kernel⟩, List.mem_of_getElem? (i := 12) (by decide +kernel), List.mem_of_getElem? (i := 560) (by decide +kernel), List.mem_of_getElem? (i := 561) (by decide +kernel)⟩
theorem lw_p24 : lw_okq (⟨"DustVoteModel", "readText", "()I"⟩, 27) := ⟨⟨by decide +kernel, by decide +kernel⟩, List.mem_of_getElem? (i := 578) (by decide +kernel), List.mem_of_getElem? (i := 682) (by decide +kernel), List.mem_of_getElem? (i := 683) (by decide +kernel)⟩
theorem lw_p25 : lw_okq (⟨"DustVoteModel", "figureOf", "(II)I"⟩, 27) := ⟨⟨by decide +kernel, by decide +kernel⟩, List.mem_of_getElem? (i := 578) (by decide +kernel), List.mem_of_getElem? (i := 686) (by decide +kernel), List.mem_of_getElem? (i := 687) (by decide +kernel)⟩
theorem lw_p26 : lw_okq (⟨"DustVoteModel", "readPart", "(I)V"⟩, 27) := ⟨⟨by decide +kernel, by decide +kernel⟩, List.mem_of_getElem? (i := 578) (by decide +kernel), List.mem_of_getElem? (i := 690) (by decide +kernel), List.mem_of_getElem? (i := 691) (by decide +kernel)⟩
theorem lw_p27 : lw_okq (⟨"DustVoteModel", "broomsIn", "(I)I"⟩, 27) := ⟨⟨by decide +kernel, by decide +kernel⟩, List.mem_of_getElem? (i := 578) (by decide +kernel), List.mem_of_getElem? (i := 706) (by decide +kernel), List.mem_of_getElem? (i := 707) (by decide +kernel)⟩
theorem lw_p28 : lw_okq (⟨"DustVoteModel", "isBroom", "(I)Z"⟩, 27) := ⟨⟨by decide +kernel, by decide +kernel⟩, List.mem_of_getElem? (i := 578) (by decide +kernel), List.mem_of_getElem? (i := 714) (by decide +kernel), List.mem_of_getElem? (i := 715) (by decide +kernel)⟩
theorem lw_p29 : lw_okq (⟨"DustVoteModel", "worksAs", "(II)I"⟩, 27) := ⟨⟨by decide +kernel, by decide +kernel⟩, List.mem_of_getElem? (i := 578) (by decide +kernel), List.mem_of_getElem? (i := 718) (by decide +kernel), List.mem_of_getElem? (i := 719) (by decide +kernel)⟩
theorem lw_p30 : lw_okq (⟨"DustVoteModel", "keepAct", "()V"⟩, 27) := ⟨⟨by decide +kernel, by decide +kernel⟩, List.mem_of_getElem? (i := 578) (by decide +kernel), List.mem_of_getElem? (i := 729) (by decide +kernel), List.mem_of_getElem? (i := 730) (by decide +kernel)⟩
theorem lw_p31 : lw_okq (⟨"DustVoteModel", "passOn", "(II)V"⟩, 27) := ⟨⟨by decide +kernel, by decide +kernel⟩, List.mem_of_getElem? (i := 578) (by decide +kernel), List.mem_of_getElem? (i := 733) (by decide +kernel), List.mem_of_getElem? (i := 734) (by decide +kernel)⟩
def lw_privs_2 : List (MethodName × Nat) := [(⟨"DustVote", "tryVote", "(LDustVote$Moment;)Z"⟩, 9), (⟨"DustVote", "tryBow", "(LDustVote$Moment;I)Z"⟩, 9), (⟨"DustVote", "tryEmpty", "(LDustVote$Moment;I)Z"⟩, 9), (⟨"DustVote", "ordersWith", "(I)J"⟩, 9), (⟨"DustVote", "isAtRest", "(III)Z"⟩, 9), (⟨"DustVote", "gain", "(II)I"⟩, 9), (⟨"DustVote", "isDeepBehind", "(III)Z"⟩, 9), (⟨"DustVote", "happen", "(LDustVote$Moment;I)V"⟩, 9), (⟨"DustVoteModel", "readText", "()I"⟩, 27), (⟨"DustVoteModel", "figureOf", "(II)I"⟩, 27), (⟨"DustVoteModel", "readPart", "(I)V"⟩, 27), (⟨"DustVoteModel", "broomsIn", "(I)I"⟩, 27), (⟨"DustVoteModel", "isBroom", "(I)Z"⟩, 27), (⟨"DustVoteModel", "worksAs", "(II)I"⟩, 27), (⟨"DustVoteModel", "keepAct", "()V"⟩, 27), (⟨"DustVoteModel", "passOn", "(II)V"⟩, 27)]
theorem lw_r2 : ∀ q ∈ lw_privs_2, lw_okq q := List.forall_mem_cons.mpr ⟨lw_p16, List.forall_mem_cons.mpr ⟨lw_p17, List.forall_mem_cons.mpr ⟨lw_p18, List.forall_mem_cons.mpr ⟨lw_p19, List.forall_mem_cons.mpr ⟨lw_p20, List.forall_mem_cons.mpr ⟨lw_p21, List.forall_mem_cons.mpr ⟨lw_p22, List.forall_mem_cons.mpr ⟨lw_p23, List.forall_mem_cons.mpr ⟨lw_p24, List.forall_mem_cons.mpr ⟨lw_p25, List.forall_mem_cons.mpr ⟨lw_p26, List.forall_mem_cons.mpr ⟨lw_p27, List.forall_mem_cons.mpr ⟨lw_p28, List.forall_mem_cons.mpr ⟨lw_p29, List.forall_mem_cons.mpr ⟨lw_p30, List.forall_mem_cons.mpr ⟨lw_p31, fun _ h => absurd h List.not_mem_nil⟩⟩⟩⟩⟩⟩⟩⟩⟩⟩⟩⟩⟩⟩⟩⟩
theorem lw_p32 : lw_okq (⟨"DustVoteModel", "add", "(III)V"⟩, 27) := ⟨⟨by decide +kernel, by decide +kernel⟩, List.mem_of_getElem? (i := 578) (by decide +kernel), List.mem_of_getElem? (i := 737) (by decide +kernel), List.mem_of_getElem? (i := 738) (by decide +kernel)⟩
theorem lw_p33 : lw_okq (⟨"DustVoteModel", "sweep", "(II)V"⟩, 27) := ⟨⟨by decide +kernel, by decide +kernel⟩, List.mem_of_getElem? (i := 578) (by decide +kernel), List.mem_of_getElem? (i := 741) (by decide +kernel), List.mem_of_getElem? (i := 742) (by decide +kernel)⟩
theorem lw_p34 : lw_okq (⟨"DustVoteModel", "takeOff", "(III)I"⟩, 27) := ⟨⟨by decide +kernel, by decide +kernel⟩, List.mem_of_getElem? (i := 578) (by decide +kernel), List.mem_of_getElem? (i := 745) (by decide +kernel), List.mem_of_getElem? (i := 746) (by decide +kernel)⟩
theorem lw_p35 : lw_okq (⟨"DustVoteModel", "kneesOn", "(I)I"⟩, 27) := ⟨⟨by decide +kernel, by decide +kernel⟩, List.mem_of_getElem? (i := 578) (by decide +kernel), List.mem_of_getElem? (i := 749) (by decide +kernel), List.mem_of_getElem? (i := 750) (by decide +kernel)⟩
theorem lw_p36 : lw_okq (⟨"DustVoteModel", "dustOn", "(I)I"⟩, 27) := ⟨⟨by decide +kernel, by decide +kernel⟩, List.mem_of_getElem? (i := 578) (by decide +kernel), List.mem_of_getElem? (i := 753) (by decide +kernel), List.mem_of_getElem? (i := 754) (by decide +kernel)⟩
theorem lw_p37 : lw_okq (⟨"DustVoteModel", "walkOn", "(III)V"⟩, 27) := ⟨⟨by decide +kernel, by decide +kernel⟩, List.mem_of_getElem? (i := 578) (by decide +kernel), List.mem_of_getElem? (i := 761) (by decide +kernel), List.mem_of_getElem? (i := 762) (by decide +kernel)⟩
theorem lw_p38 : lw_okq (⟨"DustVoteModel", "layTrial", "()V"⟩, 27) := ⟨⟨by decide +kernel, by decide +kernel⟩, List.mem_of_getElem? (i := 578) (by decide +kernel), List.mem_of_getElem? (i := 789) (by decide +kernel), List.mem_of_getElem? (i := 790) (by decide +kernel)⟩
theorem lw_p39 : lw_okq (⟨"DustVoteModel", "goOn", "(I)V"⟩, 27) := ⟨⟨by decide +kernel, by decide +kernel⟩, List.mem_of_getElem? (i := 578) (by decide +kernel), List.mem_of_getElem? (i := 793) (by decide +kernel), List.mem_of_getElem? (i := 794) (by decide +kernel)⟩
theorem lw_p40 : lw_okq (⟨"DustVoteModel", "keepsBelow", "(II)Z"⟩, 27) := ⟨⟨by decide +kernel, by decide +kernel⟩, List.mem_of_getElem? (i := 578) (by decide +kernel), List.mem_of_getElem? (i := 817) (by decide +kernel), List.mem_of_getElem? (i := 818) (by decide +kernel)⟩
theorem lw_p41 : lw_okq (⟨"DustVoteModel", "tryThing", "(III)Z"⟩, 27) := ⟨⟨by decide +kernel, by decide +kernel⟩, List.mem_of_getElem? (i := 578) (by decide +kernel), List.mem_of_getElem? (i := 830) (by decide +kernel), List.mem_of_getElem? (i := 831) (by decide +kernel)⟩
theorem lw_p42 : lw_okq (⟨"DustVoteModel", "dustBy", "(I)I"⟩, 27) := ⟨⟨by decide +kernel, by decide +kernel⟩, List.mem_of_getElem? (i := 578) (by decide +kernel), List.mem_of_getElem? (i := 854) (by decide +kernel), List.mem_of_getElem? (i := 855) (by decide +kernel)⟩
theorem lw_p43 : lw_okq (⟨"DustVoteModel", "isRest", "(IIII)Z"⟩, 27) := ⟨⟨by decide +kernel, by decide +kernel⟩, List.mem_of_getElem? (i := 578) (by decide +kernel), List.mem_of_getElem? (i := 865) (by decide +kernel), List.mem_of_getElem? (i := 866) (by decide +kernel)⟩
theorem lw_p44 : lw_okq (⟨"DustVoteModel", "gain", "(IIII)I"⟩, 27) := ⟨⟨by decide +kernel, by decide +kernel⟩, List.mem_of_getElem? (i := 578) (by decide +kernel), List.mem_of_getElem? (i := 869) (by decide +kernel), List.mem_of_getElem? (i := 870) (by decide +kernel)⟩
def lw_privs_3 : List (MethodName × Nat) := [(⟨"DustVoteModel", "add", "(III)V"⟩, 27), (⟨"DustVoteModel", "sweep", "(II)V"⟩, 27), (⟨"DustVoteModel", "takeOff", "(III)I"⟩, 27), (⟨"DustVoteModel", "kneesOn", "(I)I"⟩, 27), (⟨"DustVoteModel", "dustOn", "(I)I"⟩, 27), (⟨"DustVoteModel", "walkOn", "(III)V"⟩, 27), (⟨"DustVoteModel", "layTrial", "()V"⟩, 27), (⟨"DustVoteModel", "goOn", "(I)V"⟩, 27), (⟨"DustVoteModel", "keepsBelow", "(II)Z"⟩, 27), (⟨"DustVoteModel", "tryThing", "(III)Z"⟩, 27), (⟨"DustVoteModel", "dustBy", "(I)I"⟩, 27), (⟨"DustVoteModel", "isRest", "(IIII)Z"⟩, 27), (⟨"DustVoteModel", "gain", "(IIII)I"⟩, 27)]
theorem lw_r3 : ∀ q ∈ lw_privs_3, lw_okq q := List.forall_mem_cons.mpr ⟨lw_p32, List.forall_mem_cons.mpr ⟨lw_p33, List.forall_mem_cons.mpr ⟨lw_p34, List.forall_mem_cons.mpr ⟨lw_p35, List.forall_mem_cons.mpr ⟨lw_p36, List.forall_mem_cons.mpr ⟨lw_p37, List.forall_mem_cons.mpr ⟨lw_p38, List.forall_mem_cons.mpr ⟨lw_p39, List.forall_mem_cons.mpr ⟨lw_p40, List.forall_mem_cons.mpr ⟨lw_p41, List.forall_mem_cons.mpr ⟨lw_p42, List.forall_mem_cons.mpr ⟨lw_p43, List.forall_mem_cons.mpr ⟨lw_p44, fun _ h => absurd h List.not_mem_nil⟩⟩⟩⟩⟩⟩⟩⟩⟩⟩⟩⟩⟩
def lw_privs : List (MethodName × Nat) := lw_privs_1 ++ (lw_privs_2 ++ (lw_privs_3))
def lw_tbl : List Cond := k2_sels lw_privs ++ tables_1
theorem lw_privs_ok : ∀ q ∈ lw_privs, lw_okq q := by
  show ∀ q ∈ lw_privs_1 ++ (lw_privs_2 ++ (lw_privs_3)), lw_okq q
  exact List.forall_mem_append.mpr ⟨lw_r1, List.forall_mem_append.mpr ⟨lw_r2, lw_r3⟩⟩
-- ===== end of PART A; then your names; then what follows =====
end
section
/-! ===== BEGIN words of one list among another's, by their places ===== -/
theorem goodIn_r {big : List Cond} (ws : List Cond) (ps : List Nat) (hp : ws = ps.filterMap (fun i => big[i]?)) (h : ws.all goodWord = true) : GoodIn big ws := by
  intro w hw
  have h1 := List.all_eq_true.mp h w hw
  rw [hp] at hw
  obtain ⟨i, -, hi⟩ := List.mem_filterMap.mp hw
  have hm : w ∈ big := by first | exact List.mem_of_getElem? hi | exact List.getElem?_mem hi
  exact ⟨hm, good_of_word h1⟩
theorem goodIn_app {big a b : List Cond} (ha : GoodIn big a) (hb : GoodIn big b) : GoodIn big (a ++ b) := fun w h => (List.mem_append.mp h).elim (ha w) (hb w)
theorem goodIn_ca {big a b : List Cond} {c : Cond} (ha : GoodIn big (c :: a)) (hb : GoodIn big b) : GoodIn big (c :: (a ++ b)) := fun w h => (List.mem_cons.mp h).elim (fun e => ha w (List.mem_cons.mpr (Or.inl e))) (fun h => (List.mem_append.mp h).elim (fun h => ha w (List.mem_cons.mpr (Or.inr h))) (hb w))
theorem goodIn_sub {big ws : List Cond} (hm : ∀ w ∈ ws, w ∈ big) (h : ws.all goodWord = true) : GoodIn big ws := fun w hw => ⟨hm w hw, good_of_word (List.all_eq_true.mp h w hw)⟩
/-! ===== END ===== -/

/-! ===== BEGIN printed: names, fields, word lists, decode rows ===== -/
def RX0 : String := "DustVote$ActRow"
def TX0 : u_T := fun k => match k with
  | 0 => ("DustVote$ActRow", "cells", "[I", true)
  | 1 => ("DustVote$ActRow", "first", "I", false)
  | _ => ("DustVote$ActRow", "size", "I", false)
def tyX0 : Nat → FieldType := fun k => match k with
  | 0 => .array .int
  | 1 => .int
  | _ => .int
abbrev wsX00 : List Cond := u_ws RX0 TX0 3
theorem nmX0 : ∀ a, a < 3 → ∀ b, b < 3 → a ≠ b → (TX0 a).2.1 ≠ (TX0 b).2.1 := by decide +kernel
theorem tyX0_ok : ∀ k, k < 3 → parseFieldDescriptor (TX0 k).2.2.1 = some (tyX0 k) := by decide +kernel
abbrev cX0_init : ByteArray := prog_2_method_1_code
def yX0_init : MethodName := ⟨RX0, "<init>", "()V"⟩
abbrev cX0_clear : ByteArray := prog_2_method_2_code
def yX0_clear : MethodName := ⟨RX0, "clear", "()V"⟩
abbrev cX0_spotOf : ByteArray := prog_2_method_3_code
def yX0_spotOf : MethodName := ⟨RX0, "spotOf", "(I)I"⟩
abbrev cX0_push : ByteArray := prog_2_method_4_code
def yX0_push : MethodName := ⟨RX0, "push", "(LDustVote$Moment;)V"⟩
abbrev cX0_pop : ByteArray := prog_2_method_5_code
def yX0_pop : MethodName := ⟨RX0, "pop", "(LDustVote$Moment;)V"⟩
def RX1 : String := "DustVote$Heaps"
def TX1 : u_T := fun k => match k with
  | 0 => ("DustVote$Heaps", "before", "[I", true)
  | 1 => ("DustVote$Heaps", "left", "[I", true)
  | 2 => ("DustVote$Heaps", "gone", "[I", true)
  | _ => ("DustVote$Heaps", "size", "I", false)
def tyX1 : Nat → FieldType := fun k => match k with
  | 0 => .array .int
  | 1 => .array .int
  | 2 => .array .int
  | _ => .int
abbrev wsX10 : List Cond := u_ws RX1 TX1 4
theorem nmX1 : ∀ a, a < 4 → ∀ b, b < 4 → a ≠ b → (TX1 a).2.1 ≠ (TX1 b).2.1 := by decide +kernel
theorem tyX1_ok : ∀ k, k < 4 → parseFieldDescriptor (TX1 k).2.2.1 = some (tyX1 k) := by decide +kernel
abbrev cX1_init : ByteArray := prog_3_method_1_code
def yX1_init : MethodName := ⟨RX1, "<init>", "()V"⟩
abbrev cX1_add : ByteArray := prog_3_method_2_code
def yX1_add : MethodName := ⟨RX1, "add", "(III)V"⟩
abbrev cX1_fit : ByteArray := prog_3_method_3_code
def yX1_fit : MethodName := ⟨RX1, "fit", "(II)Z"⟩
def RX2 : String := "DustVote$Moment"
def TX2 : u_T := fun k => match k with
  | 0 => ("DustVote$Moment", "told", "LDustVote$Told;", true)
  | 1 => ("DustVote$Moment", "dust", "[I", true)
  | 2 => ("DustVote$Moment", "place", "[I", true)
  | 3 => ("DustVote$Moment", "deep", "[Z", true)
  | 4 => ("DustVote$Moment", "given", "Z", false)
  | 5 => ("DustVote$Moment", "bent", "I", false)
  | _ => ("DustVote$Moment", "dawns", "I", false)
def tyX2 : Nat → FieldType := fun k => match k with
  | 0 => .object "DustVote$Told"
  | 1 => .array .int
  | 2 => .array .int
  | 3 => .array .boolean
  | 4 => .boolean
  | 5 => .int
  | _ => .int
abbrev wsX20 : List Cond := u_ws RX2 TX2 7
theorem nmX2 : ∀ a, a < 7 → ∀ b, b < 7 → a ≠ b → (TX2 a).2.1 ≠ (TX2 b).2.1 := by decide +kernel
theorem tyX2_ok : ∀ k, k < 7 → parseFieldDescriptor (TX2 k).2.2.1 = some (tyX2 k) := by decide +kernel
abbrev cX2_init : ByteArray := prog_4_method_1_code
def yX2_init : MethodName := ⟨RX2, "<init>", "(LDustVote$Told;)V"⟩
abbrev cX2_begin : ByteArray := prog_4_method_2_code
def yX2_begin : MethodName := ⟨RX2, "begin", "()V"⟩
abbrev cX2_copy : ByteArray := prog_4_method_3_code
def yX2_copy : MethodName := ⟨RX2, "copy", "(LDustVote$Moment;)V"⟩
abbrev cX2_save : ByteArray := prog_4_method_4_code
def yX2_save : MethodName := ⟨RX2, "save", "([II)V"⟩
abbrev cX2_load : ByteArray := prog_4_method_5_code
def yX2_load : MethodName := ⟨RX2, "load", "([II)V"⟩
abbrev cX2_dustIn : ByteArray := prog_4_method_6_code
def yX2_dustIn : MethodName := ⟨RX2, "dustIn", "(I)I"⟩
abbrev cX2_placeOf : ByteArray := prog_4_method_7_code
def yX2_placeOf : MethodName := ⟨RX2, "placeOf", "(I)I"⟩
abbrev cX2_allDust : ByteArray := prog_4_method_8_code
def yX2_allDust : MethodName := ⟨RX2, "allDust", "()I"⟩
abbrev cX2_isDeep : ByteArray := prog_4_method_9_code
def yX2_isDeep : MethodName := ⟨RX2, "isDeep", "(I)Z"⟩
abbrev cX2_deepStreets : ByteArray := prog_4_method_10_code
def yX2_deepStreets : MethodName := ⟨RX2, "deepStreets", "()I"⟩
abbrev cX2_firstDeep : ByteArray := prog_4_method_11_code
def yX2_firstDeep : MethodName := ⟨RX2, "firstDeep", "()I"⟩
abbrev cX2_broomsIn : ByteArray := prog_4_method_12_code
def yX2_broomsIn : MethodName := ⟨RX2, "broomsIn", "(I)I"⟩
abbrev cX2_isBent : ByteArray := prog_4_method_13_code
def yX2_isBent : MethodName := ⟨RX2, "isBent", "(I)Z"⟩
abbrev cX2_worksAs : ByteArray := prog_4_method_14_code
def yX2_worksAs : MethodName := ⟨RX2, "worksAs", "(I)I"⟩
abbrev cX2_goTo : ByteArray := prog_4_method_15_code
def yX2_goTo : MethodName := ⟨RX2, "goTo", "(II)V"⟩
abbrev cX2_step : ByteArray := prog_4_method_16_code
def yX2_step : MethodName := ⟨RX2, "step", "(II)V"⟩
abbrev cX2_turnVote : ByteArray := prog_4_method_17_code
def yX2_turnVote : MethodName := ⟨RX2, "turnVote", "()V"⟩
abbrev cX2_bow : ByteArray := prog_4_method_18_code
def yX2_bow : MethodName := ⟨RX2, "bow", "(I)V"⟩
abbrev cX2_empty : ByteArray := prog_4_method_19_code
def yX2_empty : MethodName := ⟨RX2, "empty", "(I)V"⟩
abbrev cX2_passDawn : ByteArray := prog_4_method_20_code
def yX2_passDawn : MethodName := ⟨RX2, "passDawn", "(II)V"⟩
abbrev cX2_comeDown : ByteArray := prog_4_method_21_code
def yX2_comeDown : MethodName := ⟨RX2, "comeDown", "(I)V"⟩
abbrev cX2_work : ByteArray := prog_4_method_22_code
def yX2_work : MethodName := ⟨RX2, "work", "(I)V"⟩
abbrev cX2_pour : ByteArray := prog_4_method_23_code
def yX2_pour : MethodName := ⟨RX2, "pour", "(II)V"⟩
abbrev cX2_sweep : ByteArray := prog_4_method_24_code
def yX2_sweep : MethodName := ⟨RX2, "sweep", "(II)I"⟩
abbrev cX2_spread : ByteArray := prog_4_method_25_code
def yX2_spread : MethodName := ⟨RX2, "spread", "()V"⟩
abbrev cX2_leftOf : ByteArray := prog_4_method_26_code
def yX2_leftOf : MethodName := ⟨RX2, "leftOf", "(I)I"⟩
abbrev cX2_rightOf : ByteArray := prog_4_method_27_code
def yX2_rightOf : MethodName := ⟨RX2, "rightOf", "(I)I"⟩
def RX3 : String := "DustVote$Script"
def TX3 : u_T := fun k => match k with
  | 0 => ("DustVote$Script", "letters", "[I", true)
  | _ => ("DustVote$Script", "length", "I", false)
def tyX3 : Nat → FieldType := fun k => match k with
  | 0 => .array .int
  | _ => .int
abbrev wsX30 : List Cond := u_ws RX3 TX3 2
theorem nmX3 : ∀ a, a < 2 → ∀ b, b < 2 → a ≠ b → (TX3 a).2.1 ≠ (TX3 b).2.1 := by decide +kernel
theorem tyX3_ok : ∀ k, k < 2 → parseFieldDescriptor (TX3 k).2.2.1 = some (tyX3 k) := by decide +kernel
abbrev cX3_init : ByteArray := prog_5_method_1_code
def yX3_init : MethodName := ⟨RX3, "<init>", "()V"⟩
abbrev cX3_add : ByteArray := prog_5_method_2_code
def yX3_add : MethodName := ⟨RX3, "add", "(I)V"⟩
abbrev cX3_letterAt : ByteArray := prog_5_method_3_code
def yX3_letterAt : MethodName := ⟨RX3, "letterAt", "(I)I"⟩
abbrev cX3_figureAt : ByteArray := prog_5_method_4_code
def yX3_figureAt : MethodName := ⟨RX3, "figureAt", "(I)I"⟩
abbrev cX3_firstFault : ByteArray := prog_5_method_5_code
def yX3_firstFault : MethodName := ⟨RX3, "firstFault", "()I"⟩
abbrev cX3_firstFaultOfParts : ByteArray := prog_5_method_6_code
def yX3_firstFaultOfParts : MethodName := ⟨RX3, "firstFaultOfParts", "()I"⟩
abbrev cX3_faultOfBroom : ByteArray := prog_5_method_7_code
def yX3_faultOfBroom : MethodName := ⟨RX3, "faultOfBroom", "(I)I"⟩
abbrev cX3_faultOfFall : ByteArray := prog_5_method_8_code
def yX3_faultOfFall : MethodName := ⟨RX3, "faultOfFall", "(I)I"⟩
def RX4 : String := "DustVote$Told"
def TX4 : u_T := fun k => match k with
  | 0 => ("DustVote$Told", "firstDust", "[I", true)
  | 1 => ("DustVote$Told", "firstPlace", "[I", true)
  | 2 => ("DustVote$Told", "strength", "[I", true)
  | 3 => ("DustVote$Told", "kind", "[I", true)
  | 4 => ("DustVote$Told", "fallStreet", "[I", true)
  | 5 => ("DustVote$Told", "fallDust", "[I", true)
  | 6 => ("DustVote$Told", "brooms", "I", false)
  | _ => ("DustVote$Told", "falls", "I", false)
def tyX4 : Nat → FieldType := fun k => match k with
  | 0 => .array .int
  | 1 => .array .int
  | 2 => .array .int
  | 3 => .array .int
  | 4 => .array .int
  | 5 => .array .int
  | 6 => .int
  | _ => .int
abbrev wsX40 : List Cond := u_ws RX4 TX4 8
theorem nmX4 : ∀ a, a < 8 → ∀ b, b < 8 → a ≠ b → (TX4 a).2.1 ≠ (TX4 b).2.1 := by decide +kernel
theorem tyX4_ok : ∀ k, k < 8 → parseFieldDescriptor (TX4 k).2.2.1 = some (tyX4 k) := by decide +kernel
abbrev cX4_init : ByteArray := prog_6_method_1_code
def yX4_init : MethodName := ⟨RX4, "<init>", "()V"⟩
abbrev cX4_hasBroom : ByteArray := prog_6_method_2_code
def yX4_hasBroom : MethodName := ⟨RX4, "hasBroom", "(I)Z"⟩
abbrev cX4_strengthOf : ByteArray := prog_6_method_3_code
def yX4_strengthOf : MethodName := ⟨RX4, "strengthOf", "(I)I"⟩
abbrev cX4_kindOf : ByteArray := prog_6_method_4_code
def yX4_kindOf : MethodName := ⟨RX4, "kindOf", "(I)I"⟩
abbrev cX4_read : ByteArray := prog_6_method_5_code
def yX4_read : MethodName := ⟨RX4, "read", "(LDustVote$Script;)V"⟩
abbrev cX4_addBroom : ByteArray := prog_6_method_6_code
def yX4_addBroom : MethodName := ⟨RX4, "addBroom", "(LDustVote$Script;I)V"⟩
abbrev cX4_addFall : ByteArray := prog_6_method_7_code
def yX4_addFall : MethodName := ⟨RX4, "addFall", "(LDustVote$Script;I)V"⟩
def RX5 : String := "DustVote"
def TX5 : u_T := fun k => match k with
  | 0 => ("DustVote", "script", "LDustVote$Script;", true)
  | 1 => ("DustVote", "told", "LDustVote$Told;", true)
  | 2 => ("DustVote", "now", "LDustVote$Moment;", true)
  | 3 => ("DustVote", "trial", "LDustVote$Moment;", true)
  | 4 => ("DustVote", "acts", "LDustVote$ActRow;", true)
  | 5 => ("DustVote", "heaps", "LDustVote$Heaps;", true)
  | 6 => ("DustVote", "slots", "[I", true)
  | 7 => ("DustVote", "filled", "[Z", true)
  | _ => ("DustVote", "chance", "J", false)
def tyX5 : Nat → FieldType := fun k => match k with
  | 0 => .object "DustVote$Script"
  | 1 => .object "DustVote$Told"
  | 2 => .object "DustVote$Moment"
  | 3 => .object "DustVote$Moment"
  | 4 => .object "DustVote$ActRow"
  | 5 => .object "DustVote$Heaps"
  | 6 => .array .int
  | 7 => .array .boolean
  | _ => .long
abbrev wsX50 : List Cond := u_ws RX5 TX5 9
theorem nmX5 : ∀ a, a < 9 → ∀ b, b < 9 → a ≠ b → (TX5 a).2.1 ≠ (TX5 b).2.1 := by decide +kernel
theorem tyX5_ok : ∀ k, k < 9 → parseFieldDescriptor (TX5 k).2.2.1 = some (tyX5 k) := by decide +kernel
abbrev cX5_init : ByteArray := prog_1_method_1_code
def yX5_init : MethodName := ⟨RX5, "<init>", "()V"⟩
abbrev cX5_write : ByteArray := prog_1_method_2_code
def yX5_write : MethodName := ⟨RX5, "write", "(I)I"⟩
abbrev cX5_wipe : ByteArray := prog_1_method_3_code
def yX5_wipe : MethodName := ⟨RX5, "wipe", "()I"⟩
abbrev cX5_fault : ByteArray := prog_1_method_4_code
def yX5_fault : MethodName := ⟨RX5, "fault", "()I"⟩
abbrev cX5_city : ByteArray := prog_1_method_5_code
def yX5_city : MethodName := ⟨RX5, "city", "()I"⟩
abbrev cX5_street : ByteArray := prog_1_method_6_code
def yX5_street : MethodName := ⟨RX5, "street", "(II)I"⟩
abbrev cX5_broom : ByteArray := prog_1_method_7_code
def yX5_broom : MethodName := ⟨RX5, "broom", "(II)I"⟩
abbrev cX5_dawn : ByteArray := prog_1_method_8_code
def yX5_dawn : MethodName := ⟨RX5, "dawn", "()I"⟩
abbrev cX5_walk : ByteArray := prog_1_method_9_code
def yX5_walk : MethodName := ⟨RX5, "walk", "(II)I"⟩
abbrev cX5_vote : ByteArray := prog_1_method_10_code
def yX5_vote : MethodName := ⟨RX5, "vote", "()I"⟩
abbrev cX5_bend : ByteArray := prog_1_method_11_code
def yX5_bend : MethodName := ⟨RX5, "bend", "(I)I"⟩
abbrev cX5_hand : ByteArray := prog_1_method_12_code
def yX5_hand : MethodName := ⟨RX5, "hand", "(I)I"⟩
abbrev cX5_undo : ByteArray := prog_1_method_13_code
def yX5_undo : MethodName := ⟨RX5, "undo", "()I"⟩
abbrev cX5_dust : ByteArray := prog_1_method_14_code
def yX5_dust : MethodName := ⟨RX5, "dust", "(II)I"⟩
abbrev cX5_knees : ByteArray := prog_1_method_15_code
def yX5_knees : MethodName := ⟨RX5, "knees", "(I)I"⟩
abbrev cX5_knee : ByteArray := prog_1_method_16_code
def yX5_knee : MethodName := ⟨RX5, "knee", "(I)I"⟩
abbrev cX5_best : ByteArray := prog_1_method_17_code
def yX5_best : MethodName := ⟨RX5, "best", "(III)I"⟩
abbrev cX5_bends : ByteArray := prog_1_method_18_code
def yX5_bends : MethodName := ⟨RX5, "bends", "(I)I"⟩
abbrev cX5_judge : ByteArray := prog_1_method_19_code
def yX5_judge : MethodName := ⟨RX5, "judge", "(IJ)I"⟩
abbrev cX5_heap : ByteArray := prog_1_method_20_code
def yX5_heap : MethodName := ⟨RX5, "heap", "(III)I"⟩
abbrev cX5_unheap : ByteArray := prog_1_method_21_code
def yX5_unheap : MethodName := ⟨RX5, "unheap", "()I"⟩
abbrev cX5_whose : ByteArray := prog_1_method_22_code
def yX5_whose : MethodName := ⟨RX5, "whose", "(I)I"⟩
abbrev cX5_share : ByteArray := prog_1_method_23_code
def yX5_share : MethodName := ⟨RX5, "share", "(IZ)I"⟩
abbrev cX5_rests : ByteArray := prog_1_method_24_code
def yX5_rests : MethodName := ⟨RX5, "rests", "(III)I"⟩
abbrev cX5_twice : ByteArray := prog_1_method_25_code
def yX5_twice : MethodName := ⟨RX5, "twice", "(IIIZ)I"⟩
abbrev cX5_seed : ByteArray := prog_1_method_26_code
def yX5_seed : MethodName := ⟨RX5, "seed", "(J)J"⟩
abbrev cX5_years : ByteArray := prog_1_method_27_code
def yX5_years : MethodName := ⟨RX5, "years", "(I)I"⟩
abbrev cX5_keep : ByteArray := prog_1_method_28_code
def yX5_keep : MethodName := ⟨RX5, "keep", "(I)I"⟩
abbrev cX5_again : ByteArray := prog_1_method_29_code
def yX5_again : MethodName := ⟨RX5, "again", "(I)I"⟩
abbrev cX5_count : ByteArray := prog_1_method_30_code
def yX5_count : MethodName := ⟨RX5, "count", "(I)I"⟩
abbrev cX5_within : ByteArray := prog_1_method_31_code
def yX5_within : MethodName := ⟨RX5, "within", "(III)Z"⟩
abbrev cX5_isStreet : ByteArray := prog_1_method_32_code
def yX5_isStreet : MethodName := ⟨RX5, "isStreet", "(I)Z"⟩
abbrev cX5_fromNow : ByteArray := prog_1_method_33_code
def yX5_fromNow : MethodName := ⟨RX5, "fromNow", "()LDustVote$Moment;"⟩
abbrev cX5_behind : ByteArray := prog_1_method_34_code
def yX5_behind : MethodName := ⟨RX5, "behind", "(II)LDustVote$Moment;"⟩
abbrev cX5_staysShallow : ByteArray := prog_1_method_35_code
def yX5_staysShallow : MethodName := ⟨RX5, "staysShallow", "(II)Z"⟩
abbrev cX5_isSo : ByteArray := prog_1_method_36_code
def yX5_isSo : MethodName := ⟨RX5, "isSo", "(LDustVote$Moment;III)Z"⟩
abbrev cX5_tryDawn : ByteArray := prog_1_method_37_code
def yX5_tryDawn : MethodName := ⟨RX5, "tryDawn", "(LDustVote$Moment;)Z"⟩
abbrev cX5_tryStep : ByteArray := prog_1_method_38_code
def yX5_tryStep : MethodName := ⟨RX5, "tryStep", "(LDustVote$Moment;II)Z"⟩
abbrev cX5_tryVote : ByteArray := prog_1_method_39_code
def yX5_tryVote : MethodName := ⟨RX5, "tryVote", "(LDustVote$Moment;)Z"⟩
abbrev cX5_tryBow : ByteArray := prog_1_method_40_code
def yX5_tryBow : MethodName := ⟨RX5, "tryBow", "(LDustVote$Moment;I)Z"⟩
abbrev cX5_tryEmpty : ByteArray := prog_1_method_41_code
def yX5_tryEmpty : MethodName := ⟨RX5, "tryEmpty", "(LDustVote$Moment;I)Z"⟩
abbrev cX5_happen : ByteArray := prog_1_method_42_code
def yX5_happen : MethodName := ⟨RX5, "happen", "(LDustVote$Moment;I)V"⟩
abbrev cX5_ordersWith : ByteArray := prog_1_method_43_code
def yX5_ordersWith : MethodName := ⟨RX5, "ordersWith", "(I)J"⟩
abbrev cX5_isAtRest : ByteArray := prog_1_method_44_code
def yX5_isAtRest : MethodName := ⟨RX5, "isAtRest", "(III)Z"⟩
abbrev cX5_gain : ByteArray := prog_1_method_45_code
def yX5_gain : MethodName := ⟨RX5, "gain", "(II)I"⟩
abbrev cX5_isDeepBehind : ByteArray := prog_1_method_46_code
def yX5_isDeepBehind : MethodName := ⟨RX5, "isDeepBehind", "(III)Z"⟩
abbrev cX5_factorial : ByteArray := prog_1_method_47_code
def yX5_factorial : MethodName := ⟨RX5, "factorial", "(I)J"⟩
abbrev cX5_power : ByteArray := prog_1_method_48_code
def yX5_power : MethodName := ⟨RX5, "power", "(II)J"⟩
abbrev cX5_fraction : ByteArray := prog_1_method_49_code
def yX5_fraction : MethodName := ⟨RX5, "fraction", "(JJZ)I"⟩
abbrev cX5_commonDivisor : ByteArray := prog_1_method_50_code
def yX5_commonDivisor : MethodName := ⟨RX5, "commonDivisor", "(JJ)J"⟩
def RX6 : String := "DustVoteModel"
def TX6 : u_T := fun k => match k with
  | 0 => ("DustVoteModel", "brooms", "I", false)
  | 1 => ("DustVoteModel", "falls", "I", false)
  | 2 => ("DustVoteModel", "strength", "[I", true)
  | 3 => ("DustVoteModel", "kind", "[I", true)
  | 4 => ("DustVoteModel", "fallAt", "[I", true)
  | 5 => ("DustVoteModel", "fallen", "[I", true)
  | 6 => ("DustVoteModel", "now", "[I", true)
  | 7 => ("DustVoteModel", "readDust", "[I", true)
  | 8 => ("DustVoteModel", "readBroom", "[I", true)
  | 9 => ("DustVoteModel", "readFall", "[I", true)
  | 10 => ("DustVoteModel", "readBrooms", "I", false)
  | 11 => ("DustVoteModel", "readFalls", "I", false)
  | 12 => ("DustVoteModel", "text", "[I", true)
  | 13 => ("DustVoteModel", "length", "I", false)
  | 14 => ("DustVoteModel", "at", "I", false)
  | 15 => ("DustVoteModel", "faultAt", "I", false)
  | 16 => ("DustVoteModel", "working", "I", false)
  | 17 => ("DustVoteModel", "acts", "I", false)
  | 18 => ("DustVoteModel", "next", "I", false)
  | 19 => ("DustVoteModel", "row", "[I", true)
  | 20 => ("DustVoteModel", "heaps", "I", false)
  | 21 => ("DustVoteModel", "heapHad", "[I", true)
  | 22 => ("DustVoteModel", "heapLeft", "[I", true)
  | 23 => ("DustVoteModel", "heapWent", "[I", true)
  | 24 => ("DustVoteModel", "seed", "J", false)
  | 25 => ("DustVoteModel", "isKept", "[Z", true)
  | _ => ("DustVoteModel", "kept", "[I", true)
def tyX6 : Nat → FieldType := fun k => match k with
  | 0 => .int
  | 1 => .int
  | 2 => .array .int
  | 3 => .array .int
  | 4 => .array .int
  | 5 => .array .int
  | 6 => .array .int
  | 7 => .array .int
  | 8 => .array .int
  | 9 => .array .int
  | 10 => .int
  | 11 => .int
  | 12 => .array .int
  | 13 => .int
  | 14 => .int
  | 15 => .int
  | 16 => .int
  | 17 => .int
  | 18 => .int
  | 19 => .array .int
  | 20 => .int
  | 21 => .array .int
  | 22 => .array .int
  | 23 => .array .int
  | 24 => .long
  | 25 => .array .boolean
  | _ => .array .int
abbrev wsX60 : List Cond := u_ws RX6 TX6 27
theorem nmX6 : ∀ a, a < 27 → ∀ b, b < 27 → a ≠ b → (TX6 a).2.1 ≠ (TX6 b).2.1 := by decide +kernel
theorem tyX6_ok : ∀ k, k < 27 → parseFieldDescriptor (TX6 k).2.2.1 = some (tyX6 k) := by decide +kernel
abbrev cX6_init : ByteArray := prog_8_method_1_code
def yX6_init : MethodName := ⟨RX6, "<init>", "()V"⟩
abbrev cX6_in : ByteArray := prog_8_method_3_code
def yX6_in : MethodName := ⟨RX6, "in", "(JJJ)Z"⟩
abbrev cX6_has : ByteArray := prog_8_method_4_code
def yX6_has : MethodName := ⟨RX6, "has", "(II)Z"⟩
abbrev cX6_ones : ByteArray := prog_8_method_5_code
def yX6_ones : MethodName := ⟨RX6, "ones", "(I)I"⟩
abbrev cX6_write : ByteArray := prog_8_method_6_code
def yX6_write : MethodName := ⟨RX6, "write", "(I)I"⟩
abbrev cX6_wipe : ByteArray := prog_8_method_7_code
def yX6_wipe : MethodName := ⟨RX6, "wipe", "()I"⟩
abbrev cX6_figureOf : ByteArray := prog_8_method_8_code
def yX6_figureOf : MethodName := ⟨RX6, "figureOf", "(II)I"⟩
abbrev cX6_readText : ByteArray := prog_8_method_9_code
def yX6_readText : MethodName := ⟨RX6, "readText", "()I"⟩
abbrev cX6_readPart : ByteArray := prog_8_method_10_code
def yX6_readPart : MethodName := ⟨RX6, "readPart", "(I)V"⟩
abbrev cX6_fault : ByteArray := prog_8_method_11_code
def yX6_fault : MethodName := ⟨RX6, "fault", "()I"⟩
abbrev cX6_city : ByteArray := prog_8_method_12_code
def yX6_city : MethodName := ⟨RX6, "city", "()I"⟩
abbrev cX6_isBroom : ByteArray := prog_8_method_13_code
def yX6_isBroom : MethodName := ⟨RX6, "isBroom", "(I)Z"⟩
abbrev cX6_isStreet : ByteArray := prog_8_method_14_code
def yX6_isStreet : MethodName := ⟨RX6, "isStreet", "(I)Z"⟩
abbrev cX6_worksAs : ByteArray := prog_8_method_15_code
def yX6_worksAs : MethodName := ⟨RX6, "worksAs", "(II)I"⟩
abbrev cX6_add : ByteArray := prog_8_method_16_code
def yX6_add : MethodName := ⟨RX6, "add", "(III)V"⟩
abbrev cX6_takeOff : ByteArray := prog_8_method_17_code
def yX6_takeOff : MethodName := ⟨RX6, "takeOff", "(III)I"⟩
abbrev cX6_sweep : ByteArray := prog_8_method_18_code
def yX6_sweep : MethodName := ⟨RX6, "sweep", "(II)V"⟩
abbrev cX6_kneesOn : ByteArray := prog_8_method_19_code
def yX6_kneesOn : MethodName := ⟨RX6, "kneesOn", "(I)I"⟩
abbrev cX6_passOn : ByteArray := prog_8_method_20_code
def yX6_passOn : MethodName := ⟨RX6, "passOn", "(II)V"⟩
abbrev cX6_dustOn : ByteArray := prog_8_method_21_code
def yX6_dustOn : MethodName := ⟨RX6, "dustOn", "(I)I"⟩
abbrev cX6_broomsIn : ByteArray := prog_8_method_22_code
def yX6_broomsIn : MethodName := ⟨RX6, "broomsIn", "(I)I"⟩
abbrev cX6_street : ByteArray := prog_8_method_23_code
def yX6_street : MethodName := ⟨RX6, "street", "(II)I"⟩
abbrev cX6_broom : ByteArray := prog_8_method_24_code
def yX6_broom : MethodName := ⟨RX6, "broom", "(II)I"⟩
abbrev cX6_keepAct : ByteArray := prog_8_method_25_code
def yX6_keepAct : MethodName := ⟨RX6, "keepAct", "()V"⟩
abbrev cX6_dawn : ByteArray := prog_8_method_26_code
def yX6_dawn : MethodName := ⟨RX6, "dawn", "()I"⟩
abbrev cX6_walkOn : ByteArray := prog_8_method_27_code
def yX6_walkOn : MethodName := ⟨RX6, "walkOn", "(III)V"⟩
abbrev cX6_walk : ByteArray := prog_8_method_28_code
def yX6_walk : MethodName := ⟨RX6, "walk", "(II)I"⟩
abbrev cX6_vote : ByteArray := prog_8_method_29_code
def yX6_vote : MethodName := ⟨RX6, "vote", "()I"⟩
abbrev cX6_bend : ByteArray := prog_8_method_30_code
def yX6_bend : MethodName := ⟨RX6, "bend", "(I)I"⟩
abbrev cX6_hand : ByteArray := prog_8_method_31_code
def yX6_hand : MethodName := ⟨RX6, "hand", "(I)I"⟩
abbrev cX6_undo : ByteArray := prog_8_method_32_code
def yX6_undo : MethodName := ⟨RX6, "undo", "()I"⟩
abbrev cX6_layTrial : ByteArray := prog_8_method_33_code
def yX6_layTrial : MethodName := ⟨RX6, "layTrial", "()V"⟩
abbrev cX6_goOn : ByteArray := prog_8_method_34_code
def yX6_goOn : MethodName := ⟨RX6, "goOn", "(I)V"⟩
abbrev cX6_dust : ByteArray := prog_8_method_35_code
def yX6_dust : MethodName := ⟨RX6, "dust", "(II)I"⟩
abbrev cX6_knees : ByteArray := prog_8_method_36_code
def yX6_knees : MethodName := ⟨RX6, "knees", "(I)I"⟩
abbrev cX6_leastOf : ByteArray := prog_8_method_37_code
def yX6_leastOf : MethodName := ⟨RX6, "leastOf", "(I)I"⟩
abbrev cX6_knee : ByteArray := prog_8_method_38_code
def yX6_knee : MethodName := ⟨RX6, "knee", "(I)I"⟩
abbrev cX6_best : ByteArray := prog_8_method_39_code
def yX6_best : MethodName := ⟨RX6, "best", "(III)I"⟩
abbrev cX6_keepsBelow : ByteArray := prog_8_method_40_code
def yX6_keepsBelow : MethodName := ⟨RX6, "keepsBelow", "(II)Z"⟩
abbrev cX6_bends : ByteArray := prog_8_method_41_code
def yX6_bends : MethodName := ⟨RX6, "bends", "(I)I"⟩
abbrev cX6_tryThing : ByteArray := prog_8_method_42_code
def yX6_tryThing : MethodName := ⟨RX6, "tryThing", "(III)Z"⟩
abbrev cX6_thousandTo : ByteArray := prog_8_method_43_code
def yX6_thousandTo : MethodName := ⟨RX6, "thousandTo", "(I)J"⟩
abbrev cX6_judge : ByteArray := prog_8_method_44_code
def yX6_judge : MethodName := ⟨RX6, "judge", "(IJ)I"⟩
abbrev cX6_heap : ByteArray := prog_8_method_45_code
def yX6_heap : MethodName := ⟨RX6, "heap", "(III)I"⟩
abbrev cX6_unheap : ByteArray := prog_8_method_46_code
def yX6_unheap : MethodName := ⟨RX6, "unheap", "()I"⟩
abbrev cX6_whose : ByteArray := prog_8_method_47_code
def yX6_whose : MethodName := ⟨RX6, "whose", "(I)I"⟩
abbrev cX6_factorial : ByteArray := prog_8_method_48_code
def yX6_factorial : MethodName := ⟨RX6, "factorial", "(I)I"⟩
abbrev cX6_common : ByteArray := prog_8_method_49_code
def yX6_common : MethodName := ⟨RX6, "common", "(II)I"⟩
abbrev cX6_dustBy : ByteArray := prog_8_method_50_code
def yX6_dustBy : MethodName := ⟨RX6, "dustBy", "(I)I"⟩
abbrev cX6_share : ByteArray := prog_8_method_51_code
def yX6_share : MethodName := ⟨RX6, "share", "(IZ)I"⟩
abbrev cX6_gain : ByteArray := prog_8_method_52_code
def yX6_gain : MethodName := ⟨RX6, "gain", "(IIII)I"⟩
abbrev cX6_isRest : ByteArray := prog_8_method_53_code
def yX6_isRest : MethodName := ⟨RX6, "isRest", "(IIII)Z"⟩
abbrev cX6_rests : ByteArray := prog_8_method_54_code
def yX6_rests : MethodName := ⟨RX6, "rests", "(III)I"⟩
abbrev cX6_twice : ByteArray := prog_8_method_55_code
def yX6_twice : MethodName := ⟨RX6, "twice", "(IIIZ)I"⟩
abbrev cX6_seed : ByteArray := prog_8_method_56_code
def yX6_seed : MethodName := ⟨RX6, "seed", "(J)J"⟩
abbrev cX6_years : ByteArray := prog_8_method_57_code
def yX6_years : MethodName := ⟨RX6, "years", "(I)I"⟩
abbrev cX6_keep : ByteArray := prog_8_method_58_code
def yX6_keep : MethodName := ⟨RX6, "keep", "(I)I"⟩
abbrev cX6_again : ByteArray := prog_8_method_59_code
def yX6_again : MethodName := ⟨RX6, "again", "(I)I"⟩
abbrev cX6_count : ByteArray := prog_8_method_60_code
def yX6_count : MethodName := ⟨RX6, "count", "(I)I"⟩
def RJ6 : String := "java/lang/Integer"
def TJ6 : u_T := fun k => match k with
  | _ => ("", "", "", false)
def tyJ6 : Nat → FieldType := fun k => match k with
  | _ => .int
abbrev wsJ60 : List Cond := u_ws RJ6 TJ6 0
theorem nmJ6 : ∀ a, a < 0 → ∀ b, b < 0 → a ≠ b → (TJ6 a).2.1 ≠ (TJ6 b).2.1 := by decide +kernel
theorem tyJ6_ok : ∀ k, k < 0 → parseFieldDescriptor (TJ6 k).2.2.1 = some (tyJ6 k) := by decide +kernel
abbrev cJ6_bitCount_0f7a4 : ByteArray := prog_9_method_49_code
def yJ6_bitCount_0f7a4 : MethodName := ⟨RJ6, "bitCount", "(I)I"⟩
def RJ9 : String := "java/lang/Math"
def TJ9 : u_T := fun k => match k with
  | _ => ("", "", "", false)
def tyJ9 : Nat → FieldType := fun k => match k with
  | _ => .int
abbrev wsJ90 : List Cond := u_ws RJ9 TJ9 0
theorem nmJ9 : ∀ a, a < 0 → ∀ b, b < 0 → a ≠ b → (TJ9 a).2.1 ≠ (TJ9 b).2.1 := by decide +kernel
theorem tyJ9_ok : ∀ k, k < 0 → parseFieldDescriptor (TJ9 k).2.2.1 = some (tyJ9 k) := by decide +kernel
abbrev cJ9_abs_067f4 : ByteArray := prog_10_method_61_code
def yJ9_abs_067f4 : MethodName := ⟨RJ9, "abs", "(J)J"⟩
abbrev cJ9_max_f86c9 : ByteArray := prog_10_method_66_code
def yJ9_max_f86c9 : MethodName := ⟨RJ9, "max", "(JJ)J"⟩
abbrev cJ9_min_7cf53 : ByteArray := prog_10_method_69_code
def yJ9_min_7cf53 : MethodName := ⟨RJ9, "min", "(II)I"⟩
def RJ10 : String := "java/lang/System"
def TJ10 : u_T := fun k => match k with
  | _ => ("", "", "", false)
def tyJ10 : Nat → FieldType := fun k => match k with
  | _ => .int
abbrev wsJ100 : List Cond := u_ws RJ10 TJ10 0
theorem nmJ10 : ∀ a, a < 0 → ∀ b, b < 0 → a ≠ b → (TJ10 a).2.1 ≠ (TJ10 b).2.1 := by decide +kernel
theorem tyJ10_ok : ∀ k, k < 0 → parseFieldDescriptor (TJ10 k).2.2.1 = some (tyJ10 k) := by decide +kernel
def RL : String := "DustVoteLaw"
abbrev cL_law : ByteArray := code
def yL_law : MethodName := ⟨RL, "law", "([I)Z"⟩
def wsX0_init : List Cond := .code yX0_init cX0_init 1 none :: ([.methodLink RX0 3 objectInit, .instanceMethod objectInit, .code objectInit ⟨#[0xb1]⟩ 1 none, .arrayClass .int, .fieldLink RX0 9 "DustVote$ActRow" "cells" "[I", .fieldLink RX0 15 "DustVote$ActRow" "first" "I", .fieldLink RX0 19 "DustVote$ActRow" "size" "I"] ++ wsX00)
def wsX0_clear : List Cond := .code yX0_clear cX0_clear 1 none :: ([.fieldLink RX0 15 "DustVote$ActRow" "first" "I", .fieldLink RX0 19 "DustVote$ActRow" "size" "I"] ++ wsX00)
def wsX0_spotOf : List Cond := .code yX0_spotOf cX0_spotOf 1 (some .int) :: ([])
def wsX2_save : List Cond := .code yX2_save cX2_save 4 none :: ([.fieldLink RX2 9 "DustVote$Moment" "dust" "[I", .methodLink RX2 42 arraycopyName, .native arraycopyName, .static arraycopyName, .initialized "java/lang/System", .fieldLink RX2 15 "DustVote$Moment" "place" "[I", .fieldLink RX2 22 "DustVote$Moment" "given" "Z", .fieldLink RX2 26 "DustVote$Moment" "bent" "I", .fieldLink RX2 30 "DustVote$Moment" "dawns" "I"] ++ wsX20)
def wsX0_push : List Cond := .code yX0_push cX0_push 2 none :: ([.fieldLink RX0 9 "DustVote$ActRow" "cells" "[I", .fieldLink RX0 15 "DustVote$ActRow" "first" "I", .fieldLink RX0 19 "DustVote$ActRow" "size" "I", .methodLink RX0 22 yX0_spotOf, .static yX0_spotOf, .initialized RX0, .code yX0_spotOf cX0_spotOf 1 (some .int), .methodLink RX0 26 yX2_save, .instanceMethod yX2_save, .selects RX2 yX2_save yX2_save, .initialized RX2, .code yX2_save cX2_save 4 none, .fieldLink RX2 9 "DustVote$Moment" "dust" "[I", .methodLink RX2 42 arraycopyName, .native arraycopyName, .static arraycopyName, .initialized "java/lang/System", .fieldLink RX2 15 "DustVote$Moment" "place" "[I", .fieldLink RX2 22 "DustVote$Moment" "given" "Z", .fieldLink RX2 26 "DustVote$Moment" "bent" "I", .fieldLink RX2 30 "DustVote$Moment" "dawns" "I"] ++ wsX00 ++ wsX20)
def wsX2_load : List Cond := .code yX2_load cX2_load 4 none :: ([.fieldLink RX2 9 "DustVote$Moment" "dust" "[I", .methodLink RX2 42 arraycopyName, .native arraycopyName, .static arraycopyName, .initialized "java/lang/System", .fieldLink RX2 15 "DustVote$Moment" "place" "[I", .fieldLink RX2 22 "DustVote$Moment" "given" "Z", .fieldLink RX2 26 "DustVote$Moment" "bent" "I", .fieldLink RX2 30 "DustVote$Moment" "dawns" "I"] ++ wsX20)
def wsX0_pop : List Cond := .code yX0_pop cX0_pop 2 none :: ([.fieldLink RX0 19 "DustVote$ActRow" "size" "I", .fieldLink RX0 9 "DustVote$ActRow" "cells" "[I", .fieldLink RX0 15 "DustVote$ActRow" "first" "I", .methodLink RX0 22 yX0_spotOf, .static yX0_spotOf, .initialized RX0, .code yX0_spotOf cX0_spotOf 1 (some .int), .methodLink RX0 32 yX2_load, .instanceMethod yX2_load, .selects RX2 yX2_load yX2_load, .initialized RX2, .code yX2_load cX2_load 4 none, .fieldLink RX2 9 "DustVote$Moment" "dust" "[I", .methodLink RX2 42 arraycopyName, .native arraycopyName, .static arraycopyName, .initialized "java/lang/System", .fieldLink RX2 15 "DustVote$Moment" "place" "[I", .fieldLink RX2 22 "DustVote$Moment" "given" "Z", .fieldLink RX2 26 "DustVote$Moment" "bent" "I", .fieldLink RX2 30 "DustVote$Moment" "dawns" "I"] ++ wsX00 ++ wsX20)
def wsX1_init : List Cond := .code yX1_init cX1_init 1 none :: ([.methodLink RX1 3 objectInit, .instanceMethod objectInit, .code objectInit ⟨#[0xb1]⟩ 1 none, .arrayClass .int, .fieldLink RX1 9 "DustVote$Heaps" "before" "[I", .fieldLink RX1 15 "DustVote$Heaps" "left" "[I", .fieldLink RX1 18 "DustVote$Heaps" "gone" "[I", .fieldLink RX1 21 "DustVote$Heaps" "size" "I"] ++ wsX10)
def wsX1_add : List Cond := .code yX1_add cX1_add 4 none :: ([.fieldLink RX1 21 "DustVote$Heaps" "size" "I", .fieldLink RX1 9 "DustVote$Heaps" "before" "[I", .fieldLink RX1 15 "DustVote$Heaps" "left" "[I", .fieldLink RX1 18 "DustVote$Heaps" "gone" "[I"] ++ wsX10)
def wsX1_fit : List Cond := .code yX1_fit cX1_fit 6 (some .boolean) :: ([.fieldLink RX1 21 "DustVote$Heaps" "size" "I", .fieldLink RX1 9 "DustVote$Heaps" "before" "[I", .methodLink RX1 25 Lib.Math.min.name, .static Lib.Math.min.name, .initialized "java/lang/Math", .code Lib.Math.min.name Lib.Math.min.code 2 (some .int), .fieldLink RX1 15 "DustVote$Heaps" "left" "[I", .fieldLink RX1 18 "DustVote$Heaps" "gone" "[I"] ++ wsX10)
def wsX2_init : List Cond := .code yX2_init cX2_init 2 none :: ([.methodLink RX2 3 objectInit, .instanceMethod objectInit, .code objectInit ⟨#[0xb1]⟩ 1 none, .arrayClass .int, .fieldLink RX2 9 "DustVote$Moment" "dust" "[I", .fieldLink RX2 15 "DustVote$Moment" "place" "[I", .arrayClass .boolean, .fieldLink RX2 18 "DustVote$Moment" "deep" "[Z", .fieldLink RX2 22 "DustVote$Moment" "given" "Z", .fieldLink RX2 26 "DustVote$Moment" "bent" "I", .fieldLink RX2 30 "DustVote$Moment" "dawns" "I", .fieldLink RX2 33 "DustVote$Moment" "told" "LDustVote$Told;"] ++ wsX20)
def wsX2_begin : List Cond := .code yX2_begin cX2_begin 1 none :: ([.fieldLink RX2 33 "DustVote$Moment" "told" "LDustVote$Told;", .fieldLink RX2 9 "DustVote$Moment" "dust" "[I", .methodLink RX2 42 arraycopyName, .native arraycopyName, .static arraycopyName, .initialized "java/lang/System", .fieldLink RX2 15 "DustVote$Moment" "place" "[I", .fieldLink RX2 22 "DustVote$Moment" "given" "Z", .fieldLink RX2 26 "DustVote$Moment" "bent" "I", .fieldLink RX2 30 "DustVote$Moment" "dawns" "I"] ++ wsX20 ++ wsX40)
def wsX2_copy : List Cond := .code yX2_copy cX2_copy 2 none :: ([.fieldLink RX2 9 "DustVote$Moment" "dust" "[I", .methodLink RX2 42 arraycopyName, .native arraycopyName, .static arraycopyName, .initialized "java/lang/System", .fieldLink RX2 15 "DustVote$Moment" "place" "[I", .fieldLink RX2 22 "DustVote$Moment" "given" "Z", .fieldLink RX2 26 "DustVote$Moment" "bent" "I", .fieldLink RX2 30 "DustVote$Moment" "dawns" "I"] ++ wsX20)
def wsX5_isStreet : List Cond := .code yX5_isStreet cX5_isStreet 1 (some .boolean) :: ([])
def wsX2_dustIn : List Cond := .code yX2_dustIn cX2_dustIn 2 (some .int) :: ([.fieldLink RX2 9 "DustVote$Moment" "dust" "[I", .static yX5_isStreet, .initialized RX5, .code yX5_isStreet cX5_isStreet 1 (some .boolean)] ++ wsX20)
def wsX4_hasBroom : List Cond := .code yX4_hasBroom cX4_hasBroom 2 (some .boolean) :: ([.fieldLink RX4 30 "DustVote$Told" "brooms" "I"] ++ wsX40)
def wsX2_placeOf : List Cond := .code yX2_placeOf cX2_placeOf 2 (some .int) :: ([.fieldLink RX2 33 "DustVote$Moment" "told" "LDustVote$Told;", .fieldLink RX2 15 "DustVote$Moment" "place" "[I", .methodLink RX2 55 yX4_hasBroom, .instanceMethod yX4_hasBroom, .selects RX4 yX4_hasBroom yX4_hasBroom, .initialized RX4, .code yX4_hasBroom cX4_hasBroom 2 (some .boolean), .fieldLink RX4 30 "DustVote$Told" "brooms" "I"] ++ wsX20 ++ wsX40)
def wsX2_allDust : List Cond := .code yX2_allDust cX2_allDust 3 (some .int) :: ([.fieldLink RX2 9 "DustVote$Moment" "dust" "[I"] ++ wsX20)
def wsX2_isDeep : List Cond := .code yX2_isDeep cX2_isDeep 2 (some .boolean) :: ([.methodLink RX2 58 yX2_dustIn, .instanceMethod yX2_dustIn, .selects RX2 yX2_dustIn yX2_dustIn, .initialized RX2, .code yX2_dustIn cX2_dustIn 2 (some .int), .fieldLink RX2 9 "DustVote$Moment" "dust" "[I", .static yX5_isStreet, .initialized RX5, .code yX5_isStreet cX5_isStreet 1 (some .boolean)] ++ wsX20)
def wsX2_deepStreets : List Cond := .code yX2_deepStreets cX2_deepStreets 3 (some .int) :: ([.methodLink RX2 62 yX2_isDeep, .instanceMethod yX2_isDeep, .selects RX2 yX2_isDeep yX2_isDeep, .initialized RX2, .code yX2_isDeep cX2_isDeep 2 (some .boolean), .methodLink RX2 58 yX2_dustIn, .instanceMethod yX2_dustIn, .selects RX2 yX2_dustIn yX2_dustIn, .code yX2_dustIn cX2_dustIn 2 (some .int), .fieldLink RX2 9 "DustVote$Moment" "dust" "[I", .static yX5_isStreet, .initialized RX5, .code yX5_isStreet cX5_isStreet 1 (some .boolean)] ++ wsX20)
def wsX2_firstDeep : List Cond := .code yX2_firstDeep cX2_firstDeep 2 (some .int) :: ([.methodLink RX2 62 yX2_isDeep, .instanceMethod yX2_isDeep, .selects RX2 yX2_isDeep yX2_isDeep, .initialized RX2, .code yX2_isDeep cX2_isDeep 2 (some .boolean), .methodLink RX2 58 yX2_dustIn, .instanceMethod yX2_dustIn, .selects RX2 yX2_dustIn yX2_dustIn, .code yX2_dustIn cX2_dustIn 2 (some .int), .fieldLink RX2 9 "DustVote$Moment" "dust" "[I", .static yX5_isStreet, .initialized RX5, .code yX5_isStreet cX5_isStreet 1 (some .boolean)] ++ wsX20)
def wsX2_broomsIn : List Cond := .code yX2_broomsIn cX2_broomsIn 4 (some .int) :: ([.fieldLink RX2 33 "DustVote$Moment" "told" "LDustVote$Told;", .methodLink RX2 68 yX2_placeOf, .instanceMethod yX2_placeOf, .selects RX2 yX2_placeOf yX2_placeOf, .initialized RX2, .code yX2_placeOf cX2_placeOf 2 (some .int), .fieldLink RX2 15 "DustVote$Moment" "place" "[I", .methodLink RX2 55 yX4_hasBroom, .instanceMethod yX4_hasBroom, .selects RX4 yX4_hasBroom yX4_hasBroom, .initialized RX4, .code yX4_hasBroom cX4_hasBroom 2 (some .boolean), .fieldLink RX4 30 "DustVote$Told" "brooms" "I"] ++ wsX20 ++ wsX40)
def wsX2_isBent : List Cond := .code yX2_isBent cX2_isBent 2 (some .boolean) :: ([.fieldLink RX2 26 "DustVote$Moment" "bent" "I"] ++ wsX20)
def wsX4_kindOf : List Cond := .code yX4_kindOf cX4_kindOf 2 (some .int) :: ([.fieldLink RX4 21 "DustVote$Told" "kind" "[I"] ++ wsX40)
def wsX2_worksAs : List Cond := .code yX2_worksAs cX2_worksAs 3 (some .int) :: ([.fieldLink RX2 33 "DustVote$Moment" "told" "LDustVote$Told;", .fieldLink RX2 22 "DustVote$Moment" "given" "Z", .methodLink RX2 71 yX4_kindOf, .instanceMethod yX4_kindOf, .selects RX4 yX4_kindOf yX4_kindOf, .initialized RX4, .code yX4_kindOf cX4_kindOf 2 (some .int), .fieldLink RX4 21 "DustVote$Told" "kind" "[I", .methodLink RX2 74 yX2_isBent, .instanceMethod yX2_isBent, .selects RX2 yX2_isBent yX2_isBent, .initialized RX2, .code yX2_isBent cX2_isBent 2 (some .boolean), .fieldLink RX2 26 "DustVote$Moment" "bent" "I"] ++ wsX20 ++ wsX40)
def wsX2_goTo : List Cond := .code yX2_goTo cX2_goTo 3 none :: ([.fieldLink RX2 33 "DustVote$Moment" "told" "LDustVote$Told;", .fieldLink RX2 15 "DustVote$Moment" "place" "[I", .methodLink RX2 55 yX4_hasBroom, .instanceMethod yX4_hasBroom, .selects RX4 yX4_hasBroom yX4_hasBroom, .initialized RX4, .code yX4_hasBroom cX4_hasBroom 2 (some .boolean), .fieldLink RX4 30 "DustVote$Told" "brooms" "I"] ++ wsX20 ++ wsX40)
def wsX2_leftOf : List Cond := .code yX2_leftOf cX2_leftOf 1 (some .int) :: ([])
def wsX2_rightOf : List Cond := .code yX2_rightOf cX2_rightOf 1 (some .int) :: ([])
def wsX2_step : List Cond := .code yX2_step cX2_step 4 none :: ([.methodLink RX2 68 yX2_placeOf, .instanceMethod yX2_placeOf, .selects RX2 yX2_placeOf yX2_placeOf, .initialized RX2, .code yX2_placeOf cX2_placeOf 2 (some .int), .fieldLink RX2 33 "DustVote$Moment" "told" "LDustVote$Told;", .fieldLink RX2 15 "DustVote$Moment" "place" "[I", .methodLink RX2 55 yX4_hasBroom, .instanceMethod yX4_hasBroom, .selects RX4 yX4_hasBroom yX4_hasBroom, .initialized RX4, .code yX4_hasBroom cX4_hasBroom 2 (some .boolean), .fieldLink RX4 30 "DustVote$Told" "brooms" "I", .methodLink RX2 77 yX2_leftOf, .static yX2_leftOf, .code yX2_leftOf cX2_leftOf 1 (some .int), .methodLink RX2 80 yX2_rightOf, .static yX2_rightOf, .code yX2_rightOf cX2_rightOf 1 (some .int), .methodLink RX2 83 yX2_goTo, .instanceMethod yX2_goTo, .selects RX2 yX2_goTo yX2_goTo, .code yX2_goTo cX2_goTo 3 none] ++ wsX20 ++ wsX40)
def wsX2_turnVote : List Cond := .code yX2_turnVote cX2_turnVote 1 none :: ([.fieldLink RX2 22 "DustVote$Moment" "given" "Z"] ++ wsX20)
def wsX2_bow : List Cond := .code yX2_bow cX2_bow 2 none :: ([.fieldLink RX2 26 "DustVote$Moment" "bent" "I"] ++ wsX20)
def wsX2_empty : List Cond := .code yX2_empty cX2_empty 2 none :: ([.fieldLink RX2 9 "DustVote$Moment" "dust" "[I", .static yX5_isStreet, .initialized RX5, .code yX5_isStreet cX5_isStreet 1 (some .boolean)] ++ wsX20)
def wsX2_pour : List Cond := .code yX2_pour cX2_pour 3 none :: ([.fieldLink RX2 9 "DustVote$Moment" "dust" "[I", .methodLink RX2 119 Lib.Math.min.name, .static Lib.Math.min.name, .initialized "java/lang/Math", .code Lib.Math.min.name Lib.Math.min.code 2 (some .int), .static yX5_isStreet, .initialized RX5, .code yX5_isStreet cX5_isStreet 1 (some .boolean)] ++ wsX20)
def wsX2_comeDown : List Cond := .code yX2_comeDown cX2_comeDown 4 none :: ([.fieldLink RX2 33 "DustVote$Moment" "told" "LDustVote$Told;", .fieldLink RX2 30 "DustVote$Moment" "dawns" "I", .methodLink RX2 106 yX2_pour, .instanceMethod yX2_pour, .selects RX2 yX2_pour yX2_pour, .initialized RX2, .code yX2_pour cX2_pour 3 none, .fieldLink RX2 9 "DustVote$Moment" "dust" "[I", .methodLink RX2 119 Lib.Math.min.name, .static Lib.Math.min.name, .initialized "java/lang/Math", .code Lib.Math.min.name Lib.Math.min.code 2 (some .int), .static yX5_isStreet, .initialized RX5, .code yX5_isStreet cX5_isStreet 1 (some .boolean)] ++ wsX20 ++ wsX40)
def wsX4_strengthOf : List Cond := .code yX4_strengthOf cX4_strengthOf 2 (some .int) :: ([.fieldLink RX4 18 "DustVote$Told" "strength" "[I"] ++ wsX40)
def wsX2_sweep : List Cond := .code yX2_sweep cX2_sweep 4 (some .int) :: ([.fieldLink RX2 9 "DustVote$Moment" "dust" "[I", .methodLink RX2 119 Lib.Math.min.name, .static Lib.Math.min.name, .initialized "java/lang/Math", .code Lib.Math.min.name Lib.Math.min.code 2 (some .int), .static yX5_isStreet, .initialized RX5, .code yX5_isStreet cX5_isStreet 1 (some .boolean)] ++ wsX20)
def wsX2_work_r1 : List Cond := [Cond.fieldLink RX2 33 "DustVote$Moment" "told" "LDustVote$Told;", Cond.methodLink RX2 68 yX2_placeOf, Cond.instanceMethod yX2_placeOf, Cond.selects RX2 yX2_placeOf yX2_placeOf, Cond.initialized RX2, Cond.code yX2_placeOf cX2_placeOf 2 (some .int), Cond.fieldLink RX2 15 "DustVote$Moment" "place" "[I", Cond.methodLink RX2 55 yX4_hasBroom, Cond.instanceMethod yX4_hasBroom, Cond.selects RX4 yX4_hasBroom yX4_hasBroom, Cond.initialized RX4, Cond.code yX4_hasBroom cX4_hasBroom 2 (some .boolean), Cond.fieldLink RX4 30 "DustVote$Told" "brooms" "I", Cond.methodLink RX2 109 yX4_strengthOf, Cond.instanceMethod yX4_strengthOf, Cond.selects RX4 yX4_strengthOf yX4_strengthOf, Cond.code yX4_strengthOf cX4_strengthOf 2 (some .int), Cond.fieldLink RX4 18 "DustVote$Told" "strength" "[I", Cond.methodLink RX2 112 yX2_worksAs, Cond.instanceMethod yX2_worksAs, Cond.selects RX2 yX2_worksAs yX2_worksAs, Cond.code yX2_worksAs cX2_worksAs 3 (some .int), Cond.fieldLink RX2 22 "DustVote$Moment" "given" "Z", Cond.methodLink RX2 71 yX4_kindOf]
def wsX2_work_r2 : List Cond := [Cond.instanceMethod yX4_kindOf, Cond.selects RX4 yX4_kindOf yX4_kindOf, Cond.code yX4_kindOf cX4_kindOf 2 (some .int), Cond.fieldLink RX4 21 "DustVote$Told" "kind" "[I", Cond.methodLink RX2 74 yX2_isBent, Cond.instanceMethod yX2_isBent, Cond.selects RX2 yX2_isBent yX2_isBent, Cond.code yX2_isBent cX2_isBent 2 (some .boolean), Cond.fieldLink RX2 26 "DustVote$Moment" "bent" "I", Cond.methodLink RX2 115 yX2_sweep, Cond.instanceMethod yX2_sweep, Cond.selects RX2 yX2_sweep yX2_sweep, Cond.code yX2_sweep cX2_sweep 4 (some .int), Cond.fieldLink RX2 9 "DustVote$Moment" "dust" "[I", Cond.methodLink RX2 119 Lib.Math.min.name, Cond.static Lib.Math.min.name, Cond.initialized "java/lang/Math", Cond.code Lib.Math.min.name Lib.Math.min.code 2 (some .int), Cond.static yX5_isStreet, Cond.initialized RX5, Cond.code yX5_isStreet cX5_isStreet 1 (some .boolean), Cond.methodLink RX2 80 yX2_rightOf, Cond.static yX2_rightOf, Cond.code yX2_rightOf cX2_rightOf 1 (some .int)]
def wsX2_work_r3 : List Cond := [Cond.methodLink RX2 106 yX2_pour, Cond.instanceMethod yX2_pour, Cond.selects RX2 yX2_pour yX2_pour, Cond.code yX2_pour cX2_pour 3 none, Cond.methodLink RX2 77 yX2_leftOf, Cond.static yX2_leftOf, Cond.code yX2_leftOf cX2_leftOf 1 (some .int)]
def wsX2_work : List Cond := .code yX2_work cX2_work 4 none :: ((wsX2_work_r1 ++ (wsX2_work_r2 ++ wsX2_work_r3)) ++ wsX20 ++ wsX40)
def wsX2_spread : List Cond := .code yX2_spread cX2_spread 2 none :: ([.fieldLink RX2 18 "DustVote$Moment" "deep" "[Z", .fieldLink RX2 9 "DustVote$Moment" "dust" "[I", .methodLink RX2 77 yX2_leftOf, .static yX2_leftOf, .initialized RX2, .code yX2_leftOf cX2_leftOf 1 (some .int), .methodLink RX2 80 yX2_rightOf, .static yX2_rightOf, .code yX2_rightOf cX2_rightOf 1 (some .int)] ++ wsX20)
def wsX2_passDawn_r1 : List Cond := [Cond.fieldLink RX2 33 "DustVote$Moment" "told" "LDustVote$Told;", Cond.fieldLink RX2 30 "DustVote$Moment" "dawns" "I", Cond.methodLink RX2 87 yX2_comeDown, Cond.instanceMethod yX2_comeDown, Cond.selects RX2 yX2_comeDown yX2_comeDown, Cond.initialized RX2, Cond.code yX2_comeDown cX2_comeDown 4 none, Cond.methodLink RX2 106 yX2_pour, Cond.instanceMethod yX2_pour, Cond.selects RX2 yX2_pour yX2_pour, Cond.code yX2_pour cX2_pour 3 none, Cond.fieldLink RX2 9 "DustVote$Moment" "dust" "[I", Cond.methodLink RX2 119 Lib.Math.min.name, Cond.static Lib.Math.min.name, Cond.initialized "java/lang/Math", Cond.code Lib.Math.min.name Lib.Math.min.code 2 (some .int), Cond.static yX5_isStreet, Cond.initialized RX5, Cond.code yX5_isStreet cX5_isStreet 1 (some .boolean), Cond.methodLink RX2 91 yX2_work, Cond.instanceMethod yX2_work, Cond.selects RX2 yX2_work yX2_work, Cond.code yX2_work cX2_work 4 none, Cond.methodLink RX2 68 yX2_placeOf]
def wsX2_passDawn_r2 : List Cond := [Cond.instanceMethod yX2_placeOf, Cond.selects RX2 yX2_placeOf yX2_placeOf, Cond.code yX2_placeOf cX2_placeOf 2 (some .int), Cond.fieldLink RX2 15 "DustVote$Moment" "place" "[I", Cond.methodLink RX2 55 yX4_hasBroom, Cond.instanceMethod yX4_hasBroom, Cond.selects RX4 yX4_hasBroom yX4_hasBroom, Cond.initialized RX4, Cond.code yX4_hasBroom cX4_hasBroom 2 (some .boolean), Cond.fieldLink RX4 30 "DustVote$Told" "brooms" "I", Cond.methodLink RX2 109 yX4_strengthOf, Cond.instanceMethod yX4_strengthOf, Cond.selects RX4 yX4_strengthOf yX4_strengthOf, Cond.code yX4_strengthOf cX4_strengthOf 2 (some .int), Cond.fieldLink RX4 18 "DustVote$Told" "strength" "[I", Cond.methodLink RX2 112 yX2_worksAs, Cond.instanceMethod yX2_worksAs, Cond.selects RX2 yX2_worksAs yX2_worksAs, Cond.code yX2_worksAs cX2_worksAs 3 (some .int), Cond.fieldLink RX2 22 "DustVote$Moment" "given" "Z", Cond.methodLink RX2 71 yX4_kindOf, Cond.instanceMethod yX4_kindOf, Cond.selects RX4 yX4_kindOf yX4_kindOf, Cond.code yX4_kindOf cX4_kindOf 2 (some .int)]
def wsX2_passDawn_r3 : List Cond := [Cond.fieldLink RX4 21 "DustVote$Told" "kind" "[I", Cond.methodLink RX2 74 yX2_isBent, Cond.instanceMethod yX2_isBent, Cond.selects RX2 yX2_isBent yX2_isBent, Cond.code yX2_isBent cX2_isBent 2 (some .boolean), Cond.fieldLink RX2 26 "DustVote$Moment" "bent" "I", Cond.methodLink RX2 115 yX2_sweep, Cond.instanceMethod yX2_sweep, Cond.selects RX2 yX2_sweep yX2_sweep, Cond.code yX2_sweep cX2_sweep 4 (some .int), Cond.methodLink RX2 80 yX2_rightOf, Cond.static yX2_rightOf, Cond.code yX2_rightOf cX2_rightOf 1 (some .int), Cond.methodLink RX2 77 yX2_leftOf, Cond.static yX2_leftOf, Cond.code yX2_leftOf cX2_leftOf 1 (some .int), Cond.methodLink RX2 94 yX2_spread, Cond.instanceMethod yX2_spread, Cond.selects RX2 yX2_spread yX2_spread, Cond.code yX2_spread cX2_spread 2 none, Cond.fieldLink RX2 18 "DustVote$Moment" "deep" "[Z"]
def wsX2_passDawn : List Cond := .code yX2_passDawn cX2_passDawn 4 none :: ((wsX2_passDawn_r1 ++ (wsX2_passDawn_r2 ++ wsX2_passDawn_r3)) ++ wsX20 ++ wsX40)
def wsX3_init : List Cond := .code yX3_init cX3_init 1 none :: ([.methodLink RX3 3 objectInit, .instanceMethod objectInit, .code objectInit ⟨#[0xb1]⟩ 1 none, .arrayClass .int, .fieldLink RX3 9 "DustVote$Script" "letters" "[I", .fieldLink RX3 15 "DustVote$Script" "length" "I"] ++ wsX30)
def wsX3_add : List Cond := .code yX3_add cX3_add 2 none :: ([.fieldLink RX3 15 "DustVote$Script" "length" "I", .fieldLink RX3 9 "DustVote$Script" "letters" "[I"] ++ wsX30)
def wsX3_letterAt : List Cond := .code yX3_letterAt cX3_letterAt 2 (some .int) :: ([.fieldLink RX3 15 "DustVote$Script" "length" "I", .fieldLink RX3 9 "DustVote$Script" "letters" "[I"] ++ wsX30)
def wsX3_figureAt : List Cond := .code yX3_figureAt cX3_figureAt 2 (some .int) :: ([.methodLink RX3 19 yX3_letterAt, .instanceMethod yX3_letterAt, .selects RX3 yX3_letterAt yX3_letterAt, .initialized RX3, .code yX3_letterAt cX3_letterAt 2 (some .int), .fieldLink RX3 15 "DustVote$Script" "length" "I", .fieldLink RX3 9 "DustVote$Script" "letters" "[I"] ++ wsX30)
def wsX5_within : List Cond := .code yX5_within cX5_within 3 (some .boolean) :: ([])
def wsX3_faultOfBroom : List Cond := .code yX3_faultOfBroom cX3_faultOfBroom 2 (some .int) :: ([.methodLink RX3 23 yX3_figureAt, .instanceMethod yX3_figureAt, .selects RX3 yX3_figureAt yX3_figureAt, .initialized RX3, .code yX3_figureAt cX3_figureAt 2 (some .int), .methodLink RX3 19 yX3_letterAt, .instanceMethod yX3_letterAt, .selects RX3 yX3_letterAt yX3_letterAt, .code yX3_letterAt cX3_letterAt 2 (some .int), .fieldLink RX3 15 "DustVote$Script" "length" "I", .fieldLink RX3 9 "DustVote$Script" "letters" "[I", .static yX5_isStreet, .initialized RX5, .code yX5_isStreet cX5_isStreet 1 (some .boolean), .static yX5_within, .code yX5_within cX5_within 3 (some .boolean)] ++ wsX30)
def wsX3_faultOfFall : List Cond := .code yX3_faultOfFall cX3_faultOfFall 2 (some .int) :: ([.methodLink RX3 23 yX3_figureAt, .instanceMethod yX3_figureAt, .selects RX3 yX3_figureAt yX3_figureAt, .initialized RX3, .code yX3_figureAt cX3_figureAt 2 (some .int), .methodLink RX3 19 yX3_letterAt, .instanceMethod yX3_letterAt, .selects RX3 yX3_letterAt yX3_letterAt, .code yX3_letterAt cX3_letterAt 2 (some .int), .fieldLink RX3 15 "DustVote$Script" "length" "I", .fieldLink RX3 9 "DustVote$Script" "letters" "[I", .static yX5_isStreet, .initialized RX5, .code yX5_isStreet cX5_isStreet 1 (some .boolean), .static yX5_within, .code yX5_within cX5_within 3 (some .boolean)] ++ wsX30)
def wsX3_firstFaultOfParts : List Cond := .code yX3_firstFaultOfParts cX3_firstFaultOfParts 8 (some .int) :: ([.fieldLink RX3 15 "DustVote$Script" "length" "I", .methodLink RX3 19 yX3_letterAt, .instanceMethod yX3_letterAt, .selects RX3 yX3_letterAt yX3_letterAt, .initialized RX3, .code yX3_letterAt cX3_letterAt 2 (some .int), .fieldLink RX3 9 "DustVote$Script" "letters" "[I", .methodLink RX3 34 yX3_faultOfBroom, .instanceMethod yX3_faultOfBroom, .selects RX3 yX3_faultOfBroom yX3_faultOfBroom, .code yX3_faultOfBroom cX3_faultOfBroom 2 (some .int), .methodLink RX3 23 yX3_figureAt, .instanceMethod yX3_figureAt, .selects RX3 yX3_figureAt yX3_figureAt, .code yX3_figureAt cX3_figureAt 2 (some .int), .static yX5_isStreet, .initialized RX5, .code yX5_isStreet cX5_isStreet 1 (some .boolean), .static yX5_within, .code yX5_within cX5_within 3 (some .boolean), .methodLink RX3 37 yX3_faultOfFall, .instanceMethod yX3_faultOfFall, .selects RX3 yX3_faultOfFall yX3_faultOfFall, .code yX3_faultOfFall cX3_faultOfFall 2 (some .int)] ++ wsX30)
def wsX3_firstFault_r1 : List Cond := [Cond.methodLink RX3 19 yX3_letterAt, Cond.instanceMethod yX3_letterAt, Cond.selects RX3 yX3_letterAt yX3_letterAt, Cond.initialized RX3, Cond.code yX3_letterAt cX3_letterAt 2 (some .int), Cond.fieldLink RX3 15 "DustVote$Script" "length" "I", Cond.fieldLink RX3 9 "DustVote$Script" "letters" "[I", Cond.methodLink RX3 23 yX3_figureAt, Cond.instanceMethod yX3_figureAt, Cond.selects RX3 yX3_figureAt yX3_figureAt, Cond.code yX3_figureAt cX3_figureAt 2 (some .int), Cond.static yX5_within, Cond.initialized RX5, Cond.code yX5_within cX5_within 3 (some .boolean), Cond.methodLink RX3 30 yX3_firstFaultOfParts, Cond.instanceMethod yX3_firstFaultOfParts, Cond.selects RX3 yX3_firstFaultOfParts yX3_firstFaultOfParts, Cond.code yX3_firstFaultOfParts cX3_firstFaultOfParts 8 (some .int), Cond.methodLink RX3 34 yX3_faultOfBroom, Cond.instanceMethod yX3_faultOfBroom, Cond.selects RX3 yX3_faultOfBroom yX3_faultOfBroom, Cond.code yX3_faultOfBroom cX3_faultOfBroom 2 (some .int), Cond.static yX5_isStreet, Cond.code yX5_isStreet cX5_isStreet 1 (some .boolean)]
def wsX3_firstFault_r2 : List Cond := [Cond.methodLink RX3 37 yX3_faultOfFall, Cond.instanceMethod yX3_faultOfFall, Cond.selects RX3 yX3_faultOfFall yX3_faultOfFall, Cond.code yX3_faultOfFall cX3_faultOfFall 2 (some .int)]
def wsX3_firstFault : List Cond := .code yX3_firstFault cX3_firstFault 2 (some .int) :: ((wsX3_firstFault_r1 ++ wsX3_firstFault_r2) ++ wsX30)
def wsX4_init : List Cond := .code yX4_init cX4_init 1 none :: ([.methodLink RX4 3 objectInit, .instanceMethod objectInit, .code objectInit ⟨#[0xb1]⟩ 1 none, .arrayClass .int, .fieldLink RX4 9 "DustVote$Told" "firstDust" "[I", .fieldLink RX4 15 "DustVote$Told" "firstPlace" "[I", .fieldLink RX4 18 "DustVote$Told" "strength" "[I", .fieldLink RX4 21 "DustVote$Told" "kind" "[I", .fieldLink RX4 24 "DustVote$Told" "fallStreet" "[I", .fieldLink RX4 27 "DustVote$Told" "fallDust" "[I", .fieldLink RX4 30 "DustVote$Told" "brooms" "I", .fieldLink RX4 34 "DustVote$Told" "falls" "I"] ++ wsX40)
def wsX4_addBroom : List Cond := .code yX4_addBroom cX4_addBroom 3 none :: ([.fieldLink RX4 30 "DustVote$Told" "brooms" "I", .fieldLink RX4 15 "DustVote$Told" "firstPlace" "[I", .fieldLink RX4 18 "DustVote$Told" "strength" "[I", .fieldLink RX4 21 "DustVote$Told" "kind" "[I", .methodLink RX4 37 yX3_figureAt, .instanceMethod yX3_figureAt, .selects RX3 yX3_figureAt yX3_figureAt, .initialized RX3, .code yX3_figureAt cX3_figureAt 2 (some .int), .methodLink RX3 19 yX3_letterAt, .instanceMethod yX3_letterAt, .selects RX3 yX3_letterAt yX3_letterAt, .code yX3_letterAt cX3_letterAt 2 (some .int), .fieldLink RX3 15 "DustVote$Script" "length" "I", .fieldLink RX3 9 "DustVote$Script" "letters" "[I"] ++ wsX40 ++ wsX30)
def wsX4_addFall : List Cond := .code yX4_addFall cX4_addFall 3 none :: ([.fieldLink RX4 34 "DustVote$Told" "falls" "I", .fieldLink RX4 24 "DustVote$Told" "fallStreet" "[I", .fieldLink RX4 27 "DustVote$Told" "fallDust" "[I", .methodLink RX4 37 yX3_figureAt, .instanceMethod yX3_figureAt, .selects RX3 yX3_figureAt yX3_figureAt, .initialized RX3, .code yX3_figureAt cX3_figureAt 2 (some .int), .methodLink RX3 19 yX3_letterAt, .instanceMethod yX3_letterAt, .selects RX3 yX3_letterAt yX3_letterAt, .code yX3_letterAt cX3_letterAt 2 (some .int), .fieldLink RX3 15 "DustVote$Script" "length" "I", .fieldLink RX3 9 "DustVote$Script" "letters" "[I"] ++ wsX40 ++ wsX30)
def wsX4_read_r1 : List Cond := [Cond.fieldLink RX4 9 "DustVote$Told" "firstDust" "[I", Cond.fieldLink RX4 30 "DustVote$Told" "brooms" "I", Cond.fieldLink RX4 34 "DustVote$Told" "falls" "I", Cond.methodLink RX4 37 yX3_figureAt, Cond.instanceMethod yX3_figureAt, Cond.selects RX3 yX3_figureAt yX3_figureAt, Cond.initialized RX3, Cond.code yX3_figureAt cX3_figureAt 2 (some .int), Cond.methodLink RX3 19 yX3_letterAt, Cond.instanceMethod yX3_letterAt, Cond.selects RX3 yX3_letterAt yX3_letterAt, Cond.code yX3_letterAt cX3_letterAt 2 (some .int), Cond.fieldLink RX3 15 "DustVote$Script" "length" "I", Cond.fieldLink RX3 9 "DustVote$Script" "letters" "[I", Cond.methodLink RX4 46 yX3_letterAt, Cond.methodLink RX4 49 yX4_addBroom, Cond.instanceMethod yX4_addBroom, Cond.selects RX4 yX4_addBroom yX4_addBroom, Cond.initialized RX4, Cond.code yX4_addBroom cX4_addBroom 3 none, Cond.fieldLink RX4 15 "DustVote$Told" "firstPlace" "[I", Cond.fieldLink RX4 18 "DustVote$Told" "strength" "[I", Cond.fieldLink RX4 21 "DustVote$Told" "kind" "[I", Cond.methodLink RX4 53 yX4_addFall]
def wsX4_read_r2 : List Cond := [Cond.instanceMethod yX4_addFall, Cond.selects RX4 yX4_addFall yX4_addFall, Cond.code yX4_addFall cX4_addFall 3 none, Cond.fieldLink RX4 24 "DustVote$Told" "fallStreet" "[I", Cond.fieldLink RX4 27 "DustVote$Told" "fallDust" "[I"]
def wsX4_read : List Cond := .code yX4_read cX4_read 4 none :: ((wsX4_read_r1 ++ wsX4_read_r2) ++ wsX40 ++ wsX30)
def wsX5_init_r1 : List Cond := [Cond.methodLink RX5 3 objectInit, Cond.instanceMethod objectInit, Cond.code objectInit ⟨#[0xb1]⟩ 1 none, Cond.classLink RX5 9 RX3, Cond.instantiable RX3 2, Cond.initialized RX3, Cond.fieldLink RX5 12 "DustVote" "script" "LDustVote$Script;", Cond.classLink RX5 16 RX4, Cond.instantiable RX4 8, Cond.initialized RX4, Cond.fieldLink RX5 19 "DustVote" "told" "LDustVote$Told;", Cond.classLink RX5 23 RX2, Cond.instantiable RX2 7, Cond.initialized RX2, Cond.fieldLink RX5 28 "DustVote" "now" "LDustVote$Moment;", Cond.fieldLink RX5 32 "DustVote" "trial" "LDustVote$Moment;", Cond.classLink RX5 35 RX0, Cond.instantiable RX0 3, Cond.initialized RX0, Cond.fieldLink RX5 38 "DustVote" "acts" "LDustVote$ActRow;", Cond.classLink RX5 42 RX1, Cond.instantiable RX1 4, Cond.initialized RX1, Cond.fieldLink RX5 45 "DustVote" "heaps" "LDustVote$Heaps;"]
def wsX5_init_r2 : List Cond := [Cond.arrayClass .int, Cond.fieldLink RX5 49 "DustVote" "slots" "[I", Cond.arrayClass .boolean, Cond.fieldLink RX5 53 "DustVote" "filled" "[Z", Cond.fieldLink RX5 57 "DustVote" "chance" "J", Cond.instanceMethod yX3_init, Cond.code yX3_init cX3_init 1 none, Cond.methodLink RX3 3 objectInit, Cond.fieldLink RX3 9 "DustVote$Script" "letters" "[I", Cond.fieldLink RX3 15 "DustVote$Script" "length" "I", Cond.instanceMethod yX4_init, Cond.code yX4_init cX4_init 1 none, Cond.methodLink RX4 3 objectInit, Cond.fieldLink RX4 9 "DustVote$Told" "firstDust" "[I", Cond.fieldLink RX4 15 "DustVote$Told" "firstPlace" "[I", Cond.fieldLink RX4 18 "DustVote$Told" "strength" "[I", Cond.fieldLink RX4 21 "DustVote$Told" "kind" "[I", Cond.fieldLink RX4 24 "DustVote$Told" "fallStreet" "[I", Cond.fieldLink RX4 27 "DustVote$Told" "fallDust" "[I", Cond.fieldLink RX4 30 "DustVote$Told" "brooms" "I", Cond.fieldLink RX4 34 "DustVote$Told" "falls" "I", Cond.methodLink RX5 25 yX2_init, Cond.instanceMethod yX2_init, Cond.code yX2_init cX2_init 2 none]
def wsX5_init_r3 : List Cond := [Cond.methodLink RX2 3 objectInit, Cond.fieldLink RX2 9 "DustVote$Moment" "dust" "[I", Cond.fieldLink RX2 15 "DustVote$Moment" "place" "[I", Cond.fieldLink RX2 18 "DustVote$Moment" "deep" "[Z", Cond.fieldLink RX2 22 "DustVote$Moment" "given" "Z", Cond.fieldLink RX2 26 "DustVote$Moment" "bent" "I", Cond.fieldLink RX2 30 "DustVote$Moment" "dawns" "I", Cond.fieldLink RX2 33 "DustVote$Moment" "told" "LDustVote$Told;", Cond.instanceMethod yX0_init, Cond.code yX0_init cX0_init 1 none, Cond.methodLink RX0 3 objectInit, Cond.fieldLink RX0 9 "DustVote$ActRow" "cells" "[I", Cond.fieldLink RX0 15 "DustVote$ActRow" "first" "I", Cond.fieldLink RX0 19 "DustVote$ActRow" "size" "I", Cond.instanceMethod yX1_init, Cond.code yX1_init cX1_init 1 none, Cond.methodLink RX1 3 objectInit, Cond.fieldLink RX1 9 "DustVote$Heaps" "before" "[I", Cond.fieldLink RX1 15 "DustVote$Heaps" "left" "[I", Cond.fieldLink RX1 18 "DustVote$Heaps" "gone" "[I", Cond.fieldLink RX1 21 "DustVote$Heaps" "size" "I"]
def wsX5_init : List Cond := .code yX5_init cX5_init 1 none :: ((wsX5_init_r1 ++ (wsX5_init_r2 ++ wsX5_init_r3)) ++ wsX30 ++ wsX50 ++ wsX40 ++ wsX20 ++ wsX00 ++ wsX10)
def wsX5_write : List Cond := .code yX5_write cX5_write 2 (some .int) :: ([.fieldLink RX5 12 "DustVote" "script" "LDustVote$Script;", .methodLink RX5 61 yX5_within, .static yX5_within, .initialized RX5, .code yX5_within cX5_within 3 (some .boolean), .methodLink RX5 69 yX3_add, .instanceMethod yX3_add, .selects RX3 yX3_add yX3_add, .initialized RX3, .code yX3_add cX3_add 2 none, .fieldLink RX3 15 "DustVote$Script" "length" "I", .fieldLink RX3 9 "DustVote$Script" "letters" "[I"] ++ wsX50 ++ wsX30)
def wsX5_wipe : List Cond := .code yX5_wipe cX5_wipe 2 (some .int) :: ([.fieldLink RX5 12 "DustVote" "script" "LDustVote$Script;"] ++ wsX50 ++ wsX30)
def wsX5_fault_r1 : List Cond := [Cond.fieldLink RX5 12 "DustVote" "script" "LDustVote$Script;", Cond.methodLink RX5 73 yX3_firstFault, Cond.instanceMethod yX3_firstFault, Cond.selects RX3 yX3_firstFault yX3_firstFault, Cond.initialized RX3, Cond.code yX3_firstFault cX3_firstFault 2 (some .int), Cond.methodLink RX3 19 yX3_letterAt, Cond.instanceMethod yX3_letterAt, Cond.selects RX3 yX3_letterAt yX3_letterAt, Cond.code yX3_letterAt cX3_letterAt 2 (some .int), Cond.fieldLink RX3 15 "DustVote$Script" "length" "I", Cond.fieldLink RX3 9 "DustVote$Script" "letters" "[I", Cond.methodLink RX3 23 yX3_figureAt, Cond.instanceMethod yX3_figureAt, Cond.selects RX3 yX3_figureAt yX3_figureAt, Cond.code yX3_figureAt cX3_figureAt 2 (some .int), Cond.static yX5_within, Cond.initialized RX5, Cond.code yX5_within cX5_within 3 (some .boolean), Cond.methodLink RX3 30 yX3_firstFaultOfParts, Cond.instanceMethod yX3_firstFaultOfParts, Cond.selects RX3 yX3_firstFaultOfParts yX3_firstFaultOfParts, Cond.code yX3_firstFaultOfParts cX3_firstFaultOfParts 8 (some .int), Cond.methodLink RX3 34 yX3_faultOfBroom]
def wsX5_fault_r2 : List Cond := [Cond.instanceMethod yX3_faultOfBroom, Cond.selects RX3 yX3_faultOfBroom yX3_faultOfBroom, Cond.code yX3_faultOfBroom cX3_faultOfBroom 2 (some .int), Cond.static yX5_isStreet, Cond.code yX5_isStreet cX5_isStreet 1 (some .boolean), Cond.methodLink RX3 37 yX3_faultOfFall, Cond.instanceMethod yX3_faultOfFall, Cond.selects RX3 yX3_faultOfFall yX3_faultOfFall, Cond.code yX3_faultOfFall cX3_faultOfFall 2 (some .int)]
def wsX5_fault : List Cond := .code yX5_fault cX5_fault 1 (some .int) :: ((wsX5_fault_r1 ++ wsX5_fault_r2) ++ wsX50 ++ wsX30)
def wsX5_city_r1 : List Cond := [Cond.fieldLink RX5 12 "DustVote" "script" "LDustVote$Script;", Cond.fieldLink RX5 19 "DustVote" "told" "LDustVote$Told;", Cond.fieldLink RX5 28 "DustVote" "now" "LDustVote$Moment;", Cond.fieldLink RX5 38 "DustVote" "acts" "LDustVote$ActRow;", Cond.fieldLink RX5 53 "DustVote" "filled" "[Z", Cond.methodLink RX5 73 yX3_firstFault, Cond.instanceMethod yX3_firstFault, Cond.selects RX3 yX3_firstFault yX3_firstFault, Cond.initialized RX3, Cond.code yX3_firstFault cX3_firstFault 2 (some .int), Cond.methodLink RX3 19 yX3_letterAt, Cond.instanceMethod yX3_letterAt, Cond.selects RX3 yX3_letterAt yX3_letterAt, Cond.code yX3_letterAt cX3_letterAt 2 (some .int), Cond.fieldLink RX3 15 "DustVote$Script" "length" "I", Cond.fieldLink RX3 9 "DustVote$Script" "letters" "[I", Cond.methodLink RX3 23 yX3_figureAt, Cond.instanceMethod yX3_figureAt, Cond.selects RX3 yX3_figureAt yX3_figureAt, Cond.code yX3_figureAt cX3_figureAt 2 (some .int), Cond.static yX5_within, Cond.initialized RX5, Cond.code yX5_within cX5_within 3 (some .boolean), Cond.methodLink RX3 30 yX3_firstFaultOfParts]
def wsX5_city_r2 : List Cond := [Cond.instanceMethod yX3_firstFaultOfParts, Cond.selects RX3 yX3_firstFaultOfParts yX3_firstFaultOfParts, Cond.code yX3_firstFaultOfParts cX3_firstFaultOfParts 8 (some .int), Cond.methodLink RX3 34 yX3_faultOfBroom, Cond.instanceMethod yX3_faultOfBroom, Cond.selects RX3 yX3_faultOfBroom yX3_faultOfBroom, Cond.code yX3_faultOfBroom cX3_faultOfBroom 2 (some .int), Cond.static yX5_isStreet, Cond.code yX5_isStreet cX5_isStreet 1 (some .boolean), Cond.methodLink RX3 37 yX3_faultOfFall, Cond.instanceMethod yX3_faultOfFall, Cond.selects RX3 yX3_faultOfFall yX3_faultOfFall, Cond.code yX3_faultOfFall cX3_faultOfFall 2 (some .int), Cond.methodLink RX5 77 yX4_read, Cond.instanceMethod yX4_read, Cond.selects RX4 yX4_read yX4_read, Cond.initialized RX4, Cond.code yX4_read cX4_read 4 none, Cond.fieldLink RX4 9 "DustVote$Told" "firstDust" "[I", Cond.fieldLink RX4 30 "DustVote$Told" "brooms" "I", Cond.fieldLink RX4 34 "DustVote$Told" "falls" "I", Cond.methodLink RX4 37 yX3_figureAt, Cond.methodLink RX4 46 yX3_letterAt, Cond.methodLink RX4 49 yX4_addBroom]
def wsX5_city_r3 : List Cond := [Cond.instanceMethod yX4_addBroom, Cond.selects RX4 yX4_addBroom yX4_addBroom, Cond.code yX4_addBroom cX4_addBroom 3 none, Cond.fieldLink RX4 15 "DustVote$Told" "firstPlace" "[I", Cond.fieldLink RX4 18 "DustVote$Told" "strength" "[I", Cond.fieldLink RX4 21 "DustVote$Told" "kind" "[I", Cond.methodLink RX4 53 yX4_addFall, Cond.instanceMethod yX4_addFall, Cond.selects RX4 yX4_addFall yX4_addFall, Cond.code yX4_addFall cX4_addFall 3 none, Cond.fieldLink RX4 24 "DustVote$Told" "fallStreet" "[I", Cond.fieldLink RX4 27 "DustVote$Told" "fallDust" "[I", Cond.methodLink RX5 81 yX2_begin, Cond.instanceMethod yX2_begin, Cond.selects RX2 yX2_begin yX2_begin, Cond.initialized RX2, Cond.code yX2_begin cX2_begin 1 none, Cond.fieldLink RX2 33 "DustVote$Moment" "told" "LDustVote$Told;", Cond.fieldLink RX2 9 "DustVote$Moment" "dust" "[I", Cond.methodLink RX2 42 arraycopyName, Cond.native arraycopyName, Cond.static arraycopyName, Cond.initialized "java/lang/System", Cond.fieldLink RX2 15 "DustVote$Moment" "place" "[I"]
def wsX5_city_r4 : List Cond := [Cond.fieldLink RX2 22 "DustVote$Moment" "given" "Z", Cond.fieldLink RX2 26 "DustVote$Moment" "bent" "I", Cond.fieldLink RX2 30 "DustVote$Moment" "dawns" "I", Cond.methodLink RX5 84 yX0_clear, Cond.instanceMethod yX0_clear, Cond.selects RX0 yX0_clear yX0_clear, Cond.initialized RX0, Cond.code yX0_clear cX0_clear 1 none, Cond.fieldLink RX0 15 "DustVote$ActRow" "first" "I", Cond.fieldLink RX0 19 "DustVote$ActRow" "size" "I"]
def wsX5_city : List Cond := .code yX5_city cX5_city 2 (some .int) :: ((wsX5_city_r1 ++ (wsX5_city_r2 ++ (wsX5_city_r3 ++ wsX5_city_r4))) ++ wsX50 ++ wsX40 ++ wsX30 ++ wsX20 ++ wsX00)
def wsX5_street_r1 : List Cond := [Cond.fieldLink RX5 28 "DustVote" "now" "LDustVote$Moment;", Cond.methodLink RX5 93 yX5_isStreet, Cond.static yX5_isStreet, Cond.initialized RX5, Cond.code yX5_isStreet cX5_isStreet 1 (some .boolean), Cond.methodLink RX5 97 yX2_dustIn, Cond.instanceMethod yX2_dustIn, Cond.selects RX2 yX2_dustIn yX2_dustIn, Cond.initialized RX2, Cond.code yX2_dustIn cX2_dustIn 2 (some .int), Cond.fieldLink RX2 9 "DustVote$Moment" "dust" "[I", Cond.methodLink RX5 101 yX2_isDeep, Cond.instanceMethod yX2_isDeep, Cond.selects RX2 yX2_isDeep yX2_isDeep, Cond.code yX2_isDeep cX2_isDeep 2 (some .boolean), Cond.methodLink RX2 58 yX2_dustIn, Cond.methodLink RX5 104 yX2_broomsIn, Cond.instanceMethod yX2_broomsIn, Cond.selects RX2 yX2_broomsIn yX2_broomsIn, Cond.code yX2_broomsIn cX2_broomsIn 4 (some .int), Cond.fieldLink RX2 33 "DustVote$Moment" "told" "LDustVote$Told;", Cond.methodLink RX2 68 yX2_placeOf, Cond.instanceMethod yX2_placeOf, Cond.selects RX2 yX2_placeOf yX2_placeOf]
def wsX5_street_r2 : List Cond := [Cond.code yX2_placeOf cX2_placeOf 2 (some .int), Cond.fieldLink RX2 15 "DustVote$Moment" "place" "[I", Cond.methodLink RX2 55 yX4_hasBroom, Cond.instanceMethod yX4_hasBroom, Cond.selects RX4 yX4_hasBroom yX4_hasBroom, Cond.initialized RX4, Cond.code yX4_hasBroom cX4_hasBroom 2 (some .boolean), Cond.fieldLink RX4 30 "DustVote$Told" "brooms" "I"]
def wsX5_street : List Cond := .code yX5_street cX5_street 3 (some .int) :: ((wsX5_street_r1 ++ wsX5_street_r2) ++ wsX50 ++ wsX20 ++ wsX40)
def wsX5_broom_r1 : List Cond := [Cond.fieldLink RX5 19 "DustVote" "told" "LDustVote$Told;", Cond.fieldLink RX5 28 "DustVote" "now" "LDustVote$Moment;", Cond.methodLink RX5 107 yX4_hasBroom, Cond.instanceMethod yX4_hasBroom, Cond.selects RX4 yX4_hasBroom yX4_hasBroom, Cond.initialized RX4, Cond.code yX4_hasBroom cX4_hasBroom 2 (some .boolean), Cond.fieldLink RX4 30 "DustVote$Told" "brooms" "I", Cond.methodLink RX5 110 yX2_placeOf, Cond.instanceMethod yX2_placeOf, Cond.selects RX2 yX2_placeOf yX2_placeOf, Cond.initialized RX2, Cond.code yX2_placeOf cX2_placeOf 2 (some .int), Cond.fieldLink RX2 33 "DustVote$Moment" "told" "LDustVote$Told;", Cond.fieldLink RX2 15 "DustVote$Moment" "place" "[I", Cond.methodLink RX2 55 yX4_hasBroom, Cond.methodLink RX5 113 yX4_strengthOf, Cond.instanceMethod yX4_strengthOf, Cond.selects RX4 yX4_strengthOf yX4_strengthOf, Cond.code yX4_strengthOf cX4_strengthOf 2 (some .int), Cond.fieldLink RX4 18 "DustVote$Told" "strength" "[I", Cond.methodLink RX5 116 yX4_kindOf, Cond.instanceMethod yX4_kindOf, Cond.selects RX4 yX4_kindOf yX4_kindOf]
def wsX5_broom_r2 : List Cond := [Cond.code yX4_kindOf cX4_kindOf 2 (some .int), Cond.fieldLink RX4 21 "DustVote$Told" "kind" "[I", Cond.methodLink RX5 119 yX2_isBent, Cond.instanceMethod yX2_isBent, Cond.selects RX2 yX2_isBent yX2_isBent, Cond.code yX2_isBent cX2_isBent 2 (some .boolean), Cond.fieldLink RX2 26 "DustVote$Moment" "bent" "I", Cond.methodLink RX5 122 yX2_worksAs, Cond.instanceMethod yX2_worksAs, Cond.selects RX2 yX2_worksAs yX2_worksAs, Cond.code yX2_worksAs cX2_worksAs 3 (some .int), Cond.fieldLink RX2 22 "DustVote$Moment" "given" "Z", Cond.methodLink RX2 71 yX4_kindOf, Cond.methodLink RX2 74 yX2_isBent]
def wsX5_broom : List Cond := .code yX5_broom cX5_broom 3 (some .int) :: ((wsX5_broom_r1 ++ wsX5_broom_r2) ++ wsX50 ++ wsX40 ++ wsX20)
def wsX5_dawn_r1 : List Cond := [Cond.fieldLink RX5 38 "DustVote" "acts" "LDustVote$ActRow;", Cond.fieldLink RX5 28 "DustVote" "now" "LDustVote$Moment;", Cond.methodLink RX5 125 yX0_push, Cond.instanceMethod yX0_push, Cond.selects RX0 yX0_push yX0_push, Cond.initialized RX0, Cond.code yX0_push cX0_push 2 none, Cond.fieldLink RX0 9 "DustVote$ActRow" "cells" "[I", Cond.fieldLink RX0 15 "DustVote$ActRow" "first" "I", Cond.fieldLink RX0 19 "DustVote$ActRow" "size" "I", Cond.methodLink RX0 22 yX0_spotOf, Cond.static yX0_spotOf, Cond.code yX0_spotOf cX0_spotOf 1 (some .int), Cond.methodLink RX0 26 yX2_save, Cond.instanceMethod yX2_save, Cond.selects RX2 yX2_save yX2_save, Cond.initialized RX2, Cond.code yX2_save cX2_save 4 none, Cond.fieldLink RX2 9 "DustVote$Moment" "dust" "[I", Cond.methodLink RX2 42 arraycopyName, Cond.native arraycopyName, Cond.static arraycopyName, Cond.initialized "java/lang/System", Cond.fieldLink RX2 15 "DustVote$Moment" "place" "[I"]
def wsX5_dawn_r2 : List Cond := [Cond.fieldLink RX2 22 "DustVote$Moment" "given" "Z", Cond.fieldLink RX2 26 "DustVote$Moment" "bent" "I", Cond.fieldLink RX2 30 "DustVote$Moment" "dawns" "I", Cond.methodLink RX5 129 yX2_passDawn, Cond.instanceMethod yX2_passDawn, Cond.selects RX2 yX2_passDawn yX2_passDawn, Cond.code yX2_passDawn cX2_passDawn 4 none, Cond.fieldLink RX2 33 "DustVote$Moment" "told" "LDustVote$Told;", Cond.methodLink RX2 87 yX2_comeDown, Cond.instanceMethod yX2_comeDown, Cond.selects RX2 yX2_comeDown yX2_comeDown, Cond.code yX2_comeDown cX2_comeDown 4 none, Cond.methodLink RX2 106 yX2_pour, Cond.instanceMethod yX2_pour, Cond.selects RX2 yX2_pour yX2_pour, Cond.code yX2_pour cX2_pour 3 none, Cond.methodLink RX2 119 Lib.Math.min.name, Cond.static Lib.Math.min.name, Cond.initialized "java/lang/Math", Cond.code Lib.Math.min.name Lib.Math.min.code 2 (some .int), Cond.static yX5_isStreet, Cond.initialized RX5, Cond.code yX5_isStreet cX5_isStreet 1 (some .boolean), Cond.methodLink RX2 91 yX2_work]
def wsX5_dawn_r3 : List Cond := [Cond.instanceMethod yX2_work, Cond.selects RX2 yX2_work yX2_work, Cond.code yX2_work cX2_work 4 none, Cond.methodLink RX2 68 yX2_placeOf, Cond.instanceMethod yX2_placeOf, Cond.selects RX2 yX2_placeOf yX2_placeOf, Cond.code yX2_placeOf cX2_placeOf 2 (some .int), Cond.methodLink RX2 55 yX4_hasBroom, Cond.instanceMethod yX4_hasBroom, Cond.selects RX4 yX4_hasBroom yX4_hasBroom, Cond.initialized RX4, Cond.code yX4_hasBroom cX4_hasBroom 2 (some .boolean), Cond.fieldLink RX4 30 "DustVote$Told" "brooms" "I", Cond.methodLink RX2 109 yX4_strengthOf, Cond.instanceMethod yX4_strengthOf, Cond.selects RX4 yX4_strengthOf yX4_strengthOf, Cond.code yX4_strengthOf cX4_strengthOf 2 (some .int), Cond.fieldLink RX4 18 "DustVote$Told" "strength" "[I", Cond.methodLink RX2 112 yX2_worksAs, Cond.instanceMethod yX2_worksAs, Cond.selects RX2 yX2_worksAs yX2_worksAs, Cond.code yX2_worksAs cX2_worksAs 3 (some .int), Cond.methodLink RX2 71 yX4_kindOf, Cond.instanceMethod yX4_kindOf]
def wsX5_dawn_r4 : List Cond := [Cond.selects RX4 yX4_kindOf yX4_kindOf, Cond.code yX4_kindOf cX4_kindOf 2 (some .int), Cond.fieldLink RX4 21 "DustVote$Told" "kind" "[I", Cond.methodLink RX2 74 yX2_isBent, Cond.instanceMethod yX2_isBent, Cond.selects RX2 yX2_isBent yX2_isBent, Cond.code yX2_isBent cX2_isBent 2 (some .boolean), Cond.methodLink RX2 115 yX2_sweep, Cond.instanceMethod yX2_sweep, Cond.selects RX2 yX2_sweep yX2_sweep, Cond.code yX2_sweep cX2_sweep 4 (some .int), Cond.methodLink RX2 80 yX2_rightOf, Cond.static yX2_rightOf, Cond.code yX2_rightOf cX2_rightOf 1 (some .int), Cond.methodLink RX2 77 yX2_leftOf, Cond.static yX2_leftOf, Cond.code yX2_leftOf cX2_leftOf 1 (some .int), Cond.methodLink RX2 94 yX2_spread, Cond.instanceMethod yX2_spread, Cond.selects RX2 yX2_spread yX2_spread, Cond.code yX2_spread cX2_spread 2 none, Cond.fieldLink RX2 18 "DustVote$Moment" "deep" "[Z", Cond.methodLink RX5 133 yX2_allDust, Cond.instanceMethod yX2_allDust]
def wsX5_dawn_r5 : List Cond := [Cond.selects RX2 yX2_allDust yX2_allDust, Cond.code yX2_allDust cX2_allDust 3 (some .int)]
def wsX5_dawn : List Cond := .code yX5_dawn cX5_dawn 1 (some .int) :: ((wsX5_dawn_r1 ++ (wsX5_dawn_r2 ++ (wsX5_dawn_r3 ++ (wsX5_dawn_r4 ++ wsX5_dawn_r5)))) ++ wsX50 ++ wsX00 ++ wsX20 ++ wsX40)
def wsX5_walk_r1 : List Cond := [Cond.fieldLink RX5 19 "DustVote" "told" "LDustVote$Told;", Cond.fieldLink RX5 38 "DustVote" "acts" "LDustVote$ActRow;", Cond.fieldLink RX5 28 "DustVote" "now" "LDustVote$Moment;", Cond.methodLink RX5 107 yX4_hasBroom, Cond.instanceMethod yX4_hasBroom, Cond.selects RX4 yX4_hasBroom yX4_hasBroom, Cond.initialized RX4, Cond.code yX4_hasBroom cX4_hasBroom 2 (some .boolean), Cond.fieldLink RX4 30 "DustVote$Told" "brooms" "I", Cond.methodLink RX5 61 yX5_within, Cond.static yX5_within, Cond.initialized RX5, Cond.code yX5_within cX5_within 3 (some .boolean), Cond.methodLink RX5 125 yX0_push, Cond.instanceMethod yX0_push, Cond.selects RX0 yX0_push yX0_push, Cond.initialized RX0, Cond.code yX0_push cX0_push 2 none, Cond.fieldLink RX0 9 "DustVote$ActRow" "cells" "[I", Cond.fieldLink RX0 15 "DustVote$ActRow" "first" "I", Cond.fieldLink RX0 19 "DustVote$ActRow" "size" "I", Cond.methodLink RX0 22 yX0_spotOf, Cond.static yX0_spotOf, Cond.code yX0_spotOf cX0_spotOf 1 (some .int)]
def wsX5_walk_r2 : List Cond := [Cond.methodLink RX0 26 yX2_save, Cond.instanceMethod yX2_save, Cond.selects RX2 yX2_save yX2_save, Cond.initialized RX2, Cond.code yX2_save cX2_save 4 none, Cond.fieldLink RX2 9 "DustVote$Moment" "dust" "[I", Cond.methodLink RX2 42 arraycopyName, Cond.native arraycopyName, Cond.static arraycopyName, Cond.initialized "java/lang/System", Cond.fieldLink RX2 15 "DustVote$Moment" "place" "[I", Cond.fieldLink RX2 22 "DustVote$Moment" "given" "Z", Cond.fieldLink RX2 26 "DustVote$Moment" "bent" "I", Cond.fieldLink RX2 30 "DustVote$Moment" "dawns" "I", Cond.methodLink RX5 136 yX2_step, Cond.instanceMethod yX2_step, Cond.selects RX2 yX2_step yX2_step, Cond.code yX2_step cX2_step 4 none, Cond.methodLink RX2 68 yX2_placeOf, Cond.instanceMethod yX2_placeOf, Cond.selects RX2 yX2_placeOf yX2_placeOf, Cond.code yX2_placeOf cX2_placeOf 2 (some .int), Cond.fieldLink RX2 33 "DustVote$Moment" "told" "LDustVote$Told;", Cond.methodLink RX2 55 yX4_hasBroom]
def wsX5_walk_r3 : List Cond := [Cond.methodLink RX2 77 yX2_leftOf, Cond.static yX2_leftOf, Cond.code yX2_leftOf cX2_leftOf 1 (some .int), Cond.methodLink RX2 80 yX2_rightOf, Cond.static yX2_rightOf, Cond.code yX2_rightOf cX2_rightOf 1 (some .int), Cond.methodLink RX2 83 yX2_goTo, Cond.instanceMethod yX2_goTo, Cond.selects RX2 yX2_goTo yX2_goTo, Cond.code yX2_goTo cX2_goTo 3 none, Cond.methodLink RX5 110 yX2_placeOf]
def wsX5_walk : List Cond := .code yX5_walk cX5_walk 3 (some .int) :: ((wsX5_walk_r1 ++ (wsX5_walk_r2 ++ wsX5_walk_r3)) ++ wsX50 ++ wsX40 ++ wsX00 ++ wsX20)
def wsX5_vote_r1 : List Cond := [Cond.fieldLink RX5 38 "DustVote" "acts" "LDustVote$ActRow;", Cond.fieldLink RX5 28 "DustVote" "now" "LDustVote$Moment;", Cond.methodLink RX5 125 yX0_push, Cond.instanceMethod yX0_push, Cond.selects RX0 yX0_push yX0_push, Cond.initialized RX0, Cond.code yX0_push cX0_push 2 none, Cond.fieldLink RX0 9 "DustVote$ActRow" "cells" "[I", Cond.fieldLink RX0 15 "DustVote$ActRow" "first" "I", Cond.fieldLink RX0 19 "DustVote$ActRow" "size" "I", Cond.methodLink RX0 22 yX0_spotOf, Cond.static yX0_spotOf, Cond.code yX0_spotOf cX0_spotOf 1 (some .int), Cond.methodLink RX0 26 yX2_save, Cond.instanceMethod yX2_save, Cond.selects RX2 yX2_save yX2_save, Cond.initialized RX2, Cond.code yX2_save cX2_save 4 none, Cond.fieldLink RX2 9 "DustVote$Moment" "dust" "[I", Cond.methodLink RX2 42 arraycopyName, Cond.native arraycopyName, Cond.static arraycopyName, Cond.initialized "java/lang/System", Cond.fieldLink RX2 15 "DustVote$Moment" "place" "[I"]
def wsX5_vote_r2 : List Cond := [Cond.fieldLink RX2 22 "DustVote$Moment" "given" "Z", Cond.fieldLink RX2 26 "DustVote$Moment" "bent" "I", Cond.fieldLink RX2 30 "DustVote$Moment" "dawns" "I", Cond.methodLink RX5 139 yX2_turnVote, Cond.instanceMethod yX2_turnVote, Cond.selects RX2 yX2_turnVote yX2_turnVote, Cond.code yX2_turnVote cX2_turnVote 1 none]
def wsX5_vote : List Cond := .code yX5_vote cX5_vote 1 (some .int) :: ((wsX5_vote_r1 ++ wsX5_vote_r2) ++ wsX50 ++ wsX20 ++ wsX00)
def wsJ6_bitCount_0f7a4 : List Cond := .code yJ6_bitCount_0f7a4 cJ6_bitCount_0f7a4 1 (some .int) :: ([.constant RJ6 265 (1431655765), .constant RJ6 266 (858993459), .constant RJ6 267 (252645135)])
def wsX5_bend_r1 : List Cond := [Cond.fieldLink RX5 19 "DustVote" "told" "LDustVote$Told;", Cond.fieldLink RX5 28 "DustVote" "now" "LDustVote$Moment;", Cond.fieldLink RX5 38 "DustVote" "acts" "LDustVote$ActRow;", Cond.methodLink RX5 107 yX4_hasBroom, Cond.instanceMethod yX4_hasBroom, Cond.selects RX4 yX4_hasBroom yX4_hasBroom, Cond.initialized RX4, Cond.code yX4_hasBroom cX4_hasBroom 2 (some .boolean), Cond.fieldLink RX4 30 "DustVote$Told" "brooms" "I", Cond.methodLink RX5 119 yX2_isBent, Cond.instanceMethod yX2_isBent, Cond.selects RX2 yX2_isBent yX2_isBent, Cond.initialized RX2, Cond.code yX2_isBent cX2_isBent 2 (some .boolean), Cond.fieldLink RX2 26 "DustVote$Moment" "bent" "I", Cond.methodLink RX5 125 yX0_push, Cond.instanceMethod yX0_push, Cond.selects RX0 yX0_push yX0_push, Cond.initialized RX0, Cond.code yX0_push cX0_push 2 none, Cond.fieldLink RX0 9 "DustVote$ActRow" "cells" "[I", Cond.fieldLink RX0 15 "DustVote$ActRow" "first" "I", Cond.fieldLink RX0 19 "DustVote$ActRow" "size" "I", Cond.methodLink RX0 22 yX0_spotOf]
def wsX5_bend_r2 : List Cond := [Cond.static yX0_spotOf, Cond.code yX0_spotOf cX0_spotOf 1 (some .int), Cond.methodLink RX0 26 yX2_save, Cond.instanceMethod yX2_save, Cond.selects RX2 yX2_save yX2_save, Cond.code yX2_save cX2_save 4 none, Cond.fieldLink RX2 9 "DustVote$Moment" "dust" "[I", Cond.methodLink RX2 42 arraycopyName, Cond.native arraycopyName, Cond.static arraycopyName, Cond.initialized "java/lang/System", Cond.fieldLink RX2 15 "DustVote$Moment" "place" "[I", Cond.fieldLink RX2 22 "DustVote$Moment" "given" "Z", Cond.fieldLink RX2 30 "DustVote$Moment" "dawns" "I", Cond.methodLink RX5 146 yX2_bow, Cond.instanceMethod yX2_bow, Cond.selects RX2 yX2_bow yX2_bow, Cond.code yX2_bow cX2_bow 2 none, Cond.methodLink RX5 152 yJ6_bitCount_0f7a4, Cond.static yJ6_bitCount_0f7a4, Cond.initialized RJ6, Cond.code yJ6_bitCount_0f7a4 cJ6_bitCount_0f7a4 1 (some .int), Cond.constant RJ6 265 (1431655765), Cond.constant RJ6 266 (858993459)]
def wsX5_bend_r3 : List Cond := [Cond.constant RJ6 267 (252645135)]
def wsX5_bend : List Cond := .code yX5_bend cX5_bend 2 (some .int) :: ((wsX5_bend_r1 ++ (wsX5_bend_r2 ++ wsX5_bend_r3)) ++ wsX50 ++ wsX20 ++ wsX40 ++ wsX00)
def wsX5_hand_r1 : List Cond := [Cond.fieldLink RX5 28 "DustVote" "now" "LDustVote$Moment;", Cond.fieldLink RX5 38 "DustVote" "acts" "LDustVote$ActRow;", Cond.methodLink RX5 93 yX5_isStreet, Cond.static yX5_isStreet, Cond.initialized RX5, Cond.code yX5_isStreet cX5_isStreet 1 (some .boolean), Cond.methodLink RX5 97 yX2_dustIn, Cond.instanceMethod yX2_dustIn, Cond.selects RX2 yX2_dustIn yX2_dustIn, Cond.initialized RX2, Cond.code yX2_dustIn cX2_dustIn 2 (some .int), Cond.fieldLink RX2 9 "DustVote$Moment" "dust" "[I", Cond.methodLink RX5 125 yX0_push, Cond.instanceMethod yX0_push, Cond.selects RX0 yX0_push yX0_push, Cond.initialized RX0, Cond.code yX0_push cX0_push 2 none, Cond.fieldLink RX0 9 "DustVote$ActRow" "cells" "[I", Cond.fieldLink RX0 15 "DustVote$ActRow" "first" "I", Cond.fieldLink RX0 19 "DustVote$ActRow" "size" "I", Cond.methodLink RX0 22 yX0_spotOf, Cond.static yX0_spotOf, Cond.code yX0_spotOf cX0_spotOf 1 (some .int), Cond.methodLink RX0 26 yX2_save]
def wsX5_hand_r2 : List Cond := [Cond.instanceMethod yX2_save, Cond.selects RX2 yX2_save yX2_save, Cond.code yX2_save cX2_save 4 none, Cond.methodLink RX2 42 arraycopyName, Cond.native arraycopyName, Cond.static arraycopyName, Cond.initialized "java/lang/System", Cond.fieldLink RX2 15 "DustVote$Moment" "place" "[I", Cond.fieldLink RX2 22 "DustVote$Moment" "given" "Z", Cond.fieldLink RX2 26 "DustVote$Moment" "bent" "I", Cond.fieldLink RX2 30 "DustVote$Moment" "dawns" "I", Cond.methodLink RX5 157 yX2_empty, Cond.instanceMethod yX2_empty, Cond.selects RX2 yX2_empty yX2_empty, Cond.code yX2_empty cX2_empty 2 none]
def wsX5_hand : List Cond := .code yX5_hand cX5_hand 3 (some .int) :: ((wsX5_hand_r1 ++ wsX5_hand_r2) ++ wsX50 ++ wsX20 ++ wsX00)
def wsX5_undo_r1 : List Cond := [Cond.fieldLink RX5 38 "DustVote" "acts" "LDustVote$ActRow;", Cond.fieldLink RX5 28 "DustVote" "now" "LDustVote$Moment;", Cond.methodLink RX5 163 yX0_pop, Cond.instanceMethod yX0_pop, Cond.selects RX0 yX0_pop yX0_pop, Cond.initialized RX0, Cond.code yX0_pop cX0_pop 2 none, Cond.fieldLink RX0 19 "DustVote$ActRow" "size" "I", Cond.fieldLink RX0 9 "DustVote$ActRow" "cells" "[I", Cond.fieldLink RX0 15 "DustVote$ActRow" "first" "I", Cond.methodLink RX0 22 yX0_spotOf, Cond.static yX0_spotOf, Cond.code yX0_spotOf cX0_spotOf 1 (some .int), Cond.methodLink RX0 32 yX2_load, Cond.instanceMethod yX2_load, Cond.selects RX2 yX2_load yX2_load, Cond.initialized RX2, Cond.code yX2_load cX2_load 4 none, Cond.fieldLink RX2 9 "DustVote$Moment" "dust" "[I", Cond.methodLink RX2 42 arraycopyName, Cond.native arraycopyName, Cond.static arraycopyName, Cond.initialized "java/lang/System", Cond.fieldLink RX2 15 "DustVote$Moment" "place" "[I"]
def wsX5_undo_r2 : List Cond := [Cond.fieldLink RX2 22 "DustVote$Moment" "given" "Z", Cond.fieldLink RX2 26 "DustVote$Moment" "bent" "I", Cond.fieldLink RX2 30 "DustVote$Moment" "dawns" "I"]
def wsX5_undo : List Cond := .code yX5_undo cX5_undo 1 (some .int) :: ((wsX5_undo_r1 ++ wsX5_undo_r2) ++ wsX50 ++ wsX00 ++ wsX20)
def wsX5_fromNow : List Cond := .code yX5_fromNow cX5_fromNow 1 (some (.object "DustVote$Moment")) :: ([.fieldLink RX5 32 "DustVote" "trial" "LDustVote$Moment;", .fieldLink RX5 28 "DustVote" "now" "LDustVote$Moment;", .methodLink RX5 247 yX2_copy, .instanceMethod yX2_copy, .selects RX2 yX2_copy yX2_copy, .initialized RX2, .code yX2_copy cX2_copy 2 none, .fieldLink RX2 9 "DustVote$Moment" "dust" "[I", .methodLink RX2 42 arraycopyName, .native arraycopyName, .static arraycopyName, .initialized "java/lang/System", .fieldLink RX2 15 "DustVote$Moment" "place" "[I", .fieldLink RX2 22 "DustVote$Moment" "given" "Z", .fieldLink RX2 26 "DustVote$Moment" "bent" "I", .fieldLink RX2 30 "DustVote$Moment" "dawns" "I"] ++ wsX50 ++ wsX20)
def wsX5_behind_r1 : List Cond := [Cond.methodLink RX5 173 yX5_fromNow, Cond.instanceMethod yX5_fromNow, Cond.selects RX5 yX5_fromNow yX5_fromNow, Cond.initialized RX5, Cond.code yX5_fromNow cX5_fromNow 1 (some (.object "DustVote$Moment")), Cond.fieldLink RX5 32 "DustVote" "trial" "LDustVote$Moment;", Cond.fieldLink RX5 28 "DustVote" "now" "LDustVote$Moment;", Cond.methodLink RX5 247 yX2_copy, Cond.instanceMethod yX2_copy, Cond.selects RX2 yX2_copy yX2_copy, Cond.initialized RX2, Cond.code yX2_copy cX2_copy 2 none, Cond.fieldLink RX2 9 "DustVote$Moment" "dust" "[I", Cond.methodLink RX2 42 arraycopyName, Cond.native arraycopyName, Cond.static arraycopyName, Cond.initialized "java/lang/System", Cond.fieldLink RX2 15 "DustVote$Moment" "place" "[I", Cond.fieldLink RX2 22 "DustVote$Moment" "given" "Z", Cond.fieldLink RX2 26 "DustVote$Moment" "bent" "I", Cond.fieldLink RX2 30 "DustVote$Moment" "dawns" "I", Cond.methodLink RX5 129 yX2_passDawn, Cond.instanceMethod yX2_passDawn, Cond.selects RX2 yX2_passDawn yX2_passDawn]
def wsX5_behind_r2 : List Cond := [Cond.code yX2_passDawn cX2_passDawn 4 none, Cond.fieldLink RX2 33 "DustVote$Moment" "told" "LDustVote$Told;", Cond.methodLink RX2 87 yX2_comeDown, Cond.instanceMethod yX2_comeDown, Cond.selects RX2 yX2_comeDown yX2_comeDown, Cond.code yX2_comeDown cX2_comeDown 4 none, Cond.methodLink RX2 106 yX2_pour, Cond.instanceMethod yX2_pour, Cond.selects RX2 yX2_pour yX2_pour, Cond.code yX2_pour cX2_pour 3 none, Cond.methodLink RX2 119 Lib.Math.min.name, Cond.static Lib.Math.min.name, Cond.initialized "java/lang/Math", Cond.code Lib.Math.min.name Lib.Math.min.code 2 (some .int), Cond.static yX5_isStreet, Cond.code yX5_isStreet cX5_isStreet 1 (some .boolean), Cond.methodLink RX2 91 yX2_work, Cond.instanceMethod yX2_work, Cond.selects RX2 yX2_work yX2_work, Cond.code yX2_work cX2_work 4 none, Cond.methodLink RX2 68 yX2_placeOf, Cond.instanceMethod yX2_placeOf, Cond.selects RX2 yX2_placeOf yX2_placeOf, Cond.code yX2_placeOf cX2_placeOf 2 (some .int)]
def wsX5_behind_r3 : List Cond := [Cond.methodLink RX2 55 yX4_hasBroom, Cond.instanceMethod yX4_hasBroom, Cond.selects RX4 yX4_hasBroom yX4_hasBroom, Cond.initialized RX4, Cond.code yX4_hasBroom cX4_hasBroom 2 (some .boolean), Cond.fieldLink RX4 30 "DustVote$Told" "brooms" "I", Cond.methodLink RX2 109 yX4_strengthOf, Cond.instanceMethod yX4_strengthOf, Cond.selects RX4 yX4_strengthOf yX4_strengthOf, Cond.code yX4_strengthOf cX4_strengthOf 2 (some .int), Cond.fieldLink RX4 18 "DustVote$Told" "strength" "[I", Cond.methodLink RX2 112 yX2_worksAs, Cond.instanceMethod yX2_worksAs, Cond.selects RX2 yX2_worksAs yX2_worksAs, Cond.code yX2_worksAs cX2_worksAs 3 (some .int), Cond.methodLink RX2 71 yX4_kindOf, Cond.instanceMethod yX4_kindOf, Cond.selects RX4 yX4_kindOf yX4_kindOf, Cond.code yX4_kindOf cX4_kindOf 2 (some .int), Cond.fieldLink RX4 21 "DustVote$Told" "kind" "[I", Cond.methodLink RX2 74 yX2_isBent, Cond.instanceMethod yX2_isBent, Cond.selects RX2 yX2_isBent yX2_isBent, Cond.code yX2_isBent cX2_isBent 2 (some .boolean)]
def wsX5_behind_r4 : List Cond := [Cond.methodLink RX2 115 yX2_sweep, Cond.instanceMethod yX2_sweep, Cond.selects RX2 yX2_sweep yX2_sweep, Cond.code yX2_sweep cX2_sweep 4 (some .int), Cond.methodLink RX2 80 yX2_rightOf, Cond.static yX2_rightOf, Cond.code yX2_rightOf cX2_rightOf 1 (some .int), Cond.methodLink RX2 77 yX2_leftOf, Cond.static yX2_leftOf, Cond.code yX2_leftOf cX2_leftOf 1 (some .int), Cond.methodLink RX2 94 yX2_spread, Cond.instanceMethod yX2_spread, Cond.selects RX2 yX2_spread yX2_spread, Cond.code yX2_spread cX2_spread 2 none, Cond.fieldLink RX2 18 "DustVote$Moment" "deep" "[Z"]
def wsX5_behind : List Cond := .code yX5_behind cX5_behind 5 (some (.object "DustVote$Moment")) :: ((wsX5_behind_r1 ++ (wsX5_behind_r2 ++ (wsX5_behind_r3 ++ wsX5_behind_r4))) ++ wsX50 ++ wsX20 ++ wsX40)
def wsX5_dust_r1 : List Cond := [Cond.methodLink RX5 93 yX5_isStreet, Cond.static yX5_isStreet, Cond.initialized RX5, Cond.code yX5_isStreet cX5_isStreet 1 (some .boolean), Cond.methodLink RX5 61 yX5_within, Cond.static yX5_within, Cond.code yX5_within cX5_within 3 (some .boolean), Cond.methodLink RX5 166 yX5_behind, Cond.instanceMethod yX5_behind, Cond.selects RX5 yX5_behind yX5_behind, Cond.code yX5_behind cX5_behind 5 (some (.object "DustVote$Moment")), Cond.methodLink RX5 173 yX5_fromNow, Cond.instanceMethod yX5_fromNow, Cond.selects RX5 yX5_fromNow yX5_fromNow, Cond.code yX5_fromNow cX5_fromNow 1 (some (.object "DustVote$Moment")), Cond.fieldLink RX5 32 "DustVote" "trial" "LDustVote$Moment;", Cond.fieldLink RX5 28 "DustVote" "now" "LDustVote$Moment;", Cond.methodLink RX5 247 yX2_copy, Cond.instanceMethod yX2_copy, Cond.selects RX2 yX2_copy yX2_copy, Cond.initialized RX2, Cond.code yX2_copy cX2_copy 2 none, Cond.fieldLink RX2 9 "DustVote$Moment" "dust" "[I", Cond.methodLink RX2 42 arraycopyName]
def wsX5_dust_r2 : List Cond := [Cond.native arraycopyName, Cond.static arraycopyName, Cond.initialized "java/lang/System", Cond.fieldLink RX2 15 "DustVote$Moment" "place" "[I", Cond.fieldLink RX2 22 "DustVote$Moment" "given" "Z", Cond.fieldLink RX2 26 "DustVote$Moment" "bent" "I", Cond.fieldLink RX2 30 "DustVote$Moment" "dawns" "I", Cond.methodLink RX5 129 yX2_passDawn, Cond.instanceMethod yX2_passDawn, Cond.selects RX2 yX2_passDawn yX2_passDawn, Cond.code yX2_passDawn cX2_passDawn 4 none, Cond.fieldLink RX2 33 "DustVote$Moment" "told" "LDustVote$Told;", Cond.methodLink RX2 87 yX2_comeDown, Cond.instanceMethod yX2_comeDown, Cond.selects RX2 yX2_comeDown yX2_comeDown, Cond.code yX2_comeDown cX2_comeDown 4 none, Cond.methodLink RX2 106 yX2_pour, Cond.instanceMethod yX2_pour, Cond.selects RX2 yX2_pour yX2_pour, Cond.code yX2_pour cX2_pour 3 none, Cond.methodLink RX2 119 Lib.Math.min.name, Cond.static Lib.Math.min.name, Cond.initialized "java/lang/Math", Cond.code Lib.Math.min.name Lib.Math.min.code 2 (some .int)]
def wsX5_dust_r3 : List Cond := [Cond.methodLink RX2 91 yX2_work, Cond.instanceMethod yX2_work, Cond.selects RX2 yX2_work yX2_work, Cond.code yX2_work cX2_work 4 none, Cond.methodLink RX2 68 yX2_placeOf, Cond.instanceMethod yX2_placeOf, Cond.selects RX2 yX2_placeOf yX2_placeOf, Cond.code yX2_placeOf cX2_placeOf 2 (some .int), Cond.methodLink RX2 55 yX4_hasBroom, Cond.instanceMethod yX4_hasBroom, Cond.selects RX4 yX4_hasBroom yX4_hasBroom, Cond.initialized RX4, Cond.code yX4_hasBroom cX4_hasBroom 2 (some .boolean), Cond.fieldLink RX4 30 "DustVote$Told" "brooms" "I", Cond.methodLink RX2 109 yX4_strengthOf, Cond.instanceMethod yX4_strengthOf, Cond.selects RX4 yX4_strengthOf yX4_strengthOf, Cond.code yX4_strengthOf cX4_strengthOf 2 (some .int), Cond.fieldLink RX4 18 "DustVote$Told" "strength" "[I", Cond.methodLink RX2 112 yX2_worksAs, Cond.instanceMethod yX2_worksAs, Cond.selects RX2 yX2_worksAs yX2_worksAs, Cond.code yX2_worksAs cX2_worksAs 3 (some .int), Cond.methodLink RX2 71 yX4_kindOf]
def wsX5_dust_r4 : List Cond := [Cond.instanceMethod yX4_kindOf, Cond.selects RX4 yX4_kindOf yX4_kindOf, Cond.code yX4_kindOf cX4_kindOf 2 (some .int), Cond.fieldLink RX4 21 "DustVote$Told" "kind" "[I", Cond.methodLink RX2 74 yX2_isBent, Cond.instanceMethod yX2_isBent, Cond.selects RX2 yX2_isBent yX2_isBent, Cond.code yX2_isBent cX2_isBent 2 (some .boolean), Cond.methodLink RX2 115 yX2_sweep, Cond.instanceMethod yX2_sweep, Cond.selects RX2 yX2_sweep yX2_sweep, Cond.code yX2_sweep cX2_sweep 4 (some .int), Cond.methodLink RX2 80 yX2_rightOf, Cond.static yX2_rightOf, Cond.code yX2_rightOf cX2_rightOf 1 (some .int), Cond.methodLink RX2 77 yX2_leftOf, Cond.static yX2_leftOf, Cond.code yX2_leftOf cX2_leftOf 1 (some .int), Cond.methodLink RX2 94 yX2_spread, Cond.instanceMethod yX2_spread, Cond.selects RX2 yX2_spread yX2_spread, Cond.code yX2_spread cX2_spread 2 none, Cond.fieldLink RX2 18 "DustVote$Moment" "deep" "[Z", Cond.methodLink RX5 97 yX2_dustIn]
def wsX5_dust_r5 : List Cond := [Cond.instanceMethod yX2_dustIn, Cond.selects RX2 yX2_dustIn yX2_dustIn, Cond.code yX2_dustIn cX2_dustIn 2 (some .int)]
def wsX5_dust : List Cond := .code yX5_dust cX5_dust 3 (some .int) :: ((wsX5_dust_r1 ++ (wsX5_dust_r2 ++ (wsX5_dust_r3 ++ (wsX5_dust_r4 ++ wsX5_dust_r5)))) ++ wsX50 ++ wsX20 ++ wsX40)
def wsX5_knees_r1 : List Cond := [Cond.methodLink RX5 61 yX5_within, Cond.static yX5_within, Cond.initialized RX5, Cond.code yX5_within cX5_within 3 (some .boolean), Cond.methodLink RX5 166 yX5_behind, Cond.instanceMethod yX5_behind, Cond.selects RX5 yX5_behind yX5_behind, Cond.code yX5_behind cX5_behind 5 (some (.object "DustVote$Moment")), Cond.methodLink RX5 173 yX5_fromNow, Cond.instanceMethod yX5_fromNow, Cond.selects RX5 yX5_fromNow yX5_fromNow, Cond.code yX5_fromNow cX5_fromNow 1 (some (.object "DustVote$Moment")), Cond.fieldLink RX5 32 "DustVote" "trial" "LDustVote$Moment;", Cond.fieldLink RX5 28 "DustVote" "now" "LDustVote$Moment;", Cond.methodLink RX5 247 yX2_copy, Cond.instanceMethod yX2_copy, Cond.selects RX2 yX2_copy yX2_copy, Cond.initialized RX2, Cond.code yX2_copy cX2_copy 2 none, Cond.fieldLink RX2 9 "DustVote$Moment" "dust" "[I", Cond.methodLink RX2 42 arraycopyName, Cond.native arraycopyName, Cond.static arraycopyName, Cond.initialized "java/lang/System"]
def wsX5_knees_r2 : List Cond := [Cond.fieldLink RX2 15 "DustVote$Moment" "place" "[I", Cond.fieldLink RX2 22 "DustVote$Moment" "given" "Z", Cond.fieldLink RX2 26 "DustVote$Moment" "bent" "I", Cond.fieldLink RX2 30 "DustVote$Moment" "dawns" "I", Cond.methodLink RX5 129 yX2_passDawn, Cond.instanceMethod yX2_passDawn, Cond.selects RX2 yX2_passDawn yX2_passDawn, Cond.code yX2_passDawn cX2_passDawn 4 none, Cond.fieldLink RX2 33 "DustVote$Moment" "told" "LDustVote$Told;", Cond.methodLink RX2 87 yX2_comeDown, Cond.instanceMethod yX2_comeDown, Cond.selects RX2 yX2_comeDown yX2_comeDown, Cond.code yX2_comeDown cX2_comeDown 4 none, Cond.methodLink RX2 106 yX2_pour, Cond.instanceMethod yX2_pour, Cond.selects RX2 yX2_pour yX2_pour, Cond.code yX2_pour cX2_pour 3 none, Cond.methodLink RX2 119 Lib.Math.min.name, Cond.static Lib.Math.min.name, Cond.initialized "java/lang/Math", Cond.code Lib.Math.min.name Lib.Math.min.code 2 (some .int), Cond.static yX5_isStreet, Cond.code yX5_isStreet cX5_isStreet 1 (some .boolean), Cond.methodLink RX2 91 yX2_work]
def wsX5_knees_r3 : List Cond := [Cond.instanceMethod yX2_work, Cond.selects RX2 yX2_work yX2_work, Cond.code yX2_work cX2_work 4 none, Cond.methodLink RX2 68 yX2_placeOf, Cond.instanceMethod yX2_placeOf, Cond.selects RX2 yX2_placeOf yX2_placeOf, Cond.code yX2_placeOf cX2_placeOf 2 (some .int), Cond.methodLink RX2 55 yX4_hasBroom, Cond.instanceMethod yX4_hasBroom, Cond.selects RX4 yX4_hasBroom yX4_hasBroom, Cond.initialized RX4, Cond.code yX4_hasBroom cX4_hasBroom 2 (some .boolean), Cond.fieldLink RX4 30 "DustVote$Told" "brooms" "I", Cond.methodLink RX2 109 yX4_strengthOf, Cond.instanceMethod yX4_strengthOf, Cond.selects RX4 yX4_strengthOf yX4_strengthOf, Cond.code yX4_strengthOf cX4_strengthOf 2 (some .int), Cond.fieldLink RX4 18 "DustVote$Told" "strength" "[I", Cond.methodLink RX2 112 yX2_worksAs, Cond.instanceMethod yX2_worksAs, Cond.selects RX2 yX2_worksAs yX2_worksAs, Cond.code yX2_worksAs cX2_worksAs 3 (some .int), Cond.methodLink RX2 71 yX4_kindOf, Cond.instanceMethod yX4_kindOf]
def wsX5_knees_r4 : List Cond := [Cond.selects RX4 yX4_kindOf yX4_kindOf, Cond.code yX4_kindOf cX4_kindOf 2 (some .int), Cond.fieldLink RX4 21 "DustVote$Told" "kind" "[I", Cond.methodLink RX2 74 yX2_isBent, Cond.instanceMethod yX2_isBent, Cond.selects RX2 yX2_isBent yX2_isBent, Cond.code yX2_isBent cX2_isBent 2 (some .boolean), Cond.methodLink RX2 115 yX2_sweep, Cond.instanceMethod yX2_sweep, Cond.selects RX2 yX2_sweep yX2_sweep, Cond.code yX2_sweep cX2_sweep 4 (some .int), Cond.methodLink RX2 80 yX2_rightOf, Cond.static yX2_rightOf, Cond.code yX2_rightOf cX2_rightOf 1 (some .int), Cond.methodLink RX2 77 yX2_leftOf, Cond.static yX2_leftOf, Cond.code yX2_leftOf cX2_leftOf 1 (some .int), Cond.methodLink RX2 94 yX2_spread, Cond.instanceMethod yX2_spread, Cond.selects RX2 yX2_spread yX2_spread, Cond.code yX2_spread cX2_spread 2 none, Cond.fieldLink RX2 18 "DustVote$Moment" "deep" "[Z", Cond.methodLink RX5 170 yX2_deepStreets, Cond.instanceMethod yX2_deepStreets]
def wsX5_knees_r5 : List Cond := [Cond.selects RX2 yX2_deepStreets yX2_deepStreets, Cond.code yX2_deepStreets cX2_deepStreets 3 (some .int), Cond.methodLink RX2 62 yX2_isDeep, Cond.instanceMethod yX2_isDeep, Cond.selects RX2 yX2_isDeep yX2_isDeep, Cond.code yX2_isDeep cX2_isDeep 2 (some .boolean), Cond.methodLink RX2 58 yX2_dustIn, Cond.instanceMethod yX2_dustIn, Cond.selects RX2 yX2_dustIn yX2_dustIn, Cond.code yX2_dustIn cX2_dustIn 2 (some .int)]
def wsX5_knees : List Cond := .code yX5_knees cX5_knees 2 (some .int) :: ((wsX5_knees_r1 ++ (wsX5_knees_r2 ++ (wsX5_knees_r3 ++ (wsX5_knees_r4 ++ wsX5_knees_r5)))) ++ wsX50 ++ wsX20 ++ wsX40)
def wsX5_knee_r1 : List Cond := [Cond.methodLink RX5 61 yX5_within, Cond.static yX5_within, Cond.initialized RX5, Cond.code yX5_within cX5_within 3 (some .boolean), Cond.methodLink RX5 173 yX5_fromNow, Cond.instanceMethod yX5_fromNow, Cond.selects RX5 yX5_fromNow yX5_fromNow, Cond.code yX5_fromNow cX5_fromNow 1 (some (.object "DustVote$Moment")), Cond.fieldLink RX5 32 "DustVote" "trial" "LDustVote$Moment;", Cond.fieldLink RX5 28 "DustVote" "now" "LDustVote$Moment;", Cond.methodLink RX5 247 yX2_copy, Cond.instanceMethod yX2_copy, Cond.selects RX2 yX2_copy yX2_copy, Cond.initialized RX2, Cond.code yX2_copy cX2_copy 2 none, Cond.fieldLink RX2 9 "DustVote$Moment" "dust" "[I", Cond.methodLink RX2 42 arraycopyName, Cond.native arraycopyName, Cond.static arraycopyName, Cond.initialized "java/lang/System", Cond.fieldLink RX2 15 "DustVote$Moment" "place" "[I", Cond.fieldLink RX2 22 "DustVote$Moment" "given" "Z", Cond.fieldLink RX2 26 "DustVote$Moment" "bent" "I", Cond.fieldLink RX2 30 "DustVote$Moment" "dawns" "I"]
def wsX5_knee_r2 : List Cond := [Cond.methodLink RX5 177 yX2_firstDeep, Cond.instanceMethod yX2_firstDeep, Cond.selects RX2 yX2_firstDeep yX2_firstDeep, Cond.code yX2_firstDeep cX2_firstDeep 2 (some .int), Cond.methodLink RX2 62 yX2_isDeep, Cond.instanceMethod yX2_isDeep, Cond.selects RX2 yX2_isDeep yX2_isDeep, Cond.code yX2_isDeep cX2_isDeep 2 (some .boolean), Cond.methodLink RX2 58 yX2_dustIn, Cond.instanceMethod yX2_dustIn, Cond.selects RX2 yX2_dustIn yX2_dustIn, Cond.code yX2_dustIn cX2_dustIn 2 (some .int), Cond.static yX5_isStreet, Cond.code yX5_isStreet cX5_isStreet 1 (some .boolean), Cond.methodLink RX5 129 yX2_passDawn, Cond.instanceMethod yX2_passDawn, Cond.selects RX2 yX2_passDawn yX2_passDawn, Cond.code yX2_passDawn cX2_passDawn 4 none, Cond.fieldLink RX2 33 "DustVote$Moment" "told" "LDustVote$Told;", Cond.methodLink RX2 87 yX2_comeDown, Cond.instanceMethod yX2_comeDown, Cond.selects RX2 yX2_comeDown yX2_comeDown, Cond.code yX2_comeDown cX2_comeDown 4 none, Cond.methodLink RX2 106 yX2_pour]
def wsX5_knee_r3 : List Cond := [Cond.instanceMethod yX2_pour, Cond.selects RX2 yX2_pour yX2_pour, Cond.code yX2_pour cX2_pour 3 none, Cond.methodLink RX2 119 Lib.Math.min.name, Cond.static Lib.Math.min.name, Cond.initialized "java/lang/Math", Cond.code Lib.Math.min.name Lib.Math.min.code 2 (some .int), Cond.methodLink RX2 91 yX2_work, Cond.instanceMethod yX2_work, Cond.selects RX2 yX2_work yX2_work, Cond.code yX2_work cX2_work 4 none, Cond.methodLink RX2 68 yX2_placeOf, Cond.instanceMethod yX2_placeOf, Cond.selects RX2 yX2_placeOf yX2_placeOf, Cond.code yX2_placeOf cX2_placeOf 2 (some .int), Cond.methodLink RX2 55 yX4_hasBroom, Cond.instanceMethod yX4_hasBroom, Cond.selects RX4 yX4_hasBroom yX4_hasBroom, Cond.initialized RX4, Cond.code yX4_hasBroom cX4_hasBroom 2 (some .boolean), Cond.fieldLink RX4 30 "DustVote$Told" "brooms" "I", Cond.methodLink RX2 109 yX4_strengthOf, Cond.instanceMethod yX4_strengthOf, Cond.selects RX4 yX4_strengthOf yX4_strengthOf]
def wsX5_knee_r4 : List Cond := [Cond.code yX4_strengthOf cX4_strengthOf 2 (some .int), Cond.fieldLink RX4 18 "DustVote$Told" "strength" "[I", Cond.methodLink RX2 112 yX2_worksAs, Cond.instanceMethod yX2_worksAs, Cond.selects RX2 yX2_worksAs yX2_worksAs, Cond.code yX2_worksAs cX2_worksAs 3 (some .int), Cond.methodLink RX2 71 yX4_kindOf, Cond.instanceMethod yX4_kindOf, Cond.selects RX4 yX4_kindOf yX4_kindOf, Cond.code yX4_kindOf cX4_kindOf 2 (some .int), Cond.fieldLink RX4 21 "DustVote$Told" "kind" "[I", Cond.methodLink RX2 74 yX2_isBent, Cond.instanceMethod yX2_isBent, Cond.selects RX2 yX2_isBent yX2_isBent, Cond.code yX2_isBent cX2_isBent 2 (some .boolean), Cond.methodLink RX2 115 yX2_sweep, Cond.instanceMethod yX2_sweep, Cond.selects RX2 yX2_sweep yX2_sweep, Cond.code yX2_sweep cX2_sweep 4 (some .int), Cond.methodLink RX2 80 yX2_rightOf, Cond.static yX2_rightOf, Cond.code yX2_rightOf cX2_rightOf 1 (some .int), Cond.methodLink RX2 77 yX2_leftOf, Cond.static yX2_leftOf]
def wsX5_knee_r5 : List Cond := [Cond.code yX2_leftOf cX2_leftOf 1 (some .int), Cond.methodLink RX2 94 yX2_spread, Cond.instanceMethod yX2_spread, Cond.selects RX2 yX2_spread yX2_spread, Cond.code yX2_spread cX2_spread 2 none, Cond.fieldLink RX2 18 "DustVote$Moment" "deep" "[Z"]
def wsX5_knee : List Cond := .code yX5_knee cX5_knee 5 (some .int) :: ((wsX5_knee_r1 ++ (wsX5_knee_r2 ++ (wsX5_knee_r3 ++ (wsX5_knee_r4 ++ wsX5_knee_r5)))) ++ wsX50 ++ wsX20 ++ wsX40)
def wsX5_best_r1 : List Cond := [Cond.fieldLink RX5 19 "DustVote" "told" "LDustVote$Told;", Cond.methodLink RX5 107 yX4_hasBroom, Cond.instanceMethod yX4_hasBroom, Cond.selects RX4 yX4_hasBroom yX4_hasBroom, Cond.initialized RX4, Cond.code yX4_hasBroom cX4_hasBroom 2 (some .boolean), Cond.fieldLink RX4 30 "DustVote$Told" "brooms" "I", Cond.methodLink RX5 61 yX5_within, Cond.static yX5_within, Cond.initialized RX5, Cond.code yX5_within cX5_within 3 (some .boolean), Cond.methodLink RX5 173 yX5_fromNow, Cond.instanceMethod yX5_fromNow, Cond.selects RX5 yX5_fromNow yX5_fromNow, Cond.code yX5_fromNow cX5_fromNow 1 (some (.object "DustVote$Moment")), Cond.fieldLink RX5 32 "DustVote" "trial" "LDustVote$Moment;", Cond.fieldLink RX5 28 "DustVote" "now" "LDustVote$Moment;", Cond.methodLink RX5 247 yX2_copy, Cond.instanceMethod yX2_copy, Cond.selects RX2 yX2_copy yX2_copy, Cond.initialized RX2, Cond.code yX2_copy cX2_copy 2 none, Cond.fieldLink RX2 9 "DustVote$Moment" "dust" "[I", Cond.methodLink RX2 42 arraycopyName]
def wsX5_best_r2 : List Cond := [Cond.native arraycopyName, Cond.static arraycopyName, Cond.initialized "java/lang/System", Cond.fieldLink RX2 15 "DustVote$Moment" "place" "[I", Cond.fieldLink RX2 22 "DustVote$Moment" "given" "Z", Cond.fieldLink RX2 26 "DustVote$Moment" "bent" "I", Cond.fieldLink RX2 30 "DustVote$Moment" "dawns" "I", Cond.methodLink RX5 180 yX2_goTo, Cond.instanceMethod yX2_goTo, Cond.selects RX2 yX2_goTo yX2_goTo, Cond.code yX2_goTo cX2_goTo 3 none, Cond.fieldLink RX2 33 "DustVote$Moment" "told" "LDustVote$Told;", Cond.methodLink RX2 55 yX4_hasBroom, Cond.methodLink RX5 129 yX2_passDawn, Cond.instanceMethod yX2_passDawn, Cond.selects RX2 yX2_passDawn yX2_passDawn, Cond.code yX2_passDawn cX2_passDawn 4 none, Cond.methodLink RX2 87 yX2_comeDown, Cond.instanceMethod yX2_comeDown, Cond.selects RX2 yX2_comeDown yX2_comeDown, Cond.code yX2_comeDown cX2_comeDown 4 none, Cond.methodLink RX2 106 yX2_pour, Cond.instanceMethod yX2_pour, Cond.selects RX2 yX2_pour yX2_pour]
def wsX5_best_r3 : List Cond := [Cond.code yX2_pour cX2_pour 3 none, Cond.methodLink RX2 119 Lib.Math.min.name, Cond.static Lib.Math.min.name, Cond.initialized "java/lang/Math", Cond.code Lib.Math.min.name Lib.Math.min.code 2 (some .int), Cond.static yX5_isStreet, Cond.code yX5_isStreet cX5_isStreet 1 (some .boolean), Cond.methodLink RX2 91 yX2_work, Cond.instanceMethod yX2_work, Cond.selects RX2 yX2_work yX2_work, Cond.code yX2_work cX2_work 4 none, Cond.methodLink RX2 68 yX2_placeOf, Cond.instanceMethod yX2_placeOf, Cond.selects RX2 yX2_placeOf yX2_placeOf, Cond.code yX2_placeOf cX2_placeOf 2 (some .int), Cond.methodLink RX2 109 yX4_strengthOf, Cond.instanceMethod yX4_strengthOf, Cond.selects RX4 yX4_strengthOf yX4_strengthOf, Cond.code yX4_strengthOf cX4_strengthOf 2 (some .int), Cond.fieldLink RX4 18 "DustVote$Told" "strength" "[I", Cond.methodLink RX2 112 yX2_worksAs, Cond.instanceMethod yX2_worksAs, Cond.selects RX2 yX2_worksAs yX2_worksAs, Cond.code yX2_worksAs cX2_worksAs 3 (some .int)]
def wsX5_best_r4 : List Cond := [Cond.methodLink RX2 71 yX4_kindOf, Cond.instanceMethod yX4_kindOf, Cond.selects RX4 yX4_kindOf yX4_kindOf, Cond.code yX4_kindOf cX4_kindOf 2 (some .int), Cond.fieldLink RX4 21 "DustVote$Told" "kind" "[I", Cond.methodLink RX2 74 yX2_isBent, Cond.instanceMethod yX2_isBent, Cond.selects RX2 yX2_isBent yX2_isBent, Cond.code yX2_isBent cX2_isBent 2 (some .boolean), Cond.methodLink RX2 115 yX2_sweep, Cond.instanceMethod yX2_sweep, Cond.selects RX2 yX2_sweep yX2_sweep, Cond.code yX2_sweep cX2_sweep 4 (some .int), Cond.methodLink RX2 80 yX2_rightOf, Cond.static yX2_rightOf, Cond.code yX2_rightOf cX2_rightOf 1 (some .int), Cond.methodLink RX2 77 yX2_leftOf, Cond.static yX2_leftOf, Cond.code yX2_leftOf cX2_leftOf 1 (some .int), Cond.methodLink RX2 94 yX2_spread, Cond.instanceMethod yX2_spread, Cond.selects RX2 yX2_spread yX2_spread, Cond.code yX2_spread cX2_spread 2 none, Cond.fieldLink RX2 18 "DustVote$Moment" "deep" "[Z"]
def wsX5_best_r5 : List Cond := [Cond.methodLink RX5 133 yX2_allDust, Cond.instanceMethod yX2_allDust, Cond.selects RX2 yX2_allDust yX2_allDust, Cond.code yX2_allDust cX2_allDust 3 (some .int)]
def wsX5_best : List Cond := .code yX5_best cX5_best 9 (some .int) :: ((wsX5_best_r1 ++ (wsX5_best_r2 ++ (wsX5_best_r3 ++ (wsX5_best_r4 ++ wsX5_best_r5)))) ++ wsX50 ++ wsX40 ++ wsX20)
def wsX5_staysShallow_r1 : List Cond := [Cond.methodLink RX5 173 yX5_fromNow, Cond.instanceMethod yX5_fromNow, Cond.selects RX5 yX5_fromNow yX5_fromNow, Cond.initialized RX5, Cond.code yX5_fromNow cX5_fromNow 1 (some (.object "DustVote$Moment")), Cond.fieldLink RX5 32 "DustVote" "trial" "LDustVote$Moment;", Cond.fieldLink RX5 28 "DustVote" "now" "LDustVote$Moment;", Cond.methodLink RX5 247 yX2_copy, Cond.instanceMethod yX2_copy, Cond.selects RX2 yX2_copy yX2_copy, Cond.initialized RX2, Cond.code yX2_copy cX2_copy 2 none, Cond.fieldLink RX2 9 "DustVote$Moment" "dust" "[I", Cond.methodLink RX2 42 arraycopyName, Cond.native arraycopyName, Cond.static arraycopyName, Cond.initialized "java/lang/System", Cond.fieldLink RX2 15 "DustVote$Moment" "place" "[I", Cond.fieldLink RX2 22 "DustVote$Moment" "given" "Z", Cond.fieldLink RX2 26 "DustVote$Moment" "bent" "I", Cond.fieldLink RX2 30 "DustVote$Moment" "dawns" "I", Cond.methodLink RX5 146 yX2_bow, Cond.instanceMethod yX2_bow, Cond.selects RX2 yX2_bow yX2_bow]
def wsX5_staysShallow_r2 : List Cond := [Cond.code yX2_bow cX2_bow 2 none, Cond.methodLink RX5 129 yX2_passDawn, Cond.instanceMethod yX2_passDawn, Cond.selects RX2 yX2_passDawn yX2_passDawn, Cond.code yX2_passDawn cX2_passDawn 4 none, Cond.fieldLink RX2 33 "DustVote$Moment" "told" "LDustVote$Told;", Cond.methodLink RX2 87 yX2_comeDown, Cond.instanceMethod yX2_comeDown, Cond.selects RX2 yX2_comeDown yX2_comeDown, Cond.code yX2_comeDown cX2_comeDown 4 none, Cond.methodLink RX2 106 yX2_pour, Cond.instanceMethod yX2_pour, Cond.selects RX2 yX2_pour yX2_pour, Cond.code yX2_pour cX2_pour 3 none, Cond.methodLink RX2 119 Lib.Math.min.name, Cond.static Lib.Math.min.name, Cond.initialized "java/lang/Math", Cond.code Lib.Math.min.name Lib.Math.min.code 2 (some .int), Cond.static yX5_isStreet, Cond.code yX5_isStreet cX5_isStreet 1 (some .boolean), Cond.methodLink RX2 91 yX2_work, Cond.instanceMethod yX2_work, Cond.selects RX2 yX2_work yX2_work, Cond.code yX2_work cX2_work 4 none]
def wsX5_staysShallow_r3 : List Cond := [Cond.methodLink RX2 68 yX2_placeOf, Cond.instanceMethod yX2_placeOf, Cond.selects RX2 yX2_placeOf yX2_placeOf, Cond.code yX2_placeOf cX2_placeOf 2 (some .int), Cond.methodLink RX2 55 yX4_hasBroom, Cond.instanceMethod yX4_hasBroom, Cond.selects RX4 yX4_hasBroom yX4_hasBroom, Cond.initialized RX4, Cond.code yX4_hasBroom cX4_hasBroom 2 (some .boolean), Cond.fieldLink RX4 30 "DustVote$Told" "brooms" "I", Cond.methodLink RX2 109 yX4_strengthOf, Cond.instanceMethod yX4_strengthOf, Cond.selects RX4 yX4_strengthOf yX4_strengthOf, Cond.code yX4_strengthOf cX4_strengthOf 2 (some .int), Cond.fieldLink RX4 18 "DustVote$Told" "strength" "[I", Cond.methodLink RX2 112 yX2_worksAs, Cond.instanceMethod yX2_worksAs, Cond.selects RX2 yX2_worksAs yX2_worksAs, Cond.code yX2_worksAs cX2_worksAs 3 (some .int), Cond.methodLink RX2 71 yX4_kindOf, Cond.instanceMethod yX4_kindOf, Cond.selects RX4 yX4_kindOf yX4_kindOf, Cond.code yX4_kindOf cX4_kindOf 2 (some .int), Cond.fieldLink RX4 21 "DustVote$Told" "kind" "[I"]
def wsX5_staysShallow_r4 : List Cond := [Cond.methodLink RX2 74 yX2_isBent, Cond.instanceMethod yX2_isBent, Cond.selects RX2 yX2_isBent yX2_isBent, Cond.code yX2_isBent cX2_isBent 2 (some .boolean), Cond.methodLink RX2 115 yX2_sweep, Cond.instanceMethod yX2_sweep, Cond.selects RX2 yX2_sweep yX2_sweep, Cond.code yX2_sweep cX2_sweep 4 (some .int), Cond.methodLink RX2 80 yX2_rightOf, Cond.static yX2_rightOf, Cond.code yX2_rightOf cX2_rightOf 1 (some .int), Cond.methodLink RX2 77 yX2_leftOf, Cond.static yX2_leftOf, Cond.code yX2_leftOf cX2_leftOf 1 (some .int), Cond.methodLink RX2 94 yX2_spread, Cond.instanceMethod yX2_spread, Cond.selects RX2 yX2_spread yX2_spread, Cond.code yX2_spread cX2_spread 2 none, Cond.fieldLink RX2 18 "DustVote$Moment" "deep" "[Z", Cond.methodLink RX5 177 yX2_firstDeep, Cond.instanceMethod yX2_firstDeep, Cond.selects RX2 yX2_firstDeep yX2_firstDeep, Cond.code yX2_firstDeep cX2_firstDeep 2 (some .int), Cond.methodLink RX2 62 yX2_isDeep]
def wsX5_staysShallow_r5 : List Cond := [Cond.instanceMethod yX2_isDeep, Cond.selects RX2 yX2_isDeep yX2_isDeep, Cond.code yX2_isDeep cX2_isDeep 2 (some .boolean), Cond.methodLink RX2 58 yX2_dustIn, Cond.instanceMethod yX2_dustIn, Cond.selects RX2 yX2_dustIn yX2_dustIn, Cond.code yX2_dustIn cX2_dustIn 2 (some .int)]
def wsX5_staysShallow : List Cond := .code yX5_staysShallow cX5_staysShallow 5 (some .boolean) :: ((wsX5_staysShallow_r1 ++ (wsX5_staysShallow_r2 ++ (wsX5_staysShallow_r3 ++ (wsX5_staysShallow_r4 ++ wsX5_staysShallow_r5)))) ++ wsX50 ++ wsX20 ++ wsX40)
def wsX5_bends_r1 : List Cond := [Cond.fieldLink RX5 19 "DustVote" "told" "LDustVote$Told;", Cond.fieldLink RX5 28 "DustVote" "now" "LDustVote$Moment;", Cond.methodLink RX5 61 yX5_within, Cond.static yX5_within, Cond.initialized RX5, Cond.code yX5_within cX5_within 3 (some .boolean), Cond.methodLink RX5 152 yJ6_bitCount_0f7a4, Cond.static yJ6_bitCount_0f7a4, Cond.initialized RJ6, Cond.code yJ6_bitCount_0f7a4 cJ6_bitCount_0f7a4 1 (some .int), Cond.constant RJ6 265 (1431655765), Cond.constant RJ6 266 (858993459), Cond.constant RJ6 267 (252645135), Cond.methodLink RX5 183 yX5_staysShallow, Cond.instanceMethod yX5_staysShallow, Cond.selects RX5 yX5_staysShallow yX5_staysShallow, Cond.code yX5_staysShallow cX5_staysShallow 5 (some .boolean), Cond.methodLink RX5 173 yX5_fromNow, Cond.instanceMethod yX5_fromNow, Cond.selects RX5 yX5_fromNow yX5_fromNow, Cond.code yX5_fromNow cX5_fromNow 1 (some (.object "DustVote$Moment")), Cond.fieldLink RX5 32 "DustVote" "trial" "LDustVote$Moment;", Cond.methodLink RX5 247 yX2_copy, Cond.instanceMethod yX2_copy]
def wsX5_bends_r2 : List Cond := [Cond.selects RX2 yX2_copy yX2_copy, Cond.initialized RX2, Cond.code yX2_copy cX2_copy 2 none, Cond.fieldLink RX2 9 "DustVote$Moment" "dust" "[I", Cond.methodLink RX2 42 arraycopyName, Cond.native arraycopyName, Cond.static arraycopyName, Cond.initialized "java/lang/System", Cond.fieldLink RX2 15 "DustVote$Moment" "place" "[I", Cond.fieldLink RX2 22 "DustVote$Moment" "given" "Z", Cond.fieldLink RX2 26 "DustVote$Moment" "bent" "I", Cond.fieldLink RX2 30 "DustVote$Moment" "dawns" "I", Cond.methodLink RX5 146 yX2_bow, Cond.instanceMethod yX2_bow, Cond.selects RX2 yX2_bow yX2_bow, Cond.code yX2_bow cX2_bow 2 none, Cond.methodLink RX5 129 yX2_passDawn, Cond.instanceMethod yX2_passDawn, Cond.selects RX2 yX2_passDawn yX2_passDawn, Cond.code yX2_passDawn cX2_passDawn 4 none, Cond.fieldLink RX2 33 "DustVote$Moment" "told" "LDustVote$Told;", Cond.methodLink RX2 87 yX2_comeDown, Cond.instanceMethod yX2_comeDown, Cond.selects RX2 yX2_comeDown yX2_comeDown]
def wsX5_bends_r3 : List Cond := [Cond.code yX2_comeDown cX2_comeDown 4 none, Cond.methodLink RX2 106 yX2_pour, Cond.instanceMethod yX2_pour, Cond.selects RX2 yX2_pour yX2_pour, Cond.code yX2_pour cX2_pour 3 none, Cond.methodLink RX2 119 Lib.Math.min.name, Cond.static Lib.Math.min.name, Cond.initialized "java/lang/Math", Cond.code Lib.Math.min.name Lib.Math.min.code 2 (some .int), Cond.static yX5_isStreet, Cond.code yX5_isStreet cX5_isStreet 1 (some .boolean), Cond.methodLink RX2 91 yX2_work, Cond.instanceMethod yX2_work, Cond.selects RX2 yX2_work yX2_work, Cond.code yX2_work cX2_work 4 none, Cond.methodLink RX2 68 yX2_placeOf, Cond.instanceMethod yX2_placeOf, Cond.selects RX2 yX2_placeOf yX2_placeOf, Cond.code yX2_placeOf cX2_placeOf 2 (some .int), Cond.methodLink RX2 55 yX4_hasBroom, Cond.instanceMethod yX4_hasBroom, Cond.selects RX4 yX4_hasBroom yX4_hasBroom, Cond.initialized RX4, Cond.code yX4_hasBroom cX4_hasBroom 2 (some .boolean)]
def wsX5_bends_r4 : List Cond := [Cond.fieldLink RX4 30 "DustVote$Told" "brooms" "I", Cond.methodLink RX2 109 yX4_strengthOf, Cond.instanceMethod yX4_strengthOf, Cond.selects RX4 yX4_strengthOf yX4_strengthOf, Cond.code yX4_strengthOf cX4_strengthOf 2 (some .int), Cond.fieldLink RX4 18 "DustVote$Told" "strength" "[I", Cond.methodLink RX2 112 yX2_worksAs, Cond.instanceMethod yX2_worksAs, Cond.selects RX2 yX2_worksAs yX2_worksAs, Cond.code yX2_worksAs cX2_worksAs 3 (some .int), Cond.methodLink RX2 71 yX4_kindOf, Cond.instanceMethod yX4_kindOf, Cond.selects RX4 yX4_kindOf yX4_kindOf, Cond.code yX4_kindOf cX4_kindOf 2 (some .int), Cond.fieldLink RX4 21 "DustVote$Told" "kind" "[I", Cond.methodLink RX2 74 yX2_isBent, Cond.instanceMethod yX2_isBent, Cond.selects RX2 yX2_isBent yX2_isBent, Cond.code yX2_isBent cX2_isBent 2 (some .boolean), Cond.methodLink RX2 115 yX2_sweep, Cond.instanceMethod yX2_sweep, Cond.selects RX2 yX2_sweep yX2_sweep, Cond.code yX2_sweep cX2_sweep 4 (some .int), Cond.methodLink RX2 80 yX2_rightOf]
def wsX5_bends_r5 : List Cond := [Cond.static yX2_rightOf, Cond.code yX2_rightOf cX2_rightOf 1 (some .int), Cond.methodLink RX2 77 yX2_leftOf, Cond.static yX2_leftOf, Cond.code yX2_leftOf cX2_leftOf 1 (some .int), Cond.methodLink RX2 94 yX2_spread, Cond.instanceMethod yX2_spread, Cond.selects RX2 yX2_spread yX2_spread, Cond.code yX2_spread cX2_spread 2 none, Cond.fieldLink RX2 18 "DustVote$Moment" "deep" "[Z", Cond.methodLink RX5 177 yX2_firstDeep, Cond.instanceMethod yX2_firstDeep, Cond.selects RX2 yX2_firstDeep yX2_firstDeep, Cond.code yX2_firstDeep cX2_firstDeep 2 (some .int), Cond.methodLink RX2 62 yX2_isDeep, Cond.instanceMethod yX2_isDeep, Cond.selects RX2 yX2_isDeep yX2_isDeep, Cond.code yX2_isDeep cX2_isDeep 2 (some .boolean), Cond.methodLink RX2 58 yX2_dustIn, Cond.instanceMethod yX2_dustIn, Cond.selects RX2 yX2_dustIn yX2_dustIn, Cond.code yX2_dustIn cX2_dustIn 2 (some .int)]
def wsX5_bends : List Cond := .code yX5_bends cX5_bends 6 (some .int) :: ((wsX5_bends_r1 ++ (wsX5_bends_r2 ++ (wsX5_bends_r3 ++ (wsX5_bends_r4 ++ wsX5_bends_r5)))) ++ wsX50 ++ wsX40 ++ wsX20)
def wsX5_power : List Cond := .code yX5_power cX5_power 5 (some .long) :: ([])
def wsX5_tryStep_r1 : List Cond := [Cond.fieldLink RX5 19 "DustVote" "told" "LDustVote$Told;", Cond.methodLink RX5 107 yX4_hasBroom, Cond.instanceMethod yX4_hasBroom, Cond.selects RX4 yX4_hasBroom yX4_hasBroom, Cond.initialized RX4, Cond.code yX4_hasBroom cX4_hasBroom 2 (some .boolean), Cond.fieldLink RX4 30 "DustVote$Told" "brooms" "I", Cond.methodLink RX5 61 yX5_within, Cond.static yX5_within, Cond.initialized RX5, Cond.code yX5_within cX5_within 3 (some .boolean), Cond.methodLink RX5 136 yX2_step, Cond.instanceMethod yX2_step, Cond.selects RX2 yX2_step yX2_step, Cond.initialized RX2, Cond.code yX2_step cX2_step 4 none, Cond.methodLink RX2 68 yX2_placeOf, Cond.instanceMethod yX2_placeOf, Cond.selects RX2 yX2_placeOf yX2_placeOf, Cond.code yX2_placeOf cX2_placeOf 2 (some .int), Cond.fieldLink RX2 33 "DustVote$Moment" "told" "LDustVote$Told;", Cond.fieldLink RX2 15 "DustVote$Moment" "place" "[I", Cond.methodLink RX2 55 yX4_hasBroom, Cond.methodLink RX2 77 yX2_leftOf]
def wsX5_tryStep_r2 : List Cond := [Cond.static yX2_leftOf, Cond.code yX2_leftOf cX2_leftOf 1 (some .int), Cond.methodLink RX2 80 yX2_rightOf, Cond.static yX2_rightOf, Cond.code yX2_rightOf cX2_rightOf 1 (some .int), Cond.methodLink RX2 83 yX2_goTo, Cond.instanceMethod yX2_goTo, Cond.selects RX2 yX2_goTo yX2_goTo, Cond.code yX2_goTo cX2_goTo 3 none]
def wsX5_tryStep : List Cond := .code yX5_tryStep cX5_tryStep 4 (some .boolean) :: ((wsX5_tryStep_r1 ++ wsX5_tryStep_r2) ++ wsX50 ++ wsX40 ++ wsX20)
def wsX5_tryDawn_r1 : List Cond := [Cond.methodLink RX5 129 yX2_passDawn, Cond.instanceMethod yX2_passDawn, Cond.selects RX2 yX2_passDawn yX2_passDawn, Cond.initialized RX2, Cond.code yX2_passDawn cX2_passDawn 4 none, Cond.fieldLink RX2 33 "DustVote$Moment" "told" "LDustVote$Told;", Cond.fieldLink RX2 30 "DustVote$Moment" "dawns" "I", Cond.methodLink RX2 87 yX2_comeDown, Cond.instanceMethod yX2_comeDown, Cond.selects RX2 yX2_comeDown yX2_comeDown, Cond.code yX2_comeDown cX2_comeDown 4 none, Cond.methodLink RX2 106 yX2_pour, Cond.instanceMethod yX2_pour, Cond.selects RX2 yX2_pour yX2_pour, Cond.code yX2_pour cX2_pour 3 none, Cond.fieldLink RX2 9 "DustVote$Moment" "dust" "[I", Cond.methodLink RX2 119 Lib.Math.min.name, Cond.static Lib.Math.min.name, Cond.initialized "java/lang/Math", Cond.code Lib.Math.min.name Lib.Math.min.code 2 (some .int), Cond.static yX5_isStreet, Cond.initialized RX5, Cond.code yX5_isStreet cX5_isStreet 1 (some .boolean), Cond.methodLink RX2 91 yX2_work]
def wsX5_tryDawn_r2 : List Cond := [Cond.instanceMethod yX2_work, Cond.selects RX2 yX2_work yX2_work, Cond.code yX2_work cX2_work 4 none, Cond.methodLink RX2 68 yX2_placeOf, Cond.instanceMethod yX2_placeOf, Cond.selects RX2 yX2_placeOf yX2_placeOf, Cond.code yX2_placeOf cX2_placeOf 2 (some .int), Cond.fieldLink RX2 15 "DustVote$Moment" "place" "[I", Cond.methodLink RX2 55 yX4_hasBroom, Cond.instanceMethod yX4_hasBroom, Cond.selects RX4 yX4_hasBroom yX4_hasBroom, Cond.initialized RX4, Cond.code yX4_hasBroom cX4_hasBroom 2 (some .boolean), Cond.fieldLink RX4 30 "DustVote$Told" "brooms" "I", Cond.methodLink RX2 109 yX4_strengthOf, Cond.instanceMethod yX4_strengthOf, Cond.selects RX4 yX4_strengthOf yX4_strengthOf, Cond.code yX4_strengthOf cX4_strengthOf 2 (some .int), Cond.fieldLink RX4 18 "DustVote$Told" "strength" "[I", Cond.methodLink RX2 112 yX2_worksAs, Cond.instanceMethod yX2_worksAs, Cond.selects RX2 yX2_worksAs yX2_worksAs, Cond.code yX2_worksAs cX2_worksAs 3 (some .int), Cond.fieldLink RX2 22 "DustVote$Moment" "given" "Z"]
def wsX5_tryDawn_r3 : List Cond := [Cond.methodLink RX2 71 yX4_kindOf, Cond.instanceMethod yX4_kindOf, Cond.selects RX4 yX4_kindOf yX4_kindOf, Cond.code yX4_kindOf cX4_kindOf 2 (some .int), Cond.fieldLink RX4 21 "DustVote$Told" "kind" "[I", Cond.methodLink RX2 74 yX2_isBent, Cond.instanceMethod yX2_isBent, Cond.selects RX2 yX2_isBent yX2_isBent, Cond.code yX2_isBent cX2_isBent 2 (some .boolean), Cond.fieldLink RX2 26 "DustVote$Moment" "bent" "I", Cond.methodLink RX2 115 yX2_sweep, Cond.instanceMethod yX2_sweep, Cond.selects RX2 yX2_sweep yX2_sweep, Cond.code yX2_sweep cX2_sweep 4 (some .int), Cond.methodLink RX2 80 yX2_rightOf, Cond.static yX2_rightOf, Cond.code yX2_rightOf cX2_rightOf 1 (some .int), Cond.methodLink RX2 77 yX2_leftOf, Cond.static yX2_leftOf, Cond.code yX2_leftOf cX2_leftOf 1 (some .int), Cond.methodLink RX2 94 yX2_spread, Cond.instanceMethod yX2_spread, Cond.selects RX2 yX2_spread yX2_spread, Cond.code yX2_spread cX2_spread 2 none]
def wsX5_tryDawn_r4 : List Cond := [Cond.fieldLink RX2 18 "DustVote$Moment" "deep" "[Z"]
def wsX5_tryDawn : List Cond := .code yX5_tryDawn cX5_tryDawn 2 (some .boolean) :: ((wsX5_tryDawn_r1 ++ (wsX5_tryDawn_r2 ++ (wsX5_tryDawn_r3 ++ wsX5_tryDawn_r4))) ++ wsX20 ++ wsX40)
def wsX5_tryVote : List Cond := .code yX5_tryVote cX5_tryVote 2 (some .boolean) :: ([.methodLink RX5 139 yX2_turnVote, .instanceMethod yX2_turnVote, .selects RX2 yX2_turnVote yX2_turnVote, .initialized RX2, .code yX2_turnVote cX2_turnVote 1 none, .fieldLink RX2 22 "DustVote$Moment" "given" "Z"] ++ wsX20)
def wsX5_tryBow : List Cond := .code yX5_tryBow cX5_tryBow 3 (some .boolean) :: ([.fieldLink RX5 19 "DustVote" "told" "LDustVote$Told;", .methodLink RX5 107 yX4_hasBroom, .instanceMethod yX4_hasBroom, .selects RX4 yX4_hasBroom yX4_hasBroom, .initialized RX4, .code yX4_hasBroom cX4_hasBroom 2 (some .boolean), .fieldLink RX4 30 "DustVote$Told" "brooms" "I", .methodLink RX5 119 yX2_isBent, .instanceMethod yX2_isBent, .selects RX2 yX2_isBent yX2_isBent, .initialized RX2, .code yX2_isBent cX2_isBent 2 (some .boolean), .fieldLink RX2 26 "DustVote$Moment" "bent" "I", .methodLink RX5 146 yX2_bow, .instanceMethod yX2_bow, .selects RX2 yX2_bow yX2_bow, .code yX2_bow cX2_bow 2 none] ++ wsX50 ++ wsX40 ++ wsX20)
def wsX5_tryEmpty : List Cond := .code yX5_tryEmpty cX5_tryEmpty 3 (some .boolean) :: ([.methodLink RX5 93 yX5_isStreet, .static yX5_isStreet, .initialized RX5, .code yX5_isStreet cX5_isStreet 1 (some .boolean), .methodLink RX5 97 yX2_dustIn, .instanceMethod yX2_dustIn, .selects RX2 yX2_dustIn yX2_dustIn, .initialized RX2, .code yX2_dustIn cX2_dustIn 2 (some .int), .fieldLink RX2 9 "DustVote$Moment" "dust" "[I", .methodLink RX5 157 yX2_empty, .instanceMethod yX2_empty, .selects RX2 yX2_empty yX2_empty, .code yX2_empty cX2_empty 2 none] ++ wsX20)
def wsX5_isSo_r1 : List Cond := [Cond.methodLink RX5 250 yX5_tryStep, Cond.instanceMethod yX5_tryStep, Cond.selects RX5 yX5_tryStep yX5_tryStep, Cond.initialized RX5, Cond.code yX5_tryStep cX5_tryStep 4 (some .boolean), Cond.fieldLink RX5 19 "DustVote" "told" "LDustVote$Told;", Cond.methodLink RX5 107 yX4_hasBroom, Cond.instanceMethod yX4_hasBroom, Cond.selects RX4 yX4_hasBroom yX4_hasBroom, Cond.initialized RX4, Cond.code yX4_hasBroom cX4_hasBroom 2 (some .boolean), Cond.fieldLink RX4 30 "DustVote$Told" "brooms" "I", Cond.methodLink RX5 61 yX5_within, Cond.static yX5_within, Cond.code yX5_within cX5_within 3 (some .boolean), Cond.methodLink RX5 136 yX2_step, Cond.instanceMethod yX2_step, Cond.selects RX2 yX2_step yX2_step, Cond.initialized RX2, Cond.code yX2_step cX2_step 4 none, Cond.methodLink RX2 68 yX2_placeOf, Cond.instanceMethod yX2_placeOf, Cond.selects RX2 yX2_placeOf yX2_placeOf, Cond.code yX2_placeOf cX2_placeOf 2 (some .int)]
def wsX5_isSo_r2 : List Cond := [Cond.fieldLink RX2 33 "DustVote$Moment" "told" "LDustVote$Told;", Cond.fieldLink RX2 15 "DustVote$Moment" "place" "[I", Cond.methodLink RX2 55 yX4_hasBroom, Cond.methodLink RX2 77 yX2_leftOf, Cond.static yX2_leftOf, Cond.code yX2_leftOf cX2_leftOf 1 (some .int), Cond.methodLink RX2 80 yX2_rightOf, Cond.static yX2_rightOf, Cond.code yX2_rightOf cX2_rightOf 1 (some .int), Cond.methodLink RX2 83 yX2_goTo, Cond.instanceMethod yX2_goTo, Cond.selects RX2 yX2_goTo yX2_goTo, Cond.code yX2_goTo cX2_goTo 3 none, Cond.methodLink RX5 93 yX5_isStreet, Cond.static yX5_isStreet, Cond.code yX5_isStreet cX5_isStreet 1 (some .boolean), Cond.methodLink RX5 97 yX2_dustIn, Cond.instanceMethod yX2_dustIn, Cond.selects RX2 yX2_dustIn yX2_dustIn, Cond.code yX2_dustIn cX2_dustIn 2 (some .int), Cond.fieldLink RX2 9 "DustVote$Moment" "dust" "[I", Cond.methodLink RX5 254 yX5_tryDawn, Cond.instanceMethod yX5_tryDawn, Cond.selects RX5 yX5_tryDawn yX5_tryDawn]
def wsX5_isSo_r3 : List Cond := [Cond.code yX5_tryDawn cX5_tryDawn 2 (some .boolean), Cond.methodLink RX5 129 yX2_passDawn, Cond.instanceMethod yX2_passDawn, Cond.selects RX2 yX2_passDawn yX2_passDawn, Cond.code yX2_passDawn cX2_passDawn 4 none, Cond.fieldLink RX2 30 "DustVote$Moment" "dawns" "I", Cond.methodLink RX2 87 yX2_comeDown, Cond.instanceMethod yX2_comeDown, Cond.selects RX2 yX2_comeDown yX2_comeDown, Cond.code yX2_comeDown cX2_comeDown 4 none, Cond.methodLink RX2 106 yX2_pour, Cond.instanceMethod yX2_pour, Cond.selects RX2 yX2_pour yX2_pour, Cond.code yX2_pour cX2_pour 3 none, Cond.methodLink RX2 119 Lib.Math.min.name, Cond.static Lib.Math.min.name, Cond.initialized "java/lang/Math", Cond.code Lib.Math.min.name Lib.Math.min.code 2 (some .int), Cond.methodLink RX2 91 yX2_work, Cond.instanceMethod yX2_work, Cond.selects RX2 yX2_work yX2_work, Cond.code yX2_work cX2_work 4 none, Cond.methodLink RX2 109 yX4_strengthOf, Cond.instanceMethod yX4_strengthOf]
def wsX5_isSo_r4 : List Cond := [Cond.selects RX4 yX4_strengthOf yX4_strengthOf, Cond.code yX4_strengthOf cX4_strengthOf 2 (some .int), Cond.fieldLink RX4 18 "DustVote$Told" "strength" "[I", Cond.methodLink RX2 112 yX2_worksAs, Cond.instanceMethod yX2_worksAs, Cond.selects RX2 yX2_worksAs yX2_worksAs, Cond.code yX2_worksAs cX2_worksAs 3 (some .int), Cond.fieldLink RX2 22 "DustVote$Moment" "given" "Z", Cond.methodLink RX2 71 yX4_kindOf, Cond.instanceMethod yX4_kindOf, Cond.selects RX4 yX4_kindOf yX4_kindOf, Cond.code yX4_kindOf cX4_kindOf 2 (some .int), Cond.fieldLink RX4 21 "DustVote$Told" "kind" "[I", Cond.methodLink RX2 74 yX2_isBent, Cond.instanceMethod yX2_isBent, Cond.selects RX2 yX2_isBent yX2_isBent, Cond.code yX2_isBent cX2_isBent 2 (some .boolean), Cond.fieldLink RX2 26 "DustVote$Moment" "bent" "I", Cond.methodLink RX2 115 yX2_sweep, Cond.instanceMethod yX2_sweep, Cond.selects RX2 yX2_sweep yX2_sweep, Cond.code yX2_sweep cX2_sweep 4 (some .int), Cond.methodLink RX2 94 yX2_spread, Cond.instanceMethod yX2_spread]
def wsX5_isSo_r5 : List Cond := [Cond.selects RX2 yX2_spread yX2_spread, Cond.code yX2_spread cX2_spread 2 none, Cond.fieldLink RX2 18 "DustVote$Moment" "deep" "[Z", Cond.methodLink RX5 258 yX5_tryVote, Cond.instanceMethod yX5_tryVote, Cond.selects RX5 yX5_tryVote yX5_tryVote, Cond.code yX5_tryVote cX5_tryVote 2 (some .boolean), Cond.methodLink RX5 139 yX2_turnVote, Cond.instanceMethod yX2_turnVote, Cond.selects RX2 yX2_turnVote yX2_turnVote, Cond.code yX2_turnVote cX2_turnVote 1 none, Cond.methodLink RX5 261 yX5_tryBow, Cond.instanceMethod yX5_tryBow, Cond.selects RX5 yX5_tryBow yX5_tryBow, Cond.code yX5_tryBow cX5_tryBow 3 (some .boolean), Cond.methodLink RX5 119 yX2_isBent, Cond.methodLink RX5 146 yX2_bow, Cond.instanceMethod yX2_bow, Cond.selects RX2 yX2_bow yX2_bow, Cond.code yX2_bow cX2_bow 2 none, Cond.methodLink RX5 265 yX5_tryEmpty, Cond.instanceMethod yX5_tryEmpty, Cond.selects RX5 yX5_tryEmpty yX5_tryEmpty, Cond.code yX5_tryEmpty cX5_tryEmpty 3 (some .boolean)]
def wsX5_isSo_r6 : List Cond := [Cond.methodLink RX5 157 yX2_empty, Cond.instanceMethod yX2_empty, Cond.selects RX2 yX2_empty yX2_empty, Cond.code yX2_empty cX2_empty 2 none, Cond.methodLink RX5 101 yX2_isDeep, Cond.instanceMethod yX2_isDeep, Cond.selects RX2 yX2_isDeep yX2_isDeep, Cond.code yX2_isDeep cX2_isDeep 2 (some .boolean), Cond.methodLink RX2 58 yX2_dustIn]
def wsX5_isSo : List Cond := .code yX5_isSo cX5_isSo 5 (some .boolean) :: ((wsX5_isSo_r1 ++ (wsX5_isSo_r2 ++ (wsX5_isSo_r3 ++ (wsX5_isSo_r4 ++ (wsX5_isSo_r5 ++ wsX5_isSo_r6))))) ++ wsX50 ++ wsX40 ++ wsX20)
def wsX5_judge_r1 : List Cond := [Cond.methodLink RX5 191 Lib.MathLoose.max_long.x, Cond.static Lib.MathLoose.max_long.x, Cond.initialized "java/lang/Math", Cond.code Lib.MathLoose.max_long.x Lib.MathLoose.max_long.code 4 (some .long), Cond.constantLong RX5 197 (1000), Cond.methodLink RX5 61 yX5_within, Cond.static yX5_within, Cond.initialized RX5, Cond.code yX5_within cX5_within 3 (some .boolean), Cond.methodLink RX5 187 yX5_power, Cond.static yX5_power, Cond.code yX5_power cX5_power 5 (some .long), Cond.methodLink RX5 173 yX5_fromNow, Cond.instanceMethod yX5_fromNow, Cond.selects RX5 yX5_fromNow yX5_fromNow, Cond.code yX5_fromNow cX5_fromNow 1 (some (.object "DustVote$Moment")), Cond.fieldLink RX5 32 "DustVote" "trial" "LDustVote$Moment;", Cond.fieldLink RX5 28 "DustVote" "now" "LDustVote$Moment;", Cond.methodLink RX5 247 yX2_copy, Cond.instanceMethod yX2_copy, Cond.selects RX2 yX2_copy yX2_copy, Cond.initialized RX2, Cond.code yX2_copy cX2_copy 2 none, Cond.fieldLink RX2 9 "DustVote$Moment" "dust" "[I"]
def wsX5_judge_r2 : List Cond := [Cond.methodLink RX2 42 arraycopyName, Cond.native arraycopyName, Cond.static arraycopyName, Cond.initialized "java/lang/System", Cond.fieldLink RX2 15 "DustVote$Moment" "place" "[I", Cond.fieldLink RX2 22 "DustVote$Moment" "given" "Z", Cond.fieldLink RX2 26 "DustVote$Moment" "bent" "I", Cond.fieldLink RX2 30 "DustVote$Moment" "dawns" "I", Cond.methodLink RX5 199 yX5_isSo, Cond.instanceMethod yX5_isSo, Cond.selects RX5 yX5_isSo yX5_isSo, Cond.code yX5_isSo cX5_isSo 5 (some .boolean), Cond.methodLink RX5 250 yX5_tryStep, Cond.instanceMethod yX5_tryStep, Cond.selects RX5 yX5_tryStep yX5_tryStep, Cond.code yX5_tryStep cX5_tryStep 4 (some .boolean), Cond.fieldLink RX5 19 "DustVote" "told" "LDustVote$Told;", Cond.methodLink RX5 107 yX4_hasBroom, Cond.instanceMethod yX4_hasBroom, Cond.selects RX4 yX4_hasBroom yX4_hasBroom, Cond.initialized RX4, Cond.code yX4_hasBroom cX4_hasBroom 2 (some .boolean), Cond.fieldLink RX4 30 "DustVote$Told" "brooms" "I", Cond.methodLink RX5 136 yX2_step]
def wsX5_judge_r3 : List Cond := [Cond.instanceMethod yX2_step, Cond.selects RX2 yX2_step yX2_step, Cond.code yX2_step cX2_step 4 none, Cond.methodLink RX2 68 yX2_placeOf, Cond.instanceMethod yX2_placeOf, Cond.selects RX2 yX2_placeOf yX2_placeOf, Cond.code yX2_placeOf cX2_placeOf 2 (some .int), Cond.fieldLink RX2 33 "DustVote$Moment" "told" "LDustVote$Told;", Cond.methodLink RX2 55 yX4_hasBroom, Cond.methodLink RX2 77 yX2_leftOf, Cond.static yX2_leftOf, Cond.code yX2_leftOf cX2_leftOf 1 (some .int), Cond.methodLink RX2 80 yX2_rightOf, Cond.static yX2_rightOf, Cond.code yX2_rightOf cX2_rightOf 1 (some .int), Cond.methodLink RX2 83 yX2_goTo, Cond.instanceMethod yX2_goTo, Cond.selects RX2 yX2_goTo yX2_goTo, Cond.code yX2_goTo cX2_goTo 3 none, Cond.methodLink RX5 93 yX5_isStreet, Cond.static yX5_isStreet, Cond.code yX5_isStreet cX5_isStreet 1 (some .boolean), Cond.methodLink RX5 97 yX2_dustIn, Cond.instanceMethod yX2_dustIn]
def wsX5_judge_r4 : List Cond := [Cond.selects RX2 yX2_dustIn yX2_dustIn, Cond.code yX2_dustIn cX2_dustIn 2 (some .int), Cond.methodLink RX5 254 yX5_tryDawn, Cond.instanceMethod yX5_tryDawn, Cond.selects RX5 yX5_tryDawn yX5_tryDawn, Cond.code yX5_tryDawn cX5_tryDawn 2 (some .boolean), Cond.methodLink RX5 129 yX2_passDawn, Cond.instanceMethod yX2_passDawn, Cond.selects RX2 yX2_passDawn yX2_passDawn, Cond.code yX2_passDawn cX2_passDawn 4 none, Cond.methodLink RX2 87 yX2_comeDown, Cond.instanceMethod yX2_comeDown, Cond.selects RX2 yX2_comeDown yX2_comeDown, Cond.code yX2_comeDown cX2_comeDown 4 none, Cond.methodLink RX2 106 yX2_pour, Cond.instanceMethod yX2_pour, Cond.selects RX2 yX2_pour yX2_pour, Cond.code yX2_pour cX2_pour 3 none, Cond.methodLink RX2 119 Lib.Math.min.name, Cond.static Lib.Math.min.name, Cond.code Lib.Math.min.name Lib.Math.min.code 2 (some .int), Cond.methodLink RX2 91 yX2_work, Cond.instanceMethod yX2_work, Cond.selects RX2 yX2_work yX2_work]
def wsX5_judge_r5 : List Cond := [Cond.code yX2_work cX2_work 4 none, Cond.methodLink RX2 109 yX4_strengthOf, Cond.instanceMethod yX4_strengthOf, Cond.selects RX4 yX4_strengthOf yX4_strengthOf, Cond.code yX4_strengthOf cX4_strengthOf 2 (some .int), Cond.fieldLink RX4 18 "DustVote$Told" "strength" "[I", Cond.methodLink RX2 112 yX2_worksAs, Cond.instanceMethod yX2_worksAs, Cond.selects RX2 yX2_worksAs yX2_worksAs, Cond.code yX2_worksAs cX2_worksAs 3 (some .int), Cond.methodLink RX2 71 yX4_kindOf, Cond.instanceMethod yX4_kindOf, Cond.selects RX4 yX4_kindOf yX4_kindOf, Cond.code yX4_kindOf cX4_kindOf 2 (some .int), Cond.fieldLink RX4 21 "DustVote$Told" "kind" "[I", Cond.methodLink RX2 74 yX2_isBent, Cond.instanceMethod yX2_isBent, Cond.selects RX2 yX2_isBent yX2_isBent, Cond.code yX2_isBent cX2_isBent 2 (some .boolean), Cond.methodLink RX2 115 yX2_sweep, Cond.instanceMethod yX2_sweep, Cond.selects RX2 yX2_sweep yX2_sweep, Cond.code yX2_sweep cX2_sweep 4 (some .int), Cond.methodLink RX2 94 yX2_spread]
def wsX5_judge_r6 : List Cond := [Cond.instanceMethod yX2_spread, Cond.selects RX2 yX2_spread yX2_spread, Cond.code yX2_spread cX2_spread 2 none, Cond.fieldLink RX2 18 "DustVote$Moment" "deep" "[Z", Cond.methodLink RX5 258 yX5_tryVote, Cond.instanceMethod yX5_tryVote, Cond.selects RX5 yX5_tryVote yX5_tryVote, Cond.code yX5_tryVote cX5_tryVote 2 (some .boolean), Cond.methodLink RX5 139 yX2_turnVote, Cond.instanceMethod yX2_turnVote, Cond.selects RX2 yX2_turnVote yX2_turnVote, Cond.code yX2_turnVote cX2_turnVote 1 none, Cond.methodLink RX5 261 yX5_tryBow, Cond.instanceMethod yX5_tryBow, Cond.selects RX5 yX5_tryBow yX5_tryBow, Cond.code yX5_tryBow cX5_tryBow 3 (some .boolean), Cond.methodLink RX5 119 yX2_isBent, Cond.methodLink RX5 146 yX2_bow, Cond.instanceMethod yX2_bow, Cond.selects RX2 yX2_bow yX2_bow, Cond.code yX2_bow cX2_bow 2 none, Cond.methodLink RX5 265 yX5_tryEmpty, Cond.instanceMethod yX5_tryEmpty, Cond.selects RX5 yX5_tryEmpty yX5_tryEmpty]
def wsX5_judge_r7 : List Cond := [Cond.code yX5_tryEmpty cX5_tryEmpty 3 (some .boolean), Cond.methodLink RX5 157 yX2_empty, Cond.instanceMethod yX2_empty, Cond.selects RX2 yX2_empty yX2_empty, Cond.code yX2_empty cX2_empty 2 none, Cond.methodLink RX5 101 yX2_isDeep, Cond.instanceMethod yX2_isDeep, Cond.selects RX2 yX2_isDeep yX2_isDeep, Cond.code yX2_isDeep cX2_isDeep 2 (some .boolean), Cond.methodLink RX2 58 yX2_dustIn]
def wsX5_judge : List Cond := .code yX5_judge cX5_judge 7 (some .int) :: ((wsX5_judge_r1 ++ (wsX5_judge_r2 ++ (wsX5_judge_r3 ++ (wsX5_judge_r4 ++ (wsX5_judge_r5 ++ (wsX5_judge_r6 ++ wsX5_judge_r7)))))) ++ wsX50 ++ wsX20 ++ wsX40)
def wsX5_heap : List Cond := .code yX5_heap cX5_heap 4 (some .int) :: ([.fieldLink RX5 45 "DustVote" "heaps" "LDustVote$Heaps;", .methodLink RX5 61 yX5_within, .static yX5_within, .initialized RX5, .code yX5_within cX5_within 3 (some .boolean), .methodLink RX5 204 yX1_add, .instanceMethod yX1_add, .selects RX1 yX1_add yX1_add, .initialized RX1, .code yX1_add cX1_add 4 none, .fieldLink RX1 21 "DustVote$Heaps" "size" "I", .fieldLink RX1 9 "DustVote$Heaps" "before" "[I", .fieldLink RX1 15 "DustVote$Heaps" "left" "[I", .fieldLink RX1 18 "DustVote$Heaps" "gone" "[I"] ++ wsX50 ++ wsX10)
def wsX5_unheap : List Cond := .code yX5_unheap cX5_unheap 2 (some .int) :: ([.fieldLink RX5 45 "DustVote" "heaps" "LDustVote$Heaps;"] ++ wsX50 ++ wsX10)
def wsX5_whose : List Cond := .code yX5_whose cX5_whose 6 (some .int) :: ([.fieldLink RX5 45 "DustVote" "heaps" "LDustVote$Heaps;", .methodLink RX5 61 yX5_within, .static yX5_within, .initialized RX5, .code yX5_within cX5_within 3 (some .boolean), .methodLink RX5 207 yX1_fit, .instanceMethod yX1_fit, .selects RX1 yX1_fit yX1_fit, .initialized RX1, .code yX1_fit cX1_fit 6 (some .boolean), .fieldLink RX1 21 "DustVote$Heaps" "size" "I", .fieldLink RX1 9 "DustVote$Heaps" "before" "[I", .methodLink RX1 25 Lib.Math.min.name, .static Lib.Math.min.name, .initialized "java/lang/Math", .code Lib.Math.min.name Lib.Math.min.code 2 (some .int), .fieldLink RX1 15 "DustVote$Heaps" "left" "[I", .fieldLink RX1 18 "DustVote$Heaps" "gone" "[I"] ++ wsX50 ++ wsX10)
def wsX5_factorial : List Cond := .code yX5_factorial cX5_factorial 4 (some .long) :: ([])
def wsX5_ordersWith : List Cond := .code yX5_ordersWith cX5_ordersWith 2 (some .long) :: ([.fieldLink RX5 19 "DustVote" "told" "LDustVote$Told;", .methodLink RX5 214 yX5_factorial, .static yX5_factorial, .initialized RX5, .code yX5_factorial cX5_factorial 4 (some .long)] ++ wsX50 ++ wsX40)
def wsX5_commonDivisor : List Cond := .code yX5_commonDivisor cX5_commonDivisor 11 (some .long) :: ([])
def wsX5_fraction : List Cond := .code yX5_fraction cX5_fraction 7 (some .int) :: ([.methodLink RX5 272 Lib.MathLoose.abs_long.x, .static Lib.MathLoose.abs_long.x, .initialized "java/lang/Math", .code Lib.MathLoose.abs_long.x Lib.MathLoose.abs_long.code 2 (some .long), .methodLink RX5 191 Lib.MathLoose.max_long.x, .static Lib.MathLoose.max_long.x, .code Lib.MathLoose.max_long.x Lib.MathLoose.max_long.code 4 (some .long), .methodLink RX5 276 yX5_commonDivisor, .static yX5_commonDivisor, .initialized RX5, .code yX5_commonDivisor cX5_commonDivisor 11 (some .long)])
def wsX5_share_r1 : List Cond := [Cond.fieldLink RX5 19 "DustVote" "told" "LDustVote$Told;", Cond.methodLink RX5 107 yX4_hasBroom, Cond.instanceMethod yX4_hasBroom, Cond.selects RX4 yX4_hasBroom yX4_hasBroom, Cond.initialized RX4, Cond.code yX4_hasBroom cX4_hasBroom 2 (some .boolean), Cond.fieldLink RX4 30 "DustVote$Told" "brooms" "I", Cond.methodLink RX5 166 yX5_behind, Cond.instanceMethod yX5_behind, Cond.selects RX5 yX5_behind yX5_behind, Cond.initialized RX5, Cond.code yX5_behind cX5_behind 5 (some (.object "DustVote$Moment")), Cond.methodLink RX5 173 yX5_fromNow, Cond.instanceMethod yX5_fromNow, Cond.selects RX5 yX5_fromNow yX5_fromNow, Cond.code yX5_fromNow cX5_fromNow 1 (some (.object "DustVote$Moment")), Cond.fieldLink RX5 32 "DustVote" "trial" "LDustVote$Moment;", Cond.fieldLink RX5 28 "DustVote" "now" "LDustVote$Moment;", Cond.methodLink RX5 247 yX2_copy, Cond.instanceMethod yX2_copy, Cond.selects RX2 yX2_copy yX2_copy, Cond.initialized RX2, Cond.code yX2_copy cX2_copy 2 none, Cond.fieldLink RX2 9 "DustVote$Moment" "dust" "[I"]
def wsX5_share_r2 : List Cond := [Cond.methodLink RX2 42 arraycopyName, Cond.native arraycopyName, Cond.static arraycopyName, Cond.initialized "java/lang/System", Cond.fieldLink RX2 15 "DustVote$Moment" "place" "[I", Cond.fieldLink RX2 22 "DustVote$Moment" "given" "Z", Cond.fieldLink RX2 26 "DustVote$Moment" "bent" "I", Cond.fieldLink RX2 30 "DustVote$Moment" "dawns" "I", Cond.methodLink RX5 129 yX2_passDawn, Cond.instanceMethod yX2_passDawn, Cond.selects RX2 yX2_passDawn yX2_passDawn, Cond.code yX2_passDawn cX2_passDawn 4 none, Cond.fieldLink RX2 33 "DustVote$Moment" "told" "LDustVote$Told;", Cond.methodLink RX2 87 yX2_comeDown, Cond.instanceMethod yX2_comeDown, Cond.selects RX2 yX2_comeDown yX2_comeDown, Cond.code yX2_comeDown cX2_comeDown 4 none, Cond.methodLink RX2 106 yX2_pour, Cond.instanceMethod yX2_pour, Cond.selects RX2 yX2_pour yX2_pour, Cond.code yX2_pour cX2_pour 3 none, Cond.methodLink RX2 119 Lib.Math.min.name, Cond.static Lib.Math.min.name, Cond.initialized "java/lang/Math"]
def wsX5_share_r3 : List Cond := [Cond.code Lib.Math.min.name Lib.Math.min.code 2 (some .int), Cond.static yX5_isStreet, Cond.code yX5_isStreet cX5_isStreet 1 (some .boolean), Cond.methodLink RX2 91 yX2_work, Cond.instanceMethod yX2_work, Cond.selects RX2 yX2_work yX2_work, Cond.code yX2_work cX2_work 4 none, Cond.methodLink RX2 68 yX2_placeOf, Cond.instanceMethod yX2_placeOf, Cond.selects RX2 yX2_placeOf yX2_placeOf, Cond.code yX2_placeOf cX2_placeOf 2 (some .int), Cond.methodLink RX2 55 yX4_hasBroom, Cond.methodLink RX2 109 yX4_strengthOf, Cond.instanceMethod yX4_strengthOf, Cond.selects RX4 yX4_strengthOf yX4_strengthOf, Cond.code yX4_strengthOf cX4_strengthOf 2 (some .int), Cond.fieldLink RX4 18 "DustVote$Told" "strength" "[I", Cond.methodLink RX2 112 yX2_worksAs, Cond.instanceMethod yX2_worksAs, Cond.selects RX2 yX2_worksAs yX2_worksAs, Cond.code yX2_worksAs cX2_worksAs 3 (some .int), Cond.methodLink RX2 71 yX4_kindOf, Cond.instanceMethod yX4_kindOf, Cond.selects RX4 yX4_kindOf yX4_kindOf]
def wsX5_share_r4 : List Cond := [Cond.code yX4_kindOf cX4_kindOf 2 (some .int), Cond.fieldLink RX4 21 "DustVote$Told" "kind" "[I", Cond.methodLink RX2 74 yX2_isBent, Cond.instanceMethod yX2_isBent, Cond.selects RX2 yX2_isBent yX2_isBent, Cond.code yX2_isBent cX2_isBent 2 (some .boolean), Cond.methodLink RX2 115 yX2_sweep, Cond.instanceMethod yX2_sweep, Cond.selects RX2 yX2_sweep yX2_sweep, Cond.code yX2_sweep cX2_sweep 4 (some .int), Cond.methodLink RX2 80 yX2_rightOf, Cond.static yX2_rightOf, Cond.code yX2_rightOf cX2_rightOf 1 (some .int), Cond.methodLink RX2 77 yX2_leftOf, Cond.static yX2_leftOf, Cond.code yX2_leftOf cX2_leftOf 1 (some .int), Cond.methodLink RX2 94 yX2_spread, Cond.instanceMethod yX2_spread, Cond.selects RX2 yX2_spread yX2_spread, Cond.code yX2_spread cX2_spread 2 none, Cond.fieldLink RX2 18 "DustVote$Moment" "deep" "[Z", Cond.methodLink RX5 133 yX2_allDust, Cond.instanceMethod yX2_allDust, Cond.selects RX2 yX2_allDust yX2_allDust]
def wsX5_share_r5 : List Cond := [Cond.code yX2_allDust cX2_allDust 3 (some .int), Cond.methodLink RX5 152 yJ6_bitCount_0f7a4, Cond.static yJ6_bitCount_0f7a4, Cond.initialized RJ6, Cond.code yJ6_bitCount_0f7a4 cJ6_bitCount_0f7a4 1 (some .int), Cond.constant RJ6 265 (1431655765), Cond.constant RJ6 266 (858993459), Cond.constant RJ6 267 (252645135), Cond.methodLink RX5 210 yX5_ordersWith, Cond.instanceMethod yX5_ordersWith, Cond.selects RX5 yX5_ordersWith yX5_ordersWith, Cond.code yX5_ordersWith cX5_ordersWith 2 (some .long), Cond.methodLink RX5 214 yX5_factorial, Cond.static yX5_factorial, Cond.code yX5_factorial cX5_factorial 4 (some .long), Cond.methodLink RX5 217 yX5_fraction, Cond.static yX5_fraction, Cond.code yX5_fraction cX5_fraction 7 (some .int), Cond.methodLink RX5 272 Lib.MathLoose.abs_long.x, Cond.static Lib.MathLoose.abs_long.x, Cond.code Lib.MathLoose.abs_long.x Lib.MathLoose.abs_long.code 2 (some .long), Cond.methodLink RX5 191 Lib.MathLoose.max_long.x, Cond.static Lib.MathLoose.max_long.x, Cond.code Lib.MathLoose.max_long.x Lib.MathLoose.max_long.code 4 (some .long)]
def wsX5_share_r6 : List Cond := [Cond.methodLink RX5 276 yX5_commonDivisor, Cond.static yX5_commonDivisor, Cond.code yX5_commonDivisor cX5_commonDivisor 11 (some .long)]
def wsX5_share : List Cond := .code yX5_share cX5_share 8 (some .int) :: ((wsX5_share_r1 ++ (wsX5_share_r2 ++ (wsX5_share_r3 ++ (wsX5_share_r4 ++ (wsX5_share_r5 ++ wsX5_share_r6))))) ++ wsX50 ++ wsX40 ++ wsX20)
def wsX5_gain_r1 : List Cond := [Cond.methodLink RX5 166 yX5_behind, Cond.instanceMethod yX5_behind, Cond.selects RX5 yX5_behind yX5_behind, Cond.initialized RX5, Cond.code yX5_behind cX5_behind 5 (some (.object "DustVote$Moment")), Cond.methodLink RX5 173 yX5_fromNow, Cond.instanceMethod yX5_fromNow, Cond.selects RX5 yX5_fromNow yX5_fromNow, Cond.code yX5_fromNow cX5_fromNow 1 (some (.object "DustVote$Moment")), Cond.fieldLink RX5 32 "DustVote" "trial" "LDustVote$Moment;", Cond.fieldLink RX5 28 "DustVote" "now" "LDustVote$Moment;", Cond.methodLink RX5 247 yX2_copy, Cond.instanceMethod yX2_copy, Cond.selects RX2 yX2_copy yX2_copy, Cond.initialized RX2, Cond.code yX2_copy cX2_copy 2 none, Cond.fieldLink RX2 9 "DustVote$Moment" "dust" "[I", Cond.methodLink RX2 42 arraycopyName, Cond.native arraycopyName, Cond.static arraycopyName, Cond.initialized "java/lang/System", Cond.fieldLink RX2 15 "DustVote$Moment" "place" "[I", Cond.fieldLink RX2 22 "DustVote$Moment" "given" "Z", Cond.fieldLink RX2 26 "DustVote$Moment" "bent" "I"]
def wsX5_gain_r2 : List Cond := [Cond.fieldLink RX2 30 "DustVote$Moment" "dawns" "I", Cond.methodLink RX5 129 yX2_passDawn, Cond.instanceMethod yX2_passDawn, Cond.selects RX2 yX2_passDawn yX2_passDawn, Cond.code yX2_passDawn cX2_passDawn 4 none, Cond.fieldLink RX2 33 "DustVote$Moment" "told" "LDustVote$Told;", Cond.methodLink RX2 87 yX2_comeDown, Cond.instanceMethod yX2_comeDown, Cond.selects RX2 yX2_comeDown yX2_comeDown, Cond.code yX2_comeDown cX2_comeDown 4 none, Cond.methodLink RX2 106 yX2_pour, Cond.instanceMethod yX2_pour, Cond.selects RX2 yX2_pour yX2_pour, Cond.code yX2_pour cX2_pour 3 none, Cond.methodLink RX2 119 Lib.Math.min.name, Cond.static Lib.Math.min.name, Cond.initialized "java/lang/Math", Cond.code Lib.Math.min.name Lib.Math.min.code 2 (some .int), Cond.static yX5_isStreet, Cond.code yX5_isStreet cX5_isStreet 1 (some .boolean), Cond.methodLink RX2 91 yX2_work, Cond.instanceMethod yX2_work, Cond.selects RX2 yX2_work yX2_work, Cond.code yX2_work cX2_work 4 none]
def wsX5_gain_r3 : List Cond := [Cond.methodLink RX2 68 yX2_placeOf, Cond.instanceMethod yX2_placeOf, Cond.selects RX2 yX2_placeOf yX2_placeOf, Cond.code yX2_placeOf cX2_placeOf 2 (some .int), Cond.methodLink RX2 55 yX4_hasBroom, Cond.instanceMethod yX4_hasBroom, Cond.selects RX4 yX4_hasBroom yX4_hasBroom, Cond.initialized RX4, Cond.code yX4_hasBroom cX4_hasBroom 2 (some .boolean), Cond.fieldLink RX4 30 "DustVote$Told" "brooms" "I", Cond.methodLink RX2 109 yX4_strengthOf, Cond.instanceMethod yX4_strengthOf, Cond.selects RX4 yX4_strengthOf yX4_strengthOf, Cond.code yX4_strengthOf cX4_strengthOf 2 (some .int), Cond.fieldLink RX4 18 "DustVote$Told" "strength" "[I", Cond.methodLink RX2 112 yX2_worksAs, Cond.instanceMethod yX2_worksAs, Cond.selects RX2 yX2_worksAs yX2_worksAs, Cond.code yX2_worksAs cX2_worksAs 3 (some .int), Cond.methodLink RX2 71 yX4_kindOf, Cond.instanceMethod yX4_kindOf, Cond.selects RX4 yX4_kindOf yX4_kindOf, Cond.code yX4_kindOf cX4_kindOf 2 (some .int), Cond.fieldLink RX4 21 "DustVote$Told" "kind" "[I"]
def wsX5_gain_r4 : List Cond := [Cond.methodLink RX2 74 yX2_isBent, Cond.instanceMethod yX2_isBent, Cond.selects RX2 yX2_isBent yX2_isBent, Cond.code yX2_isBent cX2_isBent 2 (some .boolean), Cond.methodLink RX2 115 yX2_sweep, Cond.instanceMethod yX2_sweep, Cond.selects RX2 yX2_sweep yX2_sweep, Cond.code yX2_sweep cX2_sweep 4 (some .int), Cond.methodLink RX2 80 yX2_rightOf, Cond.static yX2_rightOf, Cond.code yX2_rightOf cX2_rightOf 1 (some .int), Cond.methodLink RX2 77 yX2_leftOf, Cond.static yX2_leftOf, Cond.code yX2_leftOf cX2_leftOf 1 (some .int), Cond.methodLink RX2 94 yX2_spread, Cond.instanceMethod yX2_spread, Cond.selects RX2 yX2_spread yX2_spread, Cond.code yX2_spread cX2_spread 2 none, Cond.fieldLink RX2 18 "DustVote$Moment" "deep" "[Z", Cond.methodLink RX5 110 yX2_placeOf, Cond.methodLink RX5 97 yX2_dustIn, Cond.instanceMethod yX2_dustIn, Cond.selects RX2 yX2_dustIn yX2_dustIn, Cond.code yX2_dustIn cX2_dustIn 2 (some .int)]
def wsX5_gain : List Cond := .code yX5_gain cX5_gain 5 (some .int) :: ((wsX5_gain_r1 ++ (wsX5_gain_r2 ++ (wsX5_gain_r3 ++ wsX5_gain_r4))) ++ wsX50 ++ wsX20 ++ wsX40)
def wsX5_isAtRest_r1 : List Cond := [Cond.methodLink RX5 268 yX5_gain, Cond.instanceMethod yX5_gain, Cond.selects RX5 yX5_gain yX5_gain, Cond.initialized RX5, Cond.code yX5_gain cX5_gain 5 (some .int), Cond.methodLink RX5 166 yX5_behind, Cond.instanceMethod yX5_behind, Cond.selects RX5 yX5_behind yX5_behind, Cond.code yX5_behind cX5_behind 5 (some (.object "DustVote$Moment")), Cond.methodLink RX5 173 yX5_fromNow, Cond.instanceMethod yX5_fromNow, Cond.selects RX5 yX5_fromNow yX5_fromNow, Cond.code yX5_fromNow cX5_fromNow 1 (some (.object "DustVote$Moment")), Cond.fieldLink RX5 32 "DustVote" "trial" "LDustVote$Moment;", Cond.fieldLink RX5 28 "DustVote" "now" "LDustVote$Moment;", Cond.methodLink RX5 247 yX2_copy, Cond.instanceMethod yX2_copy, Cond.selects RX2 yX2_copy yX2_copy, Cond.initialized RX2, Cond.code yX2_copy cX2_copy 2 none, Cond.fieldLink RX2 9 "DustVote$Moment" "dust" "[I", Cond.methodLink RX2 42 arraycopyName, Cond.native arraycopyName, Cond.static arraycopyName]
def wsX5_isAtRest_r2 : List Cond := [Cond.initialized "java/lang/System", Cond.fieldLink RX2 15 "DustVote$Moment" "place" "[I", Cond.fieldLink RX2 22 "DustVote$Moment" "given" "Z", Cond.fieldLink RX2 26 "DustVote$Moment" "bent" "I", Cond.fieldLink RX2 30 "DustVote$Moment" "dawns" "I", Cond.methodLink RX5 129 yX2_passDawn, Cond.instanceMethod yX2_passDawn, Cond.selects RX2 yX2_passDawn yX2_passDawn, Cond.code yX2_passDawn cX2_passDawn 4 none, Cond.fieldLink RX2 33 "DustVote$Moment" "told" "LDustVote$Told;", Cond.methodLink RX2 87 yX2_comeDown, Cond.instanceMethod yX2_comeDown, Cond.selects RX2 yX2_comeDown yX2_comeDown, Cond.code yX2_comeDown cX2_comeDown 4 none, Cond.methodLink RX2 106 yX2_pour, Cond.instanceMethod yX2_pour, Cond.selects RX2 yX2_pour yX2_pour, Cond.code yX2_pour cX2_pour 3 none, Cond.methodLink RX2 119 Lib.Math.min.name, Cond.static Lib.Math.min.name, Cond.initialized "java/lang/Math", Cond.code Lib.Math.min.name Lib.Math.min.code 2 (some .int), Cond.static yX5_isStreet, Cond.code yX5_isStreet cX5_isStreet 1 (some .boolean)]
def wsX5_isAtRest_r3 : List Cond := [Cond.methodLink RX2 91 yX2_work, Cond.instanceMethod yX2_work, Cond.selects RX2 yX2_work yX2_work, Cond.code yX2_work cX2_work 4 none, Cond.methodLink RX2 68 yX2_placeOf, Cond.instanceMethod yX2_placeOf, Cond.selects RX2 yX2_placeOf yX2_placeOf, Cond.code yX2_placeOf cX2_placeOf 2 (some .int), Cond.methodLink RX2 55 yX4_hasBroom, Cond.instanceMethod yX4_hasBroom, Cond.selects RX4 yX4_hasBroom yX4_hasBroom, Cond.initialized RX4, Cond.code yX4_hasBroom cX4_hasBroom 2 (some .boolean), Cond.fieldLink RX4 30 "DustVote$Told" "brooms" "I", Cond.methodLink RX2 109 yX4_strengthOf, Cond.instanceMethod yX4_strengthOf, Cond.selects RX4 yX4_strengthOf yX4_strengthOf, Cond.code yX4_strengthOf cX4_strengthOf 2 (some .int), Cond.fieldLink RX4 18 "DustVote$Told" "strength" "[I", Cond.methodLink RX2 112 yX2_worksAs, Cond.instanceMethod yX2_worksAs, Cond.selects RX2 yX2_worksAs yX2_worksAs, Cond.code yX2_worksAs cX2_worksAs 3 (some .int), Cond.methodLink RX2 71 yX4_kindOf]
def wsX5_isAtRest_r4 : List Cond := [Cond.instanceMethod yX4_kindOf, Cond.selects RX4 yX4_kindOf yX4_kindOf, Cond.code yX4_kindOf cX4_kindOf 2 (some .int), Cond.fieldLink RX4 21 "DustVote$Told" "kind" "[I", Cond.methodLink RX2 74 yX2_isBent, Cond.instanceMethod yX2_isBent, Cond.selects RX2 yX2_isBent yX2_isBent, Cond.code yX2_isBent cX2_isBent 2 (some .boolean), Cond.methodLink RX2 115 yX2_sweep, Cond.instanceMethod yX2_sweep, Cond.selects RX2 yX2_sweep yX2_sweep, Cond.code yX2_sweep cX2_sweep 4 (some .int), Cond.methodLink RX2 80 yX2_rightOf, Cond.static yX2_rightOf, Cond.code yX2_rightOf cX2_rightOf 1 (some .int), Cond.methodLink RX2 77 yX2_leftOf, Cond.static yX2_leftOf, Cond.code yX2_leftOf cX2_leftOf 1 (some .int), Cond.methodLink RX2 94 yX2_spread, Cond.instanceMethod yX2_spread, Cond.selects RX2 yX2_spread yX2_spread, Cond.code yX2_spread cX2_spread 2 none, Cond.fieldLink RX2 18 "DustVote$Moment" "deep" "[Z", Cond.methodLink RX5 110 yX2_placeOf]
def wsX5_isAtRest_r5 : List Cond := [Cond.methodLink RX5 97 yX2_dustIn, Cond.instanceMethod yX2_dustIn, Cond.selects RX2 yX2_dustIn yX2_dustIn, Cond.code yX2_dustIn cX2_dustIn 2 (some .int)]
def wsX5_isAtRest : List Cond := .code yX5_isAtRest cX5_isAtRest 4 (some .boolean) :: ((wsX5_isAtRest_r1 ++ (wsX5_isAtRest_r2 ++ (wsX5_isAtRest_r3 ++ (wsX5_isAtRest_r4 ++ wsX5_isAtRest_r5)))) ++ wsX50 ++ wsX20 ++ wsX40)
def wsX5_rests_r1 : List Cond := [Cond.fieldLink RX5 19 "DustVote" "told" "LDustVote$Told;", Cond.methodLink RX5 107 yX4_hasBroom, Cond.instanceMethod yX4_hasBroom, Cond.selects RX4 yX4_hasBroom yX4_hasBroom, Cond.initialized RX4, Cond.code yX4_hasBroom cX4_hasBroom 2 (some .boolean), Cond.fieldLink RX4 30 "DustVote$Told" "brooms" "I", Cond.methodLink RX5 61 yX5_within, Cond.static yX5_within, Cond.initialized RX5, Cond.code yX5_within cX5_within 3 (some .boolean), Cond.methodLink RX5 221 yX5_isAtRest, Cond.instanceMethod yX5_isAtRest, Cond.selects RX5 yX5_isAtRest yX5_isAtRest, Cond.code yX5_isAtRest cX5_isAtRest 4 (some .boolean), Cond.methodLink RX5 268 yX5_gain, Cond.instanceMethod yX5_gain, Cond.selects RX5 yX5_gain yX5_gain, Cond.code yX5_gain cX5_gain 5 (some .int), Cond.methodLink RX5 166 yX5_behind, Cond.instanceMethod yX5_behind, Cond.selects RX5 yX5_behind yX5_behind, Cond.code yX5_behind cX5_behind 5 (some (.object "DustVote$Moment")), Cond.methodLink RX5 173 yX5_fromNow]
def wsX5_rests_r2 : List Cond := [Cond.instanceMethod yX5_fromNow, Cond.selects RX5 yX5_fromNow yX5_fromNow, Cond.code yX5_fromNow cX5_fromNow 1 (some (.object "DustVote$Moment")), Cond.fieldLink RX5 32 "DustVote" "trial" "LDustVote$Moment;", Cond.fieldLink RX5 28 "DustVote" "now" "LDustVote$Moment;", Cond.methodLink RX5 247 yX2_copy, Cond.instanceMethod yX2_copy, Cond.selects RX2 yX2_copy yX2_copy, Cond.initialized RX2, Cond.code yX2_copy cX2_copy 2 none, Cond.fieldLink RX2 9 "DustVote$Moment" "dust" "[I", Cond.methodLink RX2 42 arraycopyName, Cond.native arraycopyName, Cond.static arraycopyName, Cond.initialized "java/lang/System", Cond.fieldLink RX2 15 "DustVote$Moment" "place" "[I", Cond.fieldLink RX2 22 "DustVote$Moment" "given" "Z", Cond.fieldLink RX2 26 "DustVote$Moment" "bent" "I", Cond.fieldLink RX2 30 "DustVote$Moment" "dawns" "I", Cond.methodLink RX5 129 yX2_passDawn, Cond.instanceMethod yX2_passDawn, Cond.selects RX2 yX2_passDawn yX2_passDawn, Cond.code yX2_passDawn cX2_passDawn 4 none, Cond.fieldLink RX2 33 "DustVote$Moment" "told" "LDustVote$Told;"]
def wsX5_rests_r3 : List Cond := [Cond.methodLink RX2 87 yX2_comeDown, Cond.instanceMethod yX2_comeDown, Cond.selects RX2 yX2_comeDown yX2_comeDown, Cond.code yX2_comeDown cX2_comeDown 4 none, Cond.methodLink RX2 106 yX2_pour, Cond.instanceMethod yX2_pour, Cond.selects RX2 yX2_pour yX2_pour, Cond.code yX2_pour cX2_pour 3 none, Cond.methodLink RX2 119 Lib.Math.min.name, Cond.static Lib.Math.min.name, Cond.initialized "java/lang/Math", Cond.code Lib.Math.min.name Lib.Math.min.code 2 (some .int), Cond.static yX5_isStreet, Cond.code yX5_isStreet cX5_isStreet 1 (some .boolean), Cond.methodLink RX2 91 yX2_work, Cond.instanceMethod yX2_work, Cond.selects RX2 yX2_work yX2_work, Cond.code yX2_work cX2_work 4 none, Cond.methodLink RX2 68 yX2_placeOf, Cond.instanceMethod yX2_placeOf, Cond.selects RX2 yX2_placeOf yX2_placeOf, Cond.code yX2_placeOf cX2_placeOf 2 (some .int), Cond.methodLink RX2 55 yX4_hasBroom, Cond.methodLink RX2 109 yX4_strengthOf]
def wsX5_rests_r4 : List Cond := [Cond.instanceMethod yX4_strengthOf, Cond.selects RX4 yX4_strengthOf yX4_strengthOf, Cond.code yX4_strengthOf cX4_strengthOf 2 (some .int), Cond.fieldLink RX4 18 "DustVote$Told" "strength" "[I", Cond.methodLink RX2 112 yX2_worksAs, Cond.instanceMethod yX2_worksAs, Cond.selects RX2 yX2_worksAs yX2_worksAs, Cond.code yX2_worksAs cX2_worksAs 3 (some .int), Cond.methodLink RX2 71 yX4_kindOf, Cond.instanceMethod yX4_kindOf, Cond.selects RX4 yX4_kindOf yX4_kindOf, Cond.code yX4_kindOf cX4_kindOf 2 (some .int), Cond.fieldLink RX4 21 "DustVote$Told" "kind" "[I", Cond.methodLink RX2 74 yX2_isBent, Cond.instanceMethod yX2_isBent, Cond.selects RX2 yX2_isBent yX2_isBent, Cond.code yX2_isBent cX2_isBent 2 (some .boolean), Cond.methodLink RX2 115 yX2_sweep, Cond.instanceMethod yX2_sweep, Cond.selects RX2 yX2_sweep yX2_sweep, Cond.code yX2_sweep cX2_sweep 4 (some .int), Cond.methodLink RX2 80 yX2_rightOf, Cond.static yX2_rightOf, Cond.code yX2_rightOf cX2_rightOf 1 (some .int)]
def wsX5_rests_r5 : List Cond := [Cond.methodLink RX2 77 yX2_leftOf, Cond.static yX2_leftOf, Cond.code yX2_leftOf cX2_leftOf 1 (some .int), Cond.methodLink RX2 94 yX2_spread, Cond.instanceMethod yX2_spread, Cond.selects RX2 yX2_spread yX2_spread, Cond.code yX2_spread cX2_spread 2 none, Cond.fieldLink RX2 18 "DustVote$Moment" "deep" "[Z", Cond.methodLink RX5 110 yX2_placeOf, Cond.methodLink RX5 97 yX2_dustIn, Cond.instanceMethod yX2_dustIn, Cond.selects RX2 yX2_dustIn yX2_dustIn, Cond.code yX2_dustIn cX2_dustIn 2 (some .int)]
def wsX5_rests : List Cond := .code yX5_rests cX5_rests 9 (some .int) :: ((wsX5_rests_r1 ++ (wsX5_rests_r2 ++ (wsX5_rests_r3 ++ (wsX5_rests_r4 ++ wsX5_rests_r5)))) ++ wsX50 ++ wsX40 ++ wsX20)
def wsX5_isDeepBehind_r1 : List Cond := [Cond.methodLink RX5 173 yX5_fromNow, Cond.instanceMethod yX5_fromNow, Cond.selects RX5 yX5_fromNow yX5_fromNow, Cond.initialized RX5, Cond.code yX5_fromNow cX5_fromNow 1 (some (.object "DustVote$Moment")), Cond.fieldLink RX5 32 "DustVote" "trial" "LDustVote$Moment;", Cond.fieldLink RX5 28 "DustVote" "now" "LDustVote$Moment;", Cond.methodLink RX5 247 yX2_copy, Cond.instanceMethod yX2_copy, Cond.selects RX2 yX2_copy yX2_copy, Cond.initialized RX2, Cond.code yX2_copy cX2_copy 2 none, Cond.fieldLink RX2 9 "DustVote$Moment" "dust" "[I", Cond.methodLink RX2 42 arraycopyName, Cond.native arraycopyName, Cond.static arraycopyName, Cond.initialized "java/lang/System", Cond.fieldLink RX2 15 "DustVote$Moment" "place" "[I", Cond.fieldLink RX2 22 "DustVote$Moment" "given" "Z", Cond.fieldLink RX2 26 "DustVote$Moment" "bent" "I", Cond.fieldLink RX2 30 "DustVote$Moment" "dawns" "I", Cond.methodLink RX5 129 yX2_passDawn, Cond.instanceMethod yX2_passDawn, Cond.selects RX2 yX2_passDawn yX2_passDawn]
def wsX5_isDeepBehind_r2 : List Cond := [Cond.code yX2_passDawn cX2_passDawn 4 none, Cond.fieldLink RX2 33 "DustVote$Moment" "told" "LDustVote$Told;", Cond.methodLink RX2 87 yX2_comeDown, Cond.instanceMethod yX2_comeDown, Cond.selects RX2 yX2_comeDown yX2_comeDown, Cond.code yX2_comeDown cX2_comeDown 4 none, Cond.methodLink RX2 106 yX2_pour, Cond.instanceMethod yX2_pour, Cond.selects RX2 yX2_pour yX2_pour, Cond.code yX2_pour cX2_pour 3 none, Cond.methodLink RX2 119 Lib.Math.min.name, Cond.static Lib.Math.min.name, Cond.initialized "java/lang/Math", Cond.code Lib.Math.min.name Lib.Math.min.code 2 (some .int), Cond.static yX5_isStreet, Cond.code yX5_isStreet cX5_isStreet 1 (some .boolean), Cond.methodLink RX2 91 yX2_work, Cond.instanceMethod yX2_work, Cond.selects RX2 yX2_work yX2_work, Cond.code yX2_work cX2_work 4 none, Cond.methodLink RX2 68 yX2_placeOf, Cond.instanceMethod yX2_placeOf, Cond.selects RX2 yX2_placeOf yX2_placeOf, Cond.code yX2_placeOf cX2_placeOf 2 (some .int)]
def wsX5_isDeepBehind_r3 : List Cond := [Cond.methodLink RX2 55 yX4_hasBroom, Cond.instanceMethod yX4_hasBroom, Cond.selects RX4 yX4_hasBroom yX4_hasBroom, Cond.initialized RX4, Cond.code yX4_hasBroom cX4_hasBroom 2 (some .boolean), Cond.fieldLink RX4 30 "DustVote$Told" "brooms" "I", Cond.methodLink RX2 109 yX4_strengthOf, Cond.instanceMethod yX4_strengthOf, Cond.selects RX4 yX4_strengthOf yX4_strengthOf, Cond.code yX4_strengthOf cX4_strengthOf 2 (some .int), Cond.fieldLink RX4 18 "DustVote$Told" "strength" "[I", Cond.methodLink RX2 112 yX2_worksAs, Cond.instanceMethod yX2_worksAs, Cond.selects RX2 yX2_worksAs yX2_worksAs, Cond.code yX2_worksAs cX2_worksAs 3 (some .int), Cond.methodLink RX2 71 yX4_kindOf, Cond.instanceMethod yX4_kindOf, Cond.selects RX4 yX4_kindOf yX4_kindOf, Cond.code yX4_kindOf cX4_kindOf 2 (some .int), Cond.fieldLink RX4 21 "DustVote$Told" "kind" "[I", Cond.methodLink RX2 74 yX2_isBent, Cond.instanceMethod yX2_isBent, Cond.selects RX2 yX2_isBent yX2_isBent, Cond.code yX2_isBent cX2_isBent 2 (some .boolean)]
def wsX5_isDeepBehind_r4 : List Cond := [Cond.methodLink RX2 115 yX2_sweep, Cond.instanceMethod yX2_sweep, Cond.selects RX2 yX2_sweep yX2_sweep, Cond.code yX2_sweep cX2_sweep 4 (some .int), Cond.methodLink RX2 80 yX2_rightOf, Cond.static yX2_rightOf, Cond.code yX2_rightOf cX2_rightOf 1 (some .int), Cond.methodLink RX2 77 yX2_leftOf, Cond.static yX2_leftOf, Cond.code yX2_leftOf cX2_leftOf 1 (some .int), Cond.methodLink RX2 94 yX2_spread, Cond.instanceMethod yX2_spread, Cond.selects RX2 yX2_spread yX2_spread, Cond.code yX2_spread cX2_spread 2 none, Cond.fieldLink RX2 18 "DustVote$Moment" "deep" "[Z", Cond.methodLink RX5 101 yX2_isDeep, Cond.instanceMethod yX2_isDeep, Cond.selects RX2 yX2_isDeep yX2_isDeep, Cond.code yX2_isDeep cX2_isDeep 2 (some .boolean), Cond.methodLink RX2 58 yX2_dustIn, Cond.instanceMethod yX2_dustIn, Cond.selects RX2 yX2_dustIn yX2_dustIn, Cond.code yX2_dustIn cX2_dustIn 2 (some .int)]
def wsX5_isDeepBehind : List Cond := .code yX5_isDeepBehind cX5_isDeepBehind 6 (some .boolean) :: ((wsX5_isDeepBehind_r1 ++ (wsX5_isDeepBehind_r2 ++ (wsX5_isDeepBehind_r3 ++ wsX5_isDeepBehind_r4))) ++ wsX50 ++ wsX20 ++ wsX40)
def wsX5_twice_r1 : List Cond := [Cond.methodLink RX5 93 yX5_isStreet, Cond.static yX5_isStreet, Cond.initialized RX5, Cond.code yX5_isStreet cX5_isStreet 1 (some .boolean), Cond.methodLink RX5 61 yX5_within, Cond.static yX5_within, Cond.code yX5_within cX5_within 3 (some .boolean), Cond.methodLink RX5 224 yX5_isDeepBehind, Cond.instanceMethod yX5_isDeepBehind, Cond.selects RX5 yX5_isDeepBehind yX5_isDeepBehind, Cond.code yX5_isDeepBehind cX5_isDeepBehind 6 (some .boolean), Cond.methodLink RX5 173 yX5_fromNow, Cond.instanceMethod yX5_fromNow, Cond.selects RX5 yX5_fromNow yX5_fromNow, Cond.code yX5_fromNow cX5_fromNow 1 (some (.object "DustVote$Moment")), Cond.fieldLink RX5 32 "DustVote" "trial" "LDustVote$Moment;", Cond.fieldLink RX5 28 "DustVote" "now" "LDustVote$Moment;", Cond.methodLink RX5 247 yX2_copy, Cond.instanceMethod yX2_copy, Cond.selects RX2 yX2_copy yX2_copy, Cond.initialized RX2, Cond.code yX2_copy cX2_copy 2 none, Cond.fieldLink RX2 9 "DustVote$Moment" "dust" "[I", Cond.methodLink RX2 42 arraycopyName]
def wsX5_twice_r2 : List Cond := [Cond.native arraycopyName, Cond.static arraycopyName, Cond.initialized "java/lang/System", Cond.fieldLink RX2 15 "DustVote$Moment" "place" "[I", Cond.fieldLink RX2 22 "DustVote$Moment" "given" "Z", Cond.fieldLink RX2 26 "DustVote$Moment" "bent" "I", Cond.fieldLink RX2 30 "DustVote$Moment" "dawns" "I", Cond.methodLink RX5 129 yX2_passDawn, Cond.instanceMethod yX2_passDawn, Cond.selects RX2 yX2_passDawn yX2_passDawn, Cond.code yX2_passDawn cX2_passDawn 4 none, Cond.fieldLink RX2 33 "DustVote$Moment" "told" "LDustVote$Told;", Cond.methodLink RX2 87 yX2_comeDown, Cond.instanceMethod yX2_comeDown, Cond.selects RX2 yX2_comeDown yX2_comeDown, Cond.code yX2_comeDown cX2_comeDown 4 none, Cond.methodLink RX2 106 yX2_pour, Cond.instanceMethod yX2_pour, Cond.selects RX2 yX2_pour yX2_pour, Cond.code yX2_pour cX2_pour 3 none, Cond.methodLink RX2 119 Lib.Math.min.name, Cond.static Lib.Math.min.name, Cond.initialized "java/lang/Math", Cond.code Lib.Math.min.name Lib.Math.min.code 2 (some .int)]
def wsX5_twice_r3 : List Cond := [Cond.methodLink RX2 91 yX2_work, Cond.instanceMethod yX2_work, Cond.selects RX2 yX2_work yX2_work, Cond.code yX2_work cX2_work 4 none, Cond.methodLink RX2 68 yX2_placeOf, Cond.instanceMethod yX2_placeOf, Cond.selects RX2 yX2_placeOf yX2_placeOf, Cond.code yX2_placeOf cX2_placeOf 2 (some .int), Cond.methodLink RX2 55 yX4_hasBroom, Cond.instanceMethod yX4_hasBroom, Cond.selects RX4 yX4_hasBroom yX4_hasBroom, Cond.initialized RX4, Cond.code yX4_hasBroom cX4_hasBroom 2 (some .boolean), Cond.fieldLink RX4 30 "DustVote$Told" "brooms" "I", Cond.methodLink RX2 109 yX4_strengthOf, Cond.instanceMethod yX4_strengthOf, Cond.selects RX4 yX4_strengthOf yX4_strengthOf, Cond.code yX4_strengthOf cX4_strengthOf 2 (some .int), Cond.fieldLink RX4 18 "DustVote$Told" "strength" "[I", Cond.methodLink RX2 112 yX2_worksAs, Cond.instanceMethod yX2_worksAs, Cond.selects RX2 yX2_worksAs yX2_worksAs, Cond.code yX2_worksAs cX2_worksAs 3 (some .int), Cond.methodLink RX2 71 yX4_kindOf]
def wsX5_twice_r4 : List Cond := [Cond.instanceMethod yX4_kindOf, Cond.selects RX4 yX4_kindOf yX4_kindOf, Cond.code yX4_kindOf cX4_kindOf 2 (some .int), Cond.fieldLink RX4 21 "DustVote$Told" "kind" "[I", Cond.methodLink RX2 74 yX2_isBent, Cond.instanceMethod yX2_isBent, Cond.selects RX2 yX2_isBent yX2_isBent, Cond.code yX2_isBent cX2_isBent 2 (some .boolean), Cond.methodLink RX2 115 yX2_sweep, Cond.instanceMethod yX2_sweep, Cond.selects RX2 yX2_sweep yX2_sweep, Cond.code yX2_sweep cX2_sweep 4 (some .int), Cond.methodLink RX2 80 yX2_rightOf, Cond.static yX2_rightOf, Cond.code yX2_rightOf cX2_rightOf 1 (some .int), Cond.methodLink RX2 77 yX2_leftOf, Cond.static yX2_leftOf, Cond.code yX2_leftOf cX2_leftOf 1 (some .int), Cond.methodLink RX2 94 yX2_spread, Cond.instanceMethod yX2_spread, Cond.selects RX2 yX2_spread yX2_spread, Cond.code yX2_spread cX2_spread 2 none, Cond.fieldLink RX2 18 "DustVote$Moment" "deep" "[Z", Cond.methodLink RX5 101 yX2_isDeep]
def wsX5_twice_r5 : List Cond := [Cond.instanceMethod yX2_isDeep, Cond.selects RX2 yX2_isDeep yX2_isDeep, Cond.code yX2_isDeep cX2_isDeep 2 (some .boolean), Cond.methodLink RX2 58 yX2_dustIn, Cond.instanceMethod yX2_dustIn, Cond.selects RX2 yX2_dustIn yX2_dustIn, Cond.code yX2_dustIn cX2_dustIn 2 (some .int), Cond.methodLink RX5 152 yJ6_bitCount_0f7a4, Cond.static yJ6_bitCount_0f7a4, Cond.initialized RJ6, Cond.code yJ6_bitCount_0f7a4 cJ6_bitCount_0f7a4 1 (some .int), Cond.constant RJ6 265 (1431655765), Cond.constant RJ6 266 (858993459), Cond.constant RJ6 267 (252645135), Cond.methodLink RX5 187 yX5_power, Cond.static yX5_power, Cond.code yX5_power cX5_power 5 (some .long), Cond.methodLink RX5 217 yX5_fraction, Cond.static yX5_fraction, Cond.code yX5_fraction cX5_fraction 7 (some .int), Cond.methodLink RX5 272 Lib.MathLoose.abs_long.x, Cond.static Lib.MathLoose.abs_long.x, Cond.code Lib.MathLoose.abs_long.x Lib.MathLoose.abs_long.code 2 (some .long), Cond.methodLink RX5 191 Lib.MathLoose.max_long.x]
def wsX5_twice_r6 : List Cond := [Cond.static Lib.MathLoose.max_long.x, Cond.code Lib.MathLoose.max_long.x Lib.MathLoose.max_long.code 4 (some .long), Cond.methodLink RX5 276 yX5_commonDivisor, Cond.static yX5_commonDivisor, Cond.code yX5_commonDivisor cX5_commonDivisor 11 (some .long)]
def wsX5_twice : List Cond := .code yX5_twice cX5_twice 9 (some .int) :: ((wsX5_twice_r1 ++ (wsX5_twice_r2 ++ (wsX5_twice_r3 ++ (wsX5_twice_r4 ++ (wsX5_twice_r5 ++ wsX5_twice_r6))))) ++ wsX50 ++ wsX20 ++ wsX40)
def wsX5_seed : List Cond := .code yX5_seed cX5_seed 5 (some .long) :: ([.fieldLink RX5 57 "DustVote" "chance" "J"] ++ wsX50)
def wsX5_happen_r1 : List Cond := [Cond.methodLink RX5 250 yX5_tryStep, Cond.instanceMethod yX5_tryStep, Cond.selects RX5 yX5_tryStep yX5_tryStep, Cond.initialized RX5, Cond.code yX5_tryStep cX5_tryStep 4 (some .boolean), Cond.fieldLink RX5 19 "DustVote" "told" "LDustVote$Told;", Cond.methodLink RX5 107 yX4_hasBroom, Cond.instanceMethod yX4_hasBroom, Cond.selects RX4 yX4_hasBroom yX4_hasBroom, Cond.initialized RX4, Cond.code yX4_hasBroom cX4_hasBroom 2 (some .boolean), Cond.fieldLink RX4 30 "DustVote$Told" "brooms" "I", Cond.methodLink RX5 61 yX5_within, Cond.static yX5_within, Cond.code yX5_within cX5_within 3 (some .boolean), Cond.methodLink RX5 136 yX2_step, Cond.instanceMethod yX2_step, Cond.selects RX2 yX2_step yX2_step, Cond.initialized RX2, Cond.code yX2_step cX2_step 4 none, Cond.methodLink RX2 68 yX2_placeOf, Cond.instanceMethod yX2_placeOf, Cond.selects RX2 yX2_placeOf yX2_placeOf, Cond.code yX2_placeOf cX2_placeOf 2 (some .int)]
def wsX5_happen_r2 : List Cond := [Cond.fieldLink RX2 33 "DustVote$Moment" "told" "LDustVote$Told;", Cond.fieldLink RX2 15 "DustVote$Moment" "place" "[I", Cond.methodLink RX2 55 yX4_hasBroom, Cond.methodLink RX2 77 yX2_leftOf, Cond.static yX2_leftOf, Cond.code yX2_leftOf cX2_leftOf 1 (some .int), Cond.methodLink RX2 80 yX2_rightOf, Cond.static yX2_rightOf, Cond.code yX2_rightOf cX2_rightOf 1 (some .int), Cond.methodLink RX2 83 yX2_goTo, Cond.instanceMethod yX2_goTo, Cond.selects RX2 yX2_goTo yX2_goTo, Cond.code yX2_goTo cX2_goTo 3 none, Cond.methodLink RX5 258 yX5_tryVote, Cond.instanceMethod yX5_tryVote, Cond.selects RX5 yX5_tryVote yX5_tryVote, Cond.code yX5_tryVote cX5_tryVote 2 (some .boolean), Cond.methodLink RX5 139 yX2_turnVote, Cond.instanceMethod yX2_turnVote, Cond.selects RX2 yX2_turnVote yX2_turnVote, Cond.code yX2_turnVote cX2_turnVote 1 none, Cond.fieldLink RX2 22 "DustVote$Moment" "given" "Z", Cond.methodLink RX5 265 yX5_tryEmpty, Cond.instanceMethod yX5_tryEmpty]
def wsX5_happen_r3 : List Cond := [Cond.selects RX5 yX5_tryEmpty yX5_tryEmpty, Cond.code yX5_tryEmpty cX5_tryEmpty 3 (some .boolean), Cond.methodLink RX5 93 yX5_isStreet, Cond.static yX5_isStreet, Cond.code yX5_isStreet cX5_isStreet 1 (some .boolean), Cond.methodLink RX5 97 yX2_dustIn, Cond.instanceMethod yX2_dustIn, Cond.selects RX2 yX2_dustIn yX2_dustIn, Cond.code yX2_dustIn cX2_dustIn 2 (some .int), Cond.fieldLink RX2 9 "DustVote$Moment" "dust" "[I", Cond.methodLink RX5 157 yX2_empty, Cond.instanceMethod yX2_empty, Cond.selects RX2 yX2_empty yX2_empty, Cond.code yX2_empty cX2_empty 2 none, Cond.methodLink RX5 254 yX5_tryDawn, Cond.instanceMethod yX5_tryDawn, Cond.selects RX5 yX5_tryDawn yX5_tryDawn, Cond.code yX5_tryDawn cX5_tryDawn 2 (some .boolean), Cond.methodLink RX5 129 yX2_passDawn, Cond.instanceMethod yX2_passDawn, Cond.selects RX2 yX2_passDawn yX2_passDawn, Cond.code yX2_passDawn cX2_passDawn 4 none, Cond.fieldLink RX2 30 "DustVote$Moment" "dawns" "I", Cond.methodLink RX2 87 yX2_comeDown]
def wsX5_happen_r4 : List Cond := [Cond.instanceMethod yX2_comeDown, Cond.selects RX2 yX2_comeDown yX2_comeDown, Cond.code yX2_comeDown cX2_comeDown 4 none, Cond.methodLink RX2 106 yX2_pour, Cond.instanceMethod yX2_pour, Cond.selects RX2 yX2_pour yX2_pour, Cond.code yX2_pour cX2_pour 3 none, Cond.methodLink RX2 119 Lib.Math.min.name, Cond.static Lib.Math.min.name, Cond.initialized "java/lang/Math", Cond.code Lib.Math.min.name Lib.Math.min.code 2 (some .int), Cond.methodLink RX2 91 yX2_work, Cond.instanceMethod yX2_work, Cond.selects RX2 yX2_work yX2_work, Cond.code yX2_work cX2_work 4 none, Cond.methodLink RX2 109 yX4_strengthOf, Cond.instanceMethod yX4_strengthOf, Cond.selects RX4 yX4_strengthOf yX4_strengthOf, Cond.code yX4_strengthOf cX4_strengthOf 2 (some .int), Cond.fieldLink RX4 18 "DustVote$Told" "strength" "[I", Cond.methodLink RX2 112 yX2_worksAs, Cond.instanceMethod yX2_worksAs, Cond.selects RX2 yX2_worksAs yX2_worksAs, Cond.code yX2_worksAs cX2_worksAs 3 (some .int)]
def wsX5_happen_r5 : List Cond := [Cond.methodLink RX2 71 yX4_kindOf, Cond.instanceMethod yX4_kindOf, Cond.selects RX4 yX4_kindOf yX4_kindOf, Cond.code yX4_kindOf cX4_kindOf 2 (some .int), Cond.fieldLink RX4 21 "DustVote$Told" "kind" "[I", Cond.methodLink RX2 74 yX2_isBent, Cond.instanceMethod yX2_isBent, Cond.selects RX2 yX2_isBent yX2_isBent, Cond.code yX2_isBent cX2_isBent 2 (some .boolean), Cond.fieldLink RX2 26 "DustVote$Moment" "bent" "I", Cond.methodLink RX2 115 yX2_sweep, Cond.instanceMethod yX2_sweep, Cond.selects RX2 yX2_sweep yX2_sweep, Cond.code yX2_sweep cX2_sweep 4 (some .int), Cond.methodLink RX2 94 yX2_spread, Cond.instanceMethod yX2_spread, Cond.selects RX2 yX2_spread yX2_spread, Cond.code yX2_spread cX2_spread 2 none, Cond.fieldLink RX2 18 "DustVote$Moment" "deep" "[Z"]
def wsX5_happen : List Cond := .code yX5_happen cX5_happen 3 none :: ((wsX5_happen_r1 ++ (wsX5_happen_r2 ++ (wsX5_happen_r3 ++ (wsX5_happen_r4 ++ wsX5_happen_r5)))) ++ wsX50 ++ wsX40 ++ wsX20)
def wsX5_years_r1 : List Cond := [Cond.fieldLink RX5 57 "DustVote" "chance" "J", Cond.constantLong RX5 227 (6364136223846793005), Cond.constantLong RX5 229 (1442695040888963407), Cond.constantLong RX5 231 (32), Cond.methodLink RX5 61 yX5_within, Cond.static yX5_within, Cond.initialized RX5, Cond.code yX5_within cX5_within 3 (some .boolean), Cond.methodLink RX5 173 yX5_fromNow, Cond.instanceMethod yX5_fromNow, Cond.selects RX5 yX5_fromNow yX5_fromNow, Cond.code yX5_fromNow cX5_fromNow 1 (some (.object "DustVote$Moment")), Cond.fieldLink RX5 32 "DustVote" "trial" "LDustVote$Moment;", Cond.fieldLink RX5 28 "DustVote" "now" "LDustVote$Moment;", Cond.methodLink RX5 247 yX2_copy, Cond.instanceMethod yX2_copy, Cond.selects RX2 yX2_copy yX2_copy, Cond.initialized RX2, Cond.code yX2_copy cX2_copy 2 none, Cond.fieldLink RX2 9 "DustVote$Moment" "dust" "[I", Cond.methodLink RX2 42 arraycopyName, Cond.native arraycopyName, Cond.static arraycopyName, Cond.initialized "java/lang/System"]
def wsX5_years_r2 : List Cond := [Cond.fieldLink RX2 15 "DustVote$Moment" "place" "[I", Cond.fieldLink RX2 22 "DustVote$Moment" "given" "Z", Cond.fieldLink RX2 26 "DustVote$Moment" "bent" "I", Cond.fieldLink RX2 30 "DustVote$Moment" "dawns" "I", Cond.methodLink RX5 233 yX5_happen, Cond.instanceMethod yX5_happen, Cond.selects RX5 yX5_happen yX5_happen, Cond.code yX5_happen cX5_happen 3 none, Cond.methodLink RX5 250 yX5_tryStep, Cond.instanceMethod yX5_tryStep, Cond.selects RX5 yX5_tryStep yX5_tryStep, Cond.code yX5_tryStep cX5_tryStep 4 (some .boolean), Cond.fieldLink RX5 19 "DustVote" "told" "LDustVote$Told;", Cond.methodLink RX5 107 yX4_hasBroom, Cond.instanceMethod yX4_hasBroom, Cond.selects RX4 yX4_hasBroom yX4_hasBroom, Cond.initialized RX4, Cond.code yX4_hasBroom cX4_hasBroom 2 (some .boolean), Cond.fieldLink RX4 30 "DustVote$Told" "brooms" "I", Cond.methodLink RX5 136 yX2_step, Cond.instanceMethod yX2_step, Cond.selects RX2 yX2_step yX2_step, Cond.code yX2_step cX2_step 4 none, Cond.methodLink RX2 68 yX2_placeOf]
def wsX5_years_r3 : List Cond := [Cond.instanceMethod yX2_placeOf, Cond.selects RX2 yX2_placeOf yX2_placeOf, Cond.code yX2_placeOf cX2_placeOf 2 (some .int), Cond.fieldLink RX2 33 "DustVote$Moment" "told" "LDustVote$Told;", Cond.methodLink RX2 55 yX4_hasBroom, Cond.methodLink RX2 77 yX2_leftOf, Cond.static yX2_leftOf, Cond.code yX2_leftOf cX2_leftOf 1 (some .int), Cond.methodLink RX2 80 yX2_rightOf, Cond.static yX2_rightOf, Cond.code yX2_rightOf cX2_rightOf 1 (some .int), Cond.methodLink RX2 83 yX2_goTo, Cond.instanceMethod yX2_goTo, Cond.selects RX2 yX2_goTo yX2_goTo, Cond.code yX2_goTo cX2_goTo 3 none, Cond.methodLink RX5 258 yX5_tryVote, Cond.instanceMethod yX5_tryVote, Cond.selects RX5 yX5_tryVote yX5_tryVote, Cond.code yX5_tryVote cX5_tryVote 2 (some .boolean), Cond.methodLink RX5 139 yX2_turnVote, Cond.instanceMethod yX2_turnVote, Cond.selects RX2 yX2_turnVote yX2_turnVote, Cond.code yX2_turnVote cX2_turnVote 1 none, Cond.methodLink RX5 265 yX5_tryEmpty]
def wsX5_years_r4 : List Cond := [Cond.instanceMethod yX5_tryEmpty, Cond.selects RX5 yX5_tryEmpty yX5_tryEmpty, Cond.code yX5_tryEmpty cX5_tryEmpty 3 (some .boolean), Cond.methodLink RX5 93 yX5_isStreet, Cond.static yX5_isStreet, Cond.code yX5_isStreet cX5_isStreet 1 (some .boolean), Cond.methodLink RX5 97 yX2_dustIn, Cond.instanceMethod yX2_dustIn, Cond.selects RX2 yX2_dustIn yX2_dustIn, Cond.code yX2_dustIn cX2_dustIn 2 (some .int), Cond.methodLink RX5 157 yX2_empty, Cond.instanceMethod yX2_empty, Cond.selects RX2 yX2_empty yX2_empty, Cond.code yX2_empty cX2_empty 2 none, Cond.methodLink RX5 254 yX5_tryDawn, Cond.instanceMethod yX5_tryDawn, Cond.selects RX5 yX5_tryDawn yX5_tryDawn, Cond.code yX5_tryDawn cX5_tryDawn 2 (some .boolean), Cond.methodLink RX5 129 yX2_passDawn, Cond.instanceMethod yX2_passDawn, Cond.selects RX2 yX2_passDawn yX2_passDawn, Cond.code yX2_passDawn cX2_passDawn 4 none, Cond.methodLink RX2 87 yX2_comeDown, Cond.instanceMethod yX2_comeDown]
def wsX5_years_r5 : List Cond := [Cond.selects RX2 yX2_comeDown yX2_comeDown, Cond.code yX2_comeDown cX2_comeDown 4 none, Cond.methodLink RX2 106 yX2_pour, Cond.instanceMethod yX2_pour, Cond.selects RX2 yX2_pour yX2_pour, Cond.code yX2_pour cX2_pour 3 none, Cond.methodLink RX2 119 Lib.Math.min.name, Cond.static Lib.Math.min.name, Cond.initialized "java/lang/Math", Cond.code Lib.Math.min.name Lib.Math.min.code 2 (some .int), Cond.methodLink RX2 91 yX2_work, Cond.instanceMethod yX2_work, Cond.selects RX2 yX2_work yX2_work, Cond.code yX2_work cX2_work 4 none, Cond.methodLink RX2 109 yX4_strengthOf, Cond.instanceMethod yX4_strengthOf, Cond.selects RX4 yX4_strengthOf yX4_strengthOf, Cond.code yX4_strengthOf cX4_strengthOf 2 (some .int), Cond.fieldLink RX4 18 "DustVote$Told" "strength" "[I", Cond.methodLink RX2 112 yX2_worksAs, Cond.instanceMethod yX2_worksAs, Cond.selects RX2 yX2_worksAs yX2_worksAs, Cond.code yX2_worksAs cX2_worksAs 3 (some .int), Cond.methodLink RX2 71 yX4_kindOf]
def wsX5_years_r6 : List Cond := [Cond.instanceMethod yX4_kindOf, Cond.selects RX4 yX4_kindOf yX4_kindOf, Cond.code yX4_kindOf cX4_kindOf 2 (some .int), Cond.fieldLink RX4 21 "DustVote$Told" "kind" "[I", Cond.methodLink RX2 74 yX2_isBent, Cond.instanceMethod yX2_isBent, Cond.selects RX2 yX2_isBent yX2_isBent, Cond.code yX2_isBent cX2_isBent 2 (some .boolean), Cond.methodLink RX2 115 yX2_sweep, Cond.instanceMethod yX2_sweep, Cond.selects RX2 yX2_sweep yX2_sweep, Cond.code yX2_sweep cX2_sweep 4 (some .int), Cond.methodLink RX2 94 yX2_spread, Cond.instanceMethod yX2_spread, Cond.selects RX2 yX2_spread yX2_spread, Cond.code yX2_spread cX2_spread 2 none, Cond.fieldLink RX2 18 "DustVote$Moment" "deep" "[Z", Cond.methodLink RX5 133 yX2_allDust, Cond.instanceMethod yX2_allDust, Cond.selects RX2 yX2_allDust yX2_allDust, Cond.code yX2_allDust cX2_allDust 3 (some .int)]
def wsX5_years : List Cond := .code yX5_years cX5_years 5 (some .int) :: ((wsX5_years_r1 ++ (wsX5_years_r2 ++ (wsX5_years_r3 ++ (wsX5_years_r4 ++ (wsX5_years_r5 ++ wsX5_years_r6))))) ++ wsX50 ++ wsX20 ++ wsX40)
def wsX5_keep : List Cond := .code yX5_keep cX5_keep 2 (some .int) :: ([.fieldLink RX5 28 "DustVote" "now" "LDustVote$Moment;", .fieldLink RX5 49 "DustVote" "slots" "[I", .fieldLink RX5 53 "DustVote" "filled" "[Z", .methodLink RX5 61 yX5_within, .static yX5_within, .initialized RX5, .code yX5_within cX5_within 3 (some .boolean), .methodLink RX5 237 yX2_save, .instanceMethod yX2_save, .selects RX2 yX2_save yX2_save, .initialized RX2, .code yX2_save cX2_save 4 none, .fieldLink RX2 9 "DustVote$Moment" "dust" "[I", .methodLink RX2 42 arraycopyName, .native arraycopyName, .static arraycopyName, .initialized "java/lang/System", .fieldLink RX2 15 "DustVote$Moment" "place" "[I", .fieldLink RX2 22 "DustVote$Moment" "given" "Z", .fieldLink RX2 26 "DustVote$Moment" "bent" "I", .fieldLink RX2 30 "DustVote$Moment" "dawns" "I"] ++ wsX50 ++ wsX20)
def wsX5_again_r1 : List Cond := [Cond.fieldLink RX5 53 "DustVote" "filled" "[Z", Cond.fieldLink RX5 28 "DustVote" "now" "LDustVote$Moment;", Cond.fieldLink RX5 49 "DustVote" "slots" "[I", Cond.fieldLink RX5 38 "DustVote" "acts" "LDustVote$ActRow;", Cond.methodLink RX5 61 yX5_within, Cond.static yX5_within, Cond.initialized RX5, Cond.code yX5_within cX5_within 3 (some .boolean), Cond.methodLink RX5 244 yX2_load, Cond.instanceMethod yX2_load, Cond.selects RX2 yX2_load yX2_load, Cond.initialized RX2, Cond.code yX2_load cX2_load 4 none, Cond.fieldLink RX2 9 "DustVote$Moment" "dust" "[I", Cond.methodLink RX2 42 arraycopyName, Cond.native arraycopyName, Cond.static arraycopyName, Cond.initialized "java/lang/System", Cond.fieldLink RX2 15 "DustVote$Moment" "place" "[I", Cond.fieldLink RX2 22 "DustVote$Moment" "given" "Z", Cond.fieldLink RX2 26 "DustVote$Moment" "bent" "I", Cond.fieldLink RX2 30 "DustVote$Moment" "dawns" "I", Cond.methodLink RX5 84 yX0_clear, Cond.instanceMethod yX0_clear]
def wsX5_again_r2 : List Cond := [Cond.selects RX0 yX0_clear yX0_clear, Cond.initialized RX0, Cond.code yX0_clear cX0_clear 1 none, Cond.fieldLink RX0 15 "DustVote$ActRow" "first" "I", Cond.fieldLink RX0 19 "DustVote$ActRow" "size" "I"]
def wsX5_again : List Cond := .code yX5_again cX5_again 2 (some .int) :: ((wsX5_again_r1 ++ wsX5_again_r2) ++ wsX50 ++ wsX20 ++ wsX00)
def wsX5_count_r1 : List Cond := [Cond.fieldLink RX5 12 "DustVote" "script" "LDustVote$Script;", Cond.fieldLink RX5 19 "DustVote" "told" "LDustVote$Told;", Cond.fieldLink RX5 28 "DustVote" "now" "LDustVote$Moment;", Cond.fieldLink RX5 38 "DustVote" "acts" "LDustVote$ActRow;", Cond.fieldLink RX5 45 "DustVote" "heaps" "LDustVote$Heaps;", Cond.methodLink RX5 133 yX2_allDust, Cond.instanceMethod yX2_allDust, Cond.selects RX2 yX2_allDust yX2_allDust, Cond.initialized RX2, Cond.code yX2_allDust cX2_allDust 3 (some .int), Cond.fieldLink RX2 9 "DustVote$Moment" "dust" "[I", Cond.methodLink RX5 170 yX2_deepStreets, Cond.instanceMethod yX2_deepStreets, Cond.selects RX2 yX2_deepStreets yX2_deepStreets, Cond.code yX2_deepStreets cX2_deepStreets 3 (some .int), Cond.methodLink RX2 62 yX2_isDeep, Cond.instanceMethod yX2_isDeep, Cond.selects RX2 yX2_isDeep yX2_isDeep, Cond.code yX2_isDeep cX2_isDeep 2 (some .boolean), Cond.methodLink RX2 58 yX2_dustIn, Cond.instanceMethod yX2_dustIn, Cond.selects RX2 yX2_dustIn yX2_dustIn, Cond.code yX2_dustIn cX2_dustIn 2 (some .int), Cond.static yX5_isStreet]
def wsX5_count_r2 : List Cond := [Cond.initialized RX5, Cond.code yX5_isStreet cX5_isStreet 1 (some .boolean)]
def wsX5_count : List Cond := .code yX5_count cX5_count 2 (some .int) :: ((wsX5_count_r1 ++ wsX5_count_r2) ++ wsX50 ++ wsX30 ++ wsX40 ++ wsX20 ++ wsX00 ++ wsX10)
def wsX6_init : List Cond := .code yX6_init cX6_init 1 none :: ([.methodLink RX6 1 objectInit, .instanceMethod objectInit, .code objectInit ⟨#[0xb1]⟩ 1 none, .arrayClass .int, .fieldLink RX6 7 "DustVoteModel" "strength" "[I", .fieldLink RX6 13 "DustVoteModel" "kind" "[I", .fieldLink RX6 16 "DustVoteModel" "fallAt" "[I", .fieldLink RX6 19 "DustVoteModel" "fallen" "[I", .fieldLink RX6 22 "DustVoteModel" "now" "[I", .fieldLink RX6 25 "DustVoteModel" "readDust" "[I", .fieldLink RX6 28 "DustVoteModel" "readBroom" "[I", .fieldLink RX6 31 "DustVoteModel" "readFall" "[I", .fieldLink RX6 34 "DustVoteModel" "text" "[I", .fieldLink RX6 37 "DustVoteModel" "working" "I", .fieldLink RX6 41 "DustVoteModel" "row" "[I", .fieldLink RX6 44 "DustVoteModel" "heapHad" "[I", .fieldLink RX6 47 "DustVoteModel" "heapLeft" "[I", .fieldLink RX6 50 "DustVoteModel" "heapWent" "[I", .arrayClass .boolean, .fieldLink RX6 53 "DustVoteModel" "isKept" "[Z", .fieldLink RX6 57 "DustVoteModel" "kept" "[I"] ++ wsX60)
def wsX6_in : List Cond := .code yX6_in cX6_in 6 (some .boolean) :: ([])
def wsX6_has : List Cond := .code yX6_has cX6_has 2 (some .boolean) :: ([])
def wsX6_ones : List Cond := .code yX6_ones cX6_ones 3 (some .int) :: ([])
def wsX6_write : List Cond := .code yX6_write cX6_write 2 (some .int) :: ([.constantLong RX6 60 (255), .fieldLink RX6 66 "DustVoteModel" "length" "I", .fieldLink RX6 34 "DustVoteModel" "text" "[I", .methodLink RX6 62 yX6_in, .static yX6_in, .initialized RX6, .code yX6_in cX6_in 6 (some .boolean)] ++ wsX60)
def wsX6_wipe : List Cond := .code yX6_wipe cX6_wipe 2 (some .int) :: ([.fieldLink RX6 66 "DustVoteModel" "length" "I"] ++ wsX60)
def wsX6_figureOf : List Cond := .code yX6_figureOf cX6_figureOf 5 (some .int) :: ([.fieldLink RX6 69 "DustVoteModel" "faultAt" "I", .fieldLink RX6 72 "DustVoteModel" "at" "I", .fieldLink RX6 66 "DustVoteModel" "length" "I", .fieldLink RX6 34 "DustVoteModel" "text" "[I", .methodLink RX6 62 yX6_in, .static yX6_in, .initialized RX6, .code yX6_in cX6_in 6 (some .boolean)] ++ wsX60)
def wsX6_readPart : List Cond := .code yX6_readPart cX6_readPart 2 none :: ([.fieldLink RX6 75 "DustVoteModel" "readBrooms" "I", .fieldLink RX6 72 "DustVoteModel" "at" "I", .fieldLink RX6 28 "DustVoteModel" "readBroom" "[I", .fieldLink RX6 78 "DustVoteModel" "readFalls" "I", .fieldLink RX6 31 "DustVoteModel" "readFall" "[I", .fieldLink RX6 69 "DustVoteModel" "faultAt" "I", .methodLink RX6 81 yX6_figureOf, .instanceMethod yX6_figureOf, .selects RX6 yX6_figureOf yX6_figureOf, .initialized RX6, .code yX6_figureOf cX6_figureOf 5 (some .int), .fieldLink RX6 66 "DustVoteModel" "length" "I", .fieldLink RX6 34 "DustVoteModel" "text" "[I", .methodLink RX6 62 yX6_in, .static yX6_in, .code yX6_in cX6_in 6 (some .boolean)] ++ wsX60)
def wsX6_readText : List Cond := .code yX6_readText cX6_readText 2 (some .int) :: ([.fieldLink RX6 72 "DustVoteModel" "at" "I", .fieldLink RX6 69 "DustVoteModel" "faultAt" "I", .fieldLink RX6 75 "DustVoteModel" "readBrooms" "I", .fieldLink RX6 78 "DustVoteModel" "readFalls" "I", .fieldLink RX6 66 "DustVoteModel" "length" "I", .fieldLink RX6 34 "DustVoteModel" "text" "[I", .fieldLink RX6 25 "DustVoteModel" "readDust" "[I", .methodLink RX6 81 yX6_figureOf, .instanceMethod yX6_figureOf, .selects RX6 yX6_figureOf yX6_figureOf, .initialized RX6, .code yX6_figureOf cX6_figureOf 5 (some .int), .methodLink RX6 62 yX6_in, .static yX6_in, .code yX6_in cX6_in 6 (some .boolean), .methodLink RX6 85 yX6_readPart, .instanceMethod yX6_readPart, .selects RX6 yX6_readPart yX6_readPart, .code yX6_readPart cX6_readPart 2 none, .fieldLink RX6 28 "DustVoteModel" "readBroom" "[I", .fieldLink RX6 31 "DustVoteModel" "readFall" "[I"] ++ wsX60)
def wsX6_fault_r1 : List Cond := [Cond.methodLink RX6 89 yX6_readText, Cond.instanceMethod yX6_readText, Cond.selects RX6 yX6_readText yX6_readText, Cond.initialized RX6, Cond.code yX6_readText cX6_readText 2 (some .int), Cond.fieldLink RX6 72 "DustVoteModel" "at" "I", Cond.fieldLink RX6 69 "DustVoteModel" "faultAt" "I", Cond.fieldLink RX6 75 "DustVoteModel" "readBrooms" "I", Cond.fieldLink RX6 78 "DustVoteModel" "readFalls" "I", Cond.fieldLink RX6 66 "DustVoteModel" "length" "I", Cond.fieldLink RX6 34 "DustVoteModel" "text" "[I", Cond.fieldLink RX6 25 "DustVoteModel" "readDust" "[I", Cond.methodLink RX6 81 yX6_figureOf, Cond.instanceMethod yX6_figureOf, Cond.selects RX6 yX6_figureOf yX6_figureOf, Cond.code yX6_figureOf cX6_figureOf 5 (some .int), Cond.methodLink RX6 62 yX6_in, Cond.static yX6_in, Cond.code yX6_in cX6_in 6 (some .boolean), Cond.methodLink RX6 85 yX6_readPart, Cond.instanceMethod yX6_readPart, Cond.selects RX6 yX6_readPart yX6_readPart, Cond.code yX6_readPart cX6_readPart 2 none, Cond.fieldLink RX6 28 "DustVoteModel" "readBroom" "[I"]
def wsX6_fault_r2 : List Cond := [Cond.fieldLink RX6 31 "DustVoteModel" "readFall" "[I"]
def wsX6_fault : List Cond := .code yX6_fault cX6_fault 1 (some .int) :: ((wsX6_fault_r1 ++ wsX6_fault_r2) ++ wsX60)
def wsX6_city_r1 : List Cond := [Cond.fieldLink RX6 75 "DustVoteModel" "readBrooms" "I", Cond.fieldLink RX6 93 "DustVoteModel" "brooms" "I", Cond.fieldLink RX6 78 "DustVoteModel" "readFalls" "I", Cond.fieldLink RX6 96 "DustVoteModel" "falls" "I", Cond.fieldLink RX6 22 "DustVoteModel" "now" "[I", Cond.fieldLink RX6 25 "DustVoteModel" "readDust" "[I", Cond.fieldLink RX6 28 "DustVoteModel" "readBroom" "[I", Cond.fieldLink RX6 7 "DustVoteModel" "strength" "[I", Cond.fieldLink RX6 13 "DustVoteModel" "kind" "[I", Cond.fieldLink RX6 16 "DustVoteModel" "fallAt" "[I", Cond.fieldLink RX6 31 "DustVoteModel" "readFall" "[I", Cond.fieldLink RX6 19 "DustVoteModel" "fallen" "[I", Cond.fieldLink RX6 99 "DustVoteModel" "acts" "I", Cond.fieldLink RX6 53 "DustVoteModel" "isKept" "[Z", Cond.methodLink RX6 89 yX6_readText, Cond.instanceMethod yX6_readText, Cond.selects RX6 yX6_readText yX6_readText, Cond.initialized RX6, Cond.code yX6_readText cX6_readText 2 (some .int), Cond.fieldLink RX6 72 "DustVoteModel" "at" "I", Cond.fieldLink RX6 69 "DustVoteModel" "faultAt" "I", Cond.fieldLink RX6 66 "DustVoteModel" "length" "I", Cond.fieldLink RX6 34 "DustVoteModel" "text" "[I", Cond.methodLink RX6 81 yX6_figureOf]
def wsX6_city_r2 : List Cond := [Cond.instanceMethod yX6_figureOf, Cond.selects RX6 yX6_figureOf yX6_figureOf, Cond.code yX6_figureOf cX6_figureOf 5 (some .int), Cond.methodLink RX6 62 yX6_in, Cond.static yX6_in, Cond.code yX6_in cX6_in 6 (some .boolean), Cond.methodLink RX6 85 yX6_readPart, Cond.instanceMethod yX6_readPart, Cond.selects RX6 yX6_readPart yX6_readPart, Cond.code yX6_readPart cX6_readPart 2 none]
def wsX6_city : List Cond := .code yX6_city cX6_city 2 (some .int) :: ((wsX6_city_r1 ++ wsX6_city_r2) ++ wsX60)
def wsX6_isBroom : List Cond := .code yX6_isBroom cX6_isBroom 2 (some .boolean) :: ([.fieldLink RX6 93 "DustVoteModel" "brooms" "I", .methodLink RX6 62 yX6_in, .static yX6_in, .initialized RX6, .code yX6_in cX6_in 6 (some .boolean)] ++ wsX60)
def wsX6_isStreet : List Cond := .code yX6_isStreet cX6_isStreet 1 (some .boolean) :: ([.constantLong RX6 102 (7), .methodLink RX6 62 yX6_in, .static yX6_in, .initialized RX6, .code yX6_in cX6_in 6 (some .boolean)])
def wsX6_worksAs : List Cond := .code yX6_worksAs cX6_worksAs 4 (some .int) :: ([.fieldLink RX6 22 "DustVoteModel" "now" "[I", .fieldLink RX6 13 "DustVoteModel" "kind" "[I", .methodLink RX6 104 yX6_has, .static yX6_has, .initialized RX6, .code yX6_has cX6_has 2 (some .boolean)] ++ wsX60)
def wsX6_add : List Cond := .code yX6_add cX6_add 5 none :: ([.fieldLink RX6 22 "DustVoteModel" "now" "[I"] ++ wsX60)
def wsX6_takeOff : List Cond := .code yX6_takeOff cX6_takeOff 6 (some .int) :: ([.fieldLink RX6 22 "DustVoteModel" "now" "[I"] ++ wsX60)
def wsX6_sweep : List Cond := .code yX6_sweep cX6_sweep 6 none :: ([.fieldLink RX6 22 "DustVoteModel" "now" "[I", .fieldLink RX6 37 "DustVoteModel" "working" "I", .fieldLink RX6 7 "DustVoteModel" "strength" "[I", .methodLink RX6 108 yX6_worksAs, .instanceMethod yX6_worksAs, .selects RX6 yX6_worksAs yX6_worksAs, .initialized RX6, .code yX6_worksAs cX6_worksAs 4 (some .int), .fieldLink RX6 13 "DustVoteModel" "kind" "[I", .methodLink RX6 104 yX6_has, .static yX6_has, .code yX6_has cX6_has 2 (some .boolean), .methodLink RX6 111 yX6_takeOff, .instanceMethod yX6_takeOff, .selects RX6 yX6_takeOff yX6_takeOff, .code yX6_takeOff cX6_takeOff 6 (some .int), .methodLink RX6 115 yX6_add, .instanceMethod yX6_add, .selects RX6 yX6_add yX6_add, .code yX6_add cX6_add 5 none] ++ wsX60)
def wsX6_kneesOn : List Cond := .code yX6_kneesOn cX6_kneesOn 4 (some .int) :: ([.fieldLink RX6 22 "DustVoteModel" "now" "[I"] ++ wsX60)
def wsX6_passOn_r1 : List Cond := [Cond.fieldLink RX6 96 "DustVoteModel" "falls" "I", Cond.fieldLink RX6 22 "DustVoteModel" "now" "[I", Cond.fieldLink RX6 16 "DustVoteModel" "fallAt" "[I", Cond.fieldLink RX6 19 "DustVoteModel" "fallen" "[I", Cond.fieldLink RX6 93 "DustVoteModel" "brooms" "I", Cond.methodLink RX6 115 yX6_add, Cond.instanceMethod yX6_add, Cond.selects RX6 yX6_add yX6_add, Cond.initialized RX6, Cond.code yX6_add cX6_add 5 none, Cond.methodLink RX6 119 yX6_sweep, Cond.instanceMethod yX6_sweep, Cond.selects RX6 yX6_sweep yX6_sweep, Cond.code yX6_sweep cX6_sweep 6 none, Cond.fieldLink RX6 37 "DustVoteModel" "working" "I", Cond.fieldLink RX6 7 "DustVoteModel" "strength" "[I", Cond.methodLink RX6 108 yX6_worksAs, Cond.instanceMethod yX6_worksAs, Cond.selects RX6 yX6_worksAs yX6_worksAs, Cond.code yX6_worksAs cX6_worksAs 4 (some .int), Cond.fieldLink RX6 13 "DustVoteModel" "kind" "[I", Cond.methodLink RX6 104 yX6_has, Cond.static yX6_has, Cond.code yX6_has cX6_has 2 (some .boolean)]
def wsX6_passOn_r2 : List Cond := [Cond.methodLink RX6 111 yX6_takeOff, Cond.instanceMethod yX6_takeOff, Cond.selects RX6 yX6_takeOff yX6_takeOff, Cond.code yX6_takeOff cX6_takeOff 6 (some .int), Cond.methodLink RX6 123 yX6_kneesOn, Cond.instanceMethod yX6_kneesOn, Cond.selects RX6 yX6_kneesOn yX6_kneesOn, Cond.code yX6_kneesOn cX6_kneesOn 4 (some .int)]
def wsX6_passOn : List Cond := .code yX6_passOn cX6_passOn 6 none :: ((wsX6_passOn_r1 ++ wsX6_passOn_r2) ++ wsX60)
def wsX6_dustOn : List Cond := .code yX6_dustOn cX6_dustOn 4 (some .int) :: ([.fieldLink RX6 22 "DustVoteModel" "now" "[I"] ++ wsX60)
def wsX6_broomsIn : List Cond := .code yX6_broomsIn cX6_broomsIn 4 (some .int) :: ([.fieldLink RX6 93 "DustVoteModel" "brooms" "I", .fieldLink RX6 22 "DustVoteModel" "now" "[I"] ++ wsX60)
def wsX6_street : List Cond := .code yX6_street cX6_street 3 (some .int) :: ([.fieldLink RX6 22 "DustVoteModel" "now" "[I", .methodLink RX6 127 yX6_isStreet, .static yX6_isStreet, .initialized RX6, .code yX6_isStreet cX6_isStreet 1 (some .boolean), .constantLong RX6 102 (7), .methodLink RX6 62 yX6_in, .static yX6_in, .code yX6_in cX6_in 6 (some .boolean), .methodLink RX6 131 yX6_broomsIn, .instanceMethod yX6_broomsIn, .selects RX6 yX6_broomsIn yX6_broomsIn, .code yX6_broomsIn cX6_broomsIn 4 (some .int), .fieldLink RX6 93 "DustVoteModel" "brooms" "I"] ++ wsX60)
def wsX6_broom : List Cond := .code yX6_broom cX6_broom 3 (some .int) :: ([.fieldLink RX6 22 "DustVoteModel" "now" "[I", .fieldLink RX6 7 "DustVoteModel" "strength" "[I", .fieldLink RX6 13 "DustVoteModel" "kind" "[I", .methodLink RX6 134 yX6_isBroom, .instanceMethod yX6_isBroom, .selects RX6 yX6_isBroom yX6_isBroom, .initialized RX6, .code yX6_isBroom cX6_isBroom 2 (some .boolean), .fieldLink RX6 93 "DustVoteModel" "brooms" "I", .methodLink RX6 62 yX6_in, .static yX6_in, .code yX6_in cX6_in 6 (some .boolean), .methodLink RX6 108 yX6_worksAs, .instanceMethod yX6_worksAs, .selects RX6 yX6_worksAs yX6_worksAs, .code yX6_worksAs cX6_worksAs 4 (some .int), .methodLink RX6 104 yX6_has, .static yX6_has, .code yX6_has cX6_has 2 (some .boolean)] ++ wsX60)
def wsX6_keepAct : List Cond := .code yX6_keepAct cX6_keepAct 2 none :: ([.fieldLink RX6 41 "DustVoteModel" "row" "[I", .fieldLink RX6 137 "DustVoteModel" "next" "I", .fieldLink RX6 22 "DustVoteModel" "now" "[I", .fieldLink RX6 99 "DustVoteModel" "acts" "I"] ++ wsX60)
def wsX6_dawn_r1 : List Cond := [Cond.methodLink RX6 140 yX6_keepAct, Cond.instanceMethod yX6_keepAct, Cond.selects RX6 yX6_keepAct yX6_keepAct, Cond.initialized RX6, Cond.code yX6_keepAct cX6_keepAct 2 none, Cond.fieldLink RX6 41 "DustVoteModel" "row" "[I", Cond.fieldLink RX6 137 "DustVoteModel" "next" "I", Cond.fieldLink RX6 22 "DustVoteModel" "now" "[I", Cond.fieldLink RX6 99 "DustVoteModel" "acts" "I", Cond.methodLink RX6 143 yX6_passOn, Cond.instanceMethod yX6_passOn, Cond.selects RX6 yX6_passOn yX6_passOn, Cond.code yX6_passOn cX6_passOn 6 none, Cond.fieldLink RX6 96 "DustVoteModel" "falls" "I", Cond.fieldLink RX6 16 "DustVoteModel" "fallAt" "[I", Cond.fieldLink RX6 19 "DustVoteModel" "fallen" "[I", Cond.fieldLink RX6 93 "DustVoteModel" "brooms" "I", Cond.methodLink RX6 115 yX6_add, Cond.instanceMethod yX6_add, Cond.selects RX6 yX6_add yX6_add, Cond.code yX6_add cX6_add 5 none, Cond.methodLink RX6 119 yX6_sweep, Cond.instanceMethod yX6_sweep, Cond.selects RX6 yX6_sweep yX6_sweep]
def wsX6_dawn_r2 : List Cond := [Cond.code yX6_sweep cX6_sweep 6 none, Cond.fieldLink RX6 37 "DustVoteModel" "working" "I", Cond.fieldLink RX6 7 "DustVoteModel" "strength" "[I", Cond.methodLink RX6 108 yX6_worksAs, Cond.instanceMethod yX6_worksAs, Cond.selects RX6 yX6_worksAs yX6_worksAs, Cond.code yX6_worksAs cX6_worksAs 4 (some .int), Cond.fieldLink RX6 13 "DustVoteModel" "kind" "[I", Cond.methodLink RX6 104 yX6_has, Cond.static yX6_has, Cond.code yX6_has cX6_has 2 (some .boolean), Cond.methodLink RX6 111 yX6_takeOff, Cond.instanceMethod yX6_takeOff, Cond.selects RX6 yX6_takeOff yX6_takeOff, Cond.code yX6_takeOff cX6_takeOff 6 (some .int), Cond.methodLink RX6 123 yX6_kneesOn, Cond.instanceMethod yX6_kneesOn, Cond.selects RX6 yX6_kneesOn yX6_kneesOn, Cond.code yX6_kneesOn cX6_kneesOn 4 (some .int), Cond.methodLink RX6 146 yX6_dustOn, Cond.instanceMethod yX6_dustOn, Cond.selects RX6 yX6_dustOn yX6_dustOn, Cond.code yX6_dustOn cX6_dustOn 4 (some .int)]
def wsX6_dawn : List Cond := .code yX6_dawn cX6_dawn 1 (some .int) :: ((wsX6_dawn_r1 ++ wsX6_dawn_r2) ++ wsX60)
def wsX6_walkOn : List Cond := .code yX6_walkOn cX6_walkOn 5 none :: ([.fieldLink RX6 22 "DustVoteModel" "now" "[I"] ++ wsX60)
def wsX6_walk : List Cond := .code yX6_walk cX6_walk 3 (some .int) :: ([.fieldLink RX6 22 "DustVoteModel" "now" "[I", .methodLink RX6 134 yX6_isBroom, .instanceMethod yX6_isBroom, .selects RX6 yX6_isBroom yX6_isBroom, .initialized RX6, .code yX6_isBroom cX6_isBroom 2 (some .boolean), .fieldLink RX6 93 "DustVoteModel" "brooms" "I", .methodLink RX6 62 yX6_in, .static yX6_in, .code yX6_in cX6_in 6 (some .boolean), .methodLink RX6 140 yX6_keepAct, .instanceMethod yX6_keepAct, .selects RX6 yX6_keepAct yX6_keepAct, .code yX6_keepAct cX6_keepAct 2 none, .fieldLink RX6 41 "DustVoteModel" "row" "[I", .fieldLink RX6 137 "DustVoteModel" "next" "I", .fieldLink RX6 99 "DustVoteModel" "acts" "I", .methodLink RX6 149 yX6_walkOn, .instanceMethod yX6_walkOn, .selects RX6 yX6_walkOn yX6_walkOn, .code yX6_walkOn cX6_walkOn 5 none] ++ wsX60)
def wsX6_vote : List Cond := .code yX6_vote cX6_vote 1 (some .int) :: ([.fieldLink RX6 22 "DustVoteModel" "now" "[I", .methodLink RX6 140 yX6_keepAct, .instanceMethod yX6_keepAct, .selects RX6 yX6_keepAct yX6_keepAct, .initialized RX6, .code yX6_keepAct cX6_keepAct 2 none, .fieldLink RX6 41 "DustVoteModel" "row" "[I", .fieldLink RX6 137 "DustVoteModel" "next" "I", .fieldLink RX6 99 "DustVoteModel" "acts" "I"] ++ wsX60)
def wsX6_bend : List Cond := .code yX6_bend cX6_bend 2 (some .int) :: ([.fieldLink RX6 22 "DustVoteModel" "now" "[I", .methodLink RX6 134 yX6_isBroom, .instanceMethod yX6_isBroom, .selects RX6 yX6_isBroom yX6_isBroom, .initialized RX6, .code yX6_isBroom cX6_isBroom 2 (some .boolean), .fieldLink RX6 93 "DustVoteModel" "brooms" "I", .methodLink RX6 62 yX6_in, .static yX6_in, .code yX6_in cX6_in 6 (some .boolean), .methodLink RX6 104 yX6_has, .static yX6_has, .code yX6_has cX6_has 2 (some .boolean), .methodLink RX6 140 yX6_keepAct, .instanceMethod yX6_keepAct, .selects RX6 yX6_keepAct yX6_keepAct, .code yX6_keepAct cX6_keepAct 2 none, .fieldLink RX6 41 "DustVoteModel" "row" "[I", .fieldLink RX6 137 "DustVoteModel" "next" "I", .fieldLink RX6 99 "DustVoteModel" "acts" "I", .methodLink RX6 152 yX6_ones, .static yX6_ones, .code yX6_ones cX6_ones 3 (some .int)] ++ wsX60)
def wsX6_hand : List Cond := .code yX6_hand cX6_hand 3 (some .int) :: ([.fieldLink RX6 22 "DustVoteModel" "now" "[I", .methodLink RX6 127 yX6_isStreet, .static yX6_isStreet, .initialized RX6, .code yX6_isStreet cX6_isStreet 1 (some .boolean), .constantLong RX6 102 (7), .methodLink RX6 62 yX6_in, .static yX6_in, .code yX6_in cX6_in 6 (some .boolean), .methodLink RX6 140 yX6_keepAct, .instanceMethod yX6_keepAct, .selects RX6 yX6_keepAct yX6_keepAct, .code yX6_keepAct cX6_keepAct 2 none, .fieldLink RX6 41 "DustVoteModel" "row" "[I", .fieldLink RX6 137 "DustVoteModel" "next" "I", .fieldLink RX6 99 "DustVoteModel" "acts" "I"] ++ wsX60)
def wsX6_undo : List Cond := .code yX6_undo cX6_undo 2 (some .int) :: ([.fieldLink RX6 99 "DustVoteModel" "acts" "I", .fieldLink RX6 137 "DustVoteModel" "next" "I", .fieldLink RX6 22 "DustVoteModel" "now" "[I", .fieldLink RX6 41 "DustVoteModel" "row" "[I"] ++ wsX60)
def wsX6_layTrial : List Cond := .code yX6_layTrial cX6_layTrial 2 none :: ([.fieldLink RX6 22 "DustVoteModel" "now" "[I"] ++ wsX60)
def wsX6_goOn_r1 : List Cond := [Cond.methodLink RX6 143 yX6_passOn, Cond.instanceMethod yX6_passOn, Cond.selects RX6 yX6_passOn yX6_passOn, Cond.initialized RX6, Cond.code yX6_passOn cX6_passOn 6 none, Cond.fieldLink RX6 96 "DustVoteModel" "falls" "I", Cond.fieldLink RX6 22 "DustVoteModel" "now" "[I", Cond.fieldLink RX6 16 "DustVoteModel" "fallAt" "[I", Cond.fieldLink RX6 19 "DustVoteModel" "fallen" "[I", Cond.fieldLink RX6 93 "DustVoteModel" "brooms" "I", Cond.methodLink RX6 115 yX6_add, Cond.instanceMethod yX6_add, Cond.selects RX6 yX6_add yX6_add, Cond.code yX6_add cX6_add 5 none, Cond.methodLink RX6 119 yX6_sweep, Cond.instanceMethod yX6_sweep, Cond.selects RX6 yX6_sweep yX6_sweep, Cond.code yX6_sweep cX6_sweep 6 none, Cond.fieldLink RX6 37 "DustVoteModel" "working" "I", Cond.fieldLink RX6 7 "DustVoteModel" "strength" "[I", Cond.methodLink RX6 108 yX6_worksAs, Cond.instanceMethod yX6_worksAs, Cond.selects RX6 yX6_worksAs yX6_worksAs, Cond.code yX6_worksAs cX6_worksAs 4 (some .int)]
def wsX6_goOn_r2 : List Cond := [Cond.fieldLink RX6 13 "DustVoteModel" "kind" "[I", Cond.methodLink RX6 104 yX6_has, Cond.static yX6_has, Cond.code yX6_has cX6_has 2 (some .boolean), Cond.methodLink RX6 111 yX6_takeOff, Cond.instanceMethod yX6_takeOff, Cond.selects RX6 yX6_takeOff yX6_takeOff, Cond.code yX6_takeOff cX6_takeOff 6 (some .int), Cond.methodLink RX6 123 yX6_kneesOn, Cond.instanceMethod yX6_kneesOn, Cond.selects RX6 yX6_kneesOn yX6_kneesOn, Cond.code yX6_kneesOn cX6_kneesOn 4 (some .int)]
def wsX6_goOn : List Cond := .code yX6_goOn cX6_goOn 3 none :: ((wsX6_goOn_r1 ++ wsX6_goOn_r2) ++ wsX60)
def wsX6_dust_r1 : List Cond := [Cond.constantLong RX6 155 (30), Cond.fieldLink RX6 22 "DustVoteModel" "now" "[I", Cond.methodLink RX6 127 yX6_isStreet, Cond.static yX6_isStreet, Cond.initialized RX6, Cond.code yX6_isStreet cX6_isStreet 1 (some .boolean), Cond.constantLong RX6 102 (7), Cond.methodLink RX6 62 yX6_in, Cond.static yX6_in, Cond.code yX6_in cX6_in 6 (some .boolean), Cond.methodLink RX6 157 yX6_layTrial, Cond.instanceMethod yX6_layTrial, Cond.selects RX6 yX6_layTrial yX6_layTrial, Cond.code yX6_layTrial cX6_layTrial 2 none, Cond.methodLink RX6 160 yX6_goOn, Cond.instanceMethod yX6_goOn, Cond.selects RX6 yX6_goOn yX6_goOn, Cond.code yX6_goOn cX6_goOn 3 none, Cond.methodLink RX6 143 yX6_passOn, Cond.instanceMethod yX6_passOn, Cond.selects RX6 yX6_passOn yX6_passOn, Cond.code yX6_passOn cX6_passOn 6 none, Cond.fieldLink RX6 96 "DustVoteModel" "falls" "I", Cond.fieldLink RX6 16 "DustVoteModel" "fallAt" "[I"]
def wsX6_dust_r2 : List Cond := [Cond.fieldLink RX6 19 "DustVoteModel" "fallen" "[I", Cond.fieldLink RX6 93 "DustVoteModel" "brooms" "I", Cond.methodLink RX6 115 yX6_add, Cond.instanceMethod yX6_add, Cond.selects RX6 yX6_add yX6_add, Cond.code yX6_add cX6_add 5 none, Cond.methodLink RX6 119 yX6_sweep, Cond.instanceMethod yX6_sweep, Cond.selects RX6 yX6_sweep yX6_sweep, Cond.code yX6_sweep cX6_sweep 6 none, Cond.fieldLink RX6 37 "DustVoteModel" "working" "I", Cond.fieldLink RX6 7 "DustVoteModel" "strength" "[I", Cond.methodLink RX6 108 yX6_worksAs, Cond.instanceMethod yX6_worksAs, Cond.selects RX6 yX6_worksAs yX6_worksAs, Cond.code yX6_worksAs cX6_worksAs 4 (some .int), Cond.fieldLink RX6 13 "DustVoteModel" "kind" "[I", Cond.methodLink RX6 104 yX6_has, Cond.static yX6_has, Cond.code yX6_has cX6_has 2 (some .boolean), Cond.methodLink RX6 111 yX6_takeOff, Cond.instanceMethod yX6_takeOff, Cond.selects RX6 yX6_takeOff yX6_takeOff, Cond.code yX6_takeOff cX6_takeOff 6 (some .int)]
def wsX6_dust_r3 : List Cond := [Cond.methodLink RX6 123 yX6_kneesOn, Cond.instanceMethod yX6_kneesOn, Cond.selects RX6 yX6_kneesOn yX6_kneesOn, Cond.code yX6_kneesOn cX6_kneesOn 4 (some .int)]
def wsX6_dust : List Cond := .code yX6_dust cX6_dust 3 (some .int) :: ((wsX6_dust_r1 ++ (wsX6_dust_r2 ++ wsX6_dust_r3)) ++ wsX60)
def wsX6_knees_r1 : List Cond := [Cond.constantLong RX6 155 (30), Cond.methodLink RX6 62 yX6_in, Cond.static yX6_in, Cond.initialized RX6, Cond.code yX6_in cX6_in 6 (some .boolean), Cond.methodLink RX6 157 yX6_layTrial, Cond.instanceMethod yX6_layTrial, Cond.selects RX6 yX6_layTrial yX6_layTrial, Cond.code yX6_layTrial cX6_layTrial 2 none, Cond.fieldLink RX6 22 "DustVoteModel" "now" "[I", Cond.methodLink RX6 160 yX6_goOn, Cond.instanceMethod yX6_goOn, Cond.selects RX6 yX6_goOn yX6_goOn, Cond.code yX6_goOn cX6_goOn 3 none, Cond.methodLink RX6 143 yX6_passOn, Cond.instanceMethod yX6_passOn, Cond.selects RX6 yX6_passOn yX6_passOn, Cond.code yX6_passOn cX6_passOn 6 none, Cond.fieldLink RX6 96 "DustVoteModel" "falls" "I", Cond.fieldLink RX6 16 "DustVoteModel" "fallAt" "[I", Cond.fieldLink RX6 19 "DustVoteModel" "fallen" "[I", Cond.fieldLink RX6 93 "DustVoteModel" "brooms" "I", Cond.methodLink RX6 115 yX6_add, Cond.instanceMethod yX6_add]
def wsX6_knees_r2 : List Cond := [Cond.selects RX6 yX6_add yX6_add, Cond.code yX6_add cX6_add 5 none, Cond.methodLink RX6 119 yX6_sweep, Cond.instanceMethod yX6_sweep, Cond.selects RX6 yX6_sweep yX6_sweep, Cond.code yX6_sweep cX6_sweep 6 none, Cond.fieldLink RX6 37 "DustVoteModel" "working" "I", Cond.fieldLink RX6 7 "DustVoteModel" "strength" "[I", Cond.methodLink RX6 108 yX6_worksAs, Cond.instanceMethod yX6_worksAs, Cond.selects RX6 yX6_worksAs yX6_worksAs, Cond.code yX6_worksAs cX6_worksAs 4 (some .int), Cond.fieldLink RX6 13 "DustVoteModel" "kind" "[I", Cond.methodLink RX6 104 yX6_has, Cond.static yX6_has, Cond.code yX6_has cX6_has 2 (some .boolean), Cond.methodLink RX6 111 yX6_takeOff, Cond.instanceMethod yX6_takeOff, Cond.selects RX6 yX6_takeOff yX6_takeOff, Cond.code yX6_takeOff cX6_takeOff 6 (some .int), Cond.methodLink RX6 123 yX6_kneesOn, Cond.instanceMethod yX6_kneesOn, Cond.selects RX6 yX6_kneesOn yX6_kneesOn, Cond.code yX6_kneesOn cX6_kneesOn 4 (some .int)]
def wsX6_knees : List Cond := .code yX6_knees cX6_knees 2 (some .int) :: ((wsX6_knees_r1 ++ wsX6_knees_r2) ++ wsX60)
def wsX6_leastOf : List Cond := .code yX6_leastOf cX6_leastOf 2 (some .int) :: ([.methodLink RX6 104 yX6_has, .static yX6_has, .initialized RX6, .code yX6_has cX6_has 2 (some .boolean)])
def wsX6_knee_r1 : List Cond := [Cond.methodLink RX6 62 yX6_in, Cond.static yX6_in, Cond.initialized RX6, Cond.code yX6_in cX6_in 6 (some .boolean), Cond.methodLink RX6 157 yX6_layTrial, Cond.instanceMethod yX6_layTrial, Cond.selects RX6 yX6_layTrial yX6_layTrial, Cond.code yX6_layTrial cX6_layTrial 2 none, Cond.fieldLink RX6 22 "DustVoteModel" "now" "[I", Cond.methodLink RX6 123 yX6_kneesOn, Cond.instanceMethod yX6_kneesOn, Cond.selects RX6 yX6_kneesOn yX6_kneesOn, Cond.code yX6_kneesOn cX6_kneesOn 4 (some .int), Cond.methodLink RX6 163 yX6_leastOf, Cond.static yX6_leastOf, Cond.code yX6_leastOf cX6_leastOf 2 (some .int), Cond.methodLink RX6 104 yX6_has, Cond.static yX6_has, Cond.code yX6_has cX6_has 2 (some .boolean), Cond.methodLink RX6 143 yX6_passOn, Cond.instanceMethod yX6_passOn, Cond.selects RX6 yX6_passOn yX6_passOn, Cond.code yX6_passOn cX6_passOn 6 none, Cond.fieldLink RX6 96 "DustVoteModel" "falls" "I"]
def wsX6_knee_r2 : List Cond := [Cond.fieldLink RX6 16 "DustVoteModel" "fallAt" "[I", Cond.fieldLink RX6 19 "DustVoteModel" "fallen" "[I", Cond.fieldLink RX6 93 "DustVoteModel" "brooms" "I", Cond.methodLink RX6 115 yX6_add, Cond.instanceMethod yX6_add, Cond.selects RX6 yX6_add yX6_add, Cond.code yX6_add cX6_add 5 none, Cond.methodLink RX6 119 yX6_sweep, Cond.instanceMethod yX6_sweep, Cond.selects RX6 yX6_sweep yX6_sweep, Cond.code yX6_sweep cX6_sweep 6 none, Cond.fieldLink RX6 37 "DustVoteModel" "working" "I", Cond.fieldLink RX6 7 "DustVoteModel" "strength" "[I", Cond.methodLink RX6 108 yX6_worksAs, Cond.instanceMethod yX6_worksAs, Cond.selects RX6 yX6_worksAs yX6_worksAs, Cond.code yX6_worksAs cX6_worksAs 4 (some .int), Cond.fieldLink RX6 13 "DustVoteModel" "kind" "[I", Cond.methodLink RX6 111 yX6_takeOff, Cond.instanceMethod yX6_takeOff, Cond.selects RX6 yX6_takeOff yX6_takeOff, Cond.code yX6_takeOff cX6_takeOff 6 (some .int)]
def wsX6_knee : List Cond := .code yX6_knee cX6_knee 4 (some .int) :: ((wsX6_knee_r1 ++ wsX6_knee_r2) ++ wsX60)
def wsX6_best_r1 : List Cond := [Cond.constantLong RX6 166 (9), Cond.fieldLink RX6 22 "DustVoteModel" "now" "[I", Cond.methodLink RX6 134 yX6_isBroom, Cond.instanceMethod yX6_isBroom, Cond.selects RX6 yX6_isBroom yX6_isBroom, Cond.initialized RX6, Cond.code yX6_isBroom cX6_isBroom 2 (some .boolean), Cond.fieldLink RX6 93 "DustVoteModel" "brooms" "I", Cond.methodLink RX6 62 yX6_in, Cond.static yX6_in, Cond.code yX6_in cX6_in 6 (some .boolean), Cond.methodLink RX6 157 yX6_layTrial, Cond.instanceMethod yX6_layTrial, Cond.selects RX6 yX6_layTrial yX6_layTrial, Cond.code yX6_layTrial cX6_layTrial 2 none, Cond.methodLink RX6 160 yX6_goOn, Cond.instanceMethod yX6_goOn, Cond.selects RX6 yX6_goOn yX6_goOn, Cond.code yX6_goOn cX6_goOn 3 none, Cond.methodLink RX6 143 yX6_passOn, Cond.instanceMethod yX6_passOn, Cond.selects RX6 yX6_passOn yX6_passOn, Cond.code yX6_passOn cX6_passOn 6 none, Cond.fieldLink RX6 96 "DustVoteModel" "falls" "I"]
def wsX6_best_r2 : List Cond := [Cond.fieldLink RX6 16 "DustVoteModel" "fallAt" "[I", Cond.fieldLink RX6 19 "DustVoteModel" "fallen" "[I", Cond.methodLink RX6 115 yX6_add, Cond.instanceMethod yX6_add, Cond.selects RX6 yX6_add yX6_add, Cond.code yX6_add cX6_add 5 none, Cond.methodLink RX6 119 yX6_sweep, Cond.instanceMethod yX6_sweep, Cond.selects RX6 yX6_sweep yX6_sweep, Cond.code yX6_sweep cX6_sweep 6 none, Cond.fieldLink RX6 37 "DustVoteModel" "working" "I", Cond.fieldLink RX6 7 "DustVoteModel" "strength" "[I", Cond.methodLink RX6 108 yX6_worksAs, Cond.instanceMethod yX6_worksAs, Cond.selects RX6 yX6_worksAs yX6_worksAs, Cond.code yX6_worksAs cX6_worksAs 4 (some .int), Cond.fieldLink RX6 13 "DustVoteModel" "kind" "[I", Cond.methodLink RX6 104 yX6_has, Cond.static yX6_has, Cond.code yX6_has cX6_has 2 (some .boolean), Cond.methodLink RX6 111 yX6_takeOff, Cond.instanceMethod yX6_takeOff, Cond.selects RX6 yX6_takeOff yX6_takeOff, Cond.code yX6_takeOff cX6_takeOff 6 (some .int)]
def wsX6_best_r3 : List Cond := [Cond.methodLink RX6 123 yX6_kneesOn, Cond.instanceMethod yX6_kneesOn, Cond.selects RX6 yX6_kneesOn yX6_kneesOn, Cond.code yX6_kneesOn cX6_kneesOn 4 (some .int), Cond.methodLink RX6 146 yX6_dustOn, Cond.instanceMethod yX6_dustOn, Cond.selects RX6 yX6_dustOn yX6_dustOn, Cond.code yX6_dustOn cX6_dustOn 4 (some .int)]
def wsX6_best : List Cond := .code yX6_best cX6_best 8 (some .int) :: ((wsX6_best_r1 ++ (wsX6_best_r2 ++ wsX6_best_r3)) ++ wsX60)
def wsX6_keepsBelow_r1 : List Cond := [Cond.fieldLink RX6 22 "DustVoteModel" "now" "[I", Cond.methodLink RX6 157 yX6_layTrial, Cond.instanceMethod yX6_layTrial, Cond.selects RX6 yX6_layTrial yX6_layTrial, Cond.initialized RX6, Cond.code yX6_layTrial cX6_layTrial 2 none, Cond.methodLink RX6 143 yX6_passOn, Cond.instanceMethod yX6_passOn, Cond.selects RX6 yX6_passOn yX6_passOn, Cond.code yX6_passOn cX6_passOn 6 none, Cond.fieldLink RX6 96 "DustVoteModel" "falls" "I", Cond.fieldLink RX6 16 "DustVoteModel" "fallAt" "[I", Cond.fieldLink RX6 19 "DustVoteModel" "fallen" "[I", Cond.fieldLink RX6 93 "DustVoteModel" "brooms" "I", Cond.methodLink RX6 115 yX6_add, Cond.instanceMethod yX6_add, Cond.selects RX6 yX6_add yX6_add, Cond.code yX6_add cX6_add 5 none, Cond.methodLink RX6 119 yX6_sweep, Cond.instanceMethod yX6_sweep, Cond.selects RX6 yX6_sweep yX6_sweep, Cond.code yX6_sweep cX6_sweep 6 none, Cond.fieldLink RX6 37 "DustVoteModel" "working" "I", Cond.fieldLink RX6 7 "DustVoteModel" "strength" "[I"]
def wsX6_keepsBelow_r2 : List Cond := [Cond.methodLink RX6 108 yX6_worksAs, Cond.instanceMethod yX6_worksAs, Cond.selects RX6 yX6_worksAs yX6_worksAs, Cond.code yX6_worksAs cX6_worksAs 4 (some .int), Cond.fieldLink RX6 13 "DustVoteModel" "kind" "[I", Cond.methodLink RX6 104 yX6_has, Cond.static yX6_has, Cond.code yX6_has cX6_has 2 (some .boolean), Cond.methodLink RX6 111 yX6_takeOff, Cond.instanceMethod yX6_takeOff, Cond.selects RX6 yX6_takeOff yX6_takeOff, Cond.code yX6_takeOff cX6_takeOff 6 (some .int), Cond.methodLink RX6 123 yX6_kneesOn, Cond.instanceMethod yX6_kneesOn, Cond.selects RX6 yX6_kneesOn yX6_kneesOn, Cond.code yX6_kneesOn cX6_kneesOn 4 (some .int)]
def wsX6_keepsBelow : List Cond := .code yX6_keepsBelow cX6_keepsBelow 4 (some .boolean) :: ((wsX6_keepsBelow_r1 ++ wsX6_keepsBelow_r2) ++ wsX60)
def wsX6_bends_r1 : List Cond := [Cond.constantLong RX6 166 (9), Cond.fieldLink RX6 93 "DustVoteModel" "brooms" "I", Cond.fieldLink RX6 22 "DustVoteModel" "now" "[I", Cond.methodLink RX6 62 yX6_in, Cond.static yX6_in, Cond.initialized RX6, Cond.code yX6_in cX6_in 6 (some .boolean), Cond.methodLink RX6 152 yX6_ones, Cond.static yX6_ones, Cond.code yX6_ones cX6_ones 3 (some .int), Cond.methodLink RX6 168 yX6_keepsBelow, Cond.instanceMethod yX6_keepsBelow, Cond.selects RX6 yX6_keepsBelow yX6_keepsBelow, Cond.code yX6_keepsBelow cX6_keepsBelow 4 (some .boolean), Cond.methodLink RX6 157 yX6_layTrial, Cond.instanceMethod yX6_layTrial, Cond.selects RX6 yX6_layTrial yX6_layTrial, Cond.code yX6_layTrial cX6_layTrial 2 none, Cond.methodLink RX6 143 yX6_passOn, Cond.instanceMethod yX6_passOn, Cond.selects RX6 yX6_passOn yX6_passOn, Cond.code yX6_passOn cX6_passOn 6 none, Cond.fieldLink RX6 96 "DustVoteModel" "falls" "I", Cond.fieldLink RX6 16 "DustVoteModel" "fallAt" "[I"]
def wsX6_bends_r2 : List Cond := [Cond.fieldLink RX6 19 "DustVoteModel" "fallen" "[I", Cond.methodLink RX6 115 yX6_add, Cond.instanceMethod yX6_add, Cond.selects RX6 yX6_add yX6_add, Cond.code yX6_add cX6_add 5 none, Cond.methodLink RX6 119 yX6_sweep, Cond.instanceMethod yX6_sweep, Cond.selects RX6 yX6_sweep yX6_sweep, Cond.code yX6_sweep cX6_sweep 6 none, Cond.fieldLink RX6 37 "DustVoteModel" "working" "I", Cond.fieldLink RX6 7 "DustVoteModel" "strength" "[I", Cond.methodLink RX6 108 yX6_worksAs, Cond.instanceMethod yX6_worksAs, Cond.selects RX6 yX6_worksAs yX6_worksAs, Cond.code yX6_worksAs cX6_worksAs 4 (some .int), Cond.fieldLink RX6 13 "DustVoteModel" "kind" "[I", Cond.methodLink RX6 104 yX6_has, Cond.static yX6_has, Cond.code yX6_has cX6_has 2 (some .boolean), Cond.methodLink RX6 111 yX6_takeOff, Cond.instanceMethod yX6_takeOff, Cond.selects RX6 yX6_takeOff yX6_takeOff, Cond.code yX6_takeOff cX6_takeOff 6 (some .int), Cond.methodLink RX6 123 yX6_kneesOn]
def wsX6_bends_r3 : List Cond := [Cond.instanceMethod yX6_kneesOn, Cond.selects RX6 yX6_kneesOn yX6_kneesOn, Cond.code yX6_kneesOn cX6_kneesOn 4 (some .int)]
def wsX6_bends : List Cond := .code yX6_bends cX6_bends 5 (some .int) :: ((wsX6_bends_r1 ++ (wsX6_bends_r2 ++ wsX6_bends_r3)) ++ wsX60)
def wsX6_tryThing_r1 : List Cond := [Cond.fieldLink RX6 22 "DustVoteModel" "now" "[I", Cond.methodLink RX6 143 yX6_passOn, Cond.instanceMethod yX6_passOn, Cond.selects RX6 yX6_passOn yX6_passOn, Cond.initialized RX6, Cond.code yX6_passOn cX6_passOn 6 none, Cond.fieldLink RX6 96 "DustVoteModel" "falls" "I", Cond.fieldLink RX6 16 "DustVoteModel" "fallAt" "[I", Cond.fieldLink RX6 19 "DustVoteModel" "fallen" "[I", Cond.fieldLink RX6 93 "DustVoteModel" "brooms" "I", Cond.methodLink RX6 115 yX6_add, Cond.instanceMethod yX6_add, Cond.selects RX6 yX6_add yX6_add, Cond.code yX6_add cX6_add 5 none, Cond.methodLink RX6 119 yX6_sweep, Cond.instanceMethod yX6_sweep, Cond.selects RX6 yX6_sweep yX6_sweep, Cond.code yX6_sweep cX6_sweep 6 none, Cond.fieldLink RX6 37 "DustVoteModel" "working" "I", Cond.fieldLink RX6 7 "DustVoteModel" "strength" "[I", Cond.methodLink RX6 108 yX6_worksAs, Cond.instanceMethod yX6_worksAs, Cond.selects RX6 yX6_worksAs yX6_worksAs, Cond.code yX6_worksAs cX6_worksAs 4 (some .int)]
def wsX6_tryThing_r2 : List Cond := [Cond.fieldLink RX6 13 "DustVoteModel" "kind" "[I", Cond.methodLink RX6 104 yX6_has, Cond.static yX6_has, Cond.code yX6_has cX6_has 2 (some .boolean), Cond.methodLink RX6 111 yX6_takeOff, Cond.instanceMethod yX6_takeOff, Cond.selects RX6 yX6_takeOff yX6_takeOff, Cond.code yX6_takeOff cX6_takeOff 6 (some .int), Cond.methodLink RX6 123 yX6_kneesOn, Cond.instanceMethod yX6_kneesOn, Cond.selects RX6 yX6_kneesOn yX6_kneesOn, Cond.code yX6_kneesOn cX6_kneesOn 4 (some .int), Cond.methodLink RX6 134 yX6_isBroom, Cond.instanceMethod yX6_isBroom, Cond.selects RX6 yX6_isBroom yX6_isBroom, Cond.code yX6_isBroom cX6_isBroom 2 (some .boolean), Cond.methodLink RX6 62 yX6_in, Cond.static yX6_in, Cond.code yX6_in cX6_in 6 (some .boolean), Cond.methodLink RX6 149 yX6_walkOn, Cond.instanceMethod yX6_walkOn, Cond.selects RX6 yX6_walkOn yX6_walkOn, Cond.code yX6_walkOn cX6_walkOn 5 none, Cond.methodLink RX6 127 yX6_isStreet]
def wsX6_tryThing_r3 : List Cond := [Cond.static yX6_isStreet, Cond.code yX6_isStreet cX6_isStreet 1 (some .boolean), Cond.constantLong RX6 102 (7)]
def wsX6_tryThing : List Cond := .code yX6_tryThing cX6_tryThing 7 (some .boolean) :: ((wsX6_tryThing_r1 ++ (wsX6_tryThing_r2 ++ wsX6_tryThing_r3)) ++ wsX60)
def wsX6_thousandTo : List Cond := .code yX6_thousandTo cX6_thousandTo 4 (some .long) :: ([.constantLong RX6 171 (1000)])
def wsX6_judge_r1 : List Cond := [Cond.constantLong RX6 173 (4), Cond.constantLong RX6 171 (1000), Cond.methodLink RX6 62 yX6_in, Cond.static yX6_in, Cond.initialized RX6, Cond.code yX6_in cX6_in 6 (some .boolean), Cond.methodLink RX6 175 yX6_thousandTo, Cond.static yX6_thousandTo, Cond.code yX6_thousandTo cX6_thousandTo 4 (some .long), Cond.methodLink RX6 157 yX6_layTrial, Cond.instanceMethod yX6_layTrial, Cond.selects RX6 yX6_layTrial yX6_layTrial, Cond.code yX6_layTrial cX6_layTrial 2 none, Cond.fieldLink RX6 22 "DustVoteModel" "now" "[I", Cond.methodLink RX6 179 yX6_tryThing, Cond.instanceMethod yX6_tryThing, Cond.selects RX6 yX6_tryThing yX6_tryThing, Cond.code yX6_tryThing cX6_tryThing 7 (some .boolean), Cond.methodLink RX6 143 yX6_passOn, Cond.instanceMethod yX6_passOn, Cond.selects RX6 yX6_passOn yX6_passOn, Cond.code yX6_passOn cX6_passOn 6 none, Cond.fieldLink RX6 96 "DustVoteModel" "falls" "I", Cond.fieldLink RX6 16 "DustVoteModel" "fallAt" "[I"]
def wsX6_judge_r2 : List Cond := [Cond.fieldLink RX6 19 "DustVoteModel" "fallen" "[I", Cond.fieldLink RX6 93 "DustVoteModel" "brooms" "I", Cond.methodLink RX6 115 yX6_add, Cond.instanceMethod yX6_add, Cond.selects RX6 yX6_add yX6_add, Cond.code yX6_add cX6_add 5 none, Cond.methodLink RX6 119 yX6_sweep, Cond.instanceMethod yX6_sweep, Cond.selects RX6 yX6_sweep yX6_sweep, Cond.code yX6_sweep cX6_sweep 6 none, Cond.fieldLink RX6 37 "DustVoteModel" "working" "I", Cond.fieldLink RX6 7 "DustVoteModel" "strength" "[I", Cond.methodLink RX6 108 yX6_worksAs, Cond.instanceMethod yX6_worksAs, Cond.selects RX6 yX6_worksAs yX6_worksAs, Cond.code yX6_worksAs cX6_worksAs 4 (some .int), Cond.fieldLink RX6 13 "DustVoteModel" "kind" "[I", Cond.methodLink RX6 104 yX6_has, Cond.static yX6_has, Cond.code yX6_has cX6_has 2 (some .boolean), Cond.methodLink RX6 111 yX6_takeOff, Cond.instanceMethod yX6_takeOff, Cond.selects RX6 yX6_takeOff yX6_takeOff, Cond.code yX6_takeOff cX6_takeOff 6 (some .int)]
def wsX6_judge_r3 : List Cond := [Cond.methodLink RX6 123 yX6_kneesOn, Cond.instanceMethod yX6_kneesOn, Cond.selects RX6 yX6_kneesOn yX6_kneesOn, Cond.code yX6_kneesOn cX6_kneesOn 4 (some .int), Cond.methodLink RX6 134 yX6_isBroom, Cond.instanceMethod yX6_isBroom, Cond.selects RX6 yX6_isBroom yX6_isBroom, Cond.code yX6_isBroom cX6_isBroom 2 (some .boolean), Cond.methodLink RX6 149 yX6_walkOn, Cond.instanceMethod yX6_walkOn, Cond.selects RX6 yX6_walkOn yX6_walkOn, Cond.code yX6_walkOn cX6_walkOn 5 none, Cond.methodLink RX6 127 yX6_isStreet, Cond.static yX6_isStreet, Cond.code yX6_isStreet cX6_isStreet 1 (some .boolean), Cond.constantLong RX6 102 (7)]
def wsX6_judge : List Cond := .code yX6_judge cX6_judge 6 (some .int) :: ((wsX6_judge_r1 ++ (wsX6_judge_r2 ++ wsX6_judge_r3)) ++ wsX60)
def wsX6_heap : List Cond := .code yX6_heap cX6_heap 4 (some .int) :: ([.constantLong RX6 183 (20), .constantLong RX6 166 (9), .fieldLink RX6 185 "DustVoteModel" "heaps" "I", .fieldLink RX6 44 "DustVoteModel" "heapHad" "[I", .fieldLink RX6 47 "DustVoteModel" "heapLeft" "[I", .fieldLink RX6 50 "DustVoteModel" "heapWent" "[I", .methodLink RX6 62 yX6_in, .static yX6_in, .initialized RX6, .code yX6_in cX6_in 6 (some .boolean)] ++ wsX60)
def wsX6_unheap : List Cond := .code yX6_unheap cX6_unheap 2 (some .int) :: ([.fieldLink RX6 185 "DustVoteModel" "heaps" "I"] ++ wsX60)
def wsX6_whose : List Cond := .code yX6_whose cX6_whose 9 (some .int) :: ([.fieldLink RX6 185 "DustVoteModel" "heaps" "I", .fieldLink RX6 44 "DustVoteModel" "heapHad" "[I", .fieldLink RX6 47 "DustVoteModel" "heapLeft" "[I", .fieldLink RX6 50 "DustVoteModel" "heapWent" "[I", .methodLink RX6 62 yX6_in, .static yX6_in, .initialized RX6, .code yX6_in cX6_in 6 (some .boolean)] ++ wsX60)
def wsX6_factorial : List Cond := .code yX6_factorial cX6_factorial 3 (some .int) :: ([])
def wsX6_common : List Cond := .code yX6_common cX6_common 5 (some .int) :: ([])
def wsX6_dustBy_r1 : List Cond := [Cond.fieldLink RX6 37 "DustVoteModel" "working" "I", Cond.methodLink RX6 157 yX6_layTrial, Cond.instanceMethod yX6_layTrial, Cond.selects RX6 yX6_layTrial yX6_layTrial, Cond.initialized RX6, Cond.code yX6_layTrial cX6_layTrial 2 none, Cond.fieldLink RX6 22 "DustVoteModel" "now" "[I", Cond.methodLink RX6 160 yX6_goOn, Cond.instanceMethod yX6_goOn, Cond.selects RX6 yX6_goOn yX6_goOn, Cond.code yX6_goOn cX6_goOn 3 none, Cond.methodLink RX6 143 yX6_passOn, Cond.instanceMethod yX6_passOn, Cond.selects RX6 yX6_passOn yX6_passOn, Cond.code yX6_passOn cX6_passOn 6 none, Cond.fieldLink RX6 96 "DustVoteModel" "falls" "I", Cond.fieldLink RX6 16 "DustVoteModel" "fallAt" "[I", Cond.fieldLink RX6 19 "DustVoteModel" "fallen" "[I", Cond.fieldLink RX6 93 "DustVoteModel" "brooms" "I", Cond.methodLink RX6 115 yX6_add, Cond.instanceMethod yX6_add, Cond.selects RX6 yX6_add yX6_add, Cond.code yX6_add cX6_add 5 none, Cond.methodLink RX6 119 yX6_sweep]
def wsX6_dustBy_r2 : List Cond := [Cond.instanceMethod yX6_sweep, Cond.selects RX6 yX6_sweep yX6_sweep, Cond.code yX6_sweep cX6_sweep 6 none, Cond.fieldLink RX6 7 "DustVoteModel" "strength" "[I", Cond.methodLink RX6 108 yX6_worksAs, Cond.instanceMethod yX6_worksAs, Cond.selects RX6 yX6_worksAs yX6_worksAs, Cond.code yX6_worksAs cX6_worksAs 4 (some .int), Cond.fieldLink RX6 13 "DustVoteModel" "kind" "[I", Cond.methodLink RX6 104 yX6_has, Cond.static yX6_has, Cond.code yX6_has cX6_has 2 (some .boolean), Cond.methodLink RX6 111 yX6_takeOff, Cond.instanceMethod yX6_takeOff, Cond.selects RX6 yX6_takeOff yX6_takeOff, Cond.code yX6_takeOff cX6_takeOff 6 (some .int), Cond.methodLink RX6 123 yX6_kneesOn, Cond.instanceMethod yX6_kneesOn, Cond.selects RX6 yX6_kneesOn yX6_kneesOn, Cond.code yX6_kneesOn cX6_kneesOn 4 (some .int), Cond.methodLink RX6 146 yX6_dustOn, Cond.instanceMethod yX6_dustOn, Cond.selects RX6 yX6_dustOn yX6_dustOn, Cond.code yX6_dustOn cX6_dustOn 4 (some .int)]
def wsX6_dustBy : List Cond := .code yX6_dustBy cX6_dustBy 2 (some .int) :: ((wsX6_dustBy_r1 ++ wsX6_dustBy_r2) ++ wsX60)
def wsX6_share_r1 : List Cond := [Cond.fieldLink RX6 93 "DustVoteModel" "brooms" "I", Cond.methodLink RX6 134 yX6_isBroom, Cond.instanceMethod yX6_isBroom, Cond.selects RX6 yX6_isBroom yX6_isBroom, Cond.initialized RX6, Cond.code yX6_isBroom cX6_isBroom 2 (some .boolean), Cond.methodLink RX6 62 yX6_in, Cond.static yX6_in, Cond.code yX6_in cX6_in 6 (some .boolean), Cond.methodLink RX6 104 yX6_has, Cond.static yX6_has, Cond.code yX6_has cX6_has 2 (some .boolean), Cond.methodLink RX6 152 yX6_ones, Cond.static yX6_ones, Cond.code yX6_ones cX6_ones 3 (some .int), Cond.methodLink RX6 188 yX6_factorial, Cond.static yX6_factorial, Cond.code yX6_factorial cX6_factorial 3 (some .int), Cond.methodLink RX6 191 yX6_dustBy, Cond.instanceMethod yX6_dustBy, Cond.selects RX6 yX6_dustBy yX6_dustBy, Cond.code yX6_dustBy cX6_dustBy 2 (some .int), Cond.fieldLink RX6 37 "DustVoteModel" "working" "I", Cond.methodLink RX6 157 yX6_layTrial]
def wsX6_share_r2 : List Cond := [Cond.instanceMethod yX6_layTrial, Cond.selects RX6 yX6_layTrial yX6_layTrial, Cond.code yX6_layTrial cX6_layTrial 2 none, Cond.fieldLink RX6 22 "DustVoteModel" "now" "[I", Cond.methodLink RX6 160 yX6_goOn, Cond.instanceMethod yX6_goOn, Cond.selects RX6 yX6_goOn yX6_goOn, Cond.code yX6_goOn cX6_goOn 3 none, Cond.methodLink RX6 143 yX6_passOn, Cond.instanceMethod yX6_passOn, Cond.selects RX6 yX6_passOn yX6_passOn, Cond.code yX6_passOn cX6_passOn 6 none, Cond.fieldLink RX6 96 "DustVoteModel" "falls" "I", Cond.fieldLink RX6 16 "DustVoteModel" "fallAt" "[I", Cond.fieldLink RX6 19 "DustVoteModel" "fallen" "[I", Cond.methodLink RX6 115 yX6_add, Cond.instanceMethod yX6_add, Cond.selects RX6 yX6_add yX6_add, Cond.code yX6_add cX6_add 5 none, Cond.methodLink RX6 119 yX6_sweep, Cond.instanceMethod yX6_sweep, Cond.selects RX6 yX6_sweep yX6_sweep, Cond.code yX6_sweep cX6_sweep 6 none, Cond.fieldLink RX6 7 "DustVoteModel" "strength" "[I"]
def wsX6_share_r3 : List Cond := [Cond.methodLink RX6 108 yX6_worksAs, Cond.instanceMethod yX6_worksAs, Cond.selects RX6 yX6_worksAs yX6_worksAs, Cond.code yX6_worksAs cX6_worksAs 4 (some .int), Cond.fieldLink RX6 13 "DustVoteModel" "kind" "[I", Cond.methodLink RX6 111 yX6_takeOff, Cond.instanceMethod yX6_takeOff, Cond.selects RX6 yX6_takeOff yX6_takeOff, Cond.code yX6_takeOff cX6_takeOff 6 (some .int), Cond.methodLink RX6 123 yX6_kneesOn, Cond.instanceMethod yX6_kneesOn, Cond.selects RX6 yX6_kneesOn yX6_kneesOn, Cond.code yX6_kneesOn cX6_kneesOn 4 (some .int), Cond.methodLink RX6 146 yX6_dustOn, Cond.instanceMethod yX6_dustOn, Cond.selects RX6 yX6_dustOn yX6_dustOn, Cond.code yX6_dustOn cX6_dustOn 4 (some .int), Cond.methodLink RX6 194 yX6_common, Cond.static yX6_common, Cond.code yX6_common cX6_common 5 (some .int)]
def wsX6_share : List Cond := .code yX6_share cX6_share 6 (some .int) :: ((wsX6_share_r1 ++ (wsX6_share_r2 ++ wsX6_share_r3)) ++ wsX60)
def wsX6_gain_r1 : List Cond := [Cond.fieldLink RX6 37 "DustVoteModel" "working" "I", Cond.fieldLink RX6 22 "DustVoteModel" "now" "[I", Cond.methodLink RX6 157 yX6_layTrial, Cond.instanceMethod yX6_layTrial, Cond.selects RX6 yX6_layTrial yX6_layTrial, Cond.initialized RX6, Cond.code yX6_layTrial cX6_layTrial 2 none, Cond.methodLink RX6 160 yX6_goOn, Cond.instanceMethod yX6_goOn, Cond.selects RX6 yX6_goOn yX6_goOn, Cond.code yX6_goOn cX6_goOn 3 none, Cond.methodLink RX6 143 yX6_passOn, Cond.instanceMethod yX6_passOn, Cond.selects RX6 yX6_passOn yX6_passOn, Cond.code yX6_passOn cX6_passOn 6 none, Cond.fieldLink RX6 96 "DustVoteModel" "falls" "I", Cond.fieldLink RX6 16 "DustVoteModel" "fallAt" "[I", Cond.fieldLink RX6 19 "DustVoteModel" "fallen" "[I", Cond.fieldLink RX6 93 "DustVoteModel" "brooms" "I", Cond.methodLink RX6 115 yX6_add, Cond.instanceMethod yX6_add, Cond.selects RX6 yX6_add yX6_add, Cond.code yX6_add cX6_add 5 none, Cond.methodLink RX6 119 yX6_sweep]
def wsX6_gain_r2 : List Cond := [Cond.instanceMethod yX6_sweep, Cond.selects RX6 yX6_sweep yX6_sweep, Cond.code yX6_sweep cX6_sweep 6 none, Cond.fieldLink RX6 7 "DustVoteModel" "strength" "[I", Cond.methodLink RX6 108 yX6_worksAs, Cond.instanceMethod yX6_worksAs, Cond.selects RX6 yX6_worksAs yX6_worksAs, Cond.code yX6_worksAs cX6_worksAs 4 (some .int), Cond.fieldLink RX6 13 "DustVoteModel" "kind" "[I", Cond.methodLink RX6 104 yX6_has, Cond.static yX6_has, Cond.code yX6_has cX6_has 2 (some .boolean), Cond.methodLink RX6 111 yX6_takeOff, Cond.instanceMethod yX6_takeOff, Cond.selects RX6 yX6_takeOff yX6_takeOff, Cond.code yX6_takeOff cX6_takeOff 6 (some .int), Cond.methodLink RX6 123 yX6_kneesOn, Cond.instanceMethod yX6_kneesOn, Cond.selects RX6 yX6_kneesOn yX6_kneesOn, Cond.code yX6_kneesOn cX6_kneesOn 4 (some .int)]
def wsX6_gain : List Cond := .code yX6_gain cX6_gain 5 (some .int) :: ((wsX6_gain_r1 ++ wsX6_gain_r2) ++ wsX60)
def wsX6_isRest_r1 : List Cond := [Cond.methodLink RX6 197 yX6_gain, Cond.instanceMethod yX6_gain, Cond.selects RX6 yX6_gain yX6_gain, Cond.initialized RX6, Cond.code yX6_gain cX6_gain 5 (some .int), Cond.fieldLink RX6 37 "DustVoteModel" "working" "I", Cond.fieldLink RX6 22 "DustVoteModel" "now" "[I", Cond.methodLink RX6 157 yX6_layTrial, Cond.instanceMethod yX6_layTrial, Cond.selects RX6 yX6_layTrial yX6_layTrial, Cond.code yX6_layTrial cX6_layTrial 2 none, Cond.methodLink RX6 160 yX6_goOn, Cond.instanceMethod yX6_goOn, Cond.selects RX6 yX6_goOn yX6_goOn, Cond.code yX6_goOn cX6_goOn 3 none, Cond.methodLink RX6 143 yX6_passOn, Cond.instanceMethod yX6_passOn, Cond.selects RX6 yX6_passOn yX6_passOn, Cond.code yX6_passOn cX6_passOn 6 none, Cond.fieldLink RX6 96 "DustVoteModel" "falls" "I", Cond.fieldLink RX6 16 "DustVoteModel" "fallAt" "[I", Cond.fieldLink RX6 19 "DustVoteModel" "fallen" "[I", Cond.fieldLink RX6 93 "DustVoteModel" "brooms" "I", Cond.methodLink RX6 115 yX6_add]
def wsX6_isRest_r2 : List Cond := [Cond.instanceMethod yX6_add, Cond.selects RX6 yX6_add yX6_add, Cond.code yX6_add cX6_add 5 none, Cond.methodLink RX6 119 yX6_sweep, Cond.instanceMethod yX6_sweep, Cond.selects RX6 yX6_sweep yX6_sweep, Cond.code yX6_sweep cX6_sweep 6 none, Cond.fieldLink RX6 7 "DustVoteModel" "strength" "[I", Cond.methodLink RX6 108 yX6_worksAs, Cond.instanceMethod yX6_worksAs, Cond.selects RX6 yX6_worksAs yX6_worksAs, Cond.code yX6_worksAs cX6_worksAs 4 (some .int), Cond.fieldLink RX6 13 "DustVoteModel" "kind" "[I", Cond.methodLink RX6 104 yX6_has, Cond.static yX6_has, Cond.code yX6_has cX6_has 2 (some .boolean), Cond.methodLink RX6 111 yX6_takeOff, Cond.instanceMethod yX6_takeOff, Cond.selects RX6 yX6_takeOff yX6_takeOff, Cond.code yX6_takeOff cX6_takeOff 6 (some .int), Cond.methodLink RX6 123 yX6_kneesOn, Cond.instanceMethod yX6_kneesOn, Cond.selects RX6 yX6_kneesOn yX6_kneesOn, Cond.code yX6_kneesOn cX6_kneesOn 4 (some .int)]
def wsX6_isRest : List Cond := .code yX6_isRest cX6_isRest 5 (some .boolean) :: ((wsX6_isRest_r1 ++ wsX6_isRest_r2) ++ wsX60)
def wsX6_rests_r1 : List Cond := [Cond.methodLink RX6 134 yX6_isBroom, Cond.instanceMethod yX6_isBroom, Cond.selects RX6 yX6_isBroom yX6_isBroom, Cond.initialized RX6, Cond.code yX6_isBroom cX6_isBroom 2 (some .boolean), Cond.fieldLink RX6 93 "DustVoteModel" "brooms" "I", Cond.methodLink RX6 62 yX6_in, Cond.static yX6_in, Cond.code yX6_in cX6_in 6 (some .boolean), Cond.methodLink RX6 201 yX6_isRest, Cond.instanceMethod yX6_isRest, Cond.selects RX6 yX6_isRest yX6_isRest, Cond.code yX6_isRest cX6_isRest 5 (some .boolean), Cond.methodLink RX6 197 yX6_gain, Cond.instanceMethod yX6_gain, Cond.selects RX6 yX6_gain yX6_gain, Cond.code yX6_gain cX6_gain 5 (some .int), Cond.fieldLink RX6 37 "DustVoteModel" "working" "I", Cond.fieldLink RX6 22 "DustVoteModel" "now" "[I", Cond.methodLink RX6 157 yX6_layTrial, Cond.instanceMethod yX6_layTrial, Cond.selects RX6 yX6_layTrial yX6_layTrial, Cond.code yX6_layTrial cX6_layTrial 2 none, Cond.methodLink RX6 160 yX6_goOn]
def wsX6_rests_r2 : List Cond := [Cond.instanceMethod yX6_goOn, Cond.selects RX6 yX6_goOn yX6_goOn, Cond.code yX6_goOn cX6_goOn 3 none, Cond.methodLink RX6 143 yX6_passOn, Cond.instanceMethod yX6_passOn, Cond.selects RX6 yX6_passOn yX6_passOn, Cond.code yX6_passOn cX6_passOn 6 none, Cond.fieldLink RX6 96 "DustVoteModel" "falls" "I", Cond.fieldLink RX6 16 "DustVoteModel" "fallAt" "[I", Cond.fieldLink RX6 19 "DustVoteModel" "fallen" "[I", Cond.methodLink RX6 115 yX6_add, Cond.instanceMethod yX6_add, Cond.selects RX6 yX6_add yX6_add, Cond.code yX6_add cX6_add 5 none, Cond.methodLink RX6 119 yX6_sweep, Cond.instanceMethod yX6_sweep, Cond.selects RX6 yX6_sweep yX6_sweep, Cond.code yX6_sweep cX6_sweep 6 none, Cond.fieldLink RX6 7 "DustVoteModel" "strength" "[I", Cond.methodLink RX6 108 yX6_worksAs, Cond.instanceMethod yX6_worksAs, Cond.selects RX6 yX6_worksAs yX6_worksAs, Cond.code yX6_worksAs cX6_worksAs 4 (some .int), Cond.fieldLink RX6 13 "DustVoteModel" "kind" "[I"]
def wsX6_rests_r3 : List Cond := [Cond.methodLink RX6 104 yX6_has, Cond.static yX6_has, Cond.code yX6_has cX6_has 2 (some .boolean), Cond.methodLink RX6 111 yX6_takeOff, Cond.instanceMethod yX6_takeOff, Cond.selects RX6 yX6_takeOff yX6_takeOff, Cond.code yX6_takeOff cX6_takeOff 6 (some .int), Cond.methodLink RX6 123 yX6_kneesOn, Cond.instanceMethod yX6_kneesOn, Cond.selects RX6 yX6_kneesOn yX6_kneesOn, Cond.code yX6_kneesOn cX6_kneesOn 4 (some .int)]
def wsX6_rests : List Cond := .code yX6_rests cX6_rests 7 (some .int) :: ((wsX6_rests_r1 ++ (wsX6_rests_r2 ++ wsX6_rests_r3)) ++ wsX60)
def wsX6_twice_r1 : List Cond := [Cond.constantLong RX6 205 (6), Cond.constantLong RX6 207 (10), Cond.fieldLink RX6 22 "DustVoteModel" "now" "[I", Cond.methodLink RX6 127 yX6_isStreet, Cond.static yX6_isStreet, Cond.initialized RX6, Cond.code yX6_isStreet cX6_isStreet 1 (some .boolean), Cond.constantLong RX6 102 (7), Cond.methodLink RX6 62 yX6_in, Cond.static yX6_in, Cond.code yX6_in cX6_in 6 (some .boolean), Cond.methodLink RX6 157 yX6_layTrial, Cond.instanceMethod yX6_layTrial, Cond.selects RX6 yX6_layTrial yX6_layTrial, Cond.code yX6_layTrial cX6_layTrial 2 none, Cond.methodLink RX6 104 yX6_has, Cond.static yX6_has, Cond.code yX6_has cX6_has 2 (some .boolean), Cond.methodLink RX6 143 yX6_passOn, Cond.instanceMethod yX6_passOn, Cond.selects RX6 yX6_passOn yX6_passOn, Cond.code yX6_passOn cX6_passOn 6 none, Cond.fieldLink RX6 96 "DustVoteModel" "falls" "I", Cond.fieldLink RX6 16 "DustVoteModel" "fallAt" "[I"]
def wsX6_twice_r2 : List Cond := [Cond.fieldLink RX6 19 "DustVoteModel" "fallen" "[I", Cond.fieldLink RX6 93 "DustVoteModel" "brooms" "I", Cond.methodLink RX6 115 yX6_add, Cond.instanceMethod yX6_add, Cond.selects RX6 yX6_add yX6_add, Cond.code yX6_add cX6_add 5 none, Cond.methodLink RX6 119 yX6_sweep, Cond.instanceMethod yX6_sweep, Cond.selects RX6 yX6_sweep yX6_sweep, Cond.code yX6_sweep cX6_sweep 6 none, Cond.fieldLink RX6 37 "DustVoteModel" "working" "I", Cond.fieldLink RX6 7 "DustVoteModel" "strength" "[I", Cond.methodLink RX6 108 yX6_worksAs, Cond.instanceMethod yX6_worksAs, Cond.selects RX6 yX6_worksAs yX6_worksAs, Cond.code yX6_worksAs cX6_worksAs 4 (some .int), Cond.fieldLink RX6 13 "DustVoteModel" "kind" "[I", Cond.methodLink RX6 111 yX6_takeOff, Cond.instanceMethod yX6_takeOff, Cond.selects RX6 yX6_takeOff yX6_takeOff, Cond.code yX6_takeOff cX6_takeOff 6 (some .int), Cond.methodLink RX6 123 yX6_kneesOn, Cond.instanceMethod yX6_kneesOn, Cond.selects RX6 yX6_kneesOn yX6_kneesOn]
def wsX6_twice_r3 : List Cond := [Cond.code yX6_kneesOn cX6_kneesOn 4 (some .int), Cond.methodLink RX6 194 yX6_common, Cond.static yX6_common, Cond.code yX6_common cX6_common 5 (some .int)]
def wsX6_twice : List Cond := .code yX6_twice cX6_twice 10 (some .int) :: ((wsX6_twice_r1 ++ (wsX6_twice_r2 ++ wsX6_twice_r3)) ++ wsX60)
def wsX6_seed : List Cond := .code yX6_seed cX6_seed 5 (some .long) :: ([.fieldLink RX6 209 "DustVoteModel" "seed" "J"] ++ wsX60)
def wsX6_years_r1 : List Cond := [Cond.constantLong RX6 155 (30), Cond.fieldLink RX6 209 "DustVoteModel" "seed" "J", Cond.constantLong RX6 213 (6364136223846793005), Cond.constantLong RX6 215 (1442695040888963407), Cond.constantLong RX6 217 (32), Cond.methodLink RX6 62 yX6_in, Cond.static yX6_in, Cond.initialized RX6, Cond.code yX6_in cX6_in 6 (some .boolean), Cond.methodLink RX6 157 yX6_layTrial, Cond.instanceMethod yX6_layTrial, Cond.selects RX6 yX6_layTrial yX6_layTrial, Cond.code yX6_layTrial cX6_layTrial 2 none, Cond.fieldLink RX6 22 "DustVoteModel" "now" "[I", Cond.methodLink RX6 143 yX6_passOn, Cond.instanceMethod yX6_passOn, Cond.selects RX6 yX6_passOn yX6_passOn, Cond.code yX6_passOn cX6_passOn 6 none, Cond.fieldLink RX6 96 "DustVoteModel" "falls" "I", Cond.fieldLink RX6 16 "DustVoteModel" "fallAt" "[I", Cond.fieldLink RX6 19 "DustVoteModel" "fallen" "[I", Cond.fieldLink RX6 93 "DustVoteModel" "brooms" "I", Cond.methodLink RX6 115 yX6_add, Cond.instanceMethod yX6_add]
def wsX6_years_r2 : List Cond := [Cond.selects RX6 yX6_add yX6_add, Cond.code yX6_add cX6_add 5 none, Cond.methodLink RX6 119 yX6_sweep, Cond.instanceMethod yX6_sweep, Cond.selects RX6 yX6_sweep yX6_sweep, Cond.code yX6_sweep cX6_sweep 6 none, Cond.fieldLink RX6 37 "DustVoteModel" "working" "I", Cond.fieldLink RX6 7 "DustVoteModel" "strength" "[I", Cond.methodLink RX6 108 yX6_worksAs, Cond.instanceMethod yX6_worksAs, Cond.selects RX6 yX6_worksAs yX6_worksAs, Cond.code yX6_worksAs cX6_worksAs 4 (some .int), Cond.fieldLink RX6 13 "DustVoteModel" "kind" "[I", Cond.methodLink RX6 104 yX6_has, Cond.static yX6_has, Cond.code yX6_has cX6_has 2 (some .boolean), Cond.methodLink RX6 111 yX6_takeOff, Cond.instanceMethod yX6_takeOff, Cond.selects RX6 yX6_takeOff yX6_takeOff, Cond.code yX6_takeOff cX6_takeOff 6 (some .int), Cond.methodLink RX6 123 yX6_kneesOn, Cond.instanceMethod yX6_kneesOn, Cond.selects RX6 yX6_kneesOn yX6_kneesOn, Cond.code yX6_kneesOn cX6_kneesOn 4 (some .int)]
def wsX6_years_r3 : List Cond := [Cond.methodLink RX6 179 yX6_tryThing, Cond.instanceMethod yX6_tryThing, Cond.selects RX6 yX6_tryThing yX6_tryThing, Cond.code yX6_tryThing cX6_tryThing 7 (some .boolean), Cond.methodLink RX6 134 yX6_isBroom, Cond.instanceMethod yX6_isBroom, Cond.selects RX6 yX6_isBroom yX6_isBroom, Cond.code yX6_isBroom cX6_isBroom 2 (some .boolean), Cond.methodLink RX6 149 yX6_walkOn, Cond.instanceMethod yX6_walkOn, Cond.selects RX6 yX6_walkOn yX6_walkOn, Cond.code yX6_walkOn cX6_walkOn 5 none, Cond.methodLink RX6 127 yX6_isStreet, Cond.static yX6_isStreet, Cond.code yX6_isStreet cX6_isStreet 1 (some .boolean), Cond.constantLong RX6 102 (7), Cond.methodLink RX6 146 yX6_dustOn, Cond.instanceMethod yX6_dustOn, Cond.selects RX6 yX6_dustOn yX6_dustOn, Cond.code yX6_dustOn cX6_dustOn 4 (some .int)]
def wsX6_years : List Cond := .code yX6_years cX6_years 5 (some .int) :: ((wsX6_years_r1 ++ (wsX6_years_r2 ++ wsX6_years_r3)) ++ wsX60)
def wsX6_keep : List Cond := .code yX6_keep cX6_keep 3 (some .int) :: ([.fieldLink RX6 53 "DustVoteModel" "isKept" "[Z", .fieldLink RX6 57 "DustVoteModel" "kept" "[I", .fieldLink RX6 22 "DustVoteModel" "now" "[I", .methodLink RX6 62 yX6_in, .static yX6_in, .initialized RX6, .code yX6_in cX6_in 6 (some .boolean)] ++ wsX60)
def wsX6_again : List Cond := .code yX6_again cX6_again 3 (some .int) :: ([.fieldLink RX6 53 "DustVoteModel" "isKept" "[Z", .fieldLink RX6 22 "DustVoteModel" "now" "[I", .fieldLink RX6 57 "DustVoteModel" "kept" "[I", .fieldLink RX6 99 "DustVoteModel" "acts" "I", .methodLink RX6 62 yX6_in, .static yX6_in, .initialized RX6, .code yX6_in cX6_in 6 (some .boolean)] ++ wsX60)
def wsX6_count : List Cond := .code yX6_count cX6_count 2 (some .int) :: ([.fieldLink RX6 66 "DustVoteModel" "length" "I", .fieldLink RX6 93 "DustVoteModel" "brooms" "I", .fieldLink RX6 96 "DustVoteModel" "falls" "I", .fieldLink RX6 22 "DustVoteModel" "now" "[I", .fieldLink RX6 99 "DustVoteModel" "acts" "I", .fieldLink RX6 185 "DustVoteModel" "heaps" "I", .methodLink RX6 146 yX6_dustOn, .instanceMethod yX6_dustOn, .selects RX6 yX6_dustOn yX6_dustOn, .initialized RX6, .code yX6_dustOn cX6_dustOn 4 (some .int), .methodLink RX6 123 yX6_kneesOn, .instanceMethod yX6_kneesOn, .selects RX6 yX6_kneesOn yX6_kneesOn, .code yX6_kneesOn cX6_kneesOn 4 (some .int)] ++ wsX60)
def wsJ9_abs_067f4 : List Cond := .code yJ9_abs_067f4 cJ9_abs_067f4 2 (some .long) :: ([])
def wsJ9_max_f86c9 : List Cond := .code yJ9_max_f86c9 cJ9_max_f86c9 4 (some .long) :: ([])
def wsJ9_min_7cf53 : List Cond := .code yJ9_min_7cf53 cJ9_min_7cf53 2 (some .int) :: ([])
theorem inJ6 : ∀ w ∈ wsJ60, w ∈ lw_tbl := by decide +kernel
theorem inJ9 : ∀ w ∈ wsJ90, w ∈ lw_tbl := by decide +kernel
theorem inJ10 : ∀ w ∈ wsJ100, w ∈ lw_tbl := by decide +kernel
theorem dX0_init_0 : decode cX0_init 0 = .ok (.aload_n 0, 1) := by decide +kernel
theorem dX0_init_1 : decode cX0_init 1 = .ok (.invokespecial 3, 3) := by decide +kernel
theorem dX0_init_4 : decode cX0_init 4 = .ok (.aload_n 0, 1) := by decide +kernel
theorem dX0_init_5 : decode cX0_init 5 = .ok (.sipush 224, 3) := by decide +kernel
theorem dX0_init_8 : decode cX0_init 8 = .ok (.newarray .int, 2) := by decide +kernel
theorem dX0_init_10 : decode cX0_init 10 = .ok (.putfield 9, 3) := by decide +kernel
theorem dX0_init_13 : decode cX0_init 13 = .ok (.aload_n 0, 1) := by decide +kernel
theorem dX0_init_14 : decode cX0_init 14 = .ok (.iconst 0, 1) := by decide +kernel
theorem dX0_init_15 : decode cX0_init 15 = .ok (.putfield 15, 3) := by decide +kernel
theorem dX0_init_18 : decode cX0_init 18 = .ok (.aload_n 0, 1) := by decide +kernel
theorem dX0_init_19 : decode cX0_init 19 = .ok (.iconst 0, 1) := by decide +kernel
theorem dX0_init_20 : decode cX0_init 20 = .ok (.putfield 19, 3) := by decide +kernel
theorem dX0_init_23 : decode cX0_init 23 = .ok (.return_, 1) := by decide +kernel
theorem dX0_clear_0 : decode cX0_clear 0 = .ok (.aload_n 0, 1) := by decide +kernel
theorem dX0_clear_1 : decode cX0_clear 1 = .ok (.iconst 0, 1) := by decide +kernel
theorem dX0_clear_2 : decode cX0_clear 2 = .ok (.putfield 15, 3) := by decide +kernel
theorem dX0_clear_5 : decode cX0_clear 5 = .ok (.aload_n 0, 1) := by decide +kernel
theorem dX0_clear_6 : decode cX0_clear 6 = .ok (.iconst 0, 1) := by decide +kernel
theorem dX0_clear_7 : decode cX0_clear 7 = .ok (.putfield 19, 3) := by decide +kernel
theorem dX0_clear_10 : decode cX0_clear 10 = .ok (.return_, 1) := by decide +kernel
theorem dX0_spotOf_0 : decode cX0_spotOf 0 = .ok (.iload_n 0, 1) := by decide +kernel
theorem dX0_spotOf_1 : decode cX0_spotOf 1 = .ok (.bipush 14, 2) := by decide +kernel
theorem dX0_spotOf_3 : decode cX0_spotOf 3 = .ok (.irem, 1) := by decide +kernel
theorem dX0_spotOf_4 : decode cX0_spotOf 4 = .ok (.bipush 16, 2) := by decide +kernel
theorem dX0_spotOf_6 : decode cX0_spotOf 6 = .ok (.imul, 1) := by decide +kernel
theorem dX0_spotOf_7 : decode cX0_spotOf 7 = .ok (.ireturn, 1) := by decide +kernel
set_option maxRecDepth 20000 in
theorem ggX0_push_X0_spotOf : GoodIn wsX0_push wsX0_spotOf := goodIn_r _ [7] (by decide +kernel) (by decide +kernel)
set_option maxRecDepth 20000 in
theorem gX0_push_X0_spotOf : GoodIn wsX0_push (va_wsS RX0 22 yX0_spotOf wsX0_spotOf) := goodIn_app (goodIn_of _ (by decide +kernel)) ggX0_push_X0_spotOf
set_option maxRecDepth 20000 in
theorem ggX0_push_X2_save : GoodIn wsX0_push wsX2_save := goodIn_r _ [12, 13, 14, 15, 16, 17, 18, 19, 20, 21, 25, 26, 27, 28, 29, 30, 31] (by decide +kernel) (by decide +kernel)
set_option maxRecDepth 20000 in
theorem gX0_push_X2_save : GoodIn wsX0_push (wsV RX0 26 RX2 yX2_save wsX2_save) := goodIn_app (goodIn_of _ (by decide +kernel)) ggX0_push_X2_save
theorem dX0_push_0 : decode cX0_push 0 = .ok (.aload_n 1, 1) := by decide +kernel
theorem dX0_push_1 : decode cX0_push 1 = .ok (.aload_n 0, 1) := by decide +kernel
theorem dX0_push_2 : decode cX0_push 2 = .ok (.getfield 9, 3) := by decide +kernel
theorem dX0_push_5 : decode cX0_push 5 = .ok (.aload_n 0, 1) := by decide +kernel
theorem dX0_push_6 : decode cX0_push 6 = .ok (.getfield 15, 3) := by decide +kernel
theorem dX0_push_9 : decode cX0_push 9 = .ok (.aload_n 0, 1) := by decide +kernel
theorem dX0_push_10 : decode cX0_push 10 = .ok (.getfield 19, 3) := by decide +kernel
theorem dX0_push_13 : decode cX0_push 13 = .ok (.iadd, 1) := by decide +kernel
theorem dX0_push_14 : decode cX0_push 14 = .ok (.invokestatic 22, 3) := by decide +kernel
theorem dX0_push_17 : decode cX0_push 17 = .ok (.invokevirtual 26, 3) := by decide +kernel
theorem dX0_push_20 : decode cX0_push 20 = .ok (.aload_n 0, 1) := by decide +kernel
theorem dX0_push_21 : decode cX0_push 21 = .ok (.getfield 19, 3) := by decide +kernel
theorem dX0_push_24 : decode cX0_push 24 = .ok (.bipush 14, 2) := by decide +kernel
theorem dX0_push_26 : decode cX0_push 26 = .ok (.if_icmp .ge 16, 3) := by decide +kernel
theorem dX0_push_29 : decode cX0_push 29 = .ok (.aload_n 0, 1) := by decide +kernel
theorem dX0_push_30 : decode cX0_push 30 = .ok (.dup, 1) := by decide +kernel
theorem dX0_push_31 : decode cX0_push 31 = .ok (.getfield 19, 3) := by decide +kernel
theorem dX0_push_34 : decode cX0_push 34 = .ok (.iconst 1, 1) := by decide +kernel
theorem dX0_push_35 : decode cX0_push 35 = .ok (.iadd, 1) := by decide +kernel
theorem dX0_push_36 : decode cX0_push 36 = .ok (.putfield 19, 3) := by decide +kernel
theorem dX0_push_39 : decode cX0_push 39 = .ok (.goto 16, 3) := by decide +kernel
theorem dX0_push_42 : decode cX0_push 42 = .ok (.aload_n 0, 1) := by decide +kernel
theorem dX0_push_43 : decode cX0_push 43 = .ok (.aload_n 0, 1) := by decide +kernel
theorem dX0_push_44 : decode cX0_push 44 = .ok (.getfield 15, 3) := by decide +kernel
theorem dX0_push_47 : decode cX0_push 47 = .ok (.iconst 1, 1) := by decide +kernel
theorem dX0_push_48 : decode cX0_push 48 = .ok (.iadd, 1) := by decide +kernel
theorem dX0_push_49 : decode cX0_push 49 = .ok (.bipush 14, 2) := by decide +kernel
theorem dX0_push_51 : decode cX0_push 51 = .ok (.irem, 1) := by decide +kernel
theorem dX0_push_52 : decode cX0_push 52 = .ok (.putfield 15, 3) := by decide +kernel
theorem dX0_push_55 : decode cX0_push 55 = .ok (.return_, 1) := by decide +kernel
set_option maxRecDepth 20000 in
theorem ggX0_pop_X0_spotOf : GoodIn wsX0_pop wsX0_spotOf := goodIn_r _ [7] (by decide +kernel) (by decide +kernel)
set_option maxRecDepth 20000 in
theorem gX0_pop_X0_spotOf : GoodIn wsX0_pop (va_wsS RX0 22 yX0_spotOf wsX0_spotOf) := goodIn_app (goodIn_of _ (by decide +kernel)) ggX0_pop_X0_spotOf
set_option maxRecDepth 20000 in
theorem ggX0_pop_X2_load : GoodIn wsX0_pop wsX2_load := goodIn_r _ [12, 13, 14, 15, 16, 17, 18, 19, 20, 21, 25, 26, 27, 28, 29, 30, 31] (by decide +kernel) (by decide +kernel)
set_option maxRecDepth 20000 in
theorem gX0_pop_X2_load : GoodIn wsX0_pop (wsV RX0 32 RX2 yX2_load wsX2_load) := goodIn_app (goodIn_of _ (by decide +kernel)) ggX0_pop_X2_load
theorem dX0_pop_0 : decode cX0_pop 0 = .ok (.aload_n 0, 1) := by decide +kernel
theorem dX0_pop_1 : decode cX0_pop 1 = .ok (.getfield 19, 3) := by decide +kernel
theorem dX0_pop_4 : decode cX0_pop 4 = .ok (.ifCond .le 33, 3) := by decide +kernel
theorem dX0_pop_7 : decode cX0_pop 7 = .ok (.aload_n 0, 1) := by decide +kernel
theorem dX0_pop_8 : decode cX0_pop 8 = .ok (.dup, 1) := by decide +kernel
theorem dX0_pop_9 : decode cX0_pop 9 = .ok (.getfield 19, 3) := by decide +kernel
theorem dX0_pop_12 : decode cX0_pop 12 = .ok (.iconst 1, 1) := by decide +kernel
theorem dX0_pop_13 : decode cX0_pop 13 = .ok (.isub, 1) := by decide +kernel
theorem dX0_pop_14 : decode cX0_pop 14 = .ok (.putfield 19, 3) := by decide +kernel
theorem dX0_pop_17 : decode cX0_pop 17 = .ok (.aload_n 1, 1) := by decide +kernel
theorem dX0_pop_18 : decode cX0_pop 18 = .ok (.aload_n 0, 1) := by decide +kernel
theorem dX0_pop_19 : decode cX0_pop 19 = .ok (.getfield 9, 3) := by decide +kernel
theorem dX0_pop_22 : decode cX0_pop 22 = .ok (.aload_n 0, 1) := by decide +kernel
theorem dX0_pop_23 : decode cX0_pop 23 = .ok (.getfield 15, 3) := by decide +kernel
theorem dX0_pop_26 : decode cX0_pop 26 = .ok (.aload_n 0, 1) := by decide +kernel
theorem dX0_pop_27 : decode cX0_pop 27 = .ok (.getfield 19, 3) := by decide +kernel
theorem dX0_pop_30 : decode cX0_pop 30 = .ok (.iadd, 1) := by decide +kernel
theorem dX0_pop_31 : decode cX0_pop 31 = .ok (.invokestatic 22, 3) := by decide +kernel
theorem dX0_pop_34 : decode cX0_pop 34 = .ok (.invokevirtual 32, 3) := by decide +kernel
theorem dX0_pop_37 : decode cX0_pop 37 = .ok (.return_, 1) := by decide +kernel
theorem dX1_init_0 : decode cX1_init 0 = .ok (.aload_n 0, 1) := by decide +kernel
theorem dX1_init_1 : decode cX1_init 1 = .ok (.invokespecial 3, 3) := by decide +kernel
theorem dX1_init_4 : decode cX1_init 4 = .ok (.aload_n 0, 1) := by decide +kernel
theorem dX1_init_5 : decode cX1_init 5 = .ok (.bipush 6, 2) := by decide +kernel
theorem dX1_init_7 : decode cX1_init 7 = .ok (.newarray .int, 2) := by decide +kernel
theorem dX1_init_9 : decode cX1_init 9 = .ok (.putfield 9, 3) := by decide +kernel
theorem dX1_init_12 : decode cX1_init 12 = .ok (.aload_n 0, 1) := by decide +kernel
theorem dX1_init_13 : decode cX1_init 13 = .ok (.bipush 6, 2) := by decide +kernel
theorem dX1_init_15 : decode cX1_init 15 = .ok (.newarray .int, 2) := by decide +kernel
theorem dX1_init_17 : decode cX1_init 17 = .ok (.putfield 15, 3) := by decide +kernel
theorem dX1_init_20 : decode cX1_init 20 = .ok (.aload_n 0, 1) := by decide +kernel
theorem dX1_init_21 : decode cX1_init 21 = .ok (.bipush 6, 2) := by decide +kernel
theorem dX1_init_23 : decode cX1_init 23 = .ok (.newarray .int, 2) := by decide +kernel
theorem dX1_init_25 : decode cX1_init 25 = .ok (.putfield 18, 3) := by decide +kernel
theorem dX1_init_28 : decode cX1_init 28 = .ok (.aload_n 0, 1) := by decide +kernel
theorem dX1_init_29 : decode cX1_init 29 = .ok (.iconst 0, 1) := by decide +kernel
theorem dX1_init_30 : decode cX1_init 30 = .ok (.putfield 21, 3) := by decide +kernel
theorem dX1_init_33 : decode cX1_init 33 = .ok (.return_, 1) := by decide +kernel
theorem dX1_add_0 : decode cX1_add 0 = .ok (.aload_n 0, 1) := by decide +kernel
theorem dX1_add_1 : decode cX1_add 1 = .ok (.getfield 21, 3) := by decide +kernel
theorem dX1_add_4 : decode cX1_add 4 = .ok (.bipush 6, 2) := by decide +kernel
theorem dX1_add_6 : decode cX1_add 6 = .ok (.if_icmp .ge 43, 3) := by decide +kernel
theorem dX1_add_9 : decode cX1_add 9 = .ok (.aload_n 0, 1) := by decide +kernel
theorem dX1_add_10 : decode cX1_add 10 = .ok (.getfield 9, 3) := by decide +kernel
theorem dX1_add_13 : decode cX1_add 13 = .ok (.aload_n 0, 1) := by decide +kernel
theorem dX1_add_14 : decode cX1_add 14 = .ok (.getfield 21, 3) := by decide +kernel
theorem dX1_add_17 : decode cX1_add 17 = .ok (.iload_n 1, 1) := by decide +kernel
theorem dX1_add_18 : decode cX1_add 18 = .ok (.iastore, 1) := by decide +kernel
theorem dX1_add_19 : decode cX1_add 19 = .ok (.aload_n 0, 1) := by decide +kernel
theorem dX1_add_20 : decode cX1_add 20 = .ok (.getfield 15, 3) := by decide +kernel
theorem dX1_add_23 : decode cX1_add 23 = .ok (.aload_n 0, 1) := by decide +kernel
theorem dX1_add_24 : decode cX1_add 24 = .ok (.getfield 21, 3) := by decide +kernel
theorem dX1_add_27 : decode cX1_add 27 = .ok (.iload_n 2, 1) := by decide +kernel
theorem dX1_add_28 : decode cX1_add 28 = .ok (.iastore, 1) := by decide +kernel
theorem dX1_add_29 : decode cX1_add 29 = .ok (.aload_n 0, 1) := by decide +kernel
theorem dX1_add_30 : decode cX1_add 30 = .ok (.getfield 18, 3) := by decide +kernel
theorem dX1_add_33 : decode cX1_add 33 = .ok (.aload_n 0, 1) := by decide +kernel
theorem dX1_add_34 : decode cX1_add 34 = .ok (.getfield 21, 3) := by decide +kernel
theorem dX1_add_37 : decode cX1_add 37 = .ok (.iload_n 3, 1) := by decide +kernel
theorem dX1_add_38 : decode cX1_add 38 = .ok (.iastore, 1) := by decide +kernel
theorem dX1_add_39 : decode cX1_add 39 = .ok (.aload_n 0, 1) := by decide +kernel
theorem dX1_add_40 : decode cX1_add 40 = .ok (.dup, 1) := by decide +kernel
theorem dX1_add_41 : decode cX1_add 41 = .ok (.getfield 21, 3) := by decide +kernel
theorem dX1_add_44 : decode cX1_add 44 = .ok (.iconst 1, 1) := by decide +kernel
theorem dX1_add_45 : decode cX1_add 45 = .ok (.iadd, 1) := by decide +kernel
theorem dX1_add_46 : decode cX1_add 46 = .ok (.putfield 21, 3) := by decide +kernel
theorem dX1_add_49 : decode cX1_add 49 = .ok (.return_, 1) := by decide +kernel
theorem dX1_fit_0 : decode cX1_fit 0 = .ok (.iconst 0, 1) := by decide +kernel
theorem dX1_fit_1 : decode cX1_fit 1 = .ok (.istore_n 3, 1) := by decide +kernel
theorem dX1_fit_2 : decode cX1_fit 2 = .ok (.iload_n 3, 1) := by decide +kernel
theorem dX1_fit_3 : decode cX1_fit 3 = .ok (.aload_n 0, 1) := by decide +kernel
theorem dX1_fit_4 : decode cX1_fit 4 = .ok (.getfield 21, 3) := by decide +kernel
theorem dX1_fit_7 : decode cX1_fit 7 = .ok (.if_icmp .ge 71, 3) := by decide +kernel
theorem dX1_fit_10 : decode cX1_fit 10 = .ok (.iload_n 3, 1) := by decide +kernel
theorem dX1_fit_11 : decode cX1_fit 11 = .ok (.bipush 6, 2) := by decide +kernel
theorem dX1_fit_13 : decode cX1_fit 13 = .ok (.if_icmp .ge 65, 3) := by decide +kernel
theorem dX1_fit_16 : decode cX1_fit 16 = .ok (.iload_n 2, 1) := by decide +kernel
theorem dX1_fit_17 : decode cX1_fit 17 = .ok (.aload_n 0, 1) := by decide +kernel
theorem dX1_fit_18 : decode cX1_fit 18 = .ok (.getfield 9, 3) := by decide +kernel
theorem dX1_fit_21 : decode cX1_fit 21 = .ok (.iload_n 3, 1) := by decide +kernel
theorem dX1_fit_22 : decode cX1_fit 22 = .ok (.iaload, 1) := by decide +kernel
theorem dX1_fit_23 : decode cX1_fit 23 = .ok (.invokestatic 25, 3) := by decide +kernel
theorem dX1_fit_26 : decode cX1_fit 26 = .ok (.istore 4, 2) := by decide +kernel
theorem dX1_fit_28 : decode cX1_fit 28 = .ok (.iload_n 1, 1) := by decide +kernel
theorem dX1_fit_29 : decode cX1_fit 29 = .ok (.iconst 1, 1) := by decide +kernel
theorem dX1_fit_30 : decode cX1_fit 30 = .ok (.if_icmp .ne 8, 3) := by decide +kernel
theorem dX1_fit_33 : decode cX1_fit 33 = .ok (.iload 4, 2) := by decide +kernel
theorem dX1_fit_35 : decode cX1_fit 35 = .ok (.goto 4, 3) := by decide +kernel
theorem dX1_fit_38 : decode cX1_fit 38 = .ok (.iconst 0, 1) := by decide +kernel
theorem dX1_fit_39 : decode cX1_fit 39 = .ok (.istore 5, 2) := by decide +kernel
theorem dX1_fit_41 : decode cX1_fit 41 = .ok (.aload_n 0, 1) := by decide +kernel
theorem dX1_fit_42 : decode cX1_fit 42 = .ok (.getfield 15, 3) := by decide +kernel
theorem dX1_fit_45 : decode cX1_fit 45 = .ok (.iload_n 3, 1) := by decide +kernel
theorem dX1_fit_46 : decode cX1_fit 46 = .ok (.iaload, 1) := by decide +kernel
theorem dX1_fit_47 : decode cX1_fit 47 = .ok (.aload_n 0, 1) := by decide +kernel
theorem dX1_fit_48 : decode cX1_fit 48 = .ok (.getfield 9, 3) := by decide +kernel
theorem dX1_fit_51 : decode cX1_fit 51 = .ok (.iload_n 3, 1) := by decide +kernel
theorem dX1_fit_52 : decode cX1_fit 52 = .ok (.iaload, 1) := by decide +kernel
theorem dX1_fit_53 : decode cX1_fit 53 = .ok (.iload 4, 2) := by decide +kernel
theorem dX1_fit_55 : decode cX1_fit 55 = .ok (.isub, 1) := by decide +kernel
theorem dX1_fit_56 : decode cX1_fit 56 = .ok (.if_icmp .ne 14, 3) := by decide +kernel
theorem dX1_fit_59 : decode cX1_fit 59 = .ok (.aload_n 0, 1) := by decide +kernel
theorem dX1_fit_60 : decode cX1_fit 60 = .ok (.getfield 18, 3) := by decide +kernel
theorem dX1_fit_63 : decode cX1_fit 63 = .ok (.iload_n 3, 1) := by decide +kernel
theorem dX1_fit_64 : decode cX1_fit 64 = .ok (.iaload, 1) := by decide +kernel
theorem dX1_fit_65 : decode cX1_fit 65 = .ok (.iload 5, 2) := by decide +kernel
theorem dX1_fit_67 : decode cX1_fit 67 = .ok (.if_icmp .eq 5, 3) := by decide +kernel
theorem dX1_fit_70 : decode cX1_fit 70 = .ok (.iconst 0, 1) := by decide +kernel
theorem dX1_fit_71 : decode cX1_fit 71 = .ok (.ireturn, 1) := by decide +kernel
theorem dX1_fit_72 : decode cX1_fit 72 = .ok (.iinc 3 1, 3) := by decide +kernel
theorem dX1_fit_75 : decode cX1_fit 75 = .ok (.goto (-73), 3) := by decide +kernel
theorem dX1_fit_78 : decode cX1_fit 78 = .ok (.iconst 1, 1) := by decide +kernel
theorem dX1_fit_79 : decode cX1_fit 79 = .ok (.ireturn, 1) := by decide +kernel
theorem dX2_init_0 : decode cX2_init 0 = .ok (.aload_n 0, 1) := by decide +kernel
theorem dX2_init_1 : decode cX2_init 1 = .ok (.invokespecial 3, 3) := by decide +kernel
theorem dX2_init_4 : decode cX2_init 4 = .ok (.aload_n 0, 1) := by decide +kernel
theorem dX2_init_5 : decode cX2_init 5 = .ok (.bipush 8, 2) := by decide +kernel
theorem dX2_init_7 : decode cX2_init 7 = .ok (.newarray .int, 2) := by decide +kernel
theorem dX2_init_9 : decode cX2_init 9 = .ok (.putfield 9, 3) := by decide +kernel
theorem dX2_init_12 : decode cX2_init 12 = .ok (.aload_n 0, 1) := by decide +kernel
theorem dX2_init_13 : decode cX2_init 13 = .ok (.iconst 5, 1) := by decide +kernel
theorem dX2_init_14 : decode cX2_init 14 = .ok (.newarray .int, 2) := by decide +kernel
theorem dX2_init_16 : decode cX2_init 16 = .ok (.putfield 15, 3) := by decide +kernel
theorem dX2_init_19 : decode cX2_init 19 = .ok (.aload_n 0, 1) := by decide +kernel
theorem dX2_init_20 : decode cX2_init 20 = .ok (.bipush 8, 2) := by decide +kernel
theorem dX2_init_22 : decode cX2_init 22 = .ok (.newarray .boolean, 2) := by decide +kernel
theorem dX2_init_24 : decode cX2_init 24 = .ok (.putfield 18, 3) := by decide +kernel
theorem dX2_init_27 : decode cX2_init 27 = .ok (.aload_n 0, 1) := by decide +kernel
theorem dX2_init_28 : decode cX2_init 28 = .ok (.iconst 0, 1) := by decide +kernel
theorem dX2_init_29 : decode cX2_init 29 = .ok (.putfield 22, 3) := by decide +kernel
theorem dX2_init_32 : decode cX2_init 32 = .ok (.aload_n 0, 1) := by decide +kernel
theorem dX2_init_33 : decode cX2_init 33 = .ok (.iconst 0, 1) := by decide +kernel
theorem dX2_init_34 : decode cX2_init 34 = .ok (.putfield 26, 3) := by decide +kernel
theorem dX2_init_37 : decode cX2_init 37 = .ok (.aload_n 0, 1) := by decide +kernel
theorem dX2_init_38 : decode cX2_init 38 = .ok (.iconst 0, 1) := by decide +kernel
theorem dX2_init_39 : decode cX2_init 39 = .ok (.putfield 30, 3) := by decide +kernel
theorem dX2_init_42 : decode cX2_init 42 = .ok (.aload_n 0, 1) := by decide +kernel
theorem dX2_init_43 : decode cX2_init 43 = .ok (.aload_n 1, 1) := by decide +kernel
theorem dX2_init_44 : decode cX2_init 44 = .ok (.putfield 33, 3) := by decide +kernel
theorem dX2_init_47 : decode cX2_init 47 = .ok (.return_, 1) := by decide +kernel
theorem dX2_begin_0 : decode cX2_begin 0 = .ok (.aload_n 0, 1) := by decide +kernel
theorem dX2_begin_1 : decode cX2_begin 1 = .ok (.getfield 33, 3) := by decide +kernel
theorem dX2_begin_4 : decode cX2_begin 4 = .ok (.getfield 37, 3) := by decide +kernel
theorem dX2_begin_7 : decode cX2_begin 7 = .ok (.iconst 0, 1) := by decide +kernel
theorem dX2_begin_8 : decode cX2_begin 8 = .ok (.aload_n 0, 1) := by decide +kernel
theorem dX2_begin_9 : decode cX2_begin 9 = .ok (.getfield 9, 3) := by decide +kernel
theorem dX2_begin_12 : decode cX2_begin 12 = .ok (.iconst 0, 1) := by decide +kernel
theorem dX2_begin_13 : decode cX2_begin 13 = .ok (.bipush 8, 2) := by decide +kernel
theorem dX2_begin_15 : decode cX2_begin 15 = .ok (.invokestatic 42, 3) := by decide +kernel
theorem dX2_begin_18 : decode cX2_begin 18 = .ok (.aload_n 0, 1) := by decide +kernel
theorem dX2_begin_19 : decode cX2_begin 19 = .ok (.getfield 33, 3) := by decide +kernel
theorem dX2_begin_22 : decode cX2_begin 22 = .ok (.getfield 48, 3) := by decide +kernel
theorem dX2_begin_25 : decode cX2_begin 25 = .ok (.iconst 0, 1) := by decide +kernel
theorem dX2_begin_26 : decode cX2_begin 26 = .ok (.aload_n 0, 1) := by decide +kernel
theorem dX2_begin_27 : decode cX2_begin 27 = .ok (.getfield 15, 3) := by decide +kernel
theorem dX2_begin_30 : decode cX2_begin 30 = .ok (.iconst 0, 1) := by decide +kernel
theorem dX2_begin_31 : decode cX2_begin 31 = .ok (.iconst 5, 1) := by decide +kernel
theorem dX2_begin_32 : decode cX2_begin 32 = .ok (.invokestatic 42, 3) := by decide +kernel
theorem dX2_begin_35 : decode cX2_begin 35 = .ok (.aload_n 0, 1) := by decide +kernel
theorem dX2_begin_36 : decode cX2_begin 36 = .ok (.iconst 0, 1) := by decide +kernel
theorem dX2_begin_37 : decode cX2_begin 37 = .ok (.putfield 22, 3) := by decide +kernel
theorem dX2_begin_40 : decode cX2_begin 40 = .ok (.aload_n 0, 1) := by decide +kernel
theorem dX2_begin_41 : decode cX2_begin 41 = .ok (.iconst 0, 1) := by decide +kernel
theorem dX2_begin_42 : decode cX2_begin 42 = .ok (.putfield 26, 3) := by decide +kernel
theorem dX2_begin_45 : decode cX2_begin 45 = .ok (.aload_n 0, 1) := by decide +kernel
theorem dX2_begin_46 : decode cX2_begin 46 = .ok (.iconst 0, 1) := by decide +kernel
theorem dX2_begin_47 : decode cX2_begin 47 = .ok (.putfield 30, 3) := by decide +kernel
theorem dX2_begin_50 : decode cX2_begin 50 = .ok (.return_, 1) := by decide +kernel
theorem dX2_copy_0 : decode cX2_copy 0 = .ok (.aload_n 1, 1) := by decide +kernel
theorem dX2_copy_1 : decode cX2_copy 1 = .ok (.getfield 9, 3) := by decide +kernel
theorem dX2_copy_4 : decode cX2_copy 4 = .ok (.iconst 0, 1) := by decide +kernel
theorem dX2_copy_5 : decode cX2_copy 5 = .ok (.aload_n 0, 1) := by decide +kernel
theorem dX2_copy_6 : decode cX2_copy 6 = .ok (.getfield 9, 3) := by decide +kernel
theorem dX2_copy_9 : decode cX2_copy 9 = .ok (.iconst 0, 1) := by decide +kernel
theorem dX2_copy_10 : decode cX2_copy 10 = .ok (.bipush 8, 2) := by decide +kernel
theorem dX2_copy_12 : decode cX2_copy 12 = .ok (.invokestatic 42, 3) := by decide +kernel
theorem dX2_copy_15 : decode cX2_copy 15 = .ok (.aload_n 1, 1) := by decide +kernel
theorem dX2_copy_16 : decode cX2_copy 16 = .ok (.getfield 15, 3) := by decide +kernel
theorem dX2_copy_19 : decode cX2_copy 19 = .ok (.iconst 0, 1) := by decide +kernel
theorem dX2_copy_20 : decode cX2_copy 20 = .ok (.aload_n 0, 1) := by decide +kernel
theorem dX2_copy_21 : decode cX2_copy 21 = .ok (.getfield 15, 3) := by decide +kernel
theorem dX2_copy_24 : decode cX2_copy 24 = .ok (.iconst 0, 1) := by decide +kernel
theorem dX2_copy_25 : decode cX2_copy 25 = .ok (.iconst 5, 1) := by decide +kernel
theorem dX2_copy_26 : decode cX2_copy 26 = .ok (.invokestatic 42, 3) := by decide +kernel
theorem dX2_copy_29 : decode cX2_copy 29 = .ok (.aload_n 0, 1) := by decide +kernel
theorem dX2_copy_30 : decode cX2_copy 30 = .ok (.aload_n 1, 1) := by decide +kernel
theorem dX2_copy_31 : decode cX2_copy 31 = .ok (.getfield 22, 3) := by decide +kernel
theorem dX2_copy_34 : decode cX2_copy 34 = .ok (.putfield 22, 3) := by decide +kernel
theorem dX2_copy_37 : decode cX2_copy 37 = .ok (.aload_n 0, 1) := by decide +kernel
theorem dX2_copy_38 : decode cX2_copy 38 = .ok (.aload_n 1, 1) := by decide +kernel
theorem dX2_copy_39 : decode cX2_copy 39 = .ok (.getfield 26, 3) := by decide +kernel
theorem dX2_copy_42 : decode cX2_copy 42 = .ok (.putfield 26, 3) := by decide +kernel
theorem dX2_copy_45 : decode cX2_copy 45 = .ok (.aload_n 0, 1) := by decide +kernel
theorem dX2_copy_46 : decode cX2_copy 46 = .ok (.aload_n 1, 1) := by decide +kernel
theorem dX2_copy_47 : decode cX2_copy 47 = .ok (.getfield 30, 3) := by decide +kernel
theorem dX2_copy_50 : decode cX2_copy 50 = .ok (.putfield 30, 3) := by decide +kernel
theorem dX2_copy_53 : decode cX2_copy 53 = .ok (.return_, 1) := by decide +kernel
theorem dX2_save_0 : decode cX2_save 0 = .ok (.iload_n 2, 1) := by decide +kernel
theorem dX2_save_1 : decode cX2_save 1 = .ok (.ifCond .lt 12, 3) := by decide +kernel
theorem dX2_save_4 : decode cX2_save 4 = .ok (.iload_n 2, 1) := by decide +kernel
theorem dX2_save_5 : decode cX2_save 5 = .ok (.aload_n 1, 1) := by decide +kernel
theorem dX2_save_6 : decode cX2_save 6 = .ok (.arraylength, 1) := by decide +kernel
theorem dX2_save_7 : decode cX2_save 7 = .ok (.bipush 16, 2) := by decide +kernel
theorem dX2_save_9 : decode cX2_save 9 = .ok (.isub, 1) := by decide +kernel
theorem dX2_save_10 : decode cX2_save 10 = .ok (.if_icmp .le 4, 3) := by decide +kernel
theorem dX2_save_13 : decode cX2_save 13 = .ok (.return_, 1) := by decide +kernel
theorem dX2_save_14 : decode cX2_save 14 = .ok (.aload_n 0, 1) := by decide +kernel
theorem dX2_save_15 : decode cX2_save 15 = .ok (.getfield 9, 3) := by decide +kernel
theorem dX2_save_18 : decode cX2_save 18 = .ok (.iconst 0, 1) := by decide +kernel
theorem dX2_save_19 : decode cX2_save 19 = .ok (.aload_n 1, 1) := by decide +kernel
theorem dX2_save_20 : decode cX2_save 20 = .ok (.iload_n 2, 1) := by decide +kernel
theorem dX2_save_21 : decode cX2_save 21 = .ok (.bipush 8, 2) := by decide +kernel
theorem dX2_save_23 : decode cX2_save 23 = .ok (.invokestatic 42, 3) := by decide +kernel
theorem dX2_save_26 : decode cX2_save 26 = .ok (.aload_n 0, 1) := by decide +kernel
theorem dX2_save_27 : decode cX2_save 27 = .ok (.getfield 15, 3) := by decide +kernel
theorem dX2_save_30 : decode cX2_save 30 = .ok (.iconst 0, 1) := by decide +kernel
theorem dX2_save_31 : decode cX2_save 31 = .ok (.aload_n 1, 1) := by decide +kernel
theorem dX2_save_32 : decode cX2_save 32 = .ok (.iload_n 2, 1) := by decide +kernel
theorem dX2_save_33 : decode cX2_save 33 = .ok (.bipush 8, 2) := by decide +kernel
theorem dX2_save_35 : decode cX2_save 35 = .ok (.iadd, 1) := by decide +kernel
theorem dX2_save_36 : decode cX2_save 36 = .ok (.iconst 5, 1) := by decide +kernel
theorem dX2_save_37 : decode cX2_save 37 = .ok (.invokestatic 42, 3) := by decide +kernel
theorem dX2_save_40 : decode cX2_save 40 = .ok (.iload_n 2, 1) := by decide +kernel
theorem dX2_save_41 : decode cX2_save 41 = .ok (.bipush 8, 2) := by decide +kernel
theorem dX2_save_43 : decode cX2_save 43 = .ok (.iadd, 1) := by decide +kernel
theorem dX2_save_44 : decode cX2_save 44 = .ok (.iconst 5, 1) := by decide +kernel
theorem dX2_save_45 : decode cX2_save 45 = .ok (.iadd, 1) := by decide +kernel
theorem dX2_save_46 : decode cX2_save 46 = .ok (.istore_n 3, 1) := by decide +kernel
theorem dX2_save_47 : decode cX2_save 47 = .ok (.aload_n 1, 1) := by decide +kernel
theorem dX2_save_48 : decode cX2_save 48 = .ok (.iload_n 3, 1) := by decide +kernel
theorem dX2_save_49 : decode cX2_save 49 = .ok (.aload_n 0, 1) := by decide +kernel
theorem dX2_save_50 : decode cX2_save 50 = .ok (.getfield 22, 3) := by decide +kernel
theorem dX2_save_53 : decode cX2_save 53 = .ok (.ifCond .eq 7, 3) := by decide +kernel
theorem dX2_save_56 : decode cX2_save 56 = .ok (.iconst 1, 1) := by decide +kernel
theorem dX2_save_57 : decode cX2_save 57 = .ok (.goto 4, 3) := by decide +kernel
theorem dX2_save_60 : decode cX2_save 60 = .ok (.iconst 0, 1) := by decide +kernel
theorem dX2_save_61 : decode cX2_save 61 = .ok (.iastore, 1) := by decide +kernel
theorem dX2_save_62 : decode cX2_save 62 = .ok (.aload_n 1, 1) := by decide +kernel
theorem dX2_save_63 : decode cX2_save 63 = .ok (.iload_n 3, 1) := by decide +kernel
theorem dX2_save_64 : decode cX2_save 64 = .ok (.iconst 1, 1) := by decide +kernel
theorem dX2_save_65 : decode cX2_save 65 = .ok (.iadd, 1) := by decide +kernel
theorem dX2_save_66 : decode cX2_save 66 = .ok (.aload_n 0, 1) := by decide +kernel
theorem dX2_save_67 : decode cX2_save 67 = .ok (.getfield 26, 3) := by decide +kernel
theorem dX2_save_70 : decode cX2_save 70 = .ok (.iastore, 1) := by decide +kernel
theorem dX2_save_71 : decode cX2_save 71 = .ok (.aload_n 1, 1) := by decide +kernel
theorem dX2_save_72 : decode cX2_save 72 = .ok (.iload_n 3, 1) := by decide +kernel
theorem dX2_save_73 : decode cX2_save 73 = .ok (.iconst 2, 1) := by decide +kernel
theorem dX2_save_74 : decode cX2_save 74 = .ok (.iadd, 1) := by decide +kernel
theorem dX2_save_75 : decode cX2_save 75 = .ok (.aload_n 0, 1) := by decide +kernel
theorem dX2_save_76 : decode cX2_save 76 = .ok (.getfield 30, 3) := by decide +kernel
theorem dX2_save_79 : decode cX2_save 79 = .ok (.iastore, 1) := by decide +kernel
theorem dX2_save_80 : decode cX2_save 80 = .ok (.return_, 1) := by decide +kernel
theorem dX2_load_0 : decode cX2_load 0 = .ok (.iload_n 2, 1) := by decide +kernel
theorem dX2_load_1 : decode cX2_load 1 = .ok (.ifCond .lt 12, 3) := by decide +kernel
theorem dX2_load_4 : decode cX2_load 4 = .ok (.iload_n 2, 1) := by decide +kernel
theorem dX2_load_5 : decode cX2_load 5 = .ok (.aload_n 1, 1) := by decide +kernel
theorem dX2_load_6 : decode cX2_load 6 = .ok (.arraylength, 1) := by decide +kernel
theorem dX2_load_7 : decode cX2_load 7 = .ok (.bipush 16, 2) := by decide +kernel
theorem dX2_load_9 : decode cX2_load 9 = .ok (.isub, 1) := by decide +kernel
theorem dX2_load_10 : decode cX2_load 10 = .ok (.if_icmp .le 4, 3) := by decide +kernel
theorem dX2_load_13 : decode cX2_load 13 = .ok (.return_, 1) := by decide +kernel
theorem dX2_load_14 : decode cX2_load 14 = .ok (.aload_n 1, 1) := by decide +kernel
theorem dX2_load_15 : decode cX2_load 15 = .ok (.iload_n 2, 1) := by decide +kernel
theorem dX2_load_16 : decode cX2_load 16 = .ok (.aload_n 0, 1) := by decide +kernel
theorem dX2_load_17 : decode cX2_load 17 = .ok (.getfield 9, 3) := by decide +kernel
theorem dX2_load_20 : decode cX2_load 20 = .ok (.iconst 0, 1) := by decide +kernel
theorem dX2_load_21 : decode cX2_load 21 = .ok (.bipush 8, 2) := by decide +kernel
theorem dX2_load_23 : decode cX2_load 23 = .ok (.invokestatic 42, 3) := by decide +kernel
theorem dX2_load_26 : decode cX2_load 26 = .ok (.aload_n 1, 1) := by decide +kernel
theorem dX2_load_27 : decode cX2_load 27 = .ok (.iload_n 2, 1) := by decide +kernel
theorem dX2_load_28 : decode cX2_load 28 = .ok (.bipush 8, 2) := by decide +kernel
theorem dX2_load_30 : decode cX2_load 30 = .ok (.iadd, 1) := by decide +kernel
theorem dX2_load_31 : decode cX2_load 31 = .ok (.aload_n 0, 1) := by decide +kernel
theorem dX2_load_32 : decode cX2_load 32 = .ok (.getfield 15, 3) := by decide +kernel
theorem dX2_load_35 : decode cX2_load 35 = .ok (.iconst 0, 1) := by decide +kernel
theorem dX2_load_36 : decode cX2_load 36 = .ok (.iconst 5, 1) := by decide +kernel
theorem dX2_load_37 : decode cX2_load 37 = .ok (.invokestatic 42, 3) := by decide +kernel
theorem dX2_load_40 : decode cX2_load 40 = .ok (.iload_n 2, 1) := by decide +kernel
theorem dX2_load_41 : decode cX2_load 41 = .ok (.bipush 8, 2) := by decide +kernel
theorem dX2_load_43 : decode cX2_load 43 = .ok (.iadd, 1) := by decide +kernel
theorem dX2_load_44 : decode cX2_load 44 = .ok (.iconst 5, 1) := by decide +kernel
theorem dX2_load_45 : decode cX2_load 45 = .ok (.iadd, 1) := by decide +kernel
theorem dX2_load_46 : decode cX2_load 46 = .ok (.istore_n 3, 1) := by decide +kernel
theorem dX2_load_47 : decode cX2_load 47 = .ok (.aload_n 0, 1) := by decide +kernel
theorem dX2_load_48 : decode cX2_load 48 = .ok (.aload_n 1, 1) := by decide +kernel
theorem dX2_load_49 : decode cX2_load 49 = .ok (.iload_n 3, 1) := by decide +kernel
theorem dX2_load_50 : decode cX2_load 50 = .ok (.iaload, 1) := by decide +kernel
theorem dX2_load_51 : decode cX2_load 51 = .ok (.iconst 1, 1) := by decide +kernel
theorem dX2_load_52 : decode cX2_load 52 = .ok (.if_icmp .ne 7, 3) := by decide +kernel
theorem dX2_load_55 : decode cX2_load 55 = .ok (.iconst 1, 1) := by decide +kernel
theorem dX2_load_56 : decode cX2_load 56 = .ok (.goto 4, 3) := by decide +kernel
theorem dX2_load_59 : decode cX2_load 59 = .ok (.iconst 0, 1) := by decide +kernel
theorem dX2_load_60 : decode cX2_load 60 = .ok (.putfield 22, 3) := by decide +kernel
theorem dX2_load_63 : decode cX2_load 63 = .ok (.aload_n 0, 1) := by decide +kernel
theorem dX2_load_64 : decode cX2_load 64 = .ok (.aload_n 1, 1) := by decide +kernel
theorem dX2_load_65 : decode cX2_load 65 = .ok (.iload_n 3, 1) := by decide +kernel
theorem dX2_load_66 : decode cX2_load 66 = .ok (.iconst 1, 1) := by decide +kernel
theorem dX2_load_67 : decode cX2_load 67 = .ok (.iadd, 1) := by decide +kernel
theorem dX2_load_68 : decode cX2_load 68 = .ok (.iaload, 1) := by decide +kernel
theorem dX2_load_69 : decode cX2_load 69 = .ok (.putfield 26, 3) := by decide +kernel
theorem dX2_load_72 : decode cX2_load 72 = .ok (.aload_n 0, 1) := by decide +kernel
theorem dX2_load_73 : decode cX2_load 73 = .ok (.aload_n 1, 1) := by decide +kernel
theorem dX2_load_74 : decode cX2_load 74 = .ok (.iload_n 3, 1) := by decide +kernel
theorem dX2_load_75 : decode cX2_load 75 = .ok (.iconst 2, 1) := by decide +kernel
theorem dX2_load_76 : decode cX2_load 76 = .ok (.iadd, 1) := by decide +kernel
theorem dX2_load_77 : decode cX2_load 77 = .ok (.iaload, 1) := by decide +kernel
theorem dX2_load_78 : decode cX2_load 78 = .ok (.putfield 30, 3) := by decide +kernel
theorem dX2_load_81 : decode cX2_load 81 = .ok (.return_, 1) := by decide +kernel
set_option maxRecDepth 20000 in
theorem ggX2_dustIn_X5_isStreet : GoodIn wsX2_dustIn wsX5_isStreet := goodIn_r _ [4] (by decide +kernel) (by decide +kernel)
set_option maxRecDepth 20000 in
theorem gX2_dustIn_X5_isStreet_n51 : GoodIn wsX2_dustIn (wsX5_isStreet) := ggX2_dustIn_X5_isStreet
theorem dX2_dustIn_0 : decode cX2_dustIn 0 = .ok (.iload_n 1, 1) := by decide +kernel
theorem dX2_dustIn_1 : decode cX2_dustIn 1 = .ok (.invokestatic 51, 3) := by decide +kernel
theorem dX2_dustIn_4 : decode cX2_dustIn 4 = .ok (.ifCond .eq 12, 3) := by decide +kernel
theorem dX2_dustIn_7 : decode cX2_dustIn 7 = .ok (.aload_n 0, 1) := by decide +kernel
theorem dX2_dustIn_8 : decode cX2_dustIn 8 = .ok (.getfield 9, 3) := by decide +kernel
theorem dX2_dustIn_11 : decode cX2_dustIn 11 = .ok (.iload_n 1, 1) := by decide +kernel
theorem dX2_dustIn_12 : decode cX2_dustIn 12 = .ok (.iaload, 1) := by decide +kernel
theorem dX2_dustIn_13 : decode cX2_dustIn 13 = .ok (.goto 4, 3) := by decide +kernel
theorem dX2_dustIn_16 : decode cX2_dustIn 16 = .ok (.iconst 0, 1) := by decide +kernel
theorem dX2_dustIn_17 : decode cX2_dustIn 17 = .ok (.ireturn, 1) := by decide +kernel
set_option maxRecDepth 20000 in
theorem ggX2_placeOf_X4_hasBroom : GoodIn wsX2_placeOf wsX4_hasBroom := goodIn_r _ [7, 8, 16, 17, 18, 19, 20, 21, 22, 23] (by decide +kernel) (by decide +kernel)
set_option maxRecDepth 20000 in
theorem gX2_placeOf_X4_hasBroom : GoodIn wsX2_placeOf (wsV RX2 55 RX4 yX4_hasBroom wsX4_hasBroom) := goodIn_app (goodIn_of _ (by decide +kernel)) ggX2_placeOf_X4_hasBroom
theorem dX2_placeOf_0 : decode cX2_placeOf 0 = .ok (.aload_n 0, 1) := by decide +kernel
theorem dX2_placeOf_1 : decode cX2_placeOf 1 = .ok (.getfield 33, 3) := by decide +kernel
theorem dX2_placeOf_4 : decode cX2_placeOf 4 = .ok (.iload_n 1, 1) := by decide +kernel
theorem dX2_placeOf_5 : decode cX2_placeOf 5 = .ok (.invokevirtual 55, 3) := by decide +kernel
theorem dX2_placeOf_8 : decode cX2_placeOf 8 = .ok (.ifCond .eq 12, 3) := by decide +kernel
theorem dX2_placeOf_11 : decode cX2_placeOf 11 = .ok (.aload_n 0, 1) := by decide +kernel
theorem dX2_placeOf_12 : decode cX2_placeOf 12 = .ok (.getfield 15, 3) := by decide +kernel
theorem dX2_placeOf_15 : decode cX2_placeOf 15 = .ok (.iload_n 1, 1) := by decide +kernel
theorem dX2_placeOf_16 : decode cX2_placeOf 16 = .ok (.iaload, 1) := by decide +kernel
theorem dX2_placeOf_17 : decode cX2_placeOf 17 = .ok (.goto 4, 3) := by decide +kernel
theorem dX2_placeOf_20 : decode cX2_placeOf 20 = .ok (.iconst 0, 1) := by decide +kernel
theorem dX2_placeOf_21 : decode cX2_placeOf 21 = .ok (.ireturn, 1) := by decide +kernel
theorem dX2_allDust_0 : decode cX2_allDust 0 = .ok (.iconst 0, 1) := by decide +kernel
theorem dX2_allDust_1 : decode cX2_allDust 1 = .ok (.istore_n 1, 1) := by decide +kernel
theorem dX2_allDust_2 : decode cX2_allDust 2 = .ok (.iconst 0, 1) := by decide +kernel
theorem dX2_allDust_3 : decode cX2_allDust 3 = .ok (.istore_n 2, 1) := by decide +kernel
theorem dX2_allDust_4 : decode cX2_allDust 4 = .ok (.iload_n 2, 1) := by decide +kernel
theorem dX2_allDust_5 : decode cX2_allDust 5 = .ok (.bipush 8, 2) := by decide +kernel
theorem dX2_allDust_7 : decode cX2_allDust 7 = .ok (.if_icmp .ge 18, 3) := by decide +kernel
theorem dX2_allDust_10 : decode cX2_allDust 10 = .ok (.iload_n 1, 1) := by decide +kernel
theorem dX2_allDust_11 : decode cX2_allDust 11 = .ok (.aload_n 0, 1) := by decide +kernel
theorem dX2_allDust_12 : decode cX2_allDust 12 = .ok (.getfield 9, 3) := by decide +kernel
theorem dX2_allDust_15 : decode cX2_allDust 15 = .ok (.iload_n 2, 1) := by decide +kernel
theorem dX2_allDust_16 : decode cX2_allDust 16 = .ok (.iaload, 1) := by decide +kernel
theorem dX2_allDust_17 : decode cX2_allDust 17 = .ok (.iadd, 1) := by decide +kernel
theorem dX2_allDust_18 : decode cX2_allDust 18 = .ok (.istore_n 1, 1) := by decide +kernel
theorem dX2_allDust_19 : decode cX2_allDust 19 = .ok (.iinc 2 1, 3) := by decide +kernel
theorem dX2_allDust_22 : decode cX2_allDust 22 = .ok (.goto (-18), 3) := by decide +kernel
theorem dX2_allDust_25 : decode cX2_allDust 25 = .ok (.iload_n 1, 1) := by decide +kernel
theorem dX2_allDust_26 : decode cX2_allDust 26 = .ok (.ireturn, 1) := by decide +kernel
set_option maxRecDepth 20000 in
theorem ggX2_isDeep_X2_dustIn : GoodIn wsX2_isDeep wsX2_dustIn := goodIn_r _ [5, 6, 7, 8, 9, 10, 11, 12, 13, 14, 15, 16] (by decide +kernel) (by decide +kernel)
set_option maxRecDepth 20000 in
theorem gX2_isDeep_X2_dustIn : GoodIn wsX2_isDeep (wsV RX2 58 RX2 yX2_dustIn wsX2_dustIn) := goodIn_app (goodIn_of _ (by decide +kernel)) ggX2_isDeep_X2_dustIn
theorem dX2_isDeep_0 : decode cX2_isDeep 0 = .ok (.aload_n 0, 1) := by decide +kernel
theorem dX2_isDeep_1 : decode cX2_isDeep 1 = .ok (.iload_n 1, 1) := by decide +kernel
theorem dX2_isDeep_2 : decode cX2_isDeep 2 = .ok (.invokevirtual 58, 3) := by decide +kernel
theorem dX2_isDeep_5 : decode cX2_isDeep 5 = .ok (.bipush 10, 2) := by decide +kernel
theorem dX2_isDeep_7 : decode cX2_isDeep 7 = .ok (.if_icmp .lt 7, 3) := by decide +kernel
theorem dX2_isDeep_10 : decode cX2_isDeep 10 = .ok (.iconst 1, 1) := by decide +kernel
theorem dX2_isDeep_11 : decode cX2_isDeep 11 = .ok (.goto 4, 3) := by decide +kernel
theorem dX2_isDeep_14 : decode cX2_isDeep 14 = .ok (.iconst 0, 1) := by decide +kernel
theorem dX2_isDeep_15 : decode cX2_isDeep 15 = .ok (.ireturn, 1) := by decide +kernel
set_option maxRecDepth 20000 in
theorem ggX2_deepStreets_X2_isDeep : GoodIn wsX2_deepStreets wsX2_isDeep := goodIn_r _ [5, 6, 7, 8, 4, 9, 10, 11, 12, 13, 14, 15, 16, 17, 18, 19, 20] (by decide +kernel) (by decide +kernel)
set_option maxRecDepth 20000 in
theorem gX2_deepStreets_X2_isDeep : GoodIn wsX2_deepStreets (wsV RX2 62 RX2 yX2_isDeep wsX2_isDeep) := goodIn_app (goodIn_of _ (by decide +kernel)) ggX2_deepStreets_X2_isDeep
theorem dX2_deepStreets_0 : decode cX2_deepStreets 0 = .ok (.iconst 0, 1) := by decide +kernel
theorem dX2_deepStreets_1 : decode cX2_deepStreets 1 = .ok (.istore_n 1, 1) := by decide +kernel
theorem dX2_deepStreets_2 : decode cX2_deepStreets 2 = .ok (.iconst 0, 1) := by decide +kernel
theorem dX2_deepStreets_3 : decode cX2_deepStreets 3 = .ok (.istore_n 2, 1) := by decide +kernel
theorem dX2_deepStreets_4 : decode cX2_deepStreets 4 = .ok (.iload_n 2, 1) := by decide +kernel
theorem dX2_deepStreets_5 : decode cX2_deepStreets 5 = .ok (.bipush 8, 2) := by decide +kernel
theorem dX2_deepStreets_7 : decode cX2_deepStreets 7 = .ok (.if_icmp .ge 27, 3) := by decide +kernel
theorem dX2_deepStreets_10 : decode cX2_deepStreets 10 = .ok (.iload_n 1, 1) := by decide +kernel
theorem dX2_deepStreets_11 : decode cX2_deepStreets 11 = .ok (.aload_n 0, 1) := by decide +kernel
theorem dX2_deepStreets_12 : decode cX2_deepStreets 12 = .ok (.iload_n 2, 1) := by decide +kernel
theorem dX2_deepStreets_13 : decode cX2_deepStreets 13 = .ok (.invokevirtual 62, 3) := by decide +kernel
theorem dX2_deepStreets_16 : decode cX2_deepStreets 16 = .ok (.ifCond .eq 9, 3) := by decide +kernel
theorem dX2_deepStreets_19 : decode cX2_deepStreets 19 = .ok (.iconst 1, 1) := by decide +kernel
theorem dX2_deepStreets_20 : decode cX2_deepStreets 20 = .ok (.iload_n 2, 1) := by decide +kernel
theorem dX2_deepStreets_21 : decode cX2_deepStreets 21 = .ok (.ishl, 1) := by decide +kernel
theorem dX2_deepStreets_22 : decode cX2_deepStreets 22 = .ok (.goto 4, 3) := by decide +kernel
theorem dX2_deepStreets_25 : decode cX2_deepStreets 25 = .ok (.iconst 0, 1) := by decide +kernel
theorem dX2_deepStreets_26 : decode cX2_deepStreets 26 = .ok (.ior, 1) := by decide +kernel
theorem dX2_deepStreets_27 : decode cX2_deepStreets 27 = .ok (.istore_n 1, 1) := by decide +kernel
theorem dX2_deepStreets_28 : decode cX2_deepStreets 28 = .ok (.iinc 2 1, 3) := by decide +kernel
theorem dX2_deepStreets_31 : decode cX2_deepStreets 31 = .ok (.goto (-27), 3) := by decide +kernel
theorem dX2_deepStreets_34 : decode cX2_deepStreets 34 = .ok (.iload_n 1, 1) := by decide +kernel
theorem dX2_deepStreets_35 : decode cX2_deepStreets 35 = .ok (.ireturn, 1) := by decide +kernel
set_option maxRecDepth 20000 in
theorem ggX2_firstDeep_X2_isDeep : GoodIn wsX2_firstDeep wsX2_isDeep := goodIn_r _ [5, 6, 7, 8, 4, 9, 10, 11, 12, 13, 14, 15, 16, 17, 18, 19, 20] (by decide +kernel) (by decide +kernel)
set_option maxRecDepth 20000 in
theorem gX2_firstDeep_X2_isDeep : GoodIn wsX2_firstDeep (wsV RX2 62 RX2 yX2_isDeep wsX2_isDeep) := goodIn_app (goodIn_of _ (by decide +kernel)) ggX2_firstDeep_X2_isDeep
theorem dX2_firstDeep_0 : decode cX2_firstDeep 0 = .ok (.iconst 0, 1) := by decide +kernel
theorem dX2_firstDeep_1 : decode cX2_firstDeep 1 = .ok (.istore_n 1, 1) := by decide +kernel
theorem dX2_firstDeep_2 : decode cX2_firstDeep 2 = .ok (.iload_n 1, 1) := by decide +kernel
theorem dX2_firstDeep_3 : decode cX2_firstDeep 3 = .ok (.bipush 8, 2) := by decide +kernel
theorem dX2_firstDeep_5 : decode cX2_firstDeep 5 = .ok (.if_icmp .ge 19, 3) := by decide +kernel
theorem dX2_firstDeep_8 : decode cX2_firstDeep 8 = .ok (.aload_n 0, 1) := by decide +kernel
theorem dX2_firstDeep_9 : decode cX2_firstDeep 9 = .ok (.iload_n 1, 1) := by decide +kernel
theorem dX2_firstDeep_10 : decode cX2_firstDeep 10 = .ok (.invokevirtual 62, 3) := by decide +kernel
theorem dX2_firstDeep_13 : decode cX2_firstDeep 13 = .ok (.ifCond .eq 5, 3) := by decide +kernel
theorem dX2_firstDeep_16 : decode cX2_firstDeep 16 = .ok (.iload_n 1, 1) := by decide +kernel
theorem dX2_firstDeep_17 : decode cX2_firstDeep 17 = .ok (.ireturn, 1) := by decide +kernel
theorem dX2_firstDeep_18 : decode cX2_firstDeep 18 = .ok (.iinc 1 1, 3) := by decide +kernel
theorem dX2_firstDeep_21 : decode cX2_firstDeep 21 = .ok (.goto (-19), 3) := by decide +kernel
theorem dX2_firstDeep_24 : decode cX2_firstDeep 24 = .ok (.bipush (-9), 2) := by decide +kernel
theorem dX2_firstDeep_26 : decode cX2_firstDeep 26 = .ok (.ireturn, 1) := by decide +kernel
set_option maxRecDepth 20000 in
theorem ggX2_broomsIn_X2_placeOf : GoodIn wsX2_broomsIn wsX2_placeOf := goodIn_r _ [6, 1, 7, 8, 9, 10, 11, 12, 13, 14, 15, 16, 17, 18, 19, 20, 21, 22, 23, 24, 25, 26, 27, 28] (by decide +kernel) (by decide +kernel)
set_option maxRecDepth 20000 in
theorem gX2_broomsIn_X2_placeOf : GoodIn wsX2_broomsIn (wsV RX2 68 RX2 yX2_placeOf wsX2_placeOf) := goodIn_app (goodIn_of _ (by decide +kernel)) ggX2_broomsIn_X2_placeOf
theorem dX2_broomsIn_0 : decode cX2_broomsIn 0 = .ok (.iconst 0, 1) := by decide +kernel
theorem dX2_broomsIn_1 : decode cX2_broomsIn 1 = .ok (.istore_n 2, 1) := by decide +kernel
theorem dX2_broomsIn_2 : decode cX2_broomsIn 2 = .ok (.iconst 0, 1) := by decide +kernel
theorem dX2_broomsIn_3 : decode cX2_broomsIn 3 = .ok (.istore_n 3, 1) := by decide +kernel
theorem dX2_broomsIn_4 : decode cX2_broomsIn 4 = .ok (.iload_n 3, 1) := by decide +kernel
theorem dX2_broomsIn_5 : decode cX2_broomsIn 5 = .ok (.aload_n 0, 1) := by decide +kernel
theorem dX2_broomsIn_6 : decode cX2_broomsIn 6 = .ok (.getfield 33, 3) := by decide +kernel
theorem dX2_broomsIn_9 : decode cX2_broomsIn 9 = .ok (.getfield 65, 3) := by decide +kernel
theorem dX2_broomsIn_12 : decode cX2_broomsIn 12 = .ok (.if_icmp .ge 28, 3) := by decide +kernel
theorem dX2_broomsIn_15 : decode cX2_broomsIn 15 = .ok (.iload_n 2, 1) := by decide +kernel
theorem dX2_broomsIn_16 : decode cX2_broomsIn 16 = .ok (.aload_n 0, 1) := by decide +kernel
theorem dX2_broomsIn_17 : decode cX2_broomsIn 17 = .ok (.iload_n 3, 1) := by decide +kernel
theorem dX2_broomsIn_18 : decode cX2_broomsIn 18 = .ok (.invokevirtual 68, 3) := by decide +kernel
theorem dX2_broomsIn_21 : decode cX2_broomsIn 21 = .ok (.iload_n 1, 1) := by decide +kernel
theorem dX2_broomsIn_22 : decode cX2_broomsIn 22 = .ok (.if_icmp .ne 9, 3) := by decide +kernel
theorem dX2_broomsIn_25 : decode cX2_broomsIn 25 = .ok (.iconst 1, 1) := by decide +kernel
theorem dX2_broomsIn_26 : decode cX2_broomsIn 26 = .ok (.iload_n 3, 1) := by decide +kernel
theorem dX2_broomsIn_27 : decode cX2_broomsIn 27 = .ok (.ishl, 1) := by decide +kernel
theorem dX2_broomsIn_28 : decode cX2_broomsIn 28 = .ok (.goto 4, 3) := by decide +kernel
theorem dX2_broomsIn_31 : decode cX2_broomsIn 31 = .ok (.iconst 0, 1) := by decide +kernel
theorem dX2_broomsIn_32 : decode cX2_broomsIn 32 = .ok (.ior, 1) := by decide +kernel
theorem dX2_broomsIn_33 : decode cX2_broomsIn 33 = .ok (.istore_n 2, 1) := by decide +kernel
theorem dX2_broomsIn_34 : decode cX2_broomsIn 34 = .ok (.iinc 3 1, 3) := by decide +kernel
theorem dX2_broomsIn_37 : decode cX2_broomsIn 37 = .ok (.goto (-33), 3) := by decide +kernel
theorem dX2_broomsIn_40 : decode cX2_broomsIn 40 = .ok (.iload_n 2, 1) := by decide +kernel
theorem dX2_broomsIn_41 : decode cX2_broomsIn 41 = .ok (.ireturn, 1) := by decide +kernel
theorem dX2_isBent_0 : decode cX2_isBent 0 = .ok (.aload_n 0, 1) := by decide +kernel
theorem dX2_isBent_1 : decode cX2_isBent 1 = .ok (.getfield 26, 3) := by decide +kernel
theorem dX2_isBent_4 : decode cX2_isBent 4 = .ok (.iload_n 1, 1) := by decide +kernel
theorem dX2_isBent_5 : decode cX2_isBent 5 = .ok (.ishr, 1) := by decide +kernel
theorem dX2_isBent_6 : decode cX2_isBent 6 = .ok (.iconst 1, 1) := by decide +kernel
theorem dX2_isBent_7 : decode cX2_isBent 7 = .ok (.iand, 1) := by decide +kernel
theorem dX2_isBent_8 : decode cX2_isBent 8 = .ok (.iconst 1, 1) := by decide +kernel
theorem dX2_isBent_9 : decode cX2_isBent 9 = .ok (.if_icmp .ne 7, 3) := by decide +kernel
theorem dX2_isBent_12 : decode cX2_isBent 12 = .ok (.iconst 1, 1) := by decide +kernel
theorem dX2_isBent_13 : decode cX2_isBent 13 = .ok (.goto 4, 3) := by decide +kernel
theorem dX2_isBent_16 : decode cX2_isBent 16 = .ok (.iconst 0, 1) := by decide +kernel
theorem dX2_isBent_17 : decode cX2_isBent 17 = .ok (.ireturn, 1) := by decide +kernel
set_option maxRecDepth 20000 in
theorem ggX2_worksAs_X4_kindOf : GoodIn wsX2_worksAs wsX4_kindOf := goodIn_r _ [7, 8, 22, 23, 24, 25, 26, 27, 28, 29] (by decide +kernel) (by decide +kernel)
set_option maxRecDepth 20000 in
theorem gX2_worksAs_X4_kindOf : GoodIn wsX2_worksAs (wsV RX2 71 RX4 yX4_kindOf wsX4_kindOf) := goodIn_app (goodIn_of _ (by decide +kernel)) ggX2_worksAs_X4_kindOf
set_option maxRecDepth 20000 in
theorem ggX2_worksAs_X2_isBent : GoodIn wsX2_worksAs wsX2_isBent := goodIn_r _ [13, 14, 15, 16, 17, 18, 19, 20, 21] (by decide +kernel) (by decide +kernel)
set_option maxRecDepth 20000 in
theorem gX2_worksAs_X2_isBent : GoodIn wsX2_worksAs (wsV RX2 74 RX2 yX2_isBent wsX2_isBent) := goodIn_app (goodIn_of _ (by decide +kernel)) ggX2_worksAs_X2_isBent
theorem dX2_worksAs_0 : decode cX2_worksAs 0 = .ok (.aload_n 0, 1) := by decide +kernel
theorem dX2_worksAs_1 : decode cX2_worksAs 1 = .ok (.getfield 33, 3) := by decide +kernel
theorem dX2_worksAs_4 : decode cX2_worksAs 4 = .ok (.iload_n 1, 1) := by decide +kernel
theorem dX2_worksAs_5 : decode cX2_worksAs 5 = .ok (.invokevirtual 71, 3) := by decide +kernel
theorem dX2_worksAs_8 : decode cX2_worksAs 8 = .ok (.istore_n 2, 1) := by decide +kernel
theorem dX2_worksAs_9 : decode cX2_worksAs 9 = .ok (.iload_n 2, 1) := by decide +kernel
theorem dX2_worksAs_10 : decode cX2_worksAs 10 = .ok (.iconst 2, 1) := by decide +kernel
theorem dX2_worksAs_11 : decode cX2_worksAs 11 = .ok (.if_icmp .eq 7, 3) := by decide +kernel
theorem dX2_worksAs_14 : decode cX2_worksAs 14 = .ok (.iload_n 2, 1) := by decide +kernel
theorem dX2_worksAs_15 : decode cX2_worksAs 15 = .ok (.ifCond .ne 5, 3) := by decide +kernel
theorem dX2_worksAs_18 : decode cX2_worksAs 18 = .ok (.iload_n 2, 1) := by decide +kernel
theorem dX2_worksAs_19 : decode cX2_worksAs 19 = .ok (.ireturn, 1) := by decide +kernel
theorem dX2_worksAs_20 : decode cX2_worksAs 20 = .ok (.aload_n 0, 1) := by decide +kernel
theorem dX2_worksAs_21 : decode cX2_worksAs 21 = .ok (.getfield 22, 3) := by decide +kernel
theorem dX2_worksAs_24 : decode cX2_worksAs 24 = .ok (.ifCond .ne 11, 3) := by decide +kernel
theorem dX2_worksAs_27 : decode cX2_worksAs 27 = .ok (.aload_n 0, 1) := by decide +kernel
theorem dX2_worksAs_28 : decode cX2_worksAs 28 = .ok (.iload_n 1, 1) := by decide +kernel
theorem dX2_worksAs_29 : decode cX2_worksAs 29 = .ok (.invokevirtual 74, 3) := by decide +kernel
theorem dX2_worksAs_32 : decode cX2_worksAs 32 = .ok (.ifCond .eq 5, 3) := by decide +kernel
theorem dX2_worksAs_35 : decode cX2_worksAs 35 = .ok (.iconst 0, 1) := by decide +kernel
theorem dX2_worksAs_36 : decode cX2_worksAs 36 = .ok (.ireturn, 1) := by decide +kernel
theorem dX2_worksAs_37 : decode cX2_worksAs 37 = .ok (.iload_n 2, 1) := by decide +kernel
theorem dX2_worksAs_38 : decode cX2_worksAs 38 = .ok (.iconst 1, 1) := by decide +kernel
theorem dX2_worksAs_39 : decode cX2_worksAs 39 = .ok (.if_icmp .ne 7, 3) := by decide +kernel
theorem dX2_worksAs_42 : decode cX2_worksAs 42 = .ok (.iconst 1, 1) := by decide +kernel
theorem dX2_worksAs_43 : decode cX2_worksAs 43 = .ok (.goto 4, 3) := by decide +kernel
theorem dX2_worksAs_46 : decode cX2_worksAs 46 = .ok (.iconst 3, 1) := by decide +kernel
theorem dX2_worksAs_47 : decode cX2_worksAs 47 = .ok (.ireturn, 1) := by decide +kernel
set_option maxRecDepth 20000 in
theorem ggX2_goTo_X4_hasBroom : GoodIn wsX2_goTo wsX4_hasBroom := goodIn_r _ [7, 8, 16, 17, 18, 19, 20, 21, 22, 23] (by decide +kernel) (by decide +kernel)
set_option maxRecDepth 20000 in
theorem gX2_goTo_X4_hasBroom : GoodIn wsX2_goTo (wsV RX2 55 RX4 yX4_hasBroom wsX4_hasBroom) := goodIn_app (goodIn_of _ (by decide +kernel)) ggX2_goTo_X4_hasBroom
theorem dX2_goTo_0 : decode cX2_goTo 0 = .ok (.aload_n 0, 1) := by decide +kernel
theorem dX2_goTo_1 : decode cX2_goTo 1 = .ok (.getfield 33, 3) := by decide +kernel
theorem dX2_goTo_4 : decode cX2_goTo 4 = .ok (.iload_n 1, 1) := by decide +kernel
theorem dX2_goTo_5 : decode cX2_goTo 5 = .ok (.invokevirtual 55, 3) := by decide +kernel
theorem dX2_goTo_8 : decode cX2_goTo 8 = .ok (.ifCond .eq 10, 3) := by decide +kernel
theorem dX2_goTo_11 : decode cX2_goTo 11 = .ok (.aload_n 0, 1) := by decide +kernel
theorem dX2_goTo_12 : decode cX2_goTo 12 = .ok (.getfield 15, 3) := by decide +kernel
theorem dX2_goTo_15 : decode cX2_goTo 15 = .ok (.iload_n 1, 1) := by decide +kernel
theorem dX2_goTo_16 : decode cX2_goTo 16 = .ok (.iload_n 2, 1) := by decide +kernel
theorem dX2_goTo_17 : decode cX2_goTo 17 = .ok (.iastore, 1) := by decide +kernel
theorem dX2_goTo_18 : decode cX2_goTo 18 = .ok (.return_, 1) := by decide +kernel
set_option maxRecDepth 20000 in
theorem ggX2_step_X2_placeOf : GoodIn wsX2_step wsX2_placeOf := goodIn_r _ [5, 6, 7, 8, 9, 10, 11, 12, 13, 24, 25, 26, 27, 28, 29, 30, 31, 32, 33, 34, 35, 36, 37, 38] (by decide +kernel) (by decide +kernel)
set_option maxRecDepth 20000 in
theorem gX2_step_X2_placeOf : GoodIn wsX2_step (wsV RX2 68 RX2 yX2_placeOf wsX2_placeOf) := goodIn_app (goodIn_of _ (by decide +kernel)) ggX2_step_X2_placeOf
set_option maxRecDepth 20000 in
theorem ggX2_step_X2_leftOf : GoodIn wsX2_step wsX2_leftOf := goodIn_r _ [16] (by decide +kernel) (by decide +kernel)
set_option maxRecDepth 20000 in
theorem gX2_step_X2_leftOf : GoodIn wsX2_step (va_wsS RX2 77 yX2_leftOf wsX2_leftOf) := goodIn_app (goodIn_of _ (by decide +kernel)) ggX2_step_X2_leftOf
set_option maxRecDepth 20000 in
theorem ggX2_step_X2_rightOf : GoodIn wsX2_step wsX2_rightOf := goodIn_r _ [19] (by decide +kernel) (by decide +kernel)
set_option maxRecDepth 20000 in
theorem gX2_step_X2_rightOf : GoodIn wsX2_step (va_wsS RX2 80 yX2_rightOf wsX2_rightOf) := goodIn_app (goodIn_of _ (by decide +kernel)) ggX2_step_X2_rightOf
set_option maxRecDepth 20000 in
theorem ggX2_step_X2_goTo : GoodIn wsX2_step wsX2_goTo := goodIn_r _ [23, 6, 7, 8, 9, 10, 11, 12, 13, 24, 25, 26, 27, 28, 29, 30, 31, 32, 33, 34, 35, 36, 37, 38] (by decide +kernel) (by decide +kernel)
set_option maxRecDepth 20000 in
theorem gX2_step_X2_goTo : GoodIn wsX2_step (wsV RX2 83 RX2 yX2_goTo wsX2_goTo) := goodIn_app (goodIn_of _ (by decide +kernel)) ggX2_step_X2_goTo
theorem dX2_step_0 : decode cX2_step 0 = .ok (.aload_n 0, 1) := by decide +kernel
theorem dX2_step_1 : decode cX2_step 1 = .ok (.iload_n 1, 1) := by decide +kernel
theorem dX2_step_2 : decode cX2_step 2 = .ok (.invokevirtual 68, 3) := by decide +kernel
theorem dX2_step_5 : decode cX2_step 5 = .ok (.istore_n 3, 1) := by decide +kernel
theorem dX2_step_6 : decode cX2_step 6 = .ok (.aload_n 0, 1) := by decide +kernel
theorem dX2_step_7 : decode cX2_step 7 = .ok (.iload_n 1, 1) := by decide +kernel
theorem dX2_step_8 : decode cX2_step 8 = .ok (.iload_n 2, 1) := by decide +kernel
theorem dX2_step_9 : decode cX2_step 9 = .ok (.ifCond .ne 10, 3) := by decide +kernel
theorem dX2_step_12 : decode cX2_step 12 = .ok (.iload_n 3, 1) := by decide +kernel
theorem dX2_step_13 : decode cX2_step 13 = .ok (.invokestatic 77, 3) := by decide +kernel
theorem dX2_step_16 : decode cX2_step 16 = .ok (.goto 7, 3) := by decide +kernel
theorem dX2_step_19 : decode cX2_step 19 = .ok (.iload_n 3, 1) := by decide +kernel
theorem dX2_step_20 : decode cX2_step 20 = .ok (.invokestatic 80, 3) := by decide +kernel
theorem dX2_step_23 : decode cX2_step 23 = .ok (.invokevirtual 83, 3) := by decide +kernel
theorem dX2_step_26 : decode cX2_step 26 = .ok (.return_, 1) := by decide +kernel
theorem dX2_turnVote_0 : decode cX2_turnVote 0 = .ok (.aload_n 0, 1) := by decide +kernel
theorem dX2_turnVote_1 : decode cX2_turnVote 1 = .ok (.aload_n 0, 1) := by decide +kernel
theorem dX2_turnVote_2 : decode cX2_turnVote 2 = .ok (.getfield 22, 3) := by decide +kernel
theorem dX2_turnVote_5 : decode cX2_turnVote 5 = .ok (.ifCond .ne 7, 3) := by decide +kernel
theorem dX2_turnVote_8 : decode cX2_turnVote 8 = .ok (.iconst 1, 1) := by decide +kernel
theorem dX2_turnVote_9 : decode cX2_turnVote 9 = .ok (.goto 4, 3) := by decide +kernel
theorem dX2_turnVote_12 : decode cX2_turnVote 12 = .ok (.iconst 0, 1) := by decide +kernel
end
section
theorem dX2_turnVote_13 : decode cX2_turnVote 13 = .ok (.putfield 22, 3) := by decide +kernel
theorem dX2_turnVote_16 : decode cX2_turnVote 16 = .ok (.return_, 1) := by decide +kernel
theorem dX2_bow_0 : decode cX2_bow 0 = .ok (.aload_n 0, 1) := by decide +kernel
theorem dX2_bow_1 : decode cX2_bow 1 = .ok (.dup, 1) := by decide +kernel
theorem dX2_bow_2 : decode cX2_bow 2 = .ok (.getfield 26, 3) := by decide +kernel
theorem dX2_bow_5 : decode cX2_bow 5 = .ok (.iload_n 1, 1) := by decide +kernel
theorem dX2_bow_6 : decode cX2_bow 6 = .ok (.ior, 1) := by decide +kernel
theorem dX2_bow_7 : decode cX2_bow 7 = .ok (.putfield 26, 3) := by decide +kernel
theorem dX2_bow_10 : decode cX2_bow 10 = .ok (.return_, 1) := by decide +kernel
set_option maxRecDepth 20000 in
theorem ggX2_empty_X5_isStreet : GoodIn wsX2_empty wsX5_isStreet := goodIn_r _ [4] (by decide +kernel) (by decide +kernel)
set_option maxRecDepth 20000 in
theorem gX2_empty_X5_isStreet_n51 : GoodIn wsX2_empty (wsX5_isStreet) := ggX2_empty_X5_isStreet
theorem dX2_empty_0 : decode cX2_empty 0 = .ok (.iload_n 1, 1) := by decide +kernel
theorem dX2_empty_1 : decode cX2_empty 1 = .ok (.invokestatic 51, 3) := by decide +kernel
theorem dX2_empty_4 : decode cX2_empty 4 = .ok (.ifCond .eq 10, 3) := by decide +kernel
theorem dX2_empty_7 : decode cX2_empty 7 = .ok (.aload_n 0, 1) := by decide +kernel
theorem dX2_empty_8 : decode cX2_empty 8 = .ok (.getfield 9, 3) := by decide +kernel
theorem dX2_empty_11 : decode cX2_empty 11 = .ok (.iload_n 1, 1) := by decide +kernel
theorem dX2_empty_12 : decode cX2_empty 12 = .ok (.iconst 0, 1) := by decide +kernel
theorem dX2_empty_13 : decode cX2_empty 13 = .ok (.iastore, 1) := by decide +kernel
theorem dX2_empty_14 : decode cX2_empty 14 = .ok (.return_, 1) := by decide +kernel
set_option maxRecDepth 20000 in
theorem ggX2_passDawn_X2_comeDown : GoodIn wsX2_passDawn wsX2_comeDown := goodIn_r _ [7, 1, 2, 8, 9, 10, 6, 11, 12, 13, 14, 15, 16, 17, 18, 19, 70, 71, 72, 73, 74, 75, 76, 77, 78, 79, 80, 81, 82, 83, 84] (by decide +kernel) (by decide +kernel)
set_option maxRecDepth 20000 in
theorem gX2_passDawn_X2_comeDown : GoodIn wsX2_passDawn (wsV RX2 87 RX2 yX2_comeDown wsX2_comeDown) := goodIn_app (goodIn_of _ (by decide +kernel)) ggX2_passDawn_X2_comeDown
set_option maxRecDepth 20000 in
theorem ggX2_passDawn_X2_work : GoodIn wsX2_passDawn wsX2_work := goodIn_r _ [23, 1, 24, 25, 26, 6, 27, 28, 29, 30, 31, 32, 33, 34, 35, 36, 37, 38, 39, 40, 41, 42, 43, 44, 45, 46, 47, 48, 49, 50, 51, 52, 53, 54, 55, 56, 57, 58, 12, 13, 14, 15, 16, 17, 18, 19, 59, 60, 61, 8, 9, 10, 11, 62, 63, 64, 70, 71, 72, 73, 74, 75, 76, 77, 78, 79, 80, 81, 82, 83, 84] (by decide +kernel) (by decide +kernel)
set_option maxRecDepth 20000 in
theorem gX2_passDawn_X2_work : GoodIn wsX2_passDawn (wsV RX2 91 RX2 yX2_work wsX2_work) := goodIn_app (goodIn_of _ (by decide +kernel)) ggX2_passDawn_X2_work
set_option maxRecDepth 20000 in
theorem ggX2_passDawn_X2_spread : GoodIn wsX2_passDawn wsX2_spread := goodIn_r _ [68, 69, 12, 62, 63, 6, 64, 59, 60, 61, 70, 71, 72, 73, 74, 75, 76] (by decide +kernel) (by decide +kernel)
set_option maxRecDepth 20000 in
theorem gX2_passDawn_X2_spread : GoodIn wsX2_passDawn (wsV RX2 94 RX2 yX2_spread wsX2_spread) := goodIn_app (goodIn_of _ (by decide +kernel)) ggX2_passDawn_X2_spread
theorem dX2_passDawn_0 : decode cX2_passDawn 0 = .ok (.aload_n 0, 1) := by decide +kernel
theorem dX2_passDawn_1 : decode cX2_passDawn 1 = .ok (.iload_n 2, 1) := by decide +kernel
theorem dX2_passDawn_2 : decode cX2_passDawn 2 = .ok (.invokevirtual 87, 3) := by decide +kernel
theorem dX2_passDawn_5 : decode cX2_passDawn 5 = .ok (.iconst 0, 1) := by decide +kernel
theorem dX2_passDawn_6 : decode cX2_passDawn 6 = .ok (.istore_n 3, 1) := by decide +kernel
theorem dX2_passDawn_7 : decode cX2_passDawn 7 = .ok (.iload_n 3, 1) := by decide +kernel
theorem dX2_passDawn_8 : decode cX2_passDawn 8 = .ok (.aload_n 0, 1) := by decide +kernel
theorem dX2_passDawn_9 : decode cX2_passDawn 9 = .ok (.getfield 33, 3) := by decide +kernel
theorem dX2_passDawn_12 : decode cX2_passDawn 12 = .ok (.getfield 65, 3) := by decide +kernel
theorem dX2_passDawn_15 : decode cX2_passDawn 15 = .ok (.if_icmp .ge 23, 3) := by decide +kernel
theorem dX2_passDawn_18 : decode cX2_passDawn 18 = .ok (.iload_n 1, 1) := by decide +kernel
theorem dX2_passDawn_19 : decode cX2_passDawn 19 = .ok (.iload_n 3, 1) := by decide +kernel
theorem dX2_passDawn_20 : decode cX2_passDawn 20 = .ok (.ishr, 1) := by decide +kernel
theorem dX2_passDawn_21 : decode cX2_passDawn 21 = .ok (.iconst 1, 1) := by decide +kernel
theorem dX2_passDawn_22 : decode cX2_passDawn 22 = .ok (.iand, 1) := by decide +kernel
theorem dX2_passDawn_23 : decode cX2_passDawn 23 = .ok (.iconst 1, 1) := by decide +kernel
theorem dX2_passDawn_24 : decode cX2_passDawn 24 = .ok (.if_icmp .ne 8, 3) := by decide +kernel
theorem dX2_passDawn_27 : decode cX2_passDawn 27 = .ok (.aload_n 0, 1) := by decide +kernel
theorem dX2_passDawn_28 : decode cX2_passDawn 28 = .ok (.iload_n 3, 1) := by decide +kernel
theorem dX2_passDawn_29 : decode cX2_passDawn 29 = .ok (.invokevirtual 91, 3) := by decide +kernel
theorem dX2_passDawn_32 : decode cX2_passDawn 32 = .ok (.iinc 3 1, 3) := by decide +kernel
theorem dX2_passDawn_35 : decode cX2_passDawn 35 = .ok (.goto (-28), 3) := by decide +kernel
theorem dX2_passDawn_38 : decode cX2_passDawn 38 = .ok (.aload_n 0, 1) := by decide +kernel
theorem dX2_passDawn_39 : decode cX2_passDawn 39 = .ok (.invokevirtual 94, 3) := by decide +kernel
theorem dX2_passDawn_42 : decode cX2_passDawn 42 = .ok (.aload_n 0, 1) := by decide +kernel
theorem dX2_passDawn_43 : decode cX2_passDawn 43 = .ok (.dup, 1) := by decide +kernel
theorem dX2_passDawn_44 : decode cX2_passDawn 44 = .ok (.getfield 30, 3) := by decide +kernel
theorem dX2_passDawn_47 : decode cX2_passDawn 47 = .ok (.iconst 1, 1) := by decide +kernel
theorem dX2_passDawn_48 : decode cX2_passDawn 48 = .ok (.iadd, 1) := by decide +kernel
theorem dX2_passDawn_49 : decode cX2_passDawn 49 = .ok (.putfield 30, 3) := by decide +kernel
theorem dX2_passDawn_52 : decode cX2_passDawn 52 = .ok (.return_, 1) := by decide +kernel
set_option maxRecDepth 20000 in
theorem ggX2_comeDown_X2_pour : GoodIn wsX2_comeDown wsX2_pour := goodIn_r _ [7, 8, 9, 10, 11, 12, 13, 14, 15, 16, 17, 18, 19, 20, 21, 22] (by decide +kernel) (by decide +kernel)
set_option maxRecDepth 20000 in
theorem gX2_comeDown_X2_pour : GoodIn wsX2_comeDown (wsV RX2 106 RX2 yX2_pour wsX2_pour) := goodIn_app (goodIn_of _ (by decide +kernel)) ggX2_comeDown_X2_pour
theorem dX2_comeDown_0 : decode cX2_comeDown 0 = .ok (.aload_n 0, 1) := by decide +kernel
theorem dX2_comeDown_1 : decode cX2_comeDown 1 = .ok (.getfield 33, 3) := by decide +kernel
theorem dX2_comeDown_4 : decode cX2_comeDown 4 = .ok (.getfield 97, 3) := by decide +kernel
theorem dX2_comeDown_7 : decode cX2_comeDown 7 = .ok (.istore_n 2, 1) := by decide +kernel
theorem dX2_comeDown_8 : decode cX2_comeDown 8 = .ok (.iload_n 2, 1) := by decide +kernel
theorem dX2_comeDown_9 : decode cX2_comeDown 9 = .ok (.ifCond .le 46, 3) := by decide +kernel
theorem dX2_comeDown_12 : decode cX2_comeDown 12 = .ok (.iload_n 2, 1) := by decide +kernel
theorem dX2_comeDown_13 : decode cX2_comeDown 13 = .ok (.iconst 5, 1) := by decide +kernel
theorem dX2_comeDown_14 : decode cX2_comeDown 14 = .ok (.if_icmp .gt 41, 3) := by decide +kernel
theorem dX2_comeDown_17 : decode cX2_comeDown 17 = .ok (.aload_n 0, 1) := by decide +kernel
theorem dX2_comeDown_18 : decode cX2_comeDown 18 = .ok (.getfield 30, 3) := by decide +kernel
theorem dX2_comeDown_21 : decode cX2_comeDown 21 = .ok (.ifCond .lt 34, 3) := by decide +kernel
theorem dX2_comeDown_24 : decode cX2_comeDown 24 = .ok (.aload_n 0, 1) := by decide +kernel
theorem dX2_comeDown_25 : decode cX2_comeDown 25 = .ok (.getfield 30, 3) := by decide +kernel
theorem dX2_comeDown_28 : decode cX2_comeDown 28 = .ok (.iload_n 2, 1) := by decide +kernel
theorem dX2_comeDown_29 : decode cX2_comeDown 29 = .ok (.irem, 1) := by decide +kernel
theorem dX2_comeDown_30 : decode cX2_comeDown 30 = .ok (.istore_n 3, 1) := by decide +kernel
theorem dX2_comeDown_31 : decode cX2_comeDown 31 = .ok (.aload_n 0, 1) := by decide +kernel
theorem dX2_comeDown_32 : decode cX2_comeDown 32 = .ok (.aload_n 0, 1) := by decide +kernel
theorem dX2_comeDown_33 : decode cX2_comeDown 33 = .ok (.getfield 33, 3) := by decide +kernel
theorem dX2_comeDown_36 : decode cX2_comeDown 36 = .ok (.getfield 100, 3) := by decide +kernel
theorem dX2_comeDown_39 : decode cX2_comeDown 39 = .ok (.iload_n 3, 1) := by decide +kernel
theorem dX2_comeDown_40 : decode cX2_comeDown 40 = .ok (.iaload, 1) := by decide +kernel
theorem dX2_comeDown_41 : decode cX2_comeDown 41 = .ok (.aload_n 0, 1) := by decide +kernel
theorem dX2_comeDown_42 : decode cX2_comeDown 42 = .ok (.getfield 33, 3) := by decide +kernel
theorem dX2_comeDown_45 : decode cX2_comeDown 45 = .ok (.getfield 103, 3) := by decide +kernel
theorem dX2_comeDown_48 : decode cX2_comeDown 48 = .ok (.iload_n 3, 1) := by decide +kernel
theorem dX2_comeDown_49 : decode cX2_comeDown 49 = .ok (.iaload, 1) := by decide +kernel
theorem dX2_comeDown_50 : decode cX2_comeDown 50 = .ok (.iload_n 1, 1) := by decide +kernel
theorem dX2_comeDown_51 : decode cX2_comeDown 51 = .ok (.imul, 1) := by decide +kernel
theorem dX2_comeDown_52 : decode cX2_comeDown 52 = .ok (.invokevirtual 106, 3) := by decide +kernel
theorem dX2_comeDown_55 : decode cX2_comeDown 55 = .ok (.return_, 1) := by decide +kernel
set_option maxRecDepth 20000 in
theorem ggX2_work_X2_placeOf : GoodIn wsX2_work wsX2_placeOf := goodIn_r _ [6, 1, 7, 8, 9, 10, 11, 12, 13, 56, 57, 58, 59, 60, 61, 62, 63, 64, 65, 66, 67, 68, 69, 70] (by decide +kernel) (by decide +kernel)
set_option maxRecDepth 20000 in
theorem gX2_work_X2_placeOf : GoodIn wsX2_work (wsV RX2 68 RX2 yX2_placeOf wsX2_placeOf) := goodIn_app (goodIn_of _ (by decide +kernel)) ggX2_work_X2_placeOf
set_option maxRecDepth 20000 in
theorem ggX2_work_X4_strengthOf : GoodIn wsX2_work wsX4_strengthOf := goodIn_r _ [17, 18, 63, 64, 65, 66, 67, 68, 69, 70] (by decide +kernel) (by decide +kernel)
set_option maxRecDepth 20000 in
theorem gX2_work_X4_strengthOf : GoodIn wsX2_work (wsV RX2 109 RX4 yX4_strengthOf wsX4_strengthOf) := goodIn_app (goodIn_of _ (by decide +kernel)) ggX2_work_X4_strengthOf
set_option maxRecDepth 20000 in
theorem ggX2_work_X2_worksAs : GoodIn wsX2_work wsX2_worksAs := goodIn_r _ [22, 1, 23, 24, 25, 26, 11, 27, 28, 29, 30, 31, 5, 32, 33, 56, 57, 58, 59, 60, 61, 62, 63, 64, 65, 66, 67, 68, 69, 70] (by decide +kernel) (by decide +kernel)
set_option maxRecDepth 20000 in
theorem gX2_work_X2_worksAs : GoodIn wsX2_work (wsV RX2 112 RX2 yX2_worksAs wsX2_worksAs) := goodIn_app (goodIn_of _ (by decide +kernel)) ggX2_work_X2_worksAs
set_option maxRecDepth 20000 in
theorem ggX2_work_X2_sweep : GoodIn wsX2_work wsX2_sweep := goodIn_r _ [37, 38, 39, 40, 41, 42, 43, 44, 45, 56, 57, 58, 59, 60, 61, 62] (by decide +kernel) (by decide +kernel)
set_option maxRecDepth 20000 in
theorem gX2_work_X2_sweep : GoodIn wsX2_work (wsV RX2 115 RX2 yX2_sweep wsX2_sweep) := goodIn_app (goodIn_of _ (by decide +kernel)) ggX2_work_X2_sweep
set_option maxRecDepth 20000 in
theorem ggX2_work_X2_rightOf : GoodIn wsX2_work wsX2_rightOf := goodIn_r _ [48] (by decide +kernel) (by decide +kernel)
set_option maxRecDepth 20000 in
theorem gX2_work_X2_rightOf : GoodIn wsX2_work (va_wsS RX2 80 yX2_rightOf wsX2_rightOf) := goodIn_app (goodIn_of _ (by decide +kernel)) ggX2_work_X2_rightOf
set_option maxRecDepth 20000 in
theorem ggX2_work_X2_pour : GoodIn wsX2_work wsX2_pour := goodIn_r _ [52, 38, 39, 40, 41, 42, 43, 44, 45, 56, 57, 58, 59, 60, 61, 62] (by decide +kernel) (by decide +kernel)
set_option maxRecDepth 20000 in
theorem gX2_work_X2_pour : GoodIn wsX2_work (wsV RX2 106 RX2 yX2_pour wsX2_pour) := goodIn_app (goodIn_of _ (by decide +kernel)) ggX2_work_X2_pour
set_option maxRecDepth 20000 in
theorem ggX2_work_X2_leftOf : GoodIn wsX2_work wsX2_leftOf := goodIn_r _ [55] (by decide +kernel) (by decide +kernel)
set_option maxRecDepth 20000 in
theorem gX2_work_X2_leftOf : GoodIn wsX2_work (va_wsS RX2 77 yX2_leftOf wsX2_leftOf) := goodIn_app (goodIn_of _ (by decide +kernel)) ggX2_work_X2_leftOf
theorem dX2_work_0 : decode cX2_work 0 = .ok (.aload_n 0, 1) := by decide +kernel
theorem dX2_work_1 : decode cX2_work 1 = .ok (.iload_n 1, 1) := by decide +kernel
theorem dX2_work_2 : decode cX2_work 2 = .ok (.invokevirtual 68, 3) := by decide +kernel
theorem dX2_work_5 : decode cX2_work 5 = .ok (.istore_n 2, 1) := by decide +kernel
theorem dX2_work_6 : decode cX2_work 6 = .ok (.aload_n 0, 1) := by decide +kernel
theorem dX2_work_7 : decode cX2_work 7 = .ok (.getfield 33, 3) := by decide +kernel
theorem dX2_work_10 : decode cX2_work 10 = .ok (.iload_n 1, 1) := by decide +kernel
theorem dX2_work_11 : decode cX2_work 11 = .ok (.invokevirtual 109, 3) := by decide +kernel
theorem dX2_work_14 : decode cX2_work 14 = .ok (.istore_n 3, 1) := by decide +kernel
theorem dX2_work_15 : decode cX2_work 15 = .ok (.aload_n 0, 1) := by decide +kernel
theorem dX2_work_16 : decode cX2_work 16 = .ok (.iload_n 1, 1) := by decide +kernel
theorem dX2_work_17 : decode cX2_work 17 = .ok (.invokevirtual 112, 3) := by decide +kernel
theorem dX2_work_20 : decode cX2_work 20 = .ok (.tableswitch 89 0 2 #[28, 38, 55], 28) := by decide +kernel
theorem dX2_work_48 : decode cX2_work 48 = .ok (.aload_n 0, 1) := by decide +kernel
theorem dX2_work_49 : decode cX2_work 49 = .ok (.iload_n 2, 1) := by decide +kernel
theorem dX2_work_50 : decode cX2_work 50 = .ok (.iload_n 3, 1) := by decide +kernel
theorem dX2_work_51 : decode cX2_work 51 = .ok (.invokevirtual 115, 3) := by decide +kernel
theorem dX2_work_54 : decode cX2_work 54 = .ok (.pop, 1) := by decide +kernel
theorem dX2_work_55 : decode cX2_work 55 = .ok (.goto 54, 3) := by decide +kernel
theorem dX2_work_58 : decode cX2_work 58 = .ok (.aload_n 0, 1) := by decide +kernel
theorem dX2_work_59 : decode cX2_work 59 = .ok (.iload_n 2, 1) := by decide +kernel
theorem dX2_work_60 : decode cX2_work 60 = .ok (.invokestatic 80, 3) := by decide +kernel
theorem dX2_work_63 : decode cX2_work 63 = .ok (.aload_n 0, 1) := by decide +kernel
theorem dX2_work_64 : decode cX2_work 64 = .ok (.iload_n 2, 1) := by decide +kernel
theorem dX2_work_65 : decode cX2_work 65 = .ok (.iload_n 3, 1) := by decide +kernel
theorem dX2_work_66 : decode cX2_work 66 = .ok (.invokevirtual 115, 3) := by decide +kernel
theorem dX2_work_69 : decode cX2_work 69 = .ok (.invokevirtual 106, 3) := by decide +kernel
theorem dX2_work_72 : decode cX2_work 72 = .ok (.goto 37, 3) := by decide +kernel
theorem dX2_work_75 : decode cX2_work 75 = .ok (.aload_n 0, 1) := by decide +kernel
theorem dX2_work_76 : decode cX2_work 76 = .ok (.iload_n 2, 1) := by decide +kernel
theorem dX2_work_77 : decode cX2_work 77 = .ok (.iload_n 3, 1) := by decide +kernel
theorem dX2_work_78 : decode cX2_work 78 = .ok (.invokevirtual 115, 3) := by decide +kernel
theorem dX2_work_81 : decode cX2_work 81 = .ok (.pop, 1) := by decide +kernel
theorem dX2_work_82 : decode cX2_work 82 = .ok (.aload_n 0, 1) := by decide +kernel
theorem dX2_work_83 : decode cX2_work 83 = .ok (.iload_n 2, 1) := by decide +kernel
theorem dX2_work_84 : decode cX2_work 84 = .ok (.invokestatic 77, 3) := by decide +kernel
theorem dX2_work_87 : decode cX2_work 87 = .ok (.iload_n 3, 1) := by decide +kernel
theorem dX2_work_88 : decode cX2_work 88 = .ok (.iconst 2, 1) := by decide +kernel
theorem dX2_work_89 : decode cX2_work 89 = .ok (.idiv, 1) := by decide +kernel
theorem dX2_work_90 : decode cX2_work 90 = .ok (.invokevirtual 115, 3) := by decide +kernel
theorem dX2_work_93 : decode cX2_work 93 = .ok (.pop, 1) := by decide +kernel
theorem dX2_work_94 : decode cX2_work 94 = .ok (.aload_n 0, 1) := by decide +kernel
theorem dX2_work_95 : decode cX2_work 95 = .ok (.iload_n 2, 1) := by decide +kernel
theorem dX2_work_96 : decode cX2_work 96 = .ok (.invokestatic 80, 3) := by decide +kernel
theorem dX2_work_99 : decode cX2_work 99 = .ok (.iload_n 3, 1) := by decide +kernel
theorem dX2_work_100 : decode cX2_work 100 = .ok (.iconst 2, 1) := by decide +kernel
theorem dX2_work_101 : decode cX2_work 101 = .ok (.idiv, 1) := by decide +kernel
theorem dX2_work_102 : decode cX2_work 102 = .ok (.invokevirtual 115, 3) := by decide +kernel
theorem dX2_work_105 : decode cX2_work 105 = .ok (.pop, 1) := by decide +kernel
theorem dX2_work_106 : decode cX2_work 106 = .ok (.goto 3, 3) := by decide +kernel
theorem dX2_work_109 : decode cX2_work 109 = .ok (.return_, 1) := by decide +kernel
set_option maxRecDepth 20000 in
theorem ggX2_pour_X5_isStreet : GoodIn wsX2_pour wsX5_isStreet := goodIn_r _ [8] (by decide +kernel) (by decide +kernel)
set_option maxRecDepth 20000 in
theorem gX2_pour_X5_isStreet_n51 : GoodIn wsX2_pour (wsX5_isStreet) := ggX2_pour_X5_isStreet
theorem dX2_pour_0 : decode cX2_pour 0 = .ok (.iload_n 1, 1) := by decide +kernel
theorem dX2_pour_1 : decode cX2_pour 1 = .ok (.invokestatic 51, 3) := by decide +kernel
theorem dX2_pour_4 : decode cX2_pour 4 = .ok (.ifCond .eq 22, 3) := by decide +kernel
theorem dX2_pour_7 : decode cX2_pour 7 = .ok (.aload_n 0, 1) := by decide +kernel
theorem dX2_pour_8 : decode cX2_pour 8 = .ok (.getfield 9, 3) := by decide +kernel
theorem dX2_pour_11 : decode cX2_pour 11 = .ok (.iload_n 1, 1) := by decide +kernel
theorem dX2_pour_12 : decode cX2_pour 12 = .ok (.bipush 99, 2) := by decide +kernel
theorem dX2_pour_14 : decode cX2_pour 14 = .ok (.aload_n 0, 1) := by decide +kernel
theorem dX2_pour_15 : decode cX2_pour 15 = .ok (.getfield 9, 3) := by decide +kernel
theorem dX2_pour_18 : decode cX2_pour 18 = .ok (.iload_n 1, 1) := by decide +kernel
theorem dX2_pour_19 : decode cX2_pour 19 = .ok (.iaload, 1) := by decide +kernel
theorem dX2_pour_20 : decode cX2_pour 20 = .ok (.iload_n 2, 1) := by decide +kernel
theorem dX2_pour_21 : decode cX2_pour 21 = .ok (.iadd, 1) := by decide +kernel
theorem dX2_pour_22 : decode cX2_pour 22 = .ok (.invokestatic 119, 3) := by decide +kernel
theorem dX2_pour_25 : decode cX2_pour 25 = .ok (.iastore, 1) := by decide +kernel
theorem dX2_pour_26 : decode cX2_pour 26 = .ok (.return_, 1) := by decide +kernel
set_option maxRecDepth 20000 in
theorem ggX2_sweep_X5_isStreet : GoodIn wsX2_sweep wsX5_isStreet := goodIn_r _ [8] (by decide +kernel) (by decide +kernel)
set_option maxRecDepth 20000 in
theorem gX2_sweep_X5_isStreet_n51 : GoodIn wsX2_sweep (wsX5_isStreet) := ggX2_sweep_X5_isStreet
theorem dX2_sweep_0 : decode cX2_sweep 0 = .ok (.iload_n 1, 1) := by decide +kernel
theorem dX2_sweep_1 : decode cX2_sweep 1 = .ok (.invokestatic 51, 3) := by decide +kernel
theorem dX2_sweep_4 : decode cX2_sweep 4 = .ok (.ifCond .ne 5, 3) := by decide +kernel
theorem dX2_sweep_7 : decode cX2_sweep 7 = .ok (.iconst 0, 1) := by decide +kernel
theorem dX2_sweep_8 : decode cX2_sweep 8 = .ok (.ireturn, 1) := by decide +kernel
theorem dX2_sweep_9 : decode cX2_sweep 9 = .ok (.iload_n 2, 1) := by decide +kernel
theorem dX2_sweep_10 : decode cX2_sweep 10 = .ok (.aload_n 0, 1) := by decide +kernel
theorem dX2_sweep_11 : decode cX2_sweep 11 = .ok (.getfield 9, 3) := by decide +kernel
theorem dX2_sweep_14 : decode cX2_sweep 14 = .ok (.iload_n 1, 1) := by decide +kernel
theorem dX2_sweep_15 : decode cX2_sweep 15 = .ok (.iaload, 1) := by decide +kernel
theorem dX2_sweep_16 : decode cX2_sweep 16 = .ok (.invokestatic 119, 3) := by decide +kernel
theorem dX2_sweep_19 : decode cX2_sweep 19 = .ok (.istore_n 3, 1) := by decide +kernel
theorem dX2_sweep_20 : decode cX2_sweep 20 = .ok (.aload_n 0, 1) := by decide +kernel
theorem dX2_sweep_21 : decode cX2_sweep 21 = .ok (.getfield 9, 3) := by decide +kernel
theorem dX2_sweep_24 : decode cX2_sweep 24 = .ok (.iload_n 1, 1) := by decide +kernel
theorem dX2_sweep_25 : decode cX2_sweep 25 = .ok (.dup2, 1) := by decide +kernel
theorem dX2_sweep_26 : decode cX2_sweep 26 = .ok (.iaload, 1) := by decide +kernel
theorem dX2_sweep_27 : decode cX2_sweep 27 = .ok (.iload_n 3, 1) := by decide +kernel
theorem dX2_sweep_28 : decode cX2_sweep 28 = .ok (.isub, 1) := by decide +kernel
theorem dX2_sweep_29 : decode cX2_sweep 29 = .ok (.iastore, 1) := by decide +kernel
theorem dX2_sweep_30 : decode cX2_sweep 30 = .ok (.iload_n 3, 1) := by decide +kernel
theorem dX2_sweep_31 : decode cX2_sweep 31 = .ok (.ireturn, 1) := by decide +kernel
set_option maxRecDepth 20000 in
theorem ggX2_spread_X2_leftOf : GoodIn wsX2_spread wsX2_leftOf := goodIn_r _ [6] (by decide +kernel) (by decide +kernel)
set_option maxRecDepth 20000 in
theorem gX2_spread_X2_leftOf : GoodIn wsX2_spread (va_wsS RX2 77 yX2_leftOf wsX2_leftOf) := goodIn_app (goodIn_of _ (by decide +kernel)) ggX2_spread_X2_leftOf
set_option maxRecDepth 20000 in
theorem ggX2_spread_X2_rightOf : GoodIn wsX2_spread wsX2_rightOf := goodIn_r _ [9] (by decide +kernel) (by decide +kernel)
set_option maxRecDepth 20000 in
theorem gX2_spread_X2_rightOf : GoodIn wsX2_spread (va_wsS RX2 80 yX2_rightOf wsX2_rightOf) := goodIn_app (goodIn_of _ (by decide +kernel)) ggX2_spread_X2_rightOf
theorem dX2_spread_0 : decode cX2_spread 0 = .ok (.iconst 0, 1) := by decide +kernel
theorem dX2_spread_1 : decode cX2_spread 1 = .ok (.istore_n 1, 1) := by decide +kernel
theorem dX2_spread_2 : decode cX2_spread 2 = .ok (.iload_n 1, 1) := by decide +kernel
theorem dX2_spread_3 : decode cX2_spread 3 = .ok (.bipush 8, 2) := by decide +kernel
theorem dX2_spread_5 : decode cX2_spread 5 = .ok (.if_icmp .ge 31, 3) := by decide +kernel
theorem dX2_spread_8 : decode cX2_spread 8 = .ok (.aload_n 0, 1) := by decide +kernel
theorem dX2_spread_9 : decode cX2_spread 9 = .ok (.getfield 18, 3) := by decide +kernel
theorem dX2_spread_12 : decode cX2_spread 12 = .ok (.iload_n 1, 1) := by decide +kernel
theorem dX2_spread_13 : decode cX2_spread 13 = .ok (.aload_n 0, 1) := by decide +kernel
theorem dX2_spread_14 : decode cX2_spread 14 = .ok (.getfield 9, 3) := by decide +kernel
theorem dX2_spread_17 : decode cX2_spread 17 = .ok (.iload_n 1, 1) := by decide +kernel
theorem dX2_spread_18 : decode cX2_spread 18 = .ok (.iaload, 1) := by decide +kernel
theorem dX2_spread_19 : decode cX2_spread 19 = .ok (.bipush 10, 2) := by decide +kernel
theorem dX2_spread_21 : decode cX2_spread 21 = .ok (.if_icmp .lt 7, 3) := by decide +kernel
theorem dX2_spread_24 : decode cX2_spread 24 = .ok (.iconst 1, 1) := by decide +kernel
theorem dX2_spread_25 : decode cX2_spread 25 = .ok (.goto 4, 3) := by decide +kernel
theorem dX2_spread_28 : decode cX2_spread 28 = .ok (.iconst 0, 1) := by decide +kernel
theorem dX2_spread_29 : decode cX2_spread 29 = .ok (.bastore, 1) := by decide +kernel
theorem dX2_spread_30 : decode cX2_spread 30 = .ok (.iinc 1 1, 3) := by decide +kernel
theorem dX2_spread_33 : decode cX2_spread 33 = .ok (.goto (-31), 3) := by decide +kernel
theorem dX2_spread_36 : decode cX2_spread 36 = .ok (.iconst 0, 1) := by decide +kernel
theorem dX2_spread_37 : decode cX2_spread 37 = .ok (.istore_n 1, 1) := by decide +kernel
theorem dX2_spread_38 : decode cX2_spread 38 = .ok (.iload_n 1, 1) := by decide +kernel
theorem dX2_spread_39 : decode cX2_spread 39 = .ok (.bipush 8, 2) := by decide +kernel
theorem dX2_spread_41 : decode cX2_spread 41 = .ok (.if_icmp .ge 54, 3) := by decide +kernel
theorem dX2_spread_44 : decode cX2_spread 44 = .ok (.aload_n 0, 1) := by decide +kernel
theorem dX2_spread_45 : decode cX2_spread 45 = .ok (.getfield 18, 3) := by decide +kernel
theorem dX2_spread_48 : decode cX2_spread 48 = .ok (.iload_n 1, 1) := by decide +kernel
theorem dX2_spread_49 : decode cX2_spread 49 = .ok (.baload, 1) := by decide +kernel
theorem dX2_spread_50 : decode cX2_spread 50 = .ok (.ifCond .eq 39, 3) := by decide +kernel
theorem dX2_spread_53 : decode cX2_spread 53 = .ok (.aload_n 0, 1) := by decide +kernel
theorem dX2_spread_54 : decode cX2_spread 54 = .ok (.getfield 9, 3) := by decide +kernel
theorem dX2_spread_57 : decode cX2_spread 57 = .ok (.iload_n 1, 1) := by decide +kernel
theorem dX2_spread_58 : decode cX2_spread 58 = .ok (.dup2, 1) := by decide +kernel
theorem dX2_spread_59 : decode cX2_spread 59 = .ok (.iaload, 1) := by decide +kernel
theorem dX2_spread_60 : decode cX2_spread 60 = .ok (.iconst 2, 1) := by decide +kernel
theorem dX2_spread_61 : decode cX2_spread 61 = .ok (.isub, 1) := by decide +kernel
theorem dX2_spread_62 : decode cX2_spread 62 = .ok (.iastore, 1) := by decide +kernel
theorem dX2_spread_63 : decode cX2_spread 63 = .ok (.aload_n 0, 1) := by decide +kernel
theorem dX2_spread_64 : decode cX2_spread 64 = .ok (.getfield 9, 3) := by decide +kernel
theorem dX2_spread_67 : decode cX2_spread 67 = .ok (.iload_n 1, 1) := by decide +kernel
theorem dX2_spread_68 : decode cX2_spread 68 = .ok (.invokestatic 77, 3) := by decide +kernel
theorem dX2_spread_71 : decode cX2_spread 71 = .ok (.dup2, 1) := by decide +kernel
theorem dX2_spread_72 : decode cX2_spread 72 = .ok (.iaload, 1) := by decide +kernel
theorem dX2_spread_73 : decode cX2_spread 73 = .ok (.iconst 1, 1) := by decide +kernel
theorem dX2_spread_74 : decode cX2_spread 74 = .ok (.iadd, 1) := by decide +kernel
theorem dX2_spread_75 : decode cX2_spread 75 = .ok (.iastore, 1) := by decide +kernel
theorem dX2_spread_76 : decode cX2_spread 76 = .ok (.aload_n 0, 1) := by decide +kernel
theorem dX2_spread_77 : decode cX2_spread 77 = .ok (.getfield 9, 3) := by decide +kernel
theorem dX2_spread_80 : decode cX2_spread 80 = .ok (.iload_n 1, 1) := by decide +kernel
theorem dX2_spread_81 : decode cX2_spread 81 = .ok (.invokestatic 80, 3) := by decide +kernel
theorem dX2_spread_84 : decode cX2_spread 84 = .ok (.dup2, 1) := by decide +kernel
theorem dX2_spread_85 : decode cX2_spread 85 = .ok (.iaload, 1) := by decide +kernel
theorem dX2_spread_86 : decode cX2_spread 86 = .ok (.iconst 1, 1) := by decide +kernel
theorem dX2_spread_87 : decode cX2_spread 87 = .ok (.iadd, 1) := by decide +kernel
theorem dX2_spread_88 : decode cX2_spread 88 = .ok (.iastore, 1) := by decide +kernel
theorem dX2_spread_89 : decode cX2_spread 89 = .ok (.iinc 1 1, 3) := by decide +kernel
theorem dX2_spread_92 : decode cX2_spread 92 = .ok (.goto (-54), 3) := by decide +kernel
theorem dX2_spread_95 : decode cX2_spread 95 = .ok (.return_, 1) := by decide +kernel
theorem dX2_leftOf_0 : decode cX2_leftOf 0 = .ok (.iload_n 0, 1) := by decide +kernel
theorem dX2_leftOf_1 : decode cX2_leftOf 1 = .ok (.bipush 8, 2) := by decide +kernel
theorem dX2_leftOf_3 : decode cX2_leftOf 3 = .ok (.iadd, 1) := by decide +kernel
theorem dX2_leftOf_4 : decode cX2_leftOf 4 = .ok (.iconst 1, 1) := by decide +kernel
theorem dX2_leftOf_5 : decode cX2_leftOf 5 = .ok (.isub, 1) := by decide +kernel
theorem dX2_leftOf_6 : decode cX2_leftOf 6 = .ok (.bipush 7, 2) := by decide +kernel
theorem dX2_leftOf_8 : decode cX2_leftOf 8 = .ok (.iand, 1) := by decide +kernel
theorem dX2_leftOf_9 : decode cX2_leftOf 9 = .ok (.ireturn, 1) := by decide +kernel
theorem dX2_rightOf_0 : decode cX2_rightOf 0 = .ok (.iload_n 0, 1) := by decide +kernel
theorem dX2_rightOf_1 : decode cX2_rightOf 1 = .ok (.iconst 1, 1) := by decide +kernel
theorem dX2_rightOf_2 : decode cX2_rightOf 2 = .ok (.iadd, 1) := by decide +kernel
theorem dX2_rightOf_3 : decode cX2_rightOf 3 = .ok (.bipush 7, 2) := by decide +kernel
theorem dX2_rightOf_5 : decode cX2_rightOf 5 = .ok (.iand, 1) := by decide +kernel
theorem dX2_rightOf_6 : decode cX2_rightOf 6 = .ok (.ireturn, 1) := by decide +kernel
theorem dX3_init_0 : decode cX3_init 0 = .ok (.aload_n 0, 1) := by decide +kernel
theorem dX3_init_1 : decode cX3_init 1 = .ok (.invokespecial 3, 3) := by decide +kernel
theorem dX3_init_4 : decode cX3_init 4 = .ok (.aload_n 0, 1) := by decide +kernel
theorem dX3_init_5 : decode cX3_init 5 = .ok (.bipush 48, 2) := by decide +kernel
theorem dX3_init_7 : decode cX3_init 7 = .ok (.newarray .int, 2) := by decide +kernel
theorem dX3_init_9 : decode cX3_init 9 = .ok (.putfield 9, 3) := by decide +kernel
theorem dX3_init_12 : decode cX3_init 12 = .ok (.aload_n 0, 1) := by decide +kernel
theorem dX3_init_13 : decode cX3_init 13 = .ok (.iconst 0, 1) := by decide +kernel
theorem dX3_init_14 : decode cX3_init 14 = .ok (.putfield 15, 3) := by decide +kernel
theorem dX3_init_17 : decode cX3_init 17 = .ok (.return_, 1) := by decide +kernel
theorem dX3_add_0 : decode cX3_add 0 = .ok (.aload_n 0, 1) := by decide +kernel
theorem dX3_add_1 : decode cX3_add 1 = .ok (.getfield 15, 3) := by decide +kernel
theorem dX3_add_4 : decode cX3_add 4 = .ok (.bipush 48, 2) := by decide +kernel
theorem dX3_add_6 : decode cX3_add 6 = .ok (.if_icmp .ge 23, 3) := by decide +kernel
theorem dX3_add_9 : decode cX3_add 9 = .ok (.aload_n 0, 1) := by decide +kernel
theorem dX3_add_10 : decode cX3_add 10 = .ok (.getfield 9, 3) := by decide +kernel
theorem dX3_add_13 : decode cX3_add 13 = .ok (.aload_n 0, 1) := by decide +kernel
theorem dX3_add_14 : decode cX3_add 14 = .ok (.getfield 15, 3) := by decide +kernel
theorem dX3_add_17 : decode cX3_add 17 = .ok (.iload_n 1, 1) := by decide +kernel
theorem dX3_add_18 : decode cX3_add 18 = .ok (.iastore, 1) := by decide +kernel
theorem dX3_add_19 : decode cX3_add 19 = .ok (.aload_n 0, 1) := by decide +kernel
theorem dX3_add_20 : decode cX3_add 20 = .ok (.dup, 1) := by decide +kernel
theorem dX3_add_21 : decode cX3_add 21 = .ok (.getfield 15, 3) := by decide +kernel
theorem dX3_add_24 : decode cX3_add 24 = .ok (.iconst 1, 1) := by decide +kernel
theorem dX3_add_25 : decode cX3_add 25 = .ok (.iadd, 1) := by decide +kernel
theorem dX3_add_26 : decode cX3_add 26 = .ok (.putfield 15, 3) := by decide +kernel
theorem dX3_add_29 : decode cX3_add 29 = .ok (.return_, 1) := by decide +kernel
theorem dX3_letterAt_0 : decode cX3_letterAt 0 = .ok (.iload_n 1, 1) := by decide +kernel
theorem dX3_letterAt_1 : decode cX3_letterAt 1 = .ok (.ifCond .lt 26, 3) := by decide +kernel
theorem dX3_letterAt_4 : decode cX3_letterAt 4 = .ok (.iload_n 1, 1) := by decide +kernel
theorem dX3_letterAt_5 : decode cX3_letterAt 5 = .ok (.aload_n 0, 1) := by decide +kernel
theorem dX3_letterAt_6 : decode cX3_letterAt 6 = .ok (.getfield 15, 3) := by decide +kernel
theorem dX3_letterAt_9 : decode cX3_letterAt 9 = .ok (.if_icmp .ge 18, 3) := by decide +kernel
theorem dX3_letterAt_12 : decode cX3_letterAt 12 = .ok (.iload_n 1, 1) := by decide +kernel
theorem dX3_letterAt_13 : decode cX3_letterAt 13 = .ok (.bipush 48, 2) := by decide +kernel
theorem dX3_letterAt_15 : decode cX3_letterAt 15 = .ok (.if_icmp .ge 12, 3) := by decide +kernel
theorem dX3_letterAt_18 : decode cX3_letterAt 18 = .ok (.aload_n 0, 1) := by decide +kernel
theorem dX3_letterAt_19 : decode cX3_letterAt 19 = .ok (.getfield 9, 3) := by decide +kernel
theorem dX3_letterAt_22 : decode cX3_letterAt 22 = .ok (.iload_n 1, 1) := by decide +kernel
theorem dX3_letterAt_23 : decode cX3_letterAt 23 = .ok (.iaload, 1) := by decide +kernel
theorem dX3_letterAt_24 : decode cX3_letterAt 24 = .ok (.goto 5, 3) := by decide +kernel
theorem dX3_letterAt_27 : decode cX3_letterAt 27 = .ok (.bipush (-9), 2) := by decide +kernel
theorem dX3_letterAt_29 : decode cX3_letterAt 29 = .ok (.ireturn, 1) := by decide +kernel
set_option maxRecDepth 20000 in
theorem ggX3_figureAt_X3_letterAt : GoodIn wsX3_figureAt wsX3_letterAt := goodIn_r _ [5, 6, 7, 8, 9] (by decide +kernel) (by decide +kernel)
set_option maxRecDepth 20000 in
theorem gX3_figureAt_X3_letterAt : GoodIn wsX3_figureAt (wsV RX3 19 RX3 yX3_letterAt wsX3_letterAt) := goodIn_app (goodIn_of _ (by decide +kernel)) ggX3_figureAt_X3_letterAt
theorem dX3_figureAt_0 : decode cX3_figureAt 0 = .ok (.aload_n 0, 1) := by decide +kernel
theorem dX3_figureAt_1 : decode cX3_figureAt 1 = .ok (.iload_n 1, 1) := by decide +kernel
theorem dX3_figureAt_2 : decode cX3_figureAt 2 = .ok (.invokevirtual 19, 3) := by decide +kernel
theorem dX3_figureAt_5 : decode cX3_figureAt 5 = .ok (.bipush 48, 2) := by decide +kernel
theorem dX3_figureAt_7 : decode cX3_figureAt 7 = .ok (.isub, 1) := by decide +kernel
theorem dX3_figureAt_8 : decode cX3_figureAt 8 = .ok (.ireturn, 1) := by decide +kernel
set_option maxRecDepth 20000 in
theorem ggX3_firstFault_X3_letterAt : GoodIn wsX3_firstFault wsX3_letterAt := goodIn_r _ [5, 6, 7, 29, 30] (by decide +kernel) (by decide +kernel)
set_option maxRecDepth 20000 in
theorem gX3_firstFault_X3_letterAt : GoodIn wsX3_firstFault (wsV RX3 19 RX3 yX3_letterAt wsX3_letterAt) := goodIn_app (goodIn_of _ (by decide +kernel)) ggX3_firstFault_X3_letterAt
set_option maxRecDepth 20000 in
theorem ggX3_firstFault_X3_figureAt : GoodIn wsX3_firstFault wsX3_figureAt := goodIn_r _ [11, 1, 2, 3, 4, 5, 6, 7, 29, 30] (by decide +kernel) (by decide +kernel)
set_option maxRecDepth 20000 in
theorem gX3_firstFault_X3_figureAt : GoodIn wsX3_firstFault (wsV RX3 23 RX3 yX3_figureAt wsX3_figureAt) := goodIn_app (goodIn_of _ (by decide +kernel)) ggX3_firstFault_X3_figureAt
set_option maxRecDepth 20000 in
theorem ggX3_firstFault_X5_within : GoodIn wsX3_firstFault wsX5_within := goodIn_r _ [14] (by decide +kernel) (by decide +kernel)
set_option maxRecDepth 20000 in
theorem gX3_firstFault_X5_within_n26 : GoodIn wsX3_firstFault (wsX5_within) := ggX3_firstFault_X5_within
set_option maxRecDepth 20000 in
theorem ggX3_firstFault_X3_firstFaultOfParts : GoodIn wsX3_firstFault wsX3_firstFaultOfParts := goodIn_r _ [18, 6, 1, 2, 3, 4, 5, 7, 19, 20, 21, 22, 8, 9, 10, 11, 23, 13, 24, 12, 14, 25, 26, 27, 28, 29, 30] (by decide +kernel) (by decide +kernel)
set_option maxRecDepth 20000 in
theorem gX3_firstFault_X3_firstFaultOfParts : GoodIn wsX3_firstFault (wsV RX3 30 RX3 yX3_firstFaultOfParts wsX3_firstFaultOfParts) := goodIn_app (goodIn_of _ (by decide +kernel)) ggX3_firstFault_X3_firstFaultOfParts
theorem dX3_firstFault_0 : decode cX3_firstFault 0 = .ok (.aload_n 0, 1) := by decide +kernel
theorem dX3_firstFault_1 : decode cX3_firstFault 1 = .ok (.iconst 0, 1) := by decide +kernel
theorem dX3_firstFault_2 : decode cX3_firstFault 2 = .ok (.invokevirtual 19, 3) := by decide +kernel
theorem dX3_firstFault_5 : decode cX3_firstFault 5 = .ok (.bipush 66, 2) := by decide +kernel
theorem dX3_firstFault_7 : decode cX3_firstFault 7 = .ok (.if_icmp .eq 5, 3) := by decide +kernel
theorem dX3_firstFault_10 : decode cX3_firstFault 10 = .ok (.iconst 0, 1) := by decide +kernel
theorem dX3_firstFault_11 : decode cX3_firstFault 11 = .ok (.ireturn, 1) := by decide +kernel
theorem dX3_firstFault_12 : decode cX3_firstFault 12 = .ok (.iconst 1, 1) := by decide +kernel
theorem dX3_firstFault_13 : decode cX3_firstFault 13 = .ok (.istore_n 1, 1) := by decide +kernel
theorem dX3_firstFault_14 : decode cX3_firstFault 14 = .ok (.iload_n 1, 1) := by decide +kernel
theorem dX3_firstFault_15 : decode cX3_firstFault 15 = .ok (.bipush 9, 2) := by decide +kernel
theorem dX3_firstFault_17 : decode cX3_firstFault 17 = .ok (.if_icmp .ge 25, 3) := by decide +kernel
theorem dX3_firstFault_20 : decode cX3_firstFault 20 = .ok (.aload_n 0, 1) := by decide +kernel
theorem dX3_firstFault_21 : decode cX3_firstFault 21 = .ok (.iload_n 1, 1) := by decide +kernel
theorem dX3_firstFault_22 : decode cX3_firstFault 22 = .ok (.invokevirtual 23, 3) := by decide +kernel
theorem dX3_firstFault_25 : decode cX3_firstFault 25 = .ok (.iconst 0, 1) := by decide +kernel
theorem dX3_firstFault_26 : decode cX3_firstFault 26 = .ok (.bipush 9, 2) := by decide +kernel
theorem dX3_firstFault_28 : decode cX3_firstFault 28 = .ok (.invokestatic 26, 3) := by decide +kernel
theorem dX3_firstFault_31 : decode cX3_firstFault 31 = .ok (.ifCond .ne 5, 3) := by decide +kernel
theorem dX3_firstFault_34 : decode cX3_firstFault 34 = .ok (.iload_n 1, 1) := by decide +kernel
theorem dX3_firstFault_35 : decode cX3_firstFault 35 = .ok (.ireturn, 1) := by decide +kernel
theorem dX3_firstFault_36 : decode cX3_firstFault 36 = .ok (.iinc 1 1, 3) := by decide +kernel
theorem dX3_firstFault_39 : decode cX3_firstFault 39 = .ok (.goto (-25), 3) := by decide +kernel
theorem dX3_firstFault_42 : decode cX3_firstFault 42 = .ok (.aload_n 0, 1) := by decide +kernel
theorem dX3_firstFault_43 : decode cX3_firstFault 43 = .ok (.invokevirtual 30, 3) := by decide +kernel
theorem dX3_firstFault_46 : decode cX3_firstFault 46 = .ok (.ireturn, 1) := by decide +kernel
set_option maxRecDepth 20000 in
theorem ggX3_firstFaultOfParts_X3_letterAt : GoodIn wsX3_firstFaultOfParts wsX3_letterAt := goodIn_r _ [6, 1, 7, 25, 26] (by decide +kernel) (by decide +kernel)
set_option maxRecDepth 20000 in
theorem gX3_firstFaultOfParts_X3_letterAt : GoodIn wsX3_firstFaultOfParts (wsV RX3 19 RX3 yX3_letterAt wsX3_letterAt) := goodIn_app (goodIn_of _ (by decide +kernel)) ggX3_firstFaultOfParts_X3_letterAt
set_option maxRecDepth 20000 in
theorem ggX3_firstFaultOfParts_X3_faultOfBroom : GoodIn wsX3_firstFaultOfParts wsX3_faultOfBroom := goodIn_r _ [11, 12, 13, 14, 5, 15, 2, 3, 4, 6, 1, 7, 16, 17, 18, 19, 20, 25, 26] (by decide +kernel) (by decide +kernel)
set_option maxRecDepth 20000 in
theorem gX3_firstFaultOfParts_X3_faultOfBroom : GoodIn wsX3_firstFaultOfParts (wsV RX3 34 RX3 yX3_faultOfBroom wsX3_faultOfBroom) := goodIn_app (goodIn_of _ (by decide +kernel)) ggX3_firstFaultOfParts_X3_faultOfBroom
set_option maxRecDepth 20000 in
theorem ggX3_firstFaultOfParts_X3_faultOfFall : GoodIn wsX3_firstFaultOfParts wsX3_faultOfFall := goodIn_r _ [24, 12, 13, 14, 5, 15, 2, 3, 4, 6, 1, 7, 16, 17, 18, 19, 20, 25, 26] (by decide +kernel) (by decide +kernel)
set_option maxRecDepth 20000 in
theorem gX3_firstFaultOfParts_X3_faultOfFall : GoodIn wsX3_firstFaultOfParts (wsV RX3 37 RX3 yX3_faultOfFall wsX3_faultOfFall) := goodIn_app (goodIn_of _ (by decide +kernel)) ggX3_firstFaultOfParts_X3_faultOfFall
theorem dX3_firstFaultOfParts_0 : decode cX3_firstFaultOfParts 0 = .ok (.iconst 0, 1) := by decide +kernel
theorem dX3_firstFaultOfParts_1 : decode cX3_firstFaultOfParts 1 = .ok (.istore_n 1, 1) := by decide +kernel
theorem dX3_firstFaultOfParts_2 : decode cX3_firstFaultOfParts 2 = .ok (.iconst 0, 1) := by decide +kernel
theorem dX3_firstFaultOfParts_3 : decode cX3_firstFaultOfParts 3 = .ok (.istore_n 2, 1) := by decide +kernel
theorem dX3_firstFaultOfParts_4 : decode cX3_firstFaultOfParts 4 = .ok (.iconst 0, 1) := by decide +kernel
theorem dX3_firstFaultOfParts_5 : decode cX3_firstFaultOfParts 5 = .ok (.istore_n 3, 1) := by decide +kernel
theorem dX3_firstFaultOfParts_6 : decode cX3_firstFaultOfParts 6 = .ok (.bipush 9, 2) := by decide +kernel
theorem dX3_firstFaultOfParts_8 : decode cX3_firstFaultOfParts 8 = .ok (.istore 4, 2) := by decide +kernel
theorem dX3_firstFaultOfParts_10 : decode cX3_firstFaultOfParts 10 = .ok (.iload 4, 2) := by decide +kernel
theorem dX3_firstFaultOfParts_12 : decode cX3_firstFaultOfParts 12 = .ok (.aload_n 0, 1) := by decide +kernel
theorem dX3_firstFaultOfParts_13 : decode cX3_firstFaultOfParts 13 = .ok (.getfield 15, 3) := by decide +kernel
theorem dX3_firstFaultOfParts_16 : decode cX3_firstFaultOfParts 16 = .ok (.if_icmp .ge 140, 3) := by decide +kernel
theorem dX3_firstFaultOfParts_19 : decode cX3_firstFaultOfParts 19 = .ok (.aload_n 0, 1) := by decide +kernel
theorem dX3_firstFaultOfParts_20 : decode cX3_firstFaultOfParts 20 = .ok (.iload 4, 2) := by decide +kernel
theorem dX3_firstFaultOfParts_22 : decode cX3_firstFaultOfParts 22 = .ok (.invokevirtual 19, 3) := by decide +kernel
theorem dX3_firstFaultOfParts_25 : decode cX3_firstFaultOfParts 25 = .ok (.bipush 78, 2) := by decide +kernel
theorem dX3_firstFaultOfParts_27 : decode cX3_firstFaultOfParts 27 = .ok (.if_icmp .ne 12, 3) := by decide +kernel
theorem dX3_firstFaultOfParts_30 : decode cX3_firstFaultOfParts 30 = .ok (.iload_n 1, 1) := by decide +kernel
theorem dX3_firstFaultOfParts_31 : decode cX3_firstFaultOfParts 31 = .ok (.iconst 5, 1) := by decide +kernel
theorem dX3_firstFaultOfParts_32 : decode cX3_firstFaultOfParts 32 = .ok (.if_icmp .ge 7, 3) := by decide +kernel
theorem dX3_firstFaultOfParts_35 : decode cX3_firstFaultOfParts 35 = .ok (.iconst 1, 1) := by decide +kernel
theorem dX3_firstFaultOfParts_36 : decode cX3_firstFaultOfParts 36 = .ok (.goto 4, 3) := by decide +kernel
theorem dX3_firstFaultOfParts_39 : decode cX3_firstFaultOfParts 39 = .ok (.iconst 0, 1) := by decide +kernel
theorem dX3_firstFaultOfParts_40 : decode cX3_firstFaultOfParts 40 = .ok (.istore 5, 2) := by decide +kernel
theorem dX3_firstFaultOfParts_42 : decode cX3_firstFaultOfParts 42 = .ok (.aload_n 0, 1) := by decide +kernel
theorem dX3_firstFaultOfParts_43 : decode cX3_firstFaultOfParts 43 = .ok (.iload 4, 2) := by decide +kernel
theorem dX3_firstFaultOfParts_45 : decode cX3_firstFaultOfParts 45 = .ok (.invokevirtual 19, 3) := by decide +kernel
theorem dX3_firstFaultOfParts_48 : decode cX3_firstFaultOfParts 48 = .ok (.bipush 70, 2) := by decide +kernel
theorem dX3_firstFaultOfParts_50 : decode cX3_firstFaultOfParts 50 = .ok (.if_icmp .ne 12, 3) := by decide +kernel
theorem dX3_firstFaultOfParts_53 : decode cX3_firstFaultOfParts 53 = .ok (.iload_n 2, 1) := by decide +kernel
theorem dX3_firstFaultOfParts_54 : decode cX3_firstFaultOfParts 54 = .ok (.iconst 5, 1) := by decide +kernel
theorem dX3_firstFaultOfParts_55 : decode cX3_firstFaultOfParts 55 = .ok (.if_icmp .ge 7, 3) := by decide +kernel
theorem dX3_firstFaultOfParts_58 : decode cX3_firstFaultOfParts 58 = .ok (.iconst 1, 1) := by decide +kernel
theorem dX3_firstFaultOfParts_59 : decode cX3_firstFaultOfParts 59 = .ok (.goto 4, 3) := by decide +kernel
theorem dX3_firstFaultOfParts_62 : decode cX3_firstFaultOfParts 62 = .ok (.iconst 0, 1) := by decide +kernel
theorem dX3_firstFaultOfParts_63 : decode cX3_firstFaultOfParts 63 = .ok (.istore 6, 2) := by decide +kernel
theorem dX3_firstFaultOfParts_65 : decode cX3_firstFaultOfParts 65 = .ok (.iload 5, 2) := by decide +kernel
theorem dX3_firstFaultOfParts_67 : decode cX3_firstFaultOfParts 67 = .ok (.ifCond .ne 11, 3) := by decide +kernel
theorem dX3_firstFaultOfParts_70 : decode cX3_firstFaultOfParts 70 = .ok (.iload 6, 2) := by decide +kernel
theorem dX3_firstFaultOfParts_72 : decode cX3_firstFaultOfParts 72 = .ok (.ifCond .ne 6, 3) := by decide +kernel
theorem dX3_firstFaultOfParts_75 : decode cX3_firstFaultOfParts 75 = .ok (.iload 4, 2) := by decide +kernel
theorem dX3_firstFaultOfParts_77 : decode cX3_firstFaultOfParts 77 = .ok (.ireturn, 1) := by decide +kernel
theorem dX3_firstFaultOfParts_78 : decode cX3_firstFaultOfParts 78 = .ok (.iload 5, 2) := by decide +kernel
theorem dX3_firstFaultOfParts_80 : decode cX3_firstFaultOfParts 80 = .ok (.ifCond .eq 12, 3) := by decide +kernel
theorem dX3_firstFaultOfParts_83 : decode cX3_firstFaultOfParts 83 = .ok (.aload_n 0, 1) := by decide +kernel
theorem dX3_firstFaultOfParts_84 : decode cX3_firstFaultOfParts 84 = .ok (.iload 4, 2) := by decide +kernel
theorem dX3_firstFaultOfParts_86 : decode cX3_firstFaultOfParts 86 = .ok (.invokevirtual 34, 3) := by decide +kernel
theorem dX3_firstFaultOfParts_89 : decode cX3_firstFaultOfParts 89 = .ok (.goto 9, 3) := by decide +kernel
theorem dX3_firstFaultOfParts_92 : decode cX3_firstFaultOfParts 92 = .ok (.aload_n 0, 1) := by decide +kernel
theorem dX3_firstFaultOfParts_93 : decode cX3_firstFaultOfParts 93 = .ok (.iload 4, 2) := by decide +kernel
theorem dX3_firstFaultOfParts_95 : decode cX3_firstFaultOfParts 95 = .ok (.invokevirtual 37, 3) := by decide +kernel
theorem dX3_firstFaultOfParts_98 : decode cX3_firstFaultOfParts 98 = .ok (.istore 7, 2) := by decide +kernel
theorem dX3_firstFaultOfParts_100 : decode cX3_firstFaultOfParts 100 = .ok (.iload 7, 2) := by decide +kernel
theorem dX3_firstFaultOfParts_102 : decode cX3_firstFaultOfParts 102 = .ok (.bipush (-9), 2) := by decide +kernel
theorem dX3_firstFaultOfParts_104 : decode cX3_firstFaultOfParts 104 = .ok (.if_icmp .eq 6, 3) := by decide +kernel
theorem dX3_firstFaultOfParts_107 : decode cX3_firstFaultOfParts 107 = .ok (.iload 7, 2) := by decide +kernel
theorem dX3_firstFaultOfParts_109 : decode cX3_firstFaultOfParts 109 = .ok (.ireturn, 1) := by decide +kernel
theorem dX3_firstFaultOfParts_110 : decode cX3_firstFaultOfParts 110 = .ok (.iload_n 1, 1) := by decide +kernel
theorem dX3_firstFaultOfParts_111 : decode cX3_firstFaultOfParts 111 = .ok (.iload 5, 2) := by decide +kernel
theorem dX3_firstFaultOfParts_113 : decode cX3_firstFaultOfParts 113 = .ok (.ifCond .eq 7, 3) := by decide +kernel
theorem dX3_firstFaultOfParts_116 : decode cX3_firstFaultOfParts 116 = .ok (.iconst 1, 1) := by decide +kernel
theorem dX3_firstFaultOfParts_117 : decode cX3_firstFaultOfParts 117 = .ok (.goto 4, 3) := by decide +kernel
theorem dX3_firstFaultOfParts_120 : decode cX3_firstFaultOfParts 120 = .ok (.iconst 0, 1) := by decide +kernel
theorem dX3_firstFaultOfParts_121 : decode cX3_firstFaultOfParts 121 = .ok (.iadd, 1) := by decide +kernel
theorem dX3_firstFaultOfParts_122 : decode cX3_firstFaultOfParts 122 = .ok (.istore_n 1, 1) := by decide +kernel
theorem dX3_firstFaultOfParts_123 : decode cX3_firstFaultOfParts 123 = .ok (.iload_n 2, 1) := by decide +kernel
theorem dX3_firstFaultOfParts_124 : decode cX3_firstFaultOfParts 124 = .ok (.iload 6, 2) := by decide +kernel
theorem dX3_firstFaultOfParts_126 : decode cX3_firstFaultOfParts 126 = .ok (.ifCond .eq 7, 3) := by decide +kernel
theorem dX3_firstFaultOfParts_129 : decode cX3_firstFaultOfParts 129 = .ok (.iconst 1, 1) := by decide +kernel
theorem dX3_firstFaultOfParts_130 : decode cX3_firstFaultOfParts 130 = .ok (.goto 4, 3) := by decide +kernel
theorem dX3_firstFaultOfParts_133 : decode cX3_firstFaultOfParts 133 = .ok (.iconst 0, 1) := by decide +kernel
theorem dX3_firstFaultOfParts_134 : decode cX3_firstFaultOfParts 134 = .ok (.iadd, 1) := by decide +kernel
theorem dX3_firstFaultOfParts_135 : decode cX3_firstFaultOfParts 135 = .ok (.istore_n 2, 1) := by decide +kernel
theorem dX3_firstFaultOfParts_136 : decode cX3_firstFaultOfParts 136 = .ok (.iload 5, 2) := by decide +kernel
theorem dX3_firstFaultOfParts_138 : decode cX3_firstFaultOfParts 138 = .ok (.ifCond .eq 7, 3) := by decide +kernel
theorem dX3_firstFaultOfParts_141 : decode cX3_firstFaultOfParts 141 = .ok (.iconst 4, 1) := by decide +kernel
theorem dX3_firstFaultOfParts_142 : decode cX3_firstFaultOfParts 142 = .ok (.goto 4, 3) := by decide +kernel
theorem dX3_firstFaultOfParts_145 : decode cX3_firstFaultOfParts 145 = .ok (.iconst 3, 1) := by decide +kernel
theorem dX3_firstFaultOfParts_146 : decode cX3_firstFaultOfParts 146 = .ok (.istore_n 3, 1) := by decide +kernel
theorem dX3_firstFaultOfParts_147 : decode cX3_firstFaultOfParts 147 = .ok (.iload 4, 2) := by decide +kernel
theorem dX3_firstFaultOfParts_149 : decode cX3_firstFaultOfParts 149 = .ok (.iload_n 3, 1) := by decide +kernel
theorem dX3_firstFaultOfParts_150 : decode cX3_firstFaultOfParts 150 = .ok (.iadd, 1) := by decide +kernel
theorem dX3_firstFaultOfParts_151 : decode cX3_firstFaultOfParts 151 = .ok (.istore 4, 2) := by decide +kernel
theorem dX3_firstFaultOfParts_153 : decode cX3_firstFaultOfParts 153 = .ok (.goto (-143), 3) := by decide +kernel
theorem dX3_firstFaultOfParts_156 : decode cX3_firstFaultOfParts 156 = .ok (.bipush (-9), 2) := by decide +kernel
theorem dX3_firstFaultOfParts_158 : decode cX3_firstFaultOfParts 158 = .ok (.ireturn, 1) := by decide +kernel
set_option maxRecDepth 20000 in
theorem ggX3_faultOfBroom_X3_figureAt : GoodIn wsX3_faultOfBroom wsX3_figureAt := goodIn_r _ [5, 6, 7, 8, 4, 9, 10, 11, 17, 18] (by decide +kernel) (by decide +kernel)
set_option maxRecDepth 20000 in
theorem gX3_faultOfBroom_X3_figureAt : GoodIn wsX3_faultOfBroom (wsV RX3 23 RX3 yX3_figureAt wsX3_figureAt) := goodIn_app (goodIn_of _ (by decide +kernel)) ggX3_faultOfBroom_X3_figureAt
set_option maxRecDepth 20000 in
theorem ggX3_faultOfBroom_X5_isStreet : GoodIn wsX3_faultOfBroom wsX5_isStreet := goodIn_r _ [14] (by decide +kernel) (by decide +kernel)
set_option maxRecDepth 20000 in
theorem gX3_faultOfBroom_X5_isStreet_n40 : GoodIn wsX3_faultOfBroom (wsX5_isStreet) := ggX3_faultOfBroom_X5_isStreet
set_option maxRecDepth 20000 in
theorem ggX3_faultOfBroom_X5_within : GoodIn wsX3_faultOfBroom wsX5_within := goodIn_r _ [16] (by decide +kernel) (by decide +kernel)
set_option maxRecDepth 20000 in
theorem gX3_faultOfBroom_X5_within_n26 : GoodIn wsX3_faultOfBroom (wsX5_within) := ggX3_faultOfBroom_X5_within
theorem dX3_faultOfBroom_0 : decode cX3_faultOfBroom 0 = .ok (.aload_n 0, 1) := by decide +kernel
theorem dX3_faultOfBroom_1 : decode cX3_faultOfBroom 1 = .ok (.iload_n 1, 1) := by decide +kernel
theorem dX3_faultOfBroom_2 : decode cX3_faultOfBroom 2 = .ok (.iconst 1, 1) := by decide +kernel
theorem dX3_faultOfBroom_3 : decode cX3_faultOfBroom 3 = .ok (.iadd, 1) := by decide +kernel
theorem dX3_faultOfBroom_4 : decode cX3_faultOfBroom 4 = .ok (.invokevirtual 23, 3) := by decide +kernel
theorem dX3_faultOfBroom_7 : decode cX3_faultOfBroom 7 = .ok (.invokestatic 40, 3) := by decide +kernel
theorem dX3_faultOfBroom_10 : decode cX3_faultOfBroom 10 = .ok (.ifCond .ne 7, 3) := by decide +kernel
theorem dX3_faultOfBroom_13 : decode cX3_faultOfBroom 13 = .ok (.iload_n 1, 1) := by decide +kernel
theorem dX3_faultOfBroom_14 : decode cX3_faultOfBroom 14 = .ok (.iconst 1, 1) := by decide +kernel
theorem dX3_faultOfBroom_15 : decode cX3_faultOfBroom 15 = .ok (.iadd, 1) := by decide +kernel
theorem dX3_faultOfBroom_16 : decode cX3_faultOfBroom 16 = .ok (.ireturn, 1) := by decide +kernel
theorem dX3_faultOfBroom_17 : decode cX3_faultOfBroom 17 = .ok (.aload_n 0, 1) := by decide +kernel
theorem dX3_faultOfBroom_18 : decode cX3_faultOfBroom 18 = .ok (.iload_n 1, 1) := by decide +kernel
theorem dX3_faultOfBroom_19 : decode cX3_faultOfBroom 19 = .ok (.iconst 2, 1) := by decide +kernel
theorem dX3_faultOfBroom_20 : decode cX3_faultOfBroom 20 = .ok (.iadd, 1) := by decide +kernel
theorem dX3_faultOfBroom_21 : decode cX3_faultOfBroom 21 = .ok (.invokevirtual 23, 3) := by decide +kernel
theorem dX3_faultOfBroom_24 : decode cX3_faultOfBroom 24 = .ok (.iconst 1, 1) := by decide +kernel
theorem dX3_faultOfBroom_25 : decode cX3_faultOfBroom 25 = .ok (.bipush 9, 2) := by decide +kernel
theorem dX3_faultOfBroom_27 : decode cX3_faultOfBroom 27 = .ok (.invokestatic 26, 3) := by decide +kernel
theorem dX3_faultOfBroom_30 : decode cX3_faultOfBroom 30 = .ok (.ifCond .ne 7, 3) := by decide +kernel
theorem dX3_faultOfBroom_33 : decode cX3_faultOfBroom 33 = .ok (.iload_n 1, 1) := by decide +kernel
theorem dX3_faultOfBroom_34 : decode cX3_faultOfBroom 34 = .ok (.iconst 2, 1) := by decide +kernel
theorem dX3_faultOfBroom_35 : decode cX3_faultOfBroom 35 = .ok (.iadd, 1) := by decide +kernel
theorem dX3_faultOfBroom_36 : decode cX3_faultOfBroom 36 = .ok (.ireturn, 1) := by decide +kernel
theorem dX3_faultOfBroom_37 : decode cX3_faultOfBroom 37 = .ok (.aload_n 0, 1) := by decide +kernel
theorem dX3_faultOfBroom_38 : decode cX3_faultOfBroom 38 = .ok (.iload_n 1, 1) := by decide +kernel
theorem dX3_faultOfBroom_39 : decode cX3_faultOfBroom 39 = .ok (.iconst 3, 1) := by decide +kernel
theorem dX3_faultOfBroom_40 : decode cX3_faultOfBroom 40 = .ok (.iadd, 1) := by decide +kernel
theorem dX3_faultOfBroom_41 : decode cX3_faultOfBroom 41 = .ok (.invokevirtual 23, 3) := by decide +kernel
theorem dX3_faultOfBroom_44 : decode cX3_faultOfBroom 44 = .ok (.iconst 0, 1) := by decide +kernel
theorem dX3_faultOfBroom_45 : decode cX3_faultOfBroom 45 = .ok (.iconst 3, 1) := by decide +kernel
theorem dX3_faultOfBroom_46 : decode cX3_faultOfBroom 46 = .ok (.invokestatic 26, 3) := by decide +kernel
theorem dX3_faultOfBroom_49 : decode cX3_faultOfBroom 49 = .ok (.ifCond .eq 8, 3) := by decide +kernel
theorem dX3_faultOfBroom_52 : decode cX3_faultOfBroom 52 = .ok (.bipush (-9), 2) := by decide +kernel
theorem dX3_faultOfBroom_54 : decode cX3_faultOfBroom 54 = .ok (.goto 6, 3) := by decide +kernel
theorem dX3_faultOfBroom_57 : decode cX3_faultOfBroom 57 = .ok (.iload_n 1, 1) := by decide +kernel
theorem dX3_faultOfBroom_58 : decode cX3_faultOfBroom 58 = .ok (.iconst 3, 1) := by decide +kernel
theorem dX3_faultOfBroom_59 : decode cX3_faultOfBroom 59 = .ok (.iadd, 1) := by decide +kernel
theorem dX3_faultOfBroom_60 : decode cX3_faultOfBroom 60 = .ok (.ireturn, 1) := by decide +kernel
set_option maxRecDepth 20000 in
theorem ggX3_faultOfFall_X3_figureAt : GoodIn wsX3_faultOfFall wsX3_figureAt := goodIn_r _ [5, 6, 7, 8, 4, 9, 10, 11, 17, 18] (by decide +kernel) (by decide +kernel)
set_option maxRecDepth 20000 in
theorem gX3_faultOfFall_X3_figureAt : GoodIn wsX3_faultOfFall (wsV RX3 23 RX3 yX3_figureAt wsX3_figureAt) := goodIn_app (goodIn_of _ (by decide +kernel)) ggX3_faultOfFall_X3_figureAt
set_option maxRecDepth 20000 in
theorem ggX3_faultOfFall_X5_isStreet : GoodIn wsX3_faultOfFall wsX5_isStreet := goodIn_r _ [14] (by decide +kernel) (by decide +kernel)
set_option maxRecDepth 20000 in
theorem gX3_faultOfFall_X5_isStreet_n40 : GoodIn wsX3_faultOfFall (wsX5_isStreet) := ggX3_faultOfFall_X5_isStreet
set_option maxRecDepth 20000 in
theorem ggX3_faultOfFall_X5_within : GoodIn wsX3_faultOfFall wsX5_within := goodIn_r _ [16] (by decide +kernel) (by decide +kernel)
set_option maxRecDepth 20000 in
theorem gX3_faultOfFall_X5_within_n26 : GoodIn wsX3_faultOfFall (wsX5_within) := ggX3_faultOfFall_X5_within
theorem dX3_faultOfFall_0 : decode cX3_faultOfFall 0 = .ok (.aload_n 0, 1) := by decide +kernel
theorem dX3_faultOfFall_1 : decode cX3_faultOfFall 1 = .ok (.iload_n 1, 1) := by decide +kernel
theorem dX3_faultOfFall_2 : decode cX3_faultOfFall 2 = .ok (.iconst 1, 1) := by decide +kernel
theorem dX3_faultOfFall_3 : decode cX3_faultOfFall 3 = .ok (.iadd, 1) := by decide +kernel
theorem dX3_faultOfFall_4 : decode cX3_faultOfFall 4 = .ok (.invokevirtual 23, 3) := by decide +kernel
theorem dX3_faultOfFall_7 : decode cX3_faultOfFall 7 = .ok (.invokestatic 40, 3) := by decide +kernel
theorem dX3_faultOfFall_10 : decode cX3_faultOfFall 10 = .ok (.ifCond .ne 7, 3) := by decide +kernel
theorem dX3_faultOfFall_13 : decode cX3_faultOfFall 13 = .ok (.iload_n 1, 1) := by decide +kernel
theorem dX3_faultOfFall_14 : decode cX3_faultOfFall 14 = .ok (.iconst 1, 1) := by decide +kernel
theorem dX3_faultOfFall_15 : decode cX3_faultOfFall 15 = .ok (.iadd, 1) := by decide +kernel
theorem dX3_faultOfFall_16 : decode cX3_faultOfFall 16 = .ok (.ireturn, 1) := by decide +kernel
theorem dX3_faultOfFall_17 : decode cX3_faultOfFall 17 = .ok (.aload_n 0, 1) := by decide +kernel
theorem dX3_faultOfFall_18 : decode cX3_faultOfFall 18 = .ok (.iload_n 1, 1) := by decide +kernel
theorem dX3_faultOfFall_19 : decode cX3_faultOfFall 19 = .ok (.iconst 2, 1) := by decide +kernel
theorem dX3_faultOfFall_20 : decode cX3_faultOfFall 20 = .ok (.iadd, 1) := by decide +kernel
theorem dX3_faultOfFall_21 : decode cX3_faultOfFall 21 = .ok (.invokevirtual 23, 3) := by decide +kernel
theorem dX3_faultOfFall_24 : decode cX3_faultOfFall 24 = .ok (.iconst 0, 1) := by decide +kernel
theorem dX3_faultOfFall_25 : decode cX3_faultOfFall 25 = .ok (.bipush 9, 2) := by decide +kernel
theorem dX3_faultOfFall_27 : decode cX3_faultOfFall 27 = .ok (.invokestatic 26, 3) := by decide +kernel
theorem dX3_faultOfFall_30 : decode cX3_faultOfFall 30 = .ok (.ifCond .eq 8, 3) := by decide +kernel
theorem dX3_faultOfFall_33 : decode cX3_faultOfFall 33 = .ok (.bipush (-9), 2) := by decide +kernel
theorem dX3_faultOfFall_35 : decode cX3_faultOfFall 35 = .ok (.goto 6, 3) := by decide +kernel
theorem dX3_faultOfFall_38 : decode cX3_faultOfFall 38 = .ok (.iload_n 1, 1) := by decide +kernel
theorem dX3_faultOfFall_39 : decode cX3_faultOfFall 39 = .ok (.iconst 2, 1) := by decide +kernel
theorem dX3_faultOfFall_40 : decode cX3_faultOfFall 40 = .ok (.iadd, 1) := by decide +kernel
theorem dX3_faultOfFall_41 : decode cX3_faultOfFall 41 = .ok (.ireturn, 1) := by decide +kernel
theorem dX4_init_0 : decode cX4_init 0 = .ok (.aload_n 0, 1) := by decide +kernel
theorem dX4_init_1 : decode cX4_init 1 = .ok (.invokespecial 3, 3) := by decide +kernel
theorem dX4_init_4 : decode cX4_init 4 = .ok (.aload_n 0, 1) := by decide +kernel
theorem dX4_init_5 : decode cX4_init 5 = .ok (.bipush 8, 2) := by decide +kernel
theorem dX4_init_7 : decode cX4_init 7 = .ok (.newarray .int, 2) := by decide +kernel
theorem dX4_init_9 : decode cX4_init 9 = .ok (.putfield 9, 3) := by decide +kernel
theorem dX4_init_12 : decode cX4_init 12 = .ok (.aload_n 0, 1) := by decide +kernel
theorem dX4_init_13 : decode cX4_init 13 = .ok (.iconst 5, 1) := by decide +kernel
theorem dX4_init_14 : decode cX4_init 14 = .ok (.newarray .int, 2) := by decide +kernel
theorem dX4_init_16 : decode cX4_init 16 = .ok (.putfield 15, 3) := by decide +kernel
theorem dX4_init_19 : decode cX4_init 19 = .ok (.aload_n 0, 1) := by decide +kernel
theorem dX4_init_20 : decode cX4_init 20 = .ok (.iconst 5, 1) := by decide +kernel
theorem dX4_init_21 : decode cX4_init 21 = .ok (.newarray .int, 2) := by decide +kernel
theorem dX4_init_23 : decode cX4_init 23 = .ok (.putfield 18, 3) := by decide +kernel
theorem dX4_init_26 : decode cX4_init 26 = .ok (.aload_n 0, 1) := by decide +kernel
theorem dX4_init_27 : decode cX4_init 27 = .ok (.iconst 5, 1) := by decide +kernel
theorem dX4_init_28 : decode cX4_init 28 = .ok (.newarray .int, 2) := by decide +kernel
theorem dX4_init_30 : decode cX4_init 30 = .ok (.putfield 21, 3) := by decide +kernel
theorem dX4_init_33 : decode cX4_init 33 = .ok (.aload_n 0, 1) := by decide +kernel
theorem dX4_init_34 : decode cX4_init 34 = .ok (.iconst 5, 1) := by decide +kernel
theorem dX4_init_35 : decode cX4_init 35 = .ok (.newarray .int, 2) := by decide +kernel
theorem dX4_init_37 : decode cX4_init 37 = .ok (.putfield 24, 3) := by decide +kernel
theorem dX4_init_40 : decode cX4_init 40 = .ok (.aload_n 0, 1) := by decide +kernel
theorem dX4_init_41 : decode cX4_init 41 = .ok (.iconst 5, 1) := by decide +kernel
theorem dX4_init_42 : decode cX4_init 42 = .ok (.newarray .int, 2) := by decide +kernel
theorem dX4_init_44 : decode cX4_init 44 = .ok (.putfield 27, 3) := by decide +kernel
theorem dX4_init_47 : decode cX4_init 47 = .ok (.aload_n 0, 1) := by decide +kernel
theorem dX4_init_48 : decode cX4_init 48 = .ok (.iconst 0, 1) := by decide +kernel
theorem dX4_init_49 : decode cX4_init 49 = .ok (.putfield 30, 3) := by decide +kernel
theorem dX4_init_52 : decode cX4_init 52 = .ok (.aload_n 0, 1) := by decide +kernel
theorem dX4_init_53 : decode cX4_init 53 = .ok (.iconst 0, 1) := by decide +kernel
theorem dX4_init_54 : decode cX4_init 54 = .ok (.putfield 34, 3) := by decide +kernel
theorem dX4_init_57 : decode cX4_init 57 = .ok (.return_, 1) := by decide +kernel
theorem dX4_hasBroom_0 : decode cX4_hasBroom 0 = .ok (.iload_n 1, 1) := by decide +kernel
theorem dX4_hasBroom_1 : decode cX4_hasBroom 1 = .ok (.ifCond .lt 20, 3) := by decide +kernel
theorem dX4_hasBroom_4 : decode cX4_hasBroom 4 = .ok (.iload_n 1, 1) := by decide +kernel
theorem dX4_hasBroom_5 : decode cX4_hasBroom 5 = .ok (.aload_n 0, 1) := by decide +kernel
theorem dX4_hasBroom_6 : decode cX4_hasBroom 6 = .ok (.getfield 30, 3) := by decide +kernel
theorem dX4_hasBroom_9 : decode cX4_hasBroom 9 = .ok (.if_icmp .ge 12, 3) := by decide +kernel
theorem dX4_hasBroom_12 : decode cX4_hasBroom 12 = .ok (.iload_n 1, 1) := by decide +kernel
theorem dX4_hasBroom_13 : decode cX4_hasBroom 13 = .ok (.iconst 5, 1) := by decide +kernel
theorem dX4_hasBroom_14 : decode cX4_hasBroom 14 = .ok (.if_icmp .ge 7, 3) := by decide +kernel
theorem dX4_hasBroom_17 : decode cX4_hasBroom 17 = .ok (.iconst 1, 1) := by decide +kernel
theorem dX4_hasBroom_18 : decode cX4_hasBroom 18 = .ok (.goto 4, 3) := by decide +kernel
theorem dX4_hasBroom_21 : decode cX4_hasBroom 21 = .ok (.iconst 0, 1) := by decide +kernel
theorem dX4_hasBroom_22 : decode cX4_hasBroom 22 = .ok (.ireturn, 1) := by decide +kernel
theorem dX4_strengthOf_0 : decode cX4_strengthOf 0 = .ok (.iload_n 1, 1) := by decide +kernel
theorem dX4_strengthOf_1 : decode cX4_strengthOf 1 = .ok (.ifCond .lt 17, 3) := by decide +kernel
theorem dX4_strengthOf_4 : decode cX4_strengthOf 4 = .ok (.iload_n 1, 1) := by decide +kernel
theorem dX4_strengthOf_5 : decode cX4_strengthOf 5 = .ok (.iconst 5, 1) := by decide +kernel
theorem dX4_strengthOf_6 : decode cX4_strengthOf 6 = .ok (.if_icmp .ge 12, 3) := by decide +kernel
theorem dX4_strengthOf_9 : decode cX4_strengthOf 9 = .ok (.aload_n 0, 1) := by decide +kernel
theorem dX4_strengthOf_10 : decode cX4_strengthOf 10 = .ok (.getfield 18, 3) := by decide +kernel
theorem dX4_strengthOf_13 : decode cX4_strengthOf 13 = .ok (.iload_n 1, 1) := by decide +kernel
theorem dX4_strengthOf_14 : decode cX4_strengthOf 14 = .ok (.iaload, 1) := by decide +kernel
theorem dX4_strengthOf_15 : decode cX4_strengthOf 15 = .ok (.goto 4, 3) := by decide +kernel
theorem dX4_strengthOf_18 : decode cX4_strengthOf 18 = .ok (.iconst 0, 1) := by decide +kernel
theorem dX4_strengthOf_19 : decode cX4_strengthOf 19 = .ok (.ireturn, 1) := by decide +kernel
theorem dX4_kindOf_0 : decode cX4_kindOf 0 = .ok (.iload_n 1, 1) := by decide +kernel
theorem dX4_kindOf_1 : decode cX4_kindOf 1 = .ok (.ifCond .lt 17, 3) := by decide +kernel
theorem dX4_kindOf_4 : decode cX4_kindOf 4 = .ok (.iload_n 1, 1) := by decide +kernel
theorem dX4_kindOf_5 : decode cX4_kindOf 5 = .ok (.iconst 5, 1) := by decide +kernel
theorem dX4_kindOf_6 : decode cX4_kindOf 6 = .ok (.if_icmp .ge 12, 3) := by decide +kernel
theorem dX4_kindOf_9 : decode cX4_kindOf 9 = .ok (.aload_n 0, 1) := by decide +kernel
theorem dX4_kindOf_10 : decode cX4_kindOf 10 = .ok (.getfield 21, 3) := by decide +kernel
theorem dX4_kindOf_13 : decode cX4_kindOf 13 = .ok (.iload_n 1, 1) := by decide +kernel
theorem dX4_kindOf_14 : decode cX4_kindOf 14 = .ok (.iaload, 1) := by decide +kernel
theorem dX4_kindOf_15 : decode cX4_kindOf 15 = .ok (.goto 4, 3) := by decide +kernel
theorem dX4_kindOf_18 : decode cX4_kindOf 18 = .ok (.iconst 0, 1) := by decide +kernel
theorem dX4_kindOf_19 : decode cX4_kindOf 19 = .ok (.ireturn, 1) := by decide +kernel
set_option maxRecDepth 20000 in
theorem ggX4_read_X3_figureAt : GoodIn wsX4_read wsX3_figureAt := goodIn_r _ [8, 9, 10, 11, 7, 12, 13, 14, 38, 39] (by decide +kernel) (by decide +kernel)
set_option maxRecDepth 20000 in
theorem gX4_read_X3_figureAt : GoodIn wsX4_read (wsV RX4 37 RX3 yX3_figureAt wsX3_figureAt) := goodIn_app (goodIn_of _ (by decide +kernel)) ggX4_read_X3_figureAt
set_option maxRecDepth 20000 in
theorem ggX4_read_X3_letterAt : GoodIn wsX4_read wsX3_letterAt := goodIn_r _ [12, 13, 14, 38, 39] (by decide +kernel) (by decide +kernel)
set_option maxRecDepth 20000 in
theorem gX4_read_X3_letterAt : GoodIn wsX4_read (wsV RX4 46 RX3 yX3_letterAt wsX3_letterAt) := goodIn_app (goodIn_of _ (by decide +kernel)) ggX4_read_X3_letterAt
set_option maxRecDepth 20000 in
theorem ggX4_read_X4_addBroom : GoodIn wsX4_read wsX4_addBroom := goodIn_r _ [20, 2, 21, 22, 23, 4, 5, 6, 7, 8, 9, 10, 11, 12, 13, 14, 30, 31, 32, 33, 34, 35, 36, 37, 38, 39] (by decide +kernel) (by decide +kernel)
set_option maxRecDepth 20000 in
theorem gX4_read_X4_addBroom : GoodIn wsX4_read (wsV RX4 49 RX4 yX4_addBroom wsX4_addBroom) := goodIn_app (goodIn_of _ (by decide +kernel)) ggX4_read_X4_addBroom
set_option maxRecDepth 20000 in
theorem ggX4_read_X4_addFall : GoodIn wsX4_read wsX4_addFall := goodIn_r _ [27, 3, 28, 29, 4, 5, 6, 7, 8, 9, 10, 11, 12, 13, 14, 30, 31, 32, 33, 34, 35, 36, 37, 38, 39] (by decide +kernel) (by decide +kernel)
set_option maxRecDepth 20000 in
theorem gX4_read_X4_addFall : GoodIn wsX4_read (wsV RX4 53 RX4 yX4_addFall wsX4_addFall) := goodIn_app (goodIn_of _ (by decide +kernel)) ggX4_read_X4_addFall
theorem dX4_read_0 : decode cX4_read 0 = .ok (.iconst 0, 1) := by decide +kernel
theorem dX4_read_1 : decode cX4_read 1 = .ok (.istore_n 2, 1) := by decide +kernel
theorem dX4_read_2 : decode cX4_read 2 = .ok (.iload_n 2, 1) := by decide +kernel
theorem dX4_read_3 : decode cX4_read 3 = .ok (.bipush 8, 2) := by decide +kernel
theorem dX4_read_5 : decode cX4_read 5 = .ok (.if_icmp .ge 22, 3) := by decide +kernel
theorem dX4_read_8 : decode cX4_read 8 = .ok (.aload_n 0, 1) := by decide +kernel
theorem dX4_read_9 : decode cX4_read 9 = .ok (.getfield 9, 3) := by decide +kernel
theorem dX4_read_12 : decode cX4_read 12 = .ok (.iload_n 2, 1) := by decide +kernel
theorem dX4_read_13 : decode cX4_read 13 = .ok (.aload_n 1, 1) := by decide +kernel
theorem dX4_read_14 : decode cX4_read 14 = .ok (.iconst 1, 1) := by decide +kernel
theorem dX4_read_15 : decode cX4_read 15 = .ok (.iload_n 2, 1) := by decide +kernel
theorem dX4_read_16 : decode cX4_read 16 = .ok (.iadd, 1) := by decide +kernel
theorem dX4_read_17 : decode cX4_read 17 = .ok (.invokevirtual 37, 3) := by decide +kernel
theorem dX4_read_20 : decode cX4_read 20 = .ok (.iastore, 1) := by decide +kernel
theorem dX4_read_21 : decode cX4_read 21 = .ok (.iinc 2 1, 3) := by decide +kernel
theorem dX4_read_24 : decode cX4_read 24 = .ok (.goto (-22), 3) := by decide +kernel
theorem dX4_read_27 : decode cX4_read 27 = .ok (.aload_n 0, 1) := by decide +kernel
theorem dX4_read_28 : decode cX4_read 28 = .ok (.iconst 0, 1) := by decide +kernel
theorem dX4_read_29 : decode cX4_read 29 = .ok (.putfield 30, 3) := by decide +kernel
theorem dX4_read_32 : decode cX4_read 32 = .ok (.aload_n 0, 1) := by decide +kernel
theorem dX4_read_33 : decode cX4_read 33 = .ok (.iconst 0, 1) := by decide +kernel
theorem dX4_read_34 : decode cX4_read 34 = .ok (.putfield 34, 3) := by decide +kernel
theorem dX4_read_37 : decode cX4_read 37 = .ok (.iconst 0, 1) := by decide +kernel
theorem dX4_read_38 : decode cX4_read 38 = .ok (.istore_n 2, 1) := by decide +kernel
theorem dX4_read_39 : decode cX4_read 39 = .ok (.bipush 9, 2) := by decide +kernel
theorem dX4_read_41 : decode cX4_read 41 = .ok (.istore_n 3, 1) := by decide +kernel
theorem dX4_read_42 : decode cX4_read 42 = .ok (.iload_n 3, 1) := by decide +kernel
theorem dX4_read_43 : decode cX4_read 43 = .ok (.aload_n 1, 1) := by decide +kernel
theorem dX4_read_44 : decode cX4_read 44 = .ok (.getfield 43, 3) := by decide +kernel
theorem dX4_read_47 : decode cX4_read 47 = .ok (.if_icmp .ge 39, 3) := by decide +kernel
theorem dX4_read_50 : decode cX4_read 50 = .ok (.aload_n 1, 1) := by decide +kernel
theorem dX4_read_51 : decode cX4_read 51 = .ok (.iload_n 3, 1) := by decide +kernel
theorem dX4_read_52 : decode cX4_read 52 = .ok (.invokevirtual 46, 3) := by decide +kernel
theorem dX4_read_55 : decode cX4_read 55 = .ok (.bipush 78, 2) := by decide +kernel
theorem dX4_read_57 : decode cX4_read 57 = .ok (.if_icmp .ne 14, 3) := by decide +kernel
theorem dX4_read_60 : decode cX4_read 60 = .ok (.aload_n 0, 1) := by decide +kernel
theorem dX4_read_61 : decode cX4_read 61 = .ok (.aload_n 1, 1) := by decide +kernel
theorem dX4_read_62 : decode cX4_read 62 = .ok (.iload_n 3, 1) := by decide +kernel
theorem dX4_read_63 : decode cX4_read 63 = .ok (.invokevirtual 49, 3) := by decide +kernel
theorem dX4_read_66 : decode cX4_read 66 = .ok (.iconst 4, 1) := by decide +kernel
theorem dX4_read_67 : decode cX4_read 67 = .ok (.istore_n 2, 1) := by decide +kernel
theorem dX4_read_68 : decode cX4_read 68 = .ok (.goto 11, 3) := by decide +kernel
theorem dX4_read_71 : decode cX4_read 71 = .ok (.aload_n 0, 1) := by decide +kernel
theorem dX4_read_72 : decode cX4_read 72 = .ok (.aload_n 1, 1) := by decide +kernel
theorem dX4_read_73 : decode cX4_read 73 = .ok (.iload_n 3, 1) := by decide +kernel
theorem dX4_read_74 : decode cX4_read 74 = .ok (.invokevirtual 53, 3) := by decide +kernel
theorem dX4_read_77 : decode cX4_read 77 = .ok (.iconst 3, 1) := by decide +kernel
theorem dX4_read_78 : decode cX4_read 78 = .ok (.istore_n 2, 1) := by decide +kernel
theorem dX4_read_79 : decode cX4_read 79 = .ok (.iload_n 3, 1) := by decide +kernel
theorem dX4_read_80 : decode cX4_read 80 = .ok (.iload_n 2, 1) := by decide +kernel
theorem dX4_read_81 : decode cX4_read 81 = .ok (.iadd, 1) := by decide +kernel
theorem dX4_read_82 : decode cX4_read 82 = .ok (.istore_n 3, 1) := by decide +kernel
theorem dX4_read_83 : decode cX4_read 83 = .ok (.goto (-41), 3) := by decide +kernel
theorem dX4_read_86 : decode cX4_read 86 = .ok (.return_, 1) := by decide +kernel
set_option maxRecDepth 20000 in
theorem ggX4_addBroom_X3_figureAt : GoodIn wsX4_addBroom wsX3_figureAt := goodIn_r _ [9, 10, 11, 12, 8, 13, 14, 15, 24, 25] (by decide +kernel) (by decide +kernel)
set_option maxRecDepth 20000 in
theorem gX4_addBroom_X3_figureAt : GoodIn wsX4_addBroom (wsV RX4 37 RX3 yX3_figureAt wsX3_figureAt) := goodIn_app (goodIn_of _ (by decide +kernel)) ggX4_addBroom_X3_figureAt
theorem dX4_addBroom_0 : decode cX4_addBroom 0 = .ok (.aload_n 0, 1) := by decide +kernel
theorem dX4_addBroom_1 : decode cX4_addBroom 1 = .ok (.getfield 30, 3) := by decide +kernel
theorem dX4_addBroom_4 : decode cX4_addBroom 4 = .ok (.iconst 5, 1) := by decide +kernel
theorem dX4_addBroom_5 : decode cX4_addBroom 5 = .ok (.if_icmp .ge 61, 3) := by decide +kernel
theorem dX4_addBroom_8 : decode cX4_addBroom 8 = .ok (.aload_n 0, 1) := by decide +kernel
theorem dX4_addBroom_9 : decode cX4_addBroom 9 = .ok (.getfield 15, 3) := by decide +kernel
theorem dX4_addBroom_12 : decode cX4_addBroom 12 = .ok (.aload_n 0, 1) := by decide +kernel
theorem dX4_addBroom_13 : decode cX4_addBroom 13 = .ok (.getfield 30, 3) := by decide +kernel
theorem dX4_addBroom_16 : decode cX4_addBroom 16 = .ok (.aload_n 1, 1) := by decide +kernel
theorem dX4_addBroom_17 : decode cX4_addBroom 17 = .ok (.iload_n 2, 1) := by decide +kernel
theorem dX4_addBroom_18 : decode cX4_addBroom 18 = .ok (.iconst 1, 1) := by decide +kernel
theorem dX4_addBroom_19 : decode cX4_addBroom 19 = .ok (.iadd, 1) := by decide +kernel
theorem dX4_addBroom_20 : decode cX4_addBroom 20 = .ok (.invokevirtual 37, 3) := by decide +kernel
theorem dX4_addBroom_23 : decode cX4_addBroom 23 = .ok (.iastore, 1) := by decide +kernel
theorem dX4_addBroom_24 : decode cX4_addBroom 24 = .ok (.aload_n 0, 1) := by decide +kernel
theorem dX4_addBroom_25 : decode cX4_addBroom 25 = .ok (.getfield 18, 3) := by decide +kernel
theorem dX4_addBroom_28 : decode cX4_addBroom 28 = .ok (.aload_n 0, 1) := by decide +kernel
theorem dX4_addBroom_29 : decode cX4_addBroom 29 = .ok (.getfield 30, 3) := by decide +kernel
theorem dX4_addBroom_32 : decode cX4_addBroom 32 = .ok (.aload_n 1, 1) := by decide +kernel
theorem dX4_addBroom_33 : decode cX4_addBroom 33 = .ok (.iload_n 2, 1) := by decide +kernel
theorem dX4_addBroom_34 : decode cX4_addBroom 34 = .ok (.iconst 2, 1) := by decide +kernel
theorem dX4_addBroom_35 : decode cX4_addBroom 35 = .ok (.iadd, 1) := by decide +kernel
theorem dX4_addBroom_36 : decode cX4_addBroom 36 = .ok (.invokevirtual 37, 3) := by decide +kernel
theorem dX4_addBroom_39 : decode cX4_addBroom 39 = .ok (.iastore, 1) := by decide +kernel
theorem dX4_addBroom_40 : decode cX4_addBroom 40 = .ok (.aload_n 0, 1) := by decide +kernel
theorem dX4_addBroom_41 : decode cX4_addBroom 41 = .ok (.getfield 21, 3) := by decide +kernel
theorem dX4_addBroom_44 : decode cX4_addBroom 44 = .ok (.aload_n 0, 1) := by decide +kernel
theorem dX4_addBroom_45 : decode cX4_addBroom 45 = .ok (.getfield 30, 3) := by decide +kernel
theorem dX4_addBroom_48 : decode cX4_addBroom 48 = .ok (.aload_n 1, 1) := by decide +kernel
theorem dX4_addBroom_49 : decode cX4_addBroom 49 = .ok (.iload_n 2, 1) := by decide +kernel
theorem dX4_addBroom_50 : decode cX4_addBroom 50 = .ok (.iconst 3, 1) := by decide +kernel
theorem dX4_addBroom_51 : decode cX4_addBroom 51 = .ok (.iadd, 1) := by decide +kernel
theorem dX4_addBroom_52 : decode cX4_addBroom 52 = .ok (.invokevirtual 37, 3) := by decide +kernel
theorem dX4_addBroom_55 : decode cX4_addBroom 55 = .ok (.iastore, 1) := by decide +kernel
theorem dX4_addBroom_56 : decode cX4_addBroom 56 = .ok (.aload_n 0, 1) := by decide +kernel
theorem dX4_addBroom_57 : decode cX4_addBroom 57 = .ok (.dup, 1) := by decide +kernel
theorem dX4_addBroom_58 : decode cX4_addBroom 58 = .ok (.getfield 30, 3) := by decide +kernel
theorem dX4_addBroom_61 : decode cX4_addBroom 61 = .ok (.iconst 1, 1) := by decide +kernel
theorem dX4_addBroom_62 : decode cX4_addBroom 62 = .ok (.iadd, 1) := by decide +kernel
theorem dX4_addBroom_63 : decode cX4_addBroom 63 = .ok (.putfield 30, 3) := by decide +kernel
theorem dX4_addBroom_66 : decode cX4_addBroom 66 = .ok (.return_, 1) := by decide +kernel
set_option maxRecDepth 20000 in
theorem ggX4_addFall_X3_figureAt : GoodIn wsX4_addFall wsX3_figureAt := goodIn_r _ [8, 9, 10, 11, 7, 12, 13, 14, 23, 24] (by decide +kernel) (by decide +kernel)
set_option maxRecDepth 20000 in
theorem gX4_addFall_X3_figureAt : GoodIn wsX4_addFall (wsV RX4 37 RX3 yX3_figureAt wsX3_figureAt) := goodIn_app (goodIn_of _ (by decide +kernel)) ggX4_addFall_X3_figureAt
theorem dX4_addFall_0 : decode cX4_addFall 0 = .ok (.aload_n 0, 1) := by decide +kernel
theorem dX4_addFall_1 : decode cX4_addFall 1 = .ok (.getfield 34, 3) := by decide +kernel
theorem dX4_addFall_4 : decode cX4_addFall 4 = .ok (.iconst 5, 1) := by decide +kernel
theorem dX4_addFall_5 : decode cX4_addFall 5 = .ok (.if_icmp .ge 45, 3) := by decide +kernel
theorem dX4_addFall_8 : decode cX4_addFall 8 = .ok (.aload_n 0, 1) := by decide +kernel
theorem dX4_addFall_9 : decode cX4_addFall 9 = .ok (.getfield 24, 3) := by decide +kernel
theorem dX4_addFall_12 : decode cX4_addFall 12 = .ok (.aload_n 0, 1) := by decide +kernel
theorem dX4_addFall_13 : decode cX4_addFall 13 = .ok (.getfield 34, 3) := by decide +kernel
theorem dX4_addFall_16 : decode cX4_addFall 16 = .ok (.aload_n 1, 1) := by decide +kernel
theorem dX4_addFall_17 : decode cX4_addFall 17 = .ok (.iload_n 2, 1) := by decide +kernel
theorem dX4_addFall_18 : decode cX4_addFall 18 = .ok (.iconst 1, 1) := by decide +kernel
theorem dX4_addFall_19 : decode cX4_addFall 19 = .ok (.iadd, 1) := by decide +kernel
theorem dX4_addFall_20 : decode cX4_addFall 20 = .ok (.invokevirtual 37, 3) := by decide +kernel
theorem dX4_addFall_23 : decode cX4_addFall 23 = .ok (.iastore, 1) := by decide +kernel
theorem dX4_addFall_24 : decode cX4_addFall 24 = .ok (.aload_n 0, 1) := by decide +kernel
theorem dX4_addFall_25 : decode cX4_addFall 25 = .ok (.getfield 27, 3) := by decide +kernel
theorem dX4_addFall_28 : decode cX4_addFall 28 = .ok (.aload_n 0, 1) := by decide +kernel
theorem dX4_addFall_29 : decode cX4_addFall 29 = .ok (.getfield 34, 3) := by decide +kernel
theorem dX4_addFall_32 : decode cX4_addFall 32 = .ok (.aload_n 1, 1) := by decide +kernel
theorem dX4_addFall_33 : decode cX4_addFall 33 = .ok (.iload_n 2, 1) := by decide +kernel
theorem dX4_addFall_34 : decode cX4_addFall 34 = .ok (.iconst 2, 1) := by decide +kernel
theorem dX4_addFall_35 : decode cX4_addFall 35 = .ok (.iadd, 1) := by decide +kernel
theorem dX4_addFall_36 : decode cX4_addFall 36 = .ok (.invokevirtual 37, 3) := by decide +kernel
theorem dX4_addFall_39 : decode cX4_addFall 39 = .ok (.iastore, 1) := by decide +kernel
theorem dX4_addFall_40 : decode cX4_addFall 40 = .ok (.aload_n 0, 1) := by decide +kernel
theorem dX4_addFall_41 : decode cX4_addFall 41 = .ok (.dup, 1) := by decide +kernel
theorem dX4_addFall_42 : decode cX4_addFall 42 = .ok (.getfield 34, 3) := by decide +kernel
theorem dX4_addFall_45 : decode cX4_addFall 45 = .ok (.iconst 1, 1) := by decide +kernel
theorem dX4_addFall_46 : decode cX4_addFall 46 = .ok (.iadd, 1) := by decide +kernel
theorem dX4_addFall_47 : decode cX4_addFall 47 = .ok (.putfield 34, 3) := by decide +kernel
theorem dX4_addFall_50 : decode cX4_addFall 50 = .ok (.return_, 1) := by decide +kernel
set_option maxRecDepth 20000 in
theorem ggX5_init_X3_init : GoodIn wsX5_init wsX3_init := goodIn_r _ [31, 32, 2, 3, 25, 33, 34, 70, 71] (by decide +kernel) (by decide +kernel)
set_option maxRecDepth 20000 in
theorem gX5_init_X3_init_n11 : GoodIn wsX5_init (wsX3_init) := ggX5_init_X3_init
set_option maxRecDepth 20000 in
theorem ggX5_init_X4_init : GoodIn wsX5_init wsX4_init := goodIn_r _ [36, 37, 2, 3, 25, 38, 39, 40, 41, 42, 43, 44, 45, 81, 82, 83, 84, 85, 86, 87, 88] (by decide +kernel) (by decide +kernel)
set_option maxRecDepth 20000 in
theorem gX5_init_X4_init_n18 : GoodIn wsX5_init (wsX4_init) := ggX5_init_X4_init
set_option maxRecDepth 20000 in
theorem ggX5_init_X2_init : GoodIn wsX5_init wsX2_init := goodIn_r _ [48, 49, 2, 3, 25, 50, 51, 27, 52, 53, 54, 55, 56, 89, 90, 91, 92, 93, 94, 95] (by decide +kernel) (by decide +kernel)
set_option maxRecDepth 20000 in
theorem gX5_init_X2_init : GoodIn wsX5_init (wsX2_init) := ggX5_init_X2_init
set_option maxRecDepth 20000 in
theorem ggX5_init_X0_init : GoodIn wsX5_init wsX0_init := goodIn_r _ [58, 59, 2, 3, 25, 60, 61, 62, 96, 97, 98] (by decide +kernel) (by decide +kernel)
set_option maxRecDepth 20000 in
theorem gX5_init_X0_init_n37 : GoodIn wsX5_init (wsX0_init) := ggX5_init_X0_init
set_option maxRecDepth 20000 in
theorem ggX5_init_X1_init : GoodIn wsX5_init wsX1_init := goodIn_r _ [64, 65, 2, 3, 25, 66, 67, 68, 69, 99, 100, 101, 102] (by decide +kernel) (by decide +kernel)
set_option maxRecDepth 20000 in
theorem gX5_init_X1_init_n44 : GoodIn wsX5_init (wsX1_init) := ggX5_init_X1_init
theorem dX5_init_0 : decode cX5_init 0 = .ok (.aload_n 0, 1) := by decide +kernel
theorem dX5_init_1 : decode cX5_init 1 = .ok (.invokespecial 3, 3) := by decide +kernel
theorem dX5_init_4 : decode cX5_init 4 = .ok (.aload_n 0, 1) := by decide +kernel
theorem dX5_init_5 : decode cX5_init 5 = .ok (.new 9, 3) := by decide +kernel
theorem dX5_init_8 : decode cX5_init 8 = .ok (.dup, 1) := by decide +kernel
theorem dX5_init_9 : decode cX5_init 9 = .ok (.invokespecial 11, 3) := by decide +kernel
theorem dX5_init_12 : decode cX5_init 12 = .ok (.putfield 12, 3) := by decide +kernel
theorem dX5_init_15 : decode cX5_init 15 = .ok (.aload_n 0, 1) := by decide +kernel
theorem dX5_init_16 : decode cX5_init 16 = .ok (.new 16, 3) := by decide +kernel
theorem dX5_init_19 : decode cX5_init 19 = .ok (.dup, 1) := by decide +kernel
theorem dX5_init_20 : decode cX5_init 20 = .ok (.invokespecial 18, 3) := by decide +kernel
theorem dX5_init_23 : decode cX5_init 23 = .ok (.putfield 19, 3) := by decide +kernel
theorem dX5_init_26 : decode cX5_init 26 = .ok (.aload_n 0, 1) := by decide +kernel
theorem dX5_init_27 : decode cX5_init 27 = .ok (.new 23, 3) := by decide +kernel
theorem dX5_init_30 : decode cX5_init 30 = .ok (.dup, 1) := by decide +kernel
theorem dX5_init_31 : decode cX5_init 31 = .ok (.aload_n 0, 1) := by decide +kernel
theorem dX5_init_32 : decode cX5_init 32 = .ok (.getfield 19, 3) := by decide +kernel
theorem dX5_init_35 : decode cX5_init 35 = .ok (.invokespecial 25, 3) := by decide +kernel
theorem dX5_init_38 : decode cX5_init 38 = .ok (.putfield 28, 3) := by decide +kernel
theorem dX5_init_41 : decode cX5_init 41 = .ok (.aload_n 0, 1) := by decide +kernel
theorem dX5_init_42 : decode cX5_init 42 = .ok (.new 23, 3) := by decide +kernel
theorem dX5_init_45 : decode cX5_init 45 = .ok (.dup, 1) := by decide +kernel
theorem dX5_init_46 : decode cX5_init 46 = .ok (.aload_n 0, 1) := by decide +kernel
theorem dX5_init_47 : decode cX5_init 47 = .ok (.getfield 19, 3) := by decide +kernel
theorem dX5_init_50 : decode cX5_init 50 = .ok (.invokespecial 25, 3) := by decide +kernel
theorem dX5_init_53 : decode cX5_init 53 = .ok (.putfield 32, 3) := by decide +kernel
theorem dX5_init_56 : decode cX5_init 56 = .ok (.aload_n 0, 1) := by decide +kernel
theorem dX5_init_57 : decode cX5_init 57 = .ok (.new 35, 3) := by decide +kernel
theorem dX5_init_60 : decode cX5_init 60 = .ok (.dup, 1) := by decide +kernel
theorem dX5_init_61 : decode cX5_init 61 = .ok (.invokespecial 37, 3) := by decide +kernel
theorem dX5_init_64 : decode cX5_init 64 = .ok (.putfield 38, 3) := by decide +kernel
theorem dX5_init_67 : decode cX5_init 67 = .ok (.aload_n 0, 1) := by decide +kernel
theorem dX5_init_68 : decode cX5_init 68 = .ok (.new 42, 3) := by decide +kernel
theorem dX5_init_71 : decode cX5_init 71 = .ok (.dup, 1) := by decide +kernel
theorem dX5_init_72 : decode cX5_init 72 = .ok (.invokespecial 44, 3) := by decide +kernel
theorem dX5_init_75 : decode cX5_init 75 = .ok (.putfield 45, 3) := by decide +kernel
theorem dX5_init_78 : decode cX5_init 78 = .ok (.aload_n 0, 1) := by decide +kernel
theorem dX5_init_79 : decode cX5_init 79 = .ok (.bipush 32, 2) := by decide +kernel
theorem dX5_init_81 : decode cX5_init 81 = .ok (.newarray .int, 2) := by decide +kernel
theorem dX5_init_83 : decode cX5_init 83 = .ok (.putfield 49, 3) := by decide +kernel
theorem dX5_init_86 : decode cX5_init 86 = .ok (.aload_n 0, 1) := by decide +kernel
theorem dX5_init_87 : decode cX5_init 87 = .ok (.iconst 2, 1) := by decide +kernel
theorem dX5_init_88 : decode cX5_init 88 = .ok (.newarray .boolean, 2) := by decide +kernel
theorem dX5_init_90 : decode cX5_init 90 = .ok (.putfield 53, 3) := by decide +kernel
theorem dX5_init_93 : decode cX5_init 93 = .ok (.aload_n 0, 1) := by decide +kernel
theorem dX5_init_94 : decode cX5_init 94 = .ok (.lconst 0, 1) := by decide +kernel
theorem dX5_init_95 : decode cX5_init 95 = .ok (.putfield 57, 3) := by decide +kernel
theorem dX5_init_98 : decode cX5_init 98 = .ok (.return_, 1) := by decide +kernel
set_option maxRecDepth 20000 in
theorem ggX5_write_X5_within : GoodIn wsX5_write wsX5_within := goodIn_r _ [5] (by decide +kernel) (by decide +kernel)
set_option maxRecDepth 20000 in
theorem gX5_write_X5_within : GoodIn wsX5_write (va_wsS RX5 61 yX5_within wsX5_within) := goodIn_app (goodIn_of _ (by decide +kernel)) ggX5_write_X5_within
set_option maxRecDepth 20000 in
theorem ggX5_write_X3_add : GoodIn wsX5_write wsX3_add := goodIn_r _ [10, 11, 12, 22, 23] (by decide +kernel) (by decide +kernel)
set_option maxRecDepth 20000 in
theorem gX5_write_X3_add : GoodIn wsX5_write (wsV RX5 69 RX3 yX3_add wsX3_add) := goodIn_app (goodIn_of _ (by decide +kernel)) ggX5_write_X3_add
theorem dX5_write_0 : decode cX5_write 0 = .ok (.iload_n 1, 1) := by decide +kernel
theorem dX5_write_1 : decode cX5_write 1 = .ok (.iconst 0, 1) := by decide +kernel
theorem dX5_write_2 : decode cX5_write 2 = .ok (.sipush 255, 3) := by decide +kernel
theorem dX5_write_5 : decode cX5_write 5 = .ok (.invokestatic 61, 3) := by decide +kernel
theorem dX5_write_8 : decode cX5_write 8 = .ok (.ifCond .ne 6, 3) := by decide +kernel
theorem dX5_write_11 : decode cX5_write 11 = .ok (.bipush (-2), 2) := by decide +kernel
theorem dX5_write_13 : decode cX5_write 13 = .ok (.ireturn, 1) := by decide +kernel
theorem dX5_write_14 : decode cX5_write 14 = .ok (.aload_n 0, 1) := by decide +kernel
theorem dX5_write_15 : decode cX5_write 15 = .ok (.getfield 12, 3) := by decide +kernel
theorem dX5_write_18 : decode cX5_write 18 = .ok (.getfield 65, 3) := by decide +kernel
theorem dX5_write_21 : decode cX5_write 21 = .ok (.bipush 48, 2) := by decide +kernel
theorem dX5_write_23 : decode cX5_write 23 = .ok (.if_icmp .lt 6, 3) := by decide +kernel
theorem dX5_write_26 : decode cX5_write 26 = .ok (.bipush (-4), 2) := by decide +kernel
theorem dX5_write_28 : decode cX5_write 28 = .ok (.ireturn, 1) := by decide +kernel
theorem dX5_write_29 : decode cX5_write 29 = .ok (.aload_n 0, 1) := by decide +kernel
theorem dX5_write_30 : decode cX5_write 30 = .ok (.getfield 12, 3) := by decide +kernel
theorem dX5_write_33 : decode cX5_write 33 = .ok (.iload_n 1, 1) := by decide +kernel
theorem dX5_write_34 : decode cX5_write 34 = .ok (.invokevirtual 69, 3) := by decide +kernel
theorem dX5_write_37 : decode cX5_write 37 = .ok (.aload_n 0, 1) := by decide +kernel
theorem dX5_write_38 : decode cX5_write 38 = .ok (.getfield 12, 3) := by decide +kernel
theorem dX5_write_41 : decode cX5_write 41 = .ok (.getfield 65, 3) := by decide +kernel
theorem dX5_write_44 : decode cX5_write 44 = .ok (.ireturn, 1) := by decide +kernel
theorem dX5_wipe_0 : decode cX5_wipe 0 = .ok (.aload_n 0, 1) := by decide +kernel
theorem dX5_wipe_1 : decode cX5_wipe 1 = .ok (.getfield 12, 3) := by decide +kernel
theorem dX5_wipe_4 : decode cX5_wipe 4 = .ok (.getfield 65, 3) := by decide +kernel
theorem dX5_wipe_7 : decode cX5_wipe 7 = .ok (.istore_n 1, 1) := by decide +kernel
theorem dX5_wipe_8 : decode cX5_wipe 8 = .ok (.aload_n 0, 1) := by decide +kernel
theorem dX5_wipe_9 : decode cX5_wipe 9 = .ok (.getfield 12, 3) := by decide +kernel
theorem dX5_wipe_12 : decode cX5_wipe 12 = .ok (.iconst 0, 1) := by decide +kernel
theorem dX5_wipe_13 : decode cX5_wipe 13 = .ok (.putfield 65, 3) := by decide +kernel
theorem dX5_wipe_16 : decode cX5_wipe 16 = .ok (.iload_n 1, 1) := by decide +kernel
theorem dX5_wipe_17 : decode cX5_wipe 17 = .ok (.ireturn, 1) := by decide +kernel
set_option maxRecDepth 20000 in
theorem ggX5_fault_X3_firstFault : GoodIn wsX5_fault wsX3_firstFault := goodIn_r _ [6, 7, 8, 9, 5, 10, 11, 12, 13, 14, 15, 16, 17, 18, 19, 20, 21, 22, 23, 24, 25, 26, 27, 28, 29, 30, 31, 32, 33, 43, 44] (by decide +kernel) (by decide +kernel)
set_option maxRecDepth 20000 in
theorem gX5_fault_X3_firstFault : GoodIn wsX5_fault (wsV RX5 73 RX3 yX3_firstFault wsX3_firstFault) := goodIn_app (goodIn_of _ (by decide +kernel)) ggX5_fault_X3_firstFault
theorem dX5_fault_0 : decode cX5_fault 0 = .ok (.aload_n 0, 1) := by decide +kernel
theorem dX5_fault_1 : decode cX5_fault 1 = .ok (.getfield 12, 3) := by decide +kernel
theorem dX5_fault_4 : decode cX5_fault 4 = .ok (.invokevirtual 73, 3) := by decide +kernel
theorem dX5_fault_7 : decode cX5_fault 7 = .ok (.ireturn, 1) := by decide +kernel
set_option maxRecDepth 20000 in
theorem ggX5_city_X3_firstFault : GoodIn wsX5_city wsX3_firstFault := goodIn_r _ [10, 11, 12, 13, 9, 14, 15, 16, 17, 18, 19, 20, 21, 22, 23, 24, 25, 26, 27, 28, 29, 30, 31, 32, 33, 34, 35, 36, 37, 100, 101] (by decide +kernel) (by decide +kernel)
set_option maxRecDepth 20000 in
theorem gX5_city_X3_firstFault : GoodIn wsX5_city (wsV RX5 73 RX3 yX3_firstFault wsX3_firstFault) := goodIn_app (goodIn_of _ (by decide +kernel)) ggX5_city_X3_firstFault
set_option maxRecDepth 20000 in
theorem ggX5_city_X4_read : GoodIn wsX5_city wsX4_read := goodIn_r _ [42, 43, 44, 45, 46, 18, 19, 9, 20, 11, 12, 13, 14, 15, 16, 47, 48, 49, 50, 41, 51, 52, 53, 54, 55, 56, 57, 58, 59, 60, 92, 93, 94, 95, 96, 97, 98, 99, 100, 101] (by decide +kernel) (by decide +kernel)
set_option maxRecDepth 20000 in
theorem gX5_city_X4_read : GoodIn wsX5_city (wsV RX5 77 RX4 yX4_read wsX4_read) := goodIn_app (goodIn_of _ (by decide +kernel)) ggX5_city_X4_read
set_option maxRecDepth 20000 in
theorem ggX5_city_X2_begin : GoodIn wsX5_city wsX2_begin := goodIn_r _ [65, 66, 67, 68, 69, 70, 71, 72, 73, 74, 75, 102, 103, 104, 105, 106, 107, 108, 92, 93, 94, 95, 96, 97, 98, 99] (by decide +kernel) (by decide +kernel)
set_option maxRecDepth 20000 in
theorem gX5_city_X2_begin : GoodIn wsX5_city (wsV RX5 81 RX2 yX2_begin wsX2_begin) := goodIn_app (goodIn_of _ (by decide +kernel)) ggX5_city_X2_begin
set_option maxRecDepth 20000 in
theorem ggX5_city_X0_clear : GoodIn wsX5_city wsX0_clear := goodIn_r _ [80, 81, 82, 109, 110, 111] (by decide +kernel) (by decide +kernel)
set_option maxRecDepth 20000 in
theorem gX5_city_X0_clear : GoodIn wsX5_city (wsV RX5 84 RX0 yX0_clear wsX0_clear) := goodIn_app (goodIn_of _ (by decide +kernel)) ggX5_city_X0_clear
theorem dX5_city_0 : decode cX5_city 0 = .ok (.aload_n 0, 1) := by decide +kernel
theorem dX5_city_1 : decode cX5_city 1 = .ok (.getfield 12, 3) := by decide +kernel
theorem dX5_city_4 : decode cX5_city 4 = .ok (.invokevirtual 73, 3) := by decide +kernel
theorem dX5_city_7 : decode cX5_city 7 = .ok (.bipush (-9), 2) := by decide +kernel
theorem dX5_city_9 : decode cX5_city 9 = .ok (.if_icmp .eq 6, 3) := by decide +kernel
theorem dX5_city_12 : decode cX5_city 12 = .ok (.bipush (-3), 2) := by decide +kernel
theorem dX5_city_14 : decode cX5_city 14 = .ok (.ireturn, 1) := by decide +kernel
theorem dX5_city_15 : decode cX5_city 15 = .ok (.aload_n 0, 1) := by decide +kernel
theorem dX5_city_16 : decode cX5_city 16 = .ok (.getfield 19, 3) := by decide +kernel
theorem dX5_city_19 : decode cX5_city 19 = .ok (.aload_n 0, 1) := by decide +kernel
theorem dX5_city_20 : decode cX5_city 20 = .ok (.getfield 12, 3) := by decide +kernel
theorem dX5_city_23 : decode cX5_city 23 = .ok (.invokevirtual 77, 3) := by decide +kernel
theorem dX5_city_26 : decode cX5_city 26 = .ok (.aload_n 0, 1) := by decide +kernel
theorem dX5_city_27 : decode cX5_city 27 = .ok (.getfield 28, 3) := by decide +kernel
theorem dX5_city_30 : decode cX5_city 30 = .ok (.invokevirtual 81, 3) := by decide +kernel
theorem dX5_city_33 : decode cX5_city 33 = .ok (.aload_n 0, 1) := by decide +kernel
theorem dX5_city_34 : decode cX5_city 34 = .ok (.getfield 38, 3) := by decide +kernel
theorem dX5_city_37 : decode cX5_city 37 = .ok (.invokevirtual 84, 3) := by decide +kernel
theorem dX5_city_40 : decode cX5_city 40 = .ok (.iconst 0, 1) := by decide +kernel
theorem dX5_city_41 : decode cX5_city 41 = .ok (.istore_n 1, 1) := by decide +kernel
theorem dX5_city_42 : decode cX5_city 42 = .ok (.iload_n 1, 1) := by decide +kernel
theorem dX5_city_43 : decode cX5_city 43 = .ok (.iconst 2, 1) := by decide +kernel
theorem dX5_city_44 : decode cX5_city 44 = .ok (.if_icmp .ge 16, 3) := by decide +kernel
theorem dX5_city_47 : decode cX5_city 47 = .ok (.aload_n 0, 1) := by decide +kernel
theorem dX5_city_48 : decode cX5_city 48 = .ok (.getfield 53, 3) := by decide +kernel
theorem dX5_city_51 : decode cX5_city 51 = .ok (.iload_n 1, 1) := by decide +kernel
theorem dX5_city_52 : decode cX5_city 52 = .ok (.iconst 0, 1) := by decide +kernel
theorem dX5_city_53 : decode cX5_city 53 = .ok (.bastore, 1) := by decide +kernel
theorem dX5_city_54 : decode cX5_city 54 = .ok (.iinc 1 1, 3) := by decide +kernel
theorem dX5_city_57 : decode cX5_city 57 = .ok (.goto (-15), 3) := by decide +kernel
theorem dX5_city_60 : decode cX5_city 60 = .ok (.bipush 10, 2) := by decide +kernel
theorem dX5_city_62 : decode cX5_city 62 = .ok (.aload_n 0, 1) := by decide +kernel
theorem dX5_city_63 : decode cX5_city 63 = .ok (.getfield 19, 3) := by decide +kernel
theorem dX5_city_66 : decode cX5_city 66 = .ok (.getfield 87, 3) := by decide +kernel
theorem dX5_city_69 : decode cX5_city 69 = .ok (.imul, 1) := by decide +kernel
theorem dX5_city_70 : decode cX5_city 70 = .ok (.aload_n 0, 1) := by decide +kernel
theorem dX5_city_71 : decode cX5_city 71 = .ok (.getfield 19, 3) := by decide +kernel
theorem dX5_city_74 : decode cX5_city 74 = .ok (.getfield 90, 3) := by decide +kernel
theorem dX5_city_77 : decode cX5_city 77 = .ok (.iadd, 1) := by decide +kernel
theorem dX5_city_78 : decode cX5_city 78 = .ok (.ireturn, 1) := by decide +kernel
set_option maxRecDepth 20000 in
theorem ggX5_street_X5_isStreet : GoodIn wsX5_street wsX5_isStreet := goodIn_r _ [5] (by decide +kernel) (by decide +kernel)
set_option maxRecDepth 20000 in
theorem gX5_street_X5_isStreet : GoodIn wsX5_street (va_wsS RX5 93 yX5_isStreet wsX5_isStreet) := goodIn_app (goodIn_of _ (by decide +kernel)) ggX5_street_X5_isStreet
set_option maxRecDepth 20000 in
theorem ggX5_street_X2_dustIn : GoodIn wsX5_street wsX2_dustIn := goodIn_r _ [10, 11, 3, 4, 5, 42, 43, 44, 45, 46, 47, 48] (by decide +kernel) (by decide +kernel)
set_option maxRecDepth 20000 in
theorem gX5_street_X2_dustIn : GoodIn wsX5_street (wsV RX5 97 RX2 yX2_dustIn wsX2_dustIn) := goodIn_app (goodIn_of _ (by decide +kernel)) ggX5_street_X2_dustIn
set_option maxRecDepth 20000 in
theorem ggX5_street_X2_isDeep : GoodIn wsX5_street wsX2_isDeep := goodIn_r _ [15, 16, 7, 8, 9, 10, 11, 3, 4, 5, 42, 43, 44, 45, 46, 47, 48] (by decide +kernel) (by decide +kernel)
set_option maxRecDepth 20000 in
theorem gX5_street_X2_isDeep : GoodIn wsX5_street (wsV RX5 101 RX2 yX2_isDeep wsX2_isDeep) := goodIn_app (goodIn_of _ (by decide +kernel)) ggX5_street_X2_isDeep
set_option maxRecDepth 20000 in
theorem ggX5_street_X2_broomsIn : GoodIn wsX5_street wsX2_broomsIn := goodIn_r _ [20, 21, 22, 23, 24, 9, 25, 26, 27, 28, 29, 30, 31, 32, 42, 43, 44, 45, 46, 47, 48, 49, 50, 51, 52, 53, 54, 55, 56] (by decide +kernel) (by decide +kernel)
set_option maxRecDepth 20000 in
theorem gX5_street_X2_broomsIn : GoodIn wsX5_street (wsV RX5 104 RX2 yX2_broomsIn wsX2_broomsIn) := goodIn_app (goodIn_of _ (by decide +kernel)) ggX5_street_X2_broomsIn
theorem dX5_street_0 : decode cX5_street 0 = .ok (.iload_n 1, 1) := by decide +kernel
theorem dX5_street_1 : decode cX5_street 1 = .ok (.invokestatic 93, 3) := by decide +kernel
theorem dX5_street_4 : decode cX5_street 4 = .ok (.ifCond .ne 5, 3) := by decide +kernel
theorem dX5_street_7 : decode cX5_street 7 = .ok (.iconst (-1), 1) := by decide +kernel
theorem dX5_street_8 : decode cX5_street 8 = .ok (.ireturn, 1) := by decide +kernel
theorem dX5_street_9 : decode cX5_street 9 = .ok (.iload_n 2, 1) := by decide +kernel
theorem dX5_street_10 : decode cX5_street 10 = .ok (.tableswitch 61 0 2 #[26, 35, 52], 26) := by decide +kernel
theorem dX5_street_36 : decode cX5_street 36 = .ok (.aload_n 0, 1) := by decide +kernel
theorem dX5_street_37 : decode cX5_street 37 = .ok (.getfield 28, 3) := by decide +kernel
theorem dX5_street_40 : decode cX5_street 40 = .ok (.iload_n 1, 1) := by decide +kernel
theorem dX5_street_41 : decode cX5_street 41 = .ok (.invokevirtual 97, 3) := by decide +kernel
theorem dX5_street_44 : decode cX5_street 44 = .ok (.ireturn, 1) := by decide +kernel
theorem dX5_street_45 : decode cX5_street 45 = .ok (.aload_n 0, 1) := by decide +kernel
theorem dX5_street_46 : decode cX5_street 46 = .ok (.getfield 28, 3) := by decide +kernel
theorem dX5_street_49 : decode cX5_street 49 = .ok (.iload_n 1, 1) := by decide +kernel
theorem dX5_street_50 : decode cX5_street 50 = .ok (.invokevirtual 101, 3) := by decide +kernel
theorem dX5_street_53 : decode cX5_street 53 = .ok (.ifCond .eq 7, 3) := by decide +kernel
theorem dX5_street_56 : decode cX5_street 56 = .ok (.iconst 1, 1) := by decide +kernel
theorem dX5_street_57 : decode cX5_street 57 = .ok (.goto 4, 3) := by decide +kernel
theorem dX5_street_60 : decode cX5_street 60 = .ok (.iconst 0, 1) := by decide +kernel
theorem dX5_street_61 : decode cX5_street 61 = .ok (.ireturn, 1) := by decide +kernel
theorem dX5_street_62 : decode cX5_street 62 = .ok (.aload_n 0, 1) := by decide +kernel
theorem dX5_street_63 : decode cX5_street 63 = .ok (.getfield 28, 3) := by decide +kernel
theorem dX5_street_66 : decode cX5_street 66 = .ok (.iload_n 1, 1) := by decide +kernel
theorem dX5_street_67 : decode cX5_street 67 = .ok (.invokevirtual 104, 3) := by decide +kernel
theorem dX5_street_70 : decode cX5_street 70 = .ok (.ireturn, 1) := by decide +kernel
theorem dX5_street_71 : decode cX5_street 71 = .ok (.bipush (-2), 2) := by decide +kernel
theorem dX5_street_73 : decode cX5_street 73 = .ok (.ireturn, 1) := by decide +kernel
set_option maxRecDepth 20000 in
theorem ggX5_broom_X4_hasBroom : GoodIn wsX5_broom wsX4_hasBroom := goodIn_r _ [7, 8, 48, 49, 50, 51, 52, 53, 54, 55] (by decide +kernel) (by decide +kernel)
set_option maxRecDepth 20000 in
theorem gX5_broom_X4_hasBroom : GoodIn wsX5_broom (wsV RX5 107 RX4 yX4_hasBroom wsX4_hasBroom) := goodIn_app (goodIn_of _ (by decide +kernel)) ggX5_broom_X4_hasBroom
set_option maxRecDepth 20000 in
theorem ggX5_broom_X2_placeOf : GoodIn wsX5_broom wsX2_placeOf := goodIn_r _ [13, 14, 15, 16, 4, 5, 6, 7, 8, 56, 57, 58, 59, 60, 61, 62, 48, 49, 50, 51, 52, 53, 54, 55] (by decide +kernel) (by decide +kernel)
set_option maxRecDepth 20000 in
theorem gX5_broom_X2_placeOf : GoodIn wsX5_broom (wsV RX5 110 RX2 yX2_placeOf wsX2_placeOf) := goodIn_app (goodIn_of _ (by decide +kernel)) ggX5_broom_X2_placeOf
set_option maxRecDepth 20000 in
theorem ggX5_broom_X4_strengthOf : GoodIn wsX5_broom wsX4_strengthOf := goodIn_r _ [20, 21, 48, 49, 50, 51, 52, 53, 54, 55] (by decide +kernel) (by decide +kernel)
set_option maxRecDepth 20000 in
theorem gX5_broom_X4_strengthOf : GoodIn wsX5_broom (wsV RX5 113 RX4 yX4_strengthOf wsX4_strengthOf) := goodIn_app (goodIn_of _ (by decide +kernel)) ggX5_broom_X4_strengthOf
set_option maxRecDepth 20000 in
theorem ggX5_broom_X4_kindOf : GoodIn wsX5_broom wsX4_kindOf := goodIn_r _ [25, 26, 48, 49, 50, 51, 52, 53, 54, 55] (by decide +kernel) (by decide +kernel)
set_option maxRecDepth 20000 in
theorem gX5_broom_X4_kindOf : GoodIn wsX5_broom (wsV RX5 116 RX4 yX4_kindOf wsX4_kindOf) := goodIn_app (goodIn_of _ (by decide +kernel)) ggX5_broom_X4_kindOf
set_option maxRecDepth 20000 in
theorem ggX5_broom_X2_isBent : GoodIn wsX5_broom wsX2_isBent := goodIn_r _ [30, 31, 56, 57, 58, 59, 60, 61, 62] (by decide +kernel) (by decide +kernel)
set_option maxRecDepth 20000 in
theorem gX5_broom_X2_isBent : GoodIn wsX5_broom (wsV RX5 119 RX2 yX2_isBent wsX2_isBent) := goodIn_app (goodIn_of _ (by decide +kernel)) ggX5_broom_X2_isBent
set_option maxRecDepth 20000 in
theorem ggX5_broom_X2_worksAs : GoodIn wsX5_broom wsX2_worksAs := goodIn_r _ [35, 14, 36, 37, 23, 24, 6, 25, 26, 38, 28, 29, 12, 30, 31, 56, 57, 58, 59, 60, 61, 62, 48, 49, 50, 51, 52, 53, 54, 55] (by decide +kernel) (by decide +kernel)
set_option maxRecDepth 20000 in
theorem gX5_broom_X2_worksAs : GoodIn wsX5_broom (wsV RX5 122 RX2 yX2_worksAs wsX2_worksAs) := goodIn_app (goodIn_of _ (by decide +kernel)) ggX5_broom_X2_worksAs
theorem dX5_broom_0 : decode cX5_broom 0 = .ok (.aload_n 0, 1) := by decide +kernel
theorem dX5_broom_1 : decode cX5_broom 1 = .ok (.getfield 19, 3) := by decide +kernel
theorem dX5_broom_4 : decode cX5_broom 4 = .ok (.iload_n 1, 1) := by decide +kernel
theorem dX5_broom_5 : decode cX5_broom 5 = .ok (.invokevirtual 107, 3) := by decide +kernel
theorem dX5_broom_8 : decode cX5_broom 8 = .ok (.ifCond .ne 5, 3) := by decide +kernel
theorem dX5_broom_11 : decode cX5_broom 11 = .ok (.iconst (-1), 1) := by decide +kernel
theorem dX5_broom_12 : decode cX5_broom 12 = .ok (.ireturn, 1) := by decide +kernel
theorem dX5_broom_13 : decode cX5_broom 13 = .ok (.iload_n 2, 1) := by decide +kernel
theorem dX5_broom_14 : decode cX5_broom 14 = .ok (.tableswitch 87 0 4 #[34, 43, 52, 61, 78], 34) := by decide +kernel
theorem dX5_broom_48 : decode cX5_broom 48 = .ok (.aload_n 0, 1) := by decide +kernel
theorem dX5_broom_49 : decode cX5_broom 49 = .ok (.getfield 28, 3) := by decide +kernel
theorem dX5_broom_52 : decode cX5_broom 52 = .ok (.iload_n 1, 1) := by decide +kernel
theorem dX5_broom_53 : decode cX5_broom 53 = .ok (.invokevirtual 110, 3) := by decide +kernel
theorem dX5_broom_56 : decode cX5_broom 56 = .ok (.ireturn, 1) := by decide +kernel
theorem dX5_broom_57 : decode cX5_broom 57 = .ok (.aload_n 0, 1) := by decide +kernel
theorem dX5_broom_58 : decode cX5_broom 58 = .ok (.getfield 19, 3) := by decide +kernel
theorem dX5_broom_61 : decode cX5_broom 61 = .ok (.iload_n 1, 1) := by decide +kernel
theorem dX5_broom_62 : decode cX5_broom 62 = .ok (.invokevirtual 113, 3) := by decide +kernel
theorem dX5_broom_65 : decode cX5_broom 65 = .ok (.ireturn, 1) := by decide +kernel
theorem dX5_broom_66 : decode cX5_broom 66 = .ok (.aload_n 0, 1) := by decide +kernel
theorem dX5_broom_67 : decode cX5_broom 67 = .ok (.getfield 19, 3) := by decide +kernel
theorem dX5_broom_70 : decode cX5_broom 70 = .ok (.iload_n 1, 1) := by decide +kernel
theorem dX5_broom_71 : decode cX5_broom 71 = .ok (.invokevirtual 116, 3) := by decide +kernel
theorem dX5_broom_74 : decode cX5_broom 74 = .ok (.ireturn, 1) := by decide +kernel
theorem dX5_broom_75 : decode cX5_broom 75 = .ok (.aload_n 0, 1) := by decide +kernel
theorem dX5_broom_76 : decode cX5_broom 76 = .ok (.getfield 28, 3) := by decide +kernel
theorem dX5_broom_79 : decode cX5_broom 79 = .ok (.iload_n 1, 1) := by decide +kernel
theorem dX5_broom_80 : decode cX5_broom 80 = .ok (.invokevirtual 119, 3) := by decide +kernel
theorem dX5_broom_83 : decode cX5_broom 83 = .ok (.ifCond .eq 7, 3) := by decide +kernel
theorem dX5_broom_86 : decode cX5_broom 86 = .ok (.iconst 1, 1) := by decide +kernel
theorem dX5_broom_87 : decode cX5_broom 87 = .ok (.goto 4, 3) := by decide +kernel
theorem dX5_broom_90 : decode cX5_broom 90 = .ok (.iconst 0, 1) := by decide +kernel
theorem dX5_broom_91 : decode cX5_broom 91 = .ok (.ireturn, 1) := by decide +kernel
theorem dX5_broom_92 : decode cX5_broom 92 = .ok (.aload_n 0, 1) := by decide +kernel
theorem dX5_broom_93 : decode cX5_broom 93 = .ok (.getfield 28, 3) := by decide +kernel
theorem dX5_broom_96 : decode cX5_broom 96 = .ok (.iload_n 1, 1) := by decide +kernel
theorem dX5_broom_97 : decode cX5_broom 97 = .ok (.invokevirtual 122, 3) := by decide +kernel
theorem dX5_broom_100 : decode cX5_broom 100 = .ok (.ireturn, 1) := by decide +kernel
theorem dX5_broom_101 : decode cX5_broom 101 = .ok (.bipush (-2), 2) := by decide +kernel
theorem dX5_broom_103 : decode cX5_broom 103 = .ok (.ireturn, 1) := by decide +kernel
set_option maxRecDepth 20000 in
theorem ggX5_dawn_X0_push : GoodIn wsX5_dawn wsX0_push := goodIn_r _ [7, 8, 9, 10, 11, 12, 6, 13, 14, 15, 16, 17, 18, 19, 20, 21, 22, 23, 24, 25, 26, 27, 108, 109, 110, 111, 112, 113, 114, 115, 116, 117] (by decide +kernel) (by decide +kernel)
set_option maxRecDepth 20000 in
theorem gX5_dawn_X0_push : GoodIn wsX5_dawn (wsV RX5 125 RX0 yX0_push wsX0_push) := goodIn_app (goodIn_of _ (by decide +kernel)) ggX5_dawn_X0_push
set_option maxRecDepth 20000 in
theorem ggX5_dawn_X2_passDawn : GoodIn wsX5_dawn wsX2_passDawn := goodIn_r _ [31, 32, 27, 33, 34, 35, 17, 36, 37, 38, 39, 40, 19, 41, 42, 43, 44, 45, 46, 47, 48, 49, 50, 51, 52, 53, 54, 55, 24, 56, 57, 58, 59, 60, 61, 62, 63, 64, 65, 66, 67, 68, 69, 70, 25, 71, 72, 73, 74, 75, 76, 77, 78, 79, 26, 80, 81, 82, 83, 84, 85, 86, 87, 88, 89, 90, 91, 92, 93, 94, 111, 112, 113, 114, 115, 116, 117, 118, 119, 120, 121, 122, 123, 124, 125] (by decide +kernel) (by decide +kernel)
set_option maxRecDepth 20000 in
theorem gX5_dawn_X2_passDawn : GoodIn wsX5_dawn (wsV RX5 129 RX2 yX2_passDawn wsX2_passDawn) := goodIn_app (goodIn_of _ (by decide +kernel)) ggX5_dawn_X2_passDawn
set_option maxRecDepth 20000 in
theorem ggX5_dawn_X2_allDust : GoodIn wsX5_dawn wsX2_allDust := goodIn_r _ [98, 19, 111, 112, 113, 114, 115, 116, 117] (by decide +kernel) (by decide +kernel)
set_option maxRecDepth 20000 in
theorem gX5_dawn_X2_allDust : GoodIn wsX5_dawn (wsV RX5 133 RX2 yX2_allDust wsX2_allDust) := goodIn_app (goodIn_of _ (by decide +kernel)) ggX5_dawn_X2_allDust
theorem dX5_dawn_0 : decode cX5_dawn 0 = .ok (.aload_n 0, 1) := by decide +kernel
theorem dX5_dawn_1 : decode cX5_dawn 1 = .ok (.getfield 38, 3) := by decide +kernel
theorem dX5_dawn_4 : decode cX5_dawn 4 = .ok (.aload_n 0, 1) := by decide +kernel
theorem dX5_dawn_5 : decode cX5_dawn 5 = .ok (.getfield 28, 3) := by decide +kernel
theorem dX5_dawn_8 : decode cX5_dawn 8 = .ok (.invokevirtual 125, 3) := by decide +kernel
theorem dX5_dawn_11 : decode cX5_dawn 11 = .ok (.aload_n 0, 1) := by decide +kernel
theorem dX5_dawn_12 : decode cX5_dawn 12 = .ok (.getfield 28, 3) := by decide +kernel
theorem dX5_dawn_15 : decode cX5_dawn 15 = .ok (.bipush 31, 2) := by decide +kernel
theorem dX5_dawn_17 : decode cX5_dawn 17 = .ok (.iconst 1, 1) := by decide +kernel
theorem dX5_dawn_18 : decode cX5_dawn 18 = .ok (.invokevirtual 129, 3) := by decide +kernel
theorem dX5_dawn_21 : decode cX5_dawn 21 = .ok (.aload_n 0, 1) := by decide +kernel
theorem dX5_dawn_22 : decode cX5_dawn 22 = .ok (.getfield 28, 3) := by decide +kernel
theorem dX5_dawn_25 : decode cX5_dawn 25 = .ok (.invokevirtual 133, 3) := by decide +kernel
theorem dX5_dawn_28 : decode cX5_dawn 28 = .ok (.ireturn, 1) := by decide +kernel
set_option maxRecDepth 20000 in
theorem ggX5_walk_X4_hasBroom : GoodIn wsX5_walk wsX4_hasBroom := goodIn_r _ [8, 9, 69, 70, 71, 72, 73, 74, 75, 76] (by decide +kernel) (by decide +kernel)
set_option maxRecDepth 20000 in
theorem gX5_walk_X4_hasBroom : GoodIn wsX5_walk (wsV RX5 107 RX4 yX4_hasBroom wsX4_hasBroom) := goodIn_app (goodIn_of _ (by decide +kernel)) ggX5_walk_X4_hasBroom
set_option maxRecDepth 20000 in
theorem ggX5_walk_X5_within : GoodIn wsX5_walk wsX5_within := goodIn_r _ [13] (by decide +kernel) (by decide +kernel)
set_option maxRecDepth 20000 in
theorem gX5_walk_X5_within : GoodIn wsX5_walk (va_wsS RX5 61 yX5_within wsX5_within) := goodIn_app (goodIn_of _ (by decide +kernel)) ggX5_walk_X5_within
set_option maxRecDepth 20000 in
theorem ggX5_walk_X0_push : GoodIn wsX5_walk wsX0_push := goodIn_r _ [18, 19, 20, 21, 22, 23, 17, 24, 25, 26, 27, 28, 29, 30, 31, 32, 33, 34, 35, 36, 37, 38, 77, 78, 79, 80, 81, 82, 83, 84, 85, 86] (by decide +kernel) (by decide +kernel)
set_option maxRecDepth 20000 in
theorem gX5_walk_X0_push : GoodIn wsX5_walk (wsV RX5 125 RX0 yX0_push wsX0_push) := goodIn_app (goodIn_of _ (by decide +kernel)) ggX5_walk_X0_push
set_option maxRecDepth 20000 in
theorem ggX5_walk_X2_step : GoodIn wsX5_walk wsX2_step := goodIn_r _ [42, 43, 44, 45, 28, 46, 47, 35, 48, 5, 6, 7, 8, 9, 49, 50, 51, 52, 53, 54, 55, 56, 57, 58, 80, 81, 82, 83, 84, 85, 86, 69, 70, 71, 72, 73, 74, 75, 76] (by decide +kernel) (by decide +kernel)
set_option maxRecDepth 20000 in
theorem gX5_walk_X2_step : GoodIn wsX5_walk (wsV RX5 136 RX2 yX2_step wsX2_step) := goodIn_app (goodIn_of _ (by decide +kernel)) ggX5_walk_X2_step
set_option maxRecDepth 20000 in
theorem ggX5_walk_X2_placeOf : GoodIn wsX5_walk wsX2_placeOf := goodIn_r _ [46, 47, 35, 48, 5, 6, 7, 8, 9, 80, 81, 82, 83, 84, 85, 86, 69, 70, 71, 72, 73, 74, 75, 76] (by decide +kernel) (by decide +kernel)
set_option maxRecDepth 20000 in
theorem gX5_walk_X2_placeOf : GoodIn wsX5_walk (wsV RX5 110 RX2 yX2_placeOf wsX2_placeOf) := goodIn_app (goodIn_of _ (by decide +kernel)) ggX5_walk_X2_placeOf
theorem dX5_walk_0 : decode cX5_walk 0 = .ok (.aload_n 0, 1) := by decide +kernel
theorem dX5_walk_1 : decode cX5_walk 1 = .ok (.getfield 19, 3) := by decide +kernel
theorem dX5_walk_4 : decode cX5_walk 4 = .ok (.iload_n 1, 1) := by decide +kernel
theorem dX5_walk_5 : decode cX5_walk 5 = .ok (.invokevirtual 107, 3) := by decide +kernel
theorem dX5_walk_8 : decode cX5_walk 8 = .ok (.ifCond .ne 5, 3) := by decide +kernel
theorem dX5_walk_11 : decode cX5_walk 11 = .ok (.iconst (-1), 1) := by decide +kernel
theorem dX5_walk_12 : decode cX5_walk 12 = .ok (.ireturn, 1) := by decide +kernel
theorem dX5_walk_13 : decode cX5_walk 13 = .ok (.iload_n 2, 1) := by decide +kernel
theorem dX5_walk_14 : decode cX5_walk 14 = .ok (.iconst 0, 1) := by decide +kernel
theorem dX5_walk_15 : decode cX5_walk 15 = .ok (.iconst 1, 1) := by decide +kernel
theorem dX5_walk_16 : decode cX5_walk 16 = .ok (.invokestatic 61, 3) := by decide +kernel
theorem dX5_walk_19 : decode cX5_walk 19 = .ok (.ifCond .ne 6, 3) := by decide +kernel
theorem dX5_walk_22 : decode cX5_walk 22 = .ok (.bipush (-2), 2) := by decide +kernel
theorem dX5_walk_24 : decode cX5_walk 24 = .ok (.ireturn, 1) := by decide +kernel
theorem dX5_walk_25 : decode cX5_walk 25 = .ok (.aload_n 0, 1) := by decide +kernel
theorem dX5_walk_26 : decode cX5_walk 26 = .ok (.getfield 38, 3) := by decide +kernel
theorem dX5_walk_29 : decode cX5_walk 29 = .ok (.aload_n 0, 1) := by decide +kernel
theorem dX5_walk_30 : decode cX5_walk 30 = .ok (.getfield 28, 3) := by decide +kernel
theorem dX5_walk_33 : decode cX5_walk 33 = .ok (.invokevirtual 125, 3) := by decide +kernel
theorem dX5_walk_36 : decode cX5_walk 36 = .ok (.aload_n 0, 1) := by decide +kernel
theorem dX5_walk_37 : decode cX5_walk 37 = .ok (.getfield 28, 3) := by decide +kernel
theorem dX5_walk_40 : decode cX5_walk 40 = .ok (.iload_n 1, 1) := by decide +kernel
theorem dX5_walk_41 : decode cX5_walk 41 = .ok (.iload_n 2, 1) := by decide +kernel
theorem dX5_walk_42 : decode cX5_walk 42 = .ok (.invokevirtual 136, 3) := by decide +kernel
theorem dX5_walk_45 : decode cX5_walk 45 = .ok (.aload_n 0, 1) := by decide +kernel
theorem dX5_walk_46 : decode cX5_walk 46 = .ok (.getfield 28, 3) := by decide +kernel
theorem dX5_walk_49 : decode cX5_walk 49 = .ok (.iload_n 1, 1) := by decide +kernel
theorem dX5_walk_50 : decode cX5_walk 50 = .ok (.invokevirtual 110, 3) := by decide +kernel
theorem dX5_walk_53 : decode cX5_walk 53 = .ok (.ireturn, 1) := by decide +kernel
set_option maxRecDepth 20000 in
theorem ggX5_vote_X0_push : GoodIn wsX5_vote wsX0_push := goodIn_r _ [7, 8, 9, 10, 11, 12, 6, 13, 14, 15, 16, 17, 18, 19, 20, 21, 22, 23, 24, 25, 26, 27, 48, 49, 50, 41, 42, 43, 44, 45, 46, 47] (by decide +kernel) (by decide +kernel)
set_option maxRecDepth 20000 in
theorem gX5_vote_X0_push : GoodIn wsX5_vote (wsV RX5 125 RX0 yX0_push wsX0_push) := goodIn_app (goodIn_of _ (by decide +kernel)) ggX5_vote_X0_push
set_option maxRecDepth 20000 in
theorem ggX5_vote_X2_turnVote : GoodIn wsX5_vote wsX2_turnVote := goodIn_r _ [31, 25, 41, 42, 43, 44, 45, 46, 47] (by decide +kernel) (by decide +kernel)
set_option maxRecDepth 20000 in
theorem gX5_vote_X2_turnVote : GoodIn wsX5_vote (wsV RX5 139 RX2 yX2_turnVote wsX2_turnVote) := goodIn_app (goodIn_of _ (by decide +kernel)) ggX5_vote_X2_turnVote
theorem dX5_vote_0 : decode cX5_vote 0 = .ok (.aload_n 0, 1) := by decide +kernel
theorem dX5_vote_1 : decode cX5_vote 1 = .ok (.getfield 38, 3) := by decide +kernel
theorem dX5_vote_4 : decode cX5_vote 4 = .ok (.aload_n 0, 1) := by decide +kernel
theorem dX5_vote_5 : decode cX5_vote 5 = .ok (.getfield 28, 3) := by decide +kernel
theorem dX5_vote_8 : decode cX5_vote 8 = .ok (.invokevirtual 125, 3) := by decide +kernel
theorem dX5_vote_11 : decode cX5_vote 11 = .ok (.aload_n 0, 1) := by decide +kernel
theorem dX5_vote_12 : decode cX5_vote 12 = .ok (.getfield 28, 3) := by decide +kernel
theorem dX5_vote_15 : decode cX5_vote 15 = .ok (.invokevirtual 139, 3) := by decide +kernel
theorem dX5_vote_18 : decode cX5_vote 18 = .ok (.aload_n 0, 1) := by decide +kernel
theorem dX5_vote_19 : decode cX5_vote 19 = .ok (.getfield 28, 3) := by decide +kernel
theorem dX5_vote_22 : decode cX5_vote 22 = .ok (.getfield 142, 3) := by decide +kernel
theorem dX5_vote_25 : decode cX5_vote 25 = .ok (.ifCond .eq 7, 3) := by decide +kernel
theorem dX5_vote_28 : decode cX5_vote 28 = .ok (.iconst 1, 1) := by decide +kernel
theorem dX5_vote_29 : decode cX5_vote 29 = .ok (.goto 4, 3) := by decide +kernel
theorem dX5_vote_32 : decode cX5_vote 32 = .ok (.iconst 0, 1) := by decide +kernel
theorem dX5_vote_33 : decode cX5_vote 33 = .ok (.ireturn, 1) := by decide +kernel
set_option maxRecDepth 20000 in
theorem ggX5_bend_X4_hasBroom : GoodIn wsX5_bend wsX4_hasBroom := goodIn_r _ [8, 9, 66, 67, 68, 69, 70, 71, 72, 73] (by decide +kernel) (by decide +kernel)
set_option maxRecDepth 20000 in
theorem gX5_bend_X4_hasBroom : GoodIn wsX5_bend (wsV RX5 107 RX4 yX4_hasBroom wsX4_hasBroom) := goodIn_app (goodIn_of _ (by decide +kernel)) ggX5_bend_X4_hasBroom
set_option maxRecDepth 20000 in
theorem ggX5_bend_X2_isBent : GoodIn wsX5_bend wsX2_isBent := goodIn_r _ [14, 15, 59, 60, 61, 62, 63, 64, 65] (by decide +kernel) (by decide +kernel)
set_option maxRecDepth 20000 in
theorem gX5_bend_X2_isBent : GoodIn wsX5_bend (wsV RX5 119 RX2 yX2_isBent wsX2_isBent) := goodIn_app (goodIn_of _ (by decide +kernel)) ggX5_bend_X2_isBent
set_option maxRecDepth 20000 in
theorem ggX5_bend_X0_push : GoodIn wsX5_bend wsX0_push := goodIn_r _ [20, 21, 22, 23, 24, 25, 19, 26, 27, 28, 29, 13, 30, 31, 32, 33, 34, 35, 36, 37, 15, 38, 74, 75, 76, 59, 60, 61, 62, 63, 64, 65] (by decide +kernel) (by decide +kernel)
set_option maxRecDepth 20000 in
theorem gX5_bend_X0_push : GoodIn wsX5_bend (wsV RX5 125 RX0 yX0_push wsX0_push) := goodIn_app (goodIn_of _ (by decide +kernel)) ggX5_bend_X0_push
set_option maxRecDepth 20000 in
theorem ggX5_bend_X2_bow : GoodIn wsX5_bend wsX2_bow := goodIn_r _ [42, 15, 59, 60, 61, 62, 63, 64, 65] (by decide +kernel) (by decide +kernel)
set_option maxRecDepth 20000 in
theorem gX5_bend_X2_bow : GoodIn wsX5_bend (wsV RX5 146 RX2 yX2_bow wsX2_bow) := goodIn_app (goodIn_of _ (by decide +kernel)) ggX5_bend_X2_bow
set_option maxRecDepth 20000 in
theorem ggX5_bend_J6_bitCount_0f7a4 : GoodIn wsX5_bend wsJ6_bitCount_0f7a4 := goodIn_r _ [46, 47, 48, 49] (by decide +kernel) (by decide +kernel)
set_option maxRecDepth 20000 in
theorem gX5_bend_J6_bitCount_0f7a4 : GoodIn wsX5_bend (va_wsS RX5 152 yJ6_bitCount_0f7a4 wsJ6_bitCount_0f7a4) := goodIn_app (goodIn_of _ (by decide +kernel)) ggX5_bend_J6_bitCount_0f7a4
theorem dX5_bend_0 : decode cX5_bend 0 = .ok (.aload_n 0, 1) := by decide +kernel
theorem dX5_bend_1 : decode cX5_bend 1 = .ok (.getfield 19, 3) := by decide +kernel
theorem dX5_bend_4 : decode cX5_bend 4 = .ok (.iload_n 1, 1) := by decide +kernel
theorem dX5_bend_5 : decode cX5_bend 5 = .ok (.invokevirtual 107, 3) := by decide +kernel
theorem dX5_bend_8 : decode cX5_bend 8 = .ok (.ifCond .ne 5, 3) := by decide +kernel
theorem dX5_bend_11 : decode cX5_bend 11 = .ok (.iconst (-1), 1) := by decide +kernel
theorem dX5_bend_12 : decode cX5_bend 12 = .ok (.ireturn, 1) := by decide +kernel
theorem dX5_bend_13 : decode cX5_bend 13 = .ok (.aload_n 0, 1) := by decide +kernel
theorem dX5_bend_14 : decode cX5_bend 14 = .ok (.getfield 28, 3) := by decide +kernel
theorem dX5_bend_17 : decode cX5_bend 17 = .ok (.iload_n 1, 1) := by decide +kernel
theorem dX5_bend_18 : decode cX5_bend 18 = .ok (.invokevirtual 119, 3) := by decide +kernel
theorem dX5_bend_21 : decode cX5_bend 21 = .ok (.ifCond .eq 6, 3) := by decide +kernel
theorem dX5_bend_24 : decode cX5_bend 24 = .ok (.bipush (-3), 2) := by decide +kernel
theorem dX5_bend_26 : decode cX5_bend 26 = .ok (.ireturn, 1) := by decide +kernel
theorem dX5_bend_27 : decode cX5_bend 27 = .ok (.aload_n 0, 1) := by decide +kernel
theorem dX5_bend_28 : decode cX5_bend 28 = .ok (.getfield 38, 3) := by decide +kernel
theorem dX5_bend_31 : decode cX5_bend 31 = .ok (.aload_n 0, 1) := by decide +kernel
theorem dX5_bend_32 : decode cX5_bend 32 = .ok (.getfield 28, 3) := by decide +kernel
theorem dX5_bend_35 : decode cX5_bend 35 = .ok (.invokevirtual 125, 3) := by decide +kernel
theorem dX5_bend_38 : decode cX5_bend 38 = .ok (.aload_n 0, 1) := by decide +kernel
theorem dX5_bend_39 : decode cX5_bend 39 = .ok (.getfield 28, 3) := by decide +kernel
theorem dX5_bend_42 : decode cX5_bend 42 = .ok (.iconst 1, 1) := by decide +kernel
theorem dX5_bend_43 : decode cX5_bend 43 = .ok (.iload_n 1, 1) := by decide +kernel
theorem dX5_bend_44 : decode cX5_bend 44 = .ok (.ishl, 1) := by decide +kernel
theorem dX5_bend_45 : decode cX5_bend 45 = .ok (.invokevirtual 146, 3) := by decide +kernel
theorem dX5_bend_48 : decode cX5_bend 48 = .ok (.aload_n 0, 1) := by decide +kernel
theorem dX5_bend_49 : decode cX5_bend 49 = .ok (.getfield 28, 3) := by decide +kernel
theorem dX5_bend_52 : decode cX5_bend 52 = .ok (.getfield 149, 3) := by decide +kernel
theorem dX5_bend_55 : decode cX5_bend 55 = .ok (.invokestatic 152, 3) := by decide +kernel
theorem dX5_bend_58 : decode cX5_bend 58 = .ok (.ireturn, 1) := by decide +kernel
set_option maxRecDepth 20000 in
theorem ggX5_hand_X5_isStreet : GoodIn wsX5_hand wsX5_isStreet := goodIn_r _ [6] (by decide +kernel) (by decide +kernel)
set_option maxRecDepth 20000 in
theorem gX5_hand_X5_isStreet : GoodIn wsX5_hand (va_wsS RX5 93 yX5_isStreet wsX5_isStreet) := goodIn_app (goodIn_of _ (by decide +kernel)) ggX5_hand_X5_isStreet
set_option maxRecDepth 20000 in
theorem ggX5_hand_X2_dustIn : GoodIn wsX5_hand wsX2_dustIn := goodIn_r _ [11, 12, 4, 5, 6, 49, 50, 51, 52, 53, 54, 55] (by decide +kernel) (by decide +kernel)
set_option maxRecDepth 20000 in
theorem gX5_hand_X2_dustIn : GoodIn wsX5_hand (wsV RX5 97 RX2 yX2_dustIn wsX2_dustIn) := goodIn_app (goodIn_of _ (by decide +kernel)) ggX5_hand_X2_dustIn
set_option maxRecDepth 20000 in
theorem ggX5_hand_X0_push : GoodIn wsX5_hand wsX0_push := goodIn_r _ [17, 18, 19, 20, 21, 22, 16, 23, 24, 25, 26, 10, 27, 12, 28, 29, 30, 31, 32, 33, 34, 35, 56, 57, 58, 49, 50, 51, 52, 53, 54, 55] (by decide +kernel) (by decide +kernel)
set_option maxRecDepth 20000 in
theorem gX5_hand_X0_push : GoodIn wsX5_hand (wsV RX5 125 RX0 yX0_push wsX0_push) := goodIn_app (goodIn_of _ (by decide +kernel)) ggX5_hand_X0_push
set_option maxRecDepth 20000 in
theorem ggX5_hand_X2_empty : GoodIn wsX5_hand wsX2_empty := goodIn_r _ [39, 12, 4, 5, 6, 49, 50, 51, 52, 53, 54, 55] (by decide +kernel) (by decide +kernel)
set_option maxRecDepth 20000 in
theorem gX5_hand_X2_empty : GoodIn wsX5_hand (wsV RX5 157 RX2 yX2_empty wsX2_empty) := goodIn_app (goodIn_of _ (by decide +kernel)) ggX5_hand_X2_empty
theorem dX5_hand_0 : decode cX5_hand 0 = .ok (.iload_n 1, 1) := by decide +kernel
theorem dX5_hand_1 : decode cX5_hand 1 = .ok (.invokestatic 93, 3) := by decide +kernel
theorem dX5_hand_4 : decode cX5_hand 4 = .ok (.ifCond .ne 5, 3) := by decide +kernel
theorem dX5_hand_7 : decode cX5_hand 7 = .ok (.iconst (-1), 1) := by decide +kernel
theorem dX5_hand_8 : decode cX5_hand 8 = .ok (.ireturn, 1) := by decide +kernel
theorem dX5_hand_9 : decode cX5_hand 9 = .ok (.aload_n 0, 1) := by decide +kernel
theorem dX5_hand_10 : decode cX5_hand 10 = .ok (.getfield 28, 3) := by decide +kernel
theorem dX5_hand_13 : decode cX5_hand 13 = .ok (.iload_n 1, 1) := by decide +kernel
theorem dX5_hand_14 : decode cX5_hand 14 = .ok (.invokevirtual 97, 3) := by decide +kernel
theorem dX5_hand_17 : decode cX5_hand 17 = .ok (.istore_n 2, 1) := by decide +kernel
theorem dX5_hand_18 : decode cX5_hand 18 = .ok (.iload_n 2, 1) := by decide +kernel
theorem dX5_hand_19 : decode cX5_hand 19 = .ok (.ifCond .ne 6, 3) := by decide +kernel
theorem dX5_hand_22 : decode cX5_hand 22 = .ok (.bipush (-3), 2) := by decide +kernel
theorem dX5_hand_24 : decode cX5_hand 24 = .ok (.ireturn, 1) := by decide +kernel
theorem dX5_hand_25 : decode cX5_hand 25 = .ok (.aload_n 0, 1) := by decide +kernel
theorem dX5_hand_26 : decode cX5_hand 26 = .ok (.getfield 38, 3) := by decide +kernel
theorem dX5_hand_29 : decode cX5_hand 29 = .ok (.aload_n 0, 1) := by decide +kernel
theorem dX5_hand_30 : decode cX5_hand 30 = .ok (.getfield 28, 3) := by decide +kernel
theorem dX5_hand_33 : decode cX5_hand 33 = .ok (.invokevirtual 125, 3) := by decide +kernel
theorem dX5_hand_36 : decode cX5_hand 36 = .ok (.aload_n 0, 1) := by decide +kernel
theorem dX5_hand_37 : decode cX5_hand 37 = .ok (.getfield 28, 3) := by decide +kernel
theorem dX5_hand_40 : decode cX5_hand 40 = .ok (.iload_n 1, 1) := by decide +kernel
theorem dX5_hand_41 : decode cX5_hand 41 = .ok (.invokevirtual 157, 3) := by decide +kernel
theorem dX5_hand_44 : decode cX5_hand 44 = .ok (.iload_n 2, 1) := by decide +kernel
theorem dX5_hand_45 : decode cX5_hand 45 = .ok (.ireturn, 1) := by decide +kernel
set_option maxRecDepth 20000 in
theorem ggX5_undo_X0_pop : GoodIn wsX5_undo wsX0_pop := goodIn_r _ [7, 8, 9, 10, 11, 12, 6, 13, 14, 15, 16, 17, 18, 19, 20, 21, 22, 23, 24, 25, 26, 27, 37, 38, 39, 40, 41, 42, 43, 44, 45, 46] (by decide +kernel) (by decide +kernel)
set_option maxRecDepth 20000 in
theorem gX5_undo_X0_pop : GoodIn wsX5_undo (wsV RX5 163 RX0 yX0_pop wsX0_pop) := goodIn_app (goodIn_of _ (by decide +kernel)) ggX5_undo_X0_pop
theorem dX5_undo_0 : decode cX5_undo 0 = .ok (.aload_n 0, 1) := by decide +kernel
theorem dX5_undo_1 : decode cX5_undo 1 = .ok (.getfield 38, 3) := by decide +kernel
theorem dX5_undo_4 : decode cX5_undo 4 = .ok (.getfield 160, 3) := by decide +kernel
theorem dX5_undo_7 : decode cX5_undo 7 = .ok (.ifCond .ne 6, 3) := by decide +kernel
theorem dX5_undo_10 : decode cX5_undo 10 = .ok (.bipush (-3), 2) := by decide +kernel
theorem dX5_undo_12 : decode cX5_undo 12 = .ok (.ireturn, 1) := by decide +kernel
theorem dX5_undo_13 : decode cX5_undo 13 = .ok (.aload_n 0, 1) := by decide +kernel
theorem dX5_undo_14 : decode cX5_undo 14 = .ok (.getfield 38, 3) := by decide +kernel
theorem dX5_undo_17 : decode cX5_undo 17 = .ok (.aload_n 0, 1) := by decide +kernel
theorem dX5_undo_18 : decode cX5_undo 18 = .ok (.getfield 28, 3) := by decide +kernel
theorem dX5_undo_21 : decode cX5_undo 21 = .ok (.invokevirtual 163, 3) := by decide +kernel
theorem dX5_undo_24 : decode cX5_undo 24 = .ok (.aload_n 0, 1) := by decide +kernel
theorem dX5_undo_25 : decode cX5_undo 25 = .ok (.getfield 38, 3) := by decide +kernel
theorem dX5_undo_28 : decode cX5_undo 28 = .ok (.getfield 160, 3) := by decide +kernel
theorem dX5_undo_31 : decode cX5_undo 31 = .ok (.ireturn, 1) := by decide +kernel
set_option maxRecDepth 20000 in
theorem ggX5_dust_X5_isStreet : GoodIn wsX5_dust wsX5_isStreet := goodIn_r _ [4] (by decide +kernel) (by decide +kernel)
set_option maxRecDepth 20000 in
theorem gX5_dust_X5_isStreet : GoodIn wsX5_dust (va_wsS RX5 93 yX5_isStreet wsX5_isStreet) := goodIn_app (goodIn_of _ (by decide +kernel)) ggX5_dust_X5_isStreet
set_option maxRecDepth 20000 in
theorem ggX5_dust_X5_within : GoodIn wsX5_dust wsX5_within := goodIn_r _ [7] (by decide +kernel) (by decide +kernel)
set_option maxRecDepth 20000 in
theorem gX5_dust_X5_within : GoodIn wsX5_dust (va_wsS RX5 61 yX5_within wsX5_within) := goodIn_app (goodIn_of _ (by decide +kernel)) ggX5_dust_X5_within
set_option maxRecDepth 20000 in
theorem ggX5_dust_X5_behind : GoodIn wsX5_dust wsX5_behind := goodIn_r _ [11, 12, 13, 14, 3, 15, 16, 17, 18, 19, 20, 21, 22, 23, 24, 25, 26, 27, 28, 29, 30, 31, 32, 33, 34, 35, 36, 37, 38, 39, 40, 41, 42, 43, 44, 45, 46, 47, 48, 2, 4, 49, 50, 51, 52, 53, 54, 55, 56, 57, 58, 59, 60, 61, 62, 63, 64, 65, 66, 67, 68, 69, 70, 71, 72, 73, 74, 75, 76, 77, 78, 79, 80, 81, 82, 83, 84, 85, 86, 87, 88, 89, 90, 91, 92, 93, 94, 95, 100, 101, 102, 103, 104, 105, 106, 107, 108, 109, 110, 111, 112, 113, 114, 115, 116, 117, 118, 119, 120, 121, 122, 123] (by decide +kernel) (by decide +kernel)
set_option maxRecDepth 20000 in
theorem gX5_dust_X5_behind : GoodIn wsX5_dust (wsV RX5 166 RX5 yX5_behind wsX5_behind) := goodIn_app (goodIn_of _ (by decide +kernel)) ggX5_dust_X5_behind
set_option maxRecDepth 20000 in
theorem ggX5_dust_X2_dustIn : GoodIn wsX5_dust wsX2_dustIn := goodIn_r _ [99, 23, 2, 3, 4, 109, 110, 111, 112, 113, 114, 115] (by decide +kernel) (by decide +kernel)
set_option maxRecDepth 20000 in
theorem gX5_dust_X2_dustIn : GoodIn wsX5_dust (wsV RX5 97 RX2 yX2_dustIn wsX2_dustIn) := goodIn_app (goodIn_of _ (by decide +kernel)) ggX5_dust_X2_dustIn
theorem dX5_dust_0 : decode cX5_dust 0 = .ok (.iload_n 1, 1) := by decide +kernel
theorem dX5_dust_1 : decode cX5_dust 1 = .ok (.invokestatic 93, 3) := by decide +kernel
theorem dX5_dust_4 : decode cX5_dust 4 = .ok (.ifCond .ne 5, 3) := by decide +kernel
theorem dX5_dust_7 : decode cX5_dust 7 = .ok (.iconst (-1), 1) := by decide +kernel
theorem dX5_dust_8 : decode cX5_dust 8 = .ok (.ireturn, 1) := by decide +kernel
theorem dX5_dust_9 : decode cX5_dust 9 = .ok (.iload_n 2, 1) := by decide +kernel
theorem dX5_dust_10 : decode cX5_dust 10 = .ok (.iconst 0, 1) := by decide +kernel
theorem dX5_dust_11 : decode cX5_dust 11 = .ok (.bipush 30, 2) := by decide +kernel
theorem dX5_dust_13 : decode cX5_dust 13 = .ok (.invokestatic 61, 3) := by decide +kernel
theorem dX5_dust_16 : decode cX5_dust 16 = .ok (.ifCond .ne 6, 3) := by decide +kernel
theorem dX5_dust_19 : decode cX5_dust 19 = .ok (.bipush (-2), 2) := by decide +kernel
theorem dX5_dust_21 : decode cX5_dust 21 = .ok (.ireturn, 1) := by decide +kernel
theorem dX5_dust_22 : decode cX5_dust 22 = .ok (.aload_n 0, 1) := by decide +kernel
theorem dX5_dust_23 : decode cX5_dust 23 = .ok (.iload_n 2, 1) := by decide +kernel
theorem dX5_dust_24 : decode cX5_dust 24 = .ok (.bipush 31, 2) := by decide +kernel
theorem dX5_dust_26 : decode cX5_dust 26 = .ok (.invokevirtual 166, 3) := by decide +kernel
theorem dX5_dust_29 : decode cX5_dust 29 = .ok (.iload_n 1, 1) := by decide +kernel
theorem dX5_dust_30 : decode cX5_dust 30 = .ok (.invokevirtual 97, 3) := by decide +kernel
theorem dX5_dust_33 : decode cX5_dust 33 = .ok (.ireturn, 1) := by decide +kernel
set_option maxRecDepth 20000 in
theorem ggX5_knees_X5_within : GoodIn wsX5_knees wsX5_within := goodIn_r _ [4] (by decide +kernel) (by decide +kernel)
set_option maxRecDepth 20000 in
theorem gX5_knees_X5_within : GoodIn wsX5_knees (va_wsS RX5 61 yX5_within wsX5_within) := goodIn_app (goodIn_of _ (by decide +kernel)) ggX5_knees_X5_within
set_option maxRecDepth 20000 in
theorem ggX5_knees_X5_behind : GoodIn wsX5_knees wsX5_behind := goodIn_r _ [8, 9, 10, 11, 3, 12, 13, 14, 15, 16, 17, 18, 19, 20, 21, 22, 23, 24, 25, 26, 27, 28, 29, 30, 31, 32, 33, 34, 35, 36, 37, 38, 39, 40, 41, 42, 43, 44, 45, 46, 47, 48, 49, 50, 51, 52, 53, 54, 55, 56, 57, 58, 59, 60, 61, 62, 63, 64, 65, 66, 67, 68, 69, 70, 71, 72, 73, 74, 75, 76, 77, 78, 79, 80, 81, 82, 83, 84, 85, 86, 87, 88, 89, 90, 91, 92, 93, 94, 107, 108, 109, 110, 111, 112, 113, 114, 115, 116, 117, 118, 119, 120, 121, 122, 123, 124, 125, 126, 127, 128, 129, 130] (by decide +kernel) (by decide +kernel)
set_option maxRecDepth 20000 in
theorem gX5_knees_X5_behind : GoodIn wsX5_knees (wsV RX5 166 RX5 yX5_behind wsX5_behind) := goodIn_app (goodIn_of _ (by decide +kernel)) ggX5_knees_X5_behind
set_option maxRecDepth 20000 in
theorem ggX5_knees_X2_deepStreets : GoodIn wsX5_knees wsX2_deepStreets := goodIn_r _ [98, 99, 100, 101, 18, 102, 103, 104, 105, 106, 20, 46, 3, 47, 116, 117, 118, 119, 120, 121, 122] (by decide +kernel) (by decide +kernel)
set_option maxRecDepth 20000 in
theorem gX5_knees_X2_deepStreets : GoodIn wsX5_knees (wsV RX5 170 RX2 yX2_deepStreets wsX2_deepStreets) := goodIn_app (goodIn_of _ (by decide +kernel)) ggX5_knees_X2_deepStreets
theorem dX5_knees_0 : decode cX5_knees 0 = .ok (.iload_n 1, 1) := by decide +kernel
theorem dX5_knees_1 : decode cX5_knees 1 = .ok (.iconst 0, 1) := by decide +kernel
theorem dX5_knees_2 : decode cX5_knees 2 = .ok (.bipush 30, 2) := by decide +kernel
theorem dX5_knees_4 : decode cX5_knees 4 = .ok (.invokestatic 61, 3) := by decide +kernel
theorem dX5_knees_7 : decode cX5_knees 7 = .ok (.ifCond .ne 6, 3) := by decide +kernel
theorem dX5_knees_10 : decode cX5_knees 10 = .ok (.bipush (-2), 2) := by decide +kernel
theorem dX5_knees_12 : decode cX5_knees 12 = .ok (.ireturn, 1) := by decide +kernel
theorem dX5_knees_13 : decode cX5_knees 13 = .ok (.aload_n 0, 1) := by decide +kernel
theorem dX5_knees_14 : decode cX5_knees 14 = .ok (.iload_n 1, 1) := by decide +kernel
theorem dX5_knees_15 : decode cX5_knees 15 = .ok (.bipush 31, 2) := by decide +kernel
theorem dX5_knees_17 : decode cX5_knees 17 = .ok (.invokevirtual 166, 3) := by decide +kernel
theorem dX5_knees_20 : decode cX5_knees 20 = .ok (.invokevirtual 170, 3) := by decide +kernel
theorem dX5_knees_23 : decode cX5_knees 23 = .ok (.ireturn, 1) := by decide +kernel
set_option maxRecDepth 20000 in
theorem ggX5_knee_X5_within : GoodIn wsX5_knee wsX5_within := goodIn_r _ [4] (by decide +kernel) (by decide +kernel)
set_option maxRecDepth 20000 in
theorem gX5_knee_X5_within : GoodIn wsX5_knee (va_wsS RX5 61 yX5_within wsX5_within) := goodIn_app (goodIn_of _ (by decide +kernel)) ggX5_knee_X5_within
set_option maxRecDepth 20000 in
theorem ggX5_knee_X5_fromNow : GoodIn wsX5_knee wsX5_fromNow := goodIn_r _ [8, 9, 10, 11, 12, 13, 14, 15, 16, 17, 18, 19, 20, 21, 22, 23, 24, 103, 104, 105, 106, 107, 108, 109, 110, 111, 112, 113, 114, 115, 116, 117, 118] (by decide +kernel) (by decide +kernel)
set_option maxRecDepth 20000 in
theorem gX5_knee_X5_fromNow : GoodIn wsX5_knee (wsV RX5 173 RX5 yX5_fromNow wsX5_fromNow) := goodIn_app (goodIn_of _ (by decide +kernel)) ggX5_knee_X5_fromNow
set_option maxRecDepth 20000 in
theorem ggX5_knee_X2_firstDeep : GoodIn wsX5_knee wsX2_firstDeep := goodIn_r _ [28, 29, 30, 31, 14, 32, 33, 34, 35, 36, 16, 37, 3, 38, 112, 113, 114, 115, 116, 117, 118] (by decide +kernel) (by decide +kernel)
set_option maxRecDepth 20000 in
theorem gX5_knee_X2_firstDeep : GoodIn wsX5_knee (wsV RX5 177 RX2 yX2_firstDeep wsX2_firstDeep) := goodIn_app (goodIn_of _ (by decide +kernel)) ggX5_knee_X2_firstDeep
set_option maxRecDepth 20000 in
theorem ggX5_knee_X2_passDawn : GoodIn wsX5_knee wsX2_passDawn := goodIn_r _ [42, 43, 24, 44, 45, 46, 14, 47, 48, 49, 50, 51, 16, 52, 53, 54, 55, 37, 3, 38, 56, 57, 58, 59, 60, 61, 62, 63, 21, 64, 65, 66, 67, 68, 69, 70, 71, 72, 73, 74, 75, 76, 77, 78, 22, 79, 80, 81, 82, 83, 84, 85, 86, 87, 23, 88, 89, 90, 91, 92, 93, 94, 95, 96, 97, 98, 99, 100, 101, 102, 112, 113, 114, 115, 116, 117, 118, 119, 120, 121, 122, 123, 124, 125, 126] (by decide +kernel) (by decide +kernel)
set_option maxRecDepth 20000 in
theorem gX5_knee_X2_passDawn : GoodIn wsX5_knee (wsV RX5 129 RX2 yX2_passDawn wsX2_passDawn) := goodIn_app (goodIn_of _ (by decide +kernel)) ggX5_knee_X2_passDawn
theorem dX5_knee_0 : decode cX5_knee 0 = .ok (.iload_n 1, 1) := by decide +kernel
theorem dX5_knee_1 : decode cX5_knee 1 = .ok (.iconst 0, 1) := by decide +kernel
theorem dX5_knee_2 : decode cX5_knee 2 = .ok (.iconst 1, 1) := by decide +kernel
theorem dX5_knee_3 : decode cX5_knee 3 = .ok (.invokestatic 61, 3) := by decide +kernel
theorem dX5_knee_6 : decode cX5_knee 6 = .ok (.ifCond .ne 6, 3) := by decide +kernel
theorem dX5_knee_9 : decode cX5_knee 9 = .ok (.bipush (-2), 2) := by decide +kernel
theorem dX5_knee_11 : decode cX5_knee 11 = .ok (.ireturn, 1) := by decide +kernel
theorem dX5_knee_12 : decode cX5_knee 12 = .ok (.aload_n 0, 1) := by decide +kernel
theorem dX5_knee_13 : decode cX5_knee 13 = .ok (.invokevirtual 173, 3) := by decide +kernel
theorem dX5_knee_16 : decode cX5_knee 16 = .ok (.astore_n 2, 1) := by decide +kernel
theorem dX5_knee_17 : decode cX5_knee 17 = .ok (.iconst 0, 1) := by decide +kernel
theorem dX5_knee_18 : decode cX5_knee 18 = .ok (.istore_n 3, 1) := by decide +kernel
theorem dX5_knee_19 : decode cX5_knee 19 = .ok (.iload_n 3, 1) := by decide +kernel
theorem dX5_knee_20 : decode cX5_knee 20 = .ok (.bipush 30, 2) := by decide +kernel
theorem dX5_knee_22 : decode cX5_knee 22 = .ok (.if_icmp .gt 40, 3) := by decide +kernel
theorem dX5_knee_25 : decode cX5_knee 25 = .ok (.aload_n 2, 1) := by decide +kernel
theorem dX5_knee_26 : decode cX5_knee 26 = .ok (.invokevirtual 177, 3) := by decide +kernel
theorem dX5_knee_29 : decode cX5_knee 29 = .ok (.istore 4, 2) := by decide +kernel
theorem dX5_knee_31 : decode cX5_knee 31 = .ok (.iload 4, 2) := by decide +kernel
theorem dX5_knee_33 : decode cX5_knee 33 = .ok (.bipush (-9), 2) := by decide +kernel
theorem dX5_knee_35 : decode cX5_knee 35 = .ok (.if_icmp .eq 14, 3) := by decide +kernel
theorem dX5_knee_38 : decode cX5_knee 38 = .ok (.iload_n 1, 1) := by decide +kernel
theorem dX5_knee_39 : decode cX5_knee 39 = .ok (.ifCond .ne 7, 3) := by decide +kernel
theorem dX5_knee_42 : decode cX5_knee 42 = .ok (.iload_n 3, 1) := by decide +kernel
theorem dX5_knee_43 : decode cX5_knee 43 = .ok (.goto 5, 3) := by decide +kernel
theorem dX5_knee_46 : decode cX5_knee 46 = .ok (.iload 4, 2) := by decide +kernel
theorem dX5_knee_48 : decode cX5_knee 48 = .ok (.ireturn, 1) := by decide +kernel
theorem dX5_knee_49 : decode cX5_knee 49 = .ok (.aload_n 2, 1) := by decide +kernel
theorem dX5_knee_50 : decode cX5_knee 50 = .ok (.bipush 31, 2) := by decide +kernel
theorem dX5_knee_52 : decode cX5_knee 52 = .ok (.iconst 1, 1) := by decide +kernel
theorem dX5_knee_53 : decode cX5_knee 53 = .ok (.invokevirtual 129, 3) := by decide +kernel
theorem dX5_knee_56 : decode cX5_knee 56 = .ok (.iinc 3 1, 3) := by decide +kernel
theorem dX5_knee_59 : decode cX5_knee 59 = .ok (.goto (-40), 3) := by decide +kernel
theorem dX5_knee_62 : decode cX5_knee 62 = .ok (.bipush (-9), 2) := by decide +kernel
theorem dX5_knee_64 : decode cX5_knee 64 = .ok (.ireturn, 1) := by decide +kernel
set_option maxRecDepth 20000 in
theorem ggX5_best_X4_hasBroom : GoodIn wsX5_best wsX4_hasBroom := goodIn_r _ [6, 7, 110, 111, 112, 113, 114, 115, 116, 117] (by decide +kernel) (by decide +kernel)
set_option maxRecDepth 20000 in
theorem gX5_best_X4_hasBroom : GoodIn wsX5_best (wsV RX5 107 RX4 yX4_hasBroom wsX4_hasBroom) := goodIn_app (goodIn_of _ (by decide +kernel)) ggX5_best_X4_hasBroom
set_option maxRecDepth 20000 in
theorem ggX5_best_X5_within : GoodIn wsX5_best wsX5_within := goodIn_r _ [11] (by decide +kernel) (by decide +kernel)
set_option maxRecDepth 20000 in
theorem gX5_best_X5_within : GoodIn wsX5_best (va_wsS RX5 61 yX5_within wsX5_within) := goodIn_app (goodIn_of _ (by decide +kernel)) ggX5_best_X5_within
set_option maxRecDepth 20000 in
theorem ggX5_best_X5_fromNow : GoodIn wsX5_best wsX5_fromNow := goodIn_r _ [15, 16, 17, 18, 19, 20, 21, 22, 23, 24, 25, 26, 27, 28, 29, 30, 31, 101, 102, 103, 104, 105, 106, 107, 108, 109, 118, 119, 120, 121, 122, 123, 124] (by decide +kernel) (by decide +kernel)
set_option maxRecDepth 20000 in
theorem gX5_best_X5_fromNow : GoodIn wsX5_best (wsV RX5 173 RX5 yX5_fromNow wsX5_fromNow) := goodIn_app (goodIn_of _ (by decide +kernel)) ggX5_best_X5_fromNow
set_option maxRecDepth 20000 in
theorem ggX5_best_X2_goTo : GoodIn wsX5_best wsX2_goTo := goodIn_r _ [35, 36, 28, 37, 3, 4, 5, 6, 7, 118, 119, 120, 121, 122, 123, 124, 110, 111, 112, 113, 114, 115, 116, 117] (by decide +kernel) (by decide +kernel)
set_option maxRecDepth 20000 in
theorem gX5_best_X2_goTo : GoodIn wsX5_best (wsV RX5 180 RX2 yX2_goTo wsX2_goTo) := goodIn_app (goodIn_of _ (by decide +kernel)) ggX5_best_X2_goTo
set_option maxRecDepth 20000 in
theorem ggX5_best_X2_passDawn : GoodIn wsX5_best wsX2_passDawn := goodIn_r _ [41, 36, 31, 42, 43, 44, 21, 45, 46, 47, 48, 49, 23, 50, 51, 52, 53, 54, 10, 55, 56, 57, 58, 59, 60, 61, 62, 63, 28, 37, 3, 4, 5, 6, 7, 64, 65, 66, 67, 68, 69, 70, 71, 72, 29, 73, 74, 75, 76, 77, 78, 79, 80, 81, 30, 82, 83, 84, 85, 86, 87, 88, 89, 90, 91, 92, 93, 94, 95, 96, 118, 119, 120, 121, 122, 123, 124, 110, 111, 112, 113, 114, 115, 116, 117] (by decide +kernel) (by decide +kernel)
set_option maxRecDepth 20000 in
theorem gX5_best_X2_passDawn : GoodIn wsX5_best (wsV RX5 129 RX2 yX2_passDawn wsX2_passDawn) := goodIn_app (goodIn_of _ (by decide +kernel)) ggX5_best_X2_passDawn
set_option maxRecDepth 20000 in
theorem ggX5_best_X2_allDust : GoodIn wsX5_best wsX2_allDust := goodIn_r _ [100, 23, 118, 119, 120, 121, 122, 123, 124] (by decide +kernel) (by decide +kernel)
set_option maxRecDepth 20000 in
theorem gX5_best_X2_allDust : GoodIn wsX5_best (wsV RX5 133 RX2 yX2_allDust wsX2_allDust) := goodIn_app (goodIn_of _ (by decide +kernel)) ggX5_best_X2_allDust
theorem dX5_best_0 : decode cX5_best 0 = .ok (.aload_n 0, 1) := by decide +kernel
theorem dX5_best_1 : decode cX5_best 1 = .ok (.getfield 19, 3) := by decide +kernel
theorem dX5_best_4 : decode cX5_best 4 = .ok (.iload_n 1, 1) := by decide +kernel
theorem dX5_best_5 : decode cX5_best 5 = .ok (.invokevirtual 107, 3) := by decide +kernel
theorem dX5_best_8 : decode cX5_best 8 = .ok (.ifCond .ne 5, 3) := by decide +kernel
theorem dX5_best_11 : decode cX5_best 11 = .ok (.iconst (-1), 1) := by decide +kernel
theorem dX5_best_12 : decode cX5_best 12 = .ok (.ireturn, 1) := by decide +kernel
theorem dX5_best_13 : decode cX5_best 13 = .ok (.iload_n 2, 1) := by decide +kernel
theorem dX5_best_14 : decode cX5_best 14 = .ok (.iconst 1, 1) := by decide +kernel
theorem dX5_best_15 : decode cX5_best 15 = .ok (.bipush 9, 2) := by decide +kernel
theorem dX5_best_17 : decode cX5_best 17 = .ok (.invokestatic 61, 3) := by decide +kernel
theorem dX5_best_20 : decode cX5_best 20 = .ok (.ifCond .eq 12, 3) := by decide +kernel
theorem dX5_best_23 : decode cX5_best 23 = .ok (.iload_n 3, 1) := by decide +kernel
theorem dX5_best_24 : decode cX5_best 24 = .ok (.iconst 0, 1) := by decide +kernel
theorem dX5_best_25 : decode cX5_best 25 = .ok (.iconst 1, 1) := by decide +kernel
theorem dX5_best_26 : decode cX5_best 26 = .ok (.invokestatic 61, 3) := by decide +kernel
theorem dX5_best_29 : decode cX5_best 29 = .ok (.ifCond .ne 6, 3) := by decide +kernel
theorem dX5_best_32 : decode cX5_best 32 = .ok (.bipush (-2), 2) := by decide +kernel
theorem dX5_best_34 : decode cX5_best 34 = .ok (.ireturn, 1) := by decide +kernel
theorem dX5_best_35 : decode cX5_best 35 = .ok (.iconst 0, 1) := by decide +kernel
theorem dX5_best_36 : decode cX5_best 36 = .ok (.istore 4, 2) := by decide +kernel
theorem dX5_best_38 : decode cX5_best 38 = .ok (.sipush 793, 3) := by decide +kernel
theorem dX5_best_41 : decode cX5_best 41 = .ok (.istore 5, 2) := by decide +kernel
theorem dX5_best_43 : decode cX5_best 43 = .ok (.iconst 0, 1) := by decide +kernel
theorem dX5_best_44 : decode cX5_best 44 = .ok (.istore 6, 2) := by decide +kernel
theorem dX5_best_46 : decode cX5_best 46 = .ok (.iload 6, 2) := by decide +kernel
theorem dX5_best_48 : decode cX5_best 48 = .ok (.bipush 8, 2) := by decide +kernel
theorem dX5_best_50 : decode cX5_best 50 = .ok (.if_icmp .ge 67, 3) := by decide +kernel
theorem dX5_best_53 : decode cX5_best 53 = .ok (.aload_n 0, 1) := by decide +kernel
theorem dX5_best_54 : decode cX5_best 54 = .ok (.invokevirtual 173, 3) := by decide +kernel
theorem dX5_best_57 : decode cX5_best 57 = .ok (.astore 7, 2) := by decide +kernel
theorem dX5_best_59 : decode cX5_best 59 = .ok (.aload 7, 2) := by decide +kernel
theorem dX5_best_61 : decode cX5_best 61 = .ok (.iload_n 1, 1) := by decide +kernel
theorem dX5_best_62 : decode cX5_best 62 = .ok (.iload 6, 2) := by decide +kernel
theorem dX5_best_64 : decode cX5_best 64 = .ok (.invokevirtual 180, 3) := by decide +kernel
theorem dX5_best_67 : decode cX5_best 67 = .ok (.iconst 0, 1) := by decide +kernel
theorem dX5_best_68 : decode cX5_best 68 = .ok (.istore 8, 2) := by decide +kernel
theorem dX5_best_70 : decode cX5_best 70 = .ok (.iload 8, 2) := by decide +kernel
theorem dX5_best_72 : decode cX5_best 72 = .ok (.iload_n 2, 1) := by decide +kernel
theorem dX5_best_73 : decode cX5_best 73 = .ok (.if_icmp .ge 17, 3) := by decide +kernel
theorem dX5_best_76 : decode cX5_best 76 = .ok (.aload 7, 2) := by decide +kernel
theorem dX5_best_78 : decode cX5_best 78 = .ok (.bipush 31, 2) := by decide +kernel
theorem dX5_best_80 : decode cX5_best 80 = .ok (.iconst 1, 1) := by decide +kernel
theorem dX5_best_81 : decode cX5_best 81 = .ok (.invokevirtual 129, 3) := by decide +kernel
theorem dX5_best_84 : decode cX5_best 84 = .ok (.iinc 8 1, 3) := by decide +kernel
theorem dX5_best_87 : decode cX5_best 87 = .ok (.goto (-17), 3) := by decide +kernel
theorem dX5_best_90 : decode cX5_best 90 = .ok (.aload 7, 2) := by decide +kernel
theorem dX5_best_92 : decode cX5_best 92 = .ok (.invokevirtual 133, 3) := by decide +kernel
theorem dX5_best_95 : decode cX5_best 95 = .ok (.iload 5, 2) := by decide +kernel
theorem dX5_best_97 : decode cX5_best 97 = .ok (.if_icmp .ge 14, 3) := by decide +kernel
theorem dX5_best_100 : decode cX5_best 100 = .ok (.iload 6, 2) := by decide +kernel
theorem dX5_best_102 : decode cX5_best 102 = .ok (.istore 4, 2) := by decide +kernel
theorem dX5_best_104 : decode cX5_best 104 = .ok (.aload 7, 2) := by decide +kernel
theorem dX5_best_106 : decode cX5_best 106 = .ok (.invokevirtual 133, 3) := by decide +kernel
theorem dX5_best_109 : decode cX5_best 109 = .ok (.istore 5, 2) := by decide +kernel
theorem dX5_best_111 : decode cX5_best 111 = .ok (.iinc 6 1, 3) := by decide +kernel
theorem dX5_best_114 : decode cX5_best 114 = .ok (.goto (-68), 3) := by decide +kernel
theorem dX5_best_117 : decode cX5_best 117 = .ok (.iload_n 3, 1) := by decide +kernel
theorem dX5_best_118 : decode cX5_best 118 = .ok (.ifCond .ne 8, 3) := by decide +kernel
theorem dX5_best_121 : decode cX5_best 121 = .ok (.iload 4, 2) := by decide +kernel
theorem dX5_best_123 : decode cX5_best 123 = .ok (.goto 5, 3) := by decide +kernel
theorem dX5_best_126 : decode cX5_best 126 = .ok (.iload 5, 2) := by decide +kernel
theorem dX5_best_128 : decode cX5_best 128 = .ok (.ireturn, 1) := by decide +kernel
set_option maxRecDepth 20000 in
theorem ggX5_bends_X5_within : GoodIn wsX5_bends wsX5_within := goodIn_r _ [6] (by decide +kernel) (by decide +kernel)
set_option maxRecDepth 20000 in
theorem gX5_bends_X5_within : GoodIn wsX5_bends (va_wsS RX5 61 yX5_within wsX5_within) := goodIn_app (goodIn_of _ (by decide +kernel)) ggX5_bends_X5_within
set_option maxRecDepth 20000 in
theorem ggX5_bends_J6_bitCount_0f7a4 : GoodIn wsX5_bends wsJ6_bitCount_0f7a4 := goodIn_r _ [10, 11, 12, 13] (by decide +kernel) (by decide +kernel)
set_option maxRecDepth 20000 in
theorem gX5_bends_J6_bitCount_0f7a4 : GoodIn wsX5_bends (va_wsS RX5 152 yJ6_bitCount_0f7a4 wsJ6_bitCount_0f7a4) := goodIn_app (goodIn_of _ (by decide +kernel)) ggX5_bends_J6_bitCount_0f7a4
set_option maxRecDepth 20000 in
theorem ggX5_bends_X5_staysShallow : GoodIn wsX5_bends wsX5_staysShallow := goodIn_r _ [17, 18, 19, 20, 5, 21, 22, 2, 23, 24, 25, 26, 27, 28, 29, 30, 31, 32, 33, 34, 35, 36, 37, 38, 39, 40, 41, 42, 43, 44, 45, 46, 47, 48, 49, 50, 51, 52, 53, 54, 55, 56, 57, 58, 59, 60, 61, 62, 63, 64, 65, 66, 67, 68, 69, 70, 71, 72, 73, 74, 75, 76, 77, 78, 79, 80, 81, 82, 83, 84, 85, 86, 87, 88, 89, 90, 91, 92, 93, 94, 95, 96, 97, 98, 99, 100, 101, 102, 103, 104, 105, 106, 107, 108, 109, 110, 111, 112, 113, 114, 115, 116, 117, 118, 119, 120, 121, 122, 123, 124, 125, 126, 127, 136, 137, 138, 139, 140, 141, 142, 128, 129, 130, 131, 132, 133, 134, 135] (by decide +kernel) (by decide +kernel)
set_option maxRecDepth 20000 in
theorem gX5_bends_X5_staysShallow : GoodIn wsX5_bends (wsV RX5 183 RX5 yX5_staysShallow wsX5_staysShallow) := goodIn_app (goodIn_of _ (by decide +kernel)) ggX5_bends_X5_staysShallow
end
section
theorem dX5_bends_0 : decode cX5_bends 0 = .ok (.iload_n 1, 1) := by decide +kernel
theorem dX5_bends_1 : decode cX5_bends 1 = .ok (.iconst 1, 1) := by decide +kernel
theorem dX5_bends_2 : decode cX5_bends 2 = .ok (.bipush 9, 2) := by decide +kernel
theorem dX5_bends_4 : decode cX5_bends 4 = .ok (.invokestatic 61, 3) := by decide +kernel
theorem dX5_bends_7 : decode cX5_bends 7 = .ok (.ifCond .ne 6, 3) := by decide +kernel
theorem dX5_bends_10 : decode cX5_bends 10 = .ok (.bipush (-2), 2) := by decide +kernel
theorem dX5_bends_12 : decode cX5_bends 12 = .ok (.ireturn, 1) := by decide +kernel
theorem dX5_bends_13 : decode cX5_bends 13 = .ok (.bipush (-9), 2) := by decide +kernel
theorem dX5_bends_15 : decode cX5_bends 15 = .ok (.istore_n 2, 1) := by decide +kernel
theorem dX5_bends_16 : decode cX5_bends 16 = .ok (.bipush 6, 2) := by decide +kernel
theorem dX5_bends_18 : decode cX5_bends 18 = .ok (.istore_n 3, 1) := by decide +kernel
theorem dX5_bends_19 : decode cX5_bends 19 = .ok (.iconst 0, 1) := by decide +kernel
theorem dX5_bends_20 : decode cX5_bends 20 = .ok (.istore 4, 2) := by decide +kernel
theorem dX5_bends_22 : decode cX5_bends 22 = .ok (.iload 4, 2) := by decide +kernel
theorem dX5_bends_24 : decode cX5_bends 24 = .ok (.iconst 1, 1) := by decide +kernel
theorem dX5_bends_25 : decode cX5_bends 25 = .ok (.aload_n 0, 1) := by decide +kernel
theorem dX5_bends_26 : decode cX5_bends 26 = .ok (.getfield 19, 3) := by decide +kernel
theorem dX5_bends_29 : decode cX5_bends 29 = .ok (.getfield 87, 3) := by decide +kernel
theorem dX5_bends_32 : decode cX5_bends 32 = .ok (.ishl, 1) := by decide +kernel
theorem dX5_bends_33 : decode cX5_bends 33 = .ok (.if_icmp .ge 62, 3) := by decide +kernel
theorem dX5_bends_36 : decode cX5_bends 36 = .ok (.iload 4, 2) := by decide +kernel
theorem dX5_bends_38 : decode cX5_bends 38 = .ok (.aload_n 0, 1) := by decide +kernel
theorem dX5_bends_39 : decode cX5_bends 39 = .ok (.getfield 28, 3) := by decide +kernel
theorem dX5_bends_42 : decode cX5_bends 42 = .ok (.getfield 149, 3) := by decide +kernel
theorem dX5_bends_45 : decode cX5_bends 45 = .ok (.iand, 1) := by decide +kernel
theorem dX5_bends_46 : decode cX5_bends 46 = .ok (.ifCond .ne 7, 3) := by decide +kernel
theorem dX5_bends_49 : decode cX5_bends 49 = .ok (.iconst 1, 1) := by decide +kernel
theorem dX5_bends_50 : decode cX5_bends 50 = .ok (.goto 4, 3) := by decide +kernel
theorem dX5_bends_53 : decode cX5_bends 53 = .ok (.iconst 0, 1) := by decide +kernel
theorem dX5_bends_54 : decode cX5_bends 54 = .ok (.istore 5, 2) := by decide +kernel
theorem dX5_bends_56 : decode cX5_bends 56 = .ok (.iload 5, 2) := by decide +kernel
theorem dX5_bends_58 : decode cX5_bends 58 = .ok (.ifCond .eq 31, 3) := by decide +kernel
theorem dX5_bends_61 : decode cX5_bends 61 = .ok (.iload 4, 2) := by decide +kernel
theorem dX5_bends_63 : decode cX5_bends 63 = .ok (.invokestatic 152, 3) := by decide +kernel
theorem dX5_bends_66 : decode cX5_bends 66 = .ok (.iload_n 3, 1) := by decide +kernel
theorem dX5_bends_67 : decode cX5_bends 67 = .ok (.if_icmp .ge 22, 3) := by decide +kernel
theorem dX5_bends_70 : decode cX5_bends 70 = .ok (.aload_n 0, 1) := by decide +kernel
theorem dX5_bends_71 : decode cX5_bends 71 = .ok (.iload 4, 2) := by decide +kernel
theorem dX5_bends_73 : decode cX5_bends 73 = .ok (.iload_n 1, 1) := by decide +kernel
theorem dX5_bends_74 : decode cX5_bends 74 = .ok (.invokevirtual 183, 3) := by decide +kernel
theorem dX5_bends_77 : decode cX5_bends 77 = .ok (.ifCond .eq 12, 3) := by decide +kernel
theorem dX5_bends_80 : decode cX5_bends 80 = .ok (.iload 4, 2) := by decide +kernel
theorem dX5_bends_82 : decode cX5_bends 82 = .ok (.istore_n 2, 1) := by decide +kernel
theorem dX5_bends_83 : decode cX5_bends 83 = .ok (.iload 4, 2) := by decide +kernel
theorem dX5_bends_85 : decode cX5_bends 85 = .ok (.invokestatic 152, 3) := by decide +kernel
theorem dX5_bends_88 : decode cX5_bends 88 = .ok (.istore_n 3, 1) := by decide +kernel
theorem dX5_bends_89 : decode cX5_bends 89 = .ok (.iinc 4 1, 3) := by decide +kernel
theorem dX5_bends_92 : decode cX5_bends 92 = .ok (.goto (-70), 3) := by decide +kernel
theorem dX5_bends_95 : decode cX5_bends 95 = .ok (.iload_n 2, 1) := by decide +kernel
theorem dX5_bends_96 : decode cX5_bends 96 = .ok (.ireturn, 1) := by decide +kernel
set_option maxRecDepth 20000 in
theorem ggX5_judge_X5_within : GoodIn wsX5_judge wsX5_within := goodIn_r _ [9] (by decide +kernel) (by decide +kernel)
set_option maxRecDepth 20000 in
theorem gX5_judge_X5_within : GoodIn wsX5_judge (va_wsS RX5 61 yX5_within wsX5_within) := goodIn_app (goodIn_of _ (by decide +kernel)) ggX5_judge_X5_within
set_option maxRecDepth 20000 in
theorem ggX5_judge_X5_power : GoodIn wsX5_judge wsX5_power := goodIn_r _ [12] (by decide +kernel) (by decide +kernel)
set_option maxRecDepth 20000 in
theorem gX5_judge_X5_power : GoodIn wsX5_judge (va_wsS RX5 187 yX5_power wsX5_power) := goodIn_app (goodIn_of _ (by decide +kernel)) ggX5_judge_X5_power
set_option maxRecDepth 20000 in
theorem ggX5_judge_X5_fromNow : GoodIn wsX5_judge wsX5_fromNow := goodIn_r _ [16, 17, 18, 19, 20, 21, 22, 23, 24, 25, 26, 27, 28, 29, 30, 31, 32, 155, 156, 157, 158, 159, 160, 161, 162, 163, 164, 165, 166, 167, 168, 169, 170] (by decide +kernel) (by decide +kernel)
set_option maxRecDepth 20000 in
theorem gX5_judge_X5_fromNow : GoodIn wsX5_judge (wsV RX5 173 RX5 yX5_fromNow wsX5_fromNow) := goodIn_app (goodIn_of _ (by decide +kernel)) ggX5_judge_X5_fromNow
set_option maxRecDepth 20000 in
theorem ggX5_judge_X5_isSo : GoodIn wsX5_judge wsX5_isSo := goodIn_r _ [36, 37, 38, 39, 8, 40, 41, 42, 43, 44, 45, 46, 47, 6, 7, 9, 48, 49, 50, 22, 51, 52, 53, 54, 55, 56, 29, 57, 58, 59, 60, 61, 62, 63, 64, 65, 66, 67, 68, 69, 70, 71, 72, 73, 74, 24, 75, 76, 77, 78, 79, 80, 81, 82, 32, 83, 84, 85, 86, 87, 88, 89, 90, 91, 92, 3, 93, 94, 95, 96, 97, 98, 99, 100, 101, 102, 103, 104, 105, 106, 30, 107, 108, 109, 110, 111, 112, 113, 114, 115, 31, 116, 117, 118, 119, 120, 121, 122, 123, 124, 125, 126, 127, 128, 129, 130, 131, 132, 133, 134, 135, 136, 137, 138, 139, 140, 141, 142, 143, 144, 145, 146, 147, 148, 149, 150, 151, 152, 153, 154, 155, 156, 157, 158, 159, 160, 161, 162, 163, 171, 172, 173, 174, 175, 176, 177, 178, 164, 165, 166, 167, 168, 169, 170] (by decide +kernel) (by decide +kernel)
set_option maxRecDepth 20000 in
theorem gX5_judge_X5_isSo : GoodIn wsX5_judge (wsV RX5 199 RX5 yX5_isSo wsX5_isSo) := goodIn_app (goodIn_of _ (by decide +kernel)) ggX5_judge_X5_isSo
theorem dX5_judge_0 : decode cX5_judge 0 = .ok (.iload_n 1, 1) := by decide +kernel
theorem dX5_judge_1 : decode cX5_judge 1 = .ok (.iconst 1, 1) := by decide +kernel
theorem dX5_judge_2 : decode cX5_judge 2 = .ok (.iconst 4, 1) := by decide +kernel
theorem dX5_judge_3 : decode cX5_judge 3 = .ok (.invokestatic 61, 3) := by decide +kernel
theorem dX5_judge_6 : decode cX5_judge 6 = .ok (.ifCond .eq 21, 3) := by decide +kernel
theorem dX5_judge_9 : decode cX5_judge 9 = .ok (.lload_n 2, 1) := by decide +kernel
theorem dX5_judge_10 : decode cX5_judge 10 = .ok (.lconst 0, 1) := by decide +kernel
theorem dX5_judge_11 : decode cX5_judge 11 = .ok (.lcmp, 1) := by decide +kernel
theorem dX5_judge_12 : decode cX5_judge 12 = .ok (.ifCond .lt 15, 3) := by decide +kernel
theorem dX5_judge_15 : decode cX5_judge 15 = .ok (.lload_n 2, 1) := by decide +kernel
theorem dX5_judge_16 : decode cX5_judge 16 = .ok (.sipush 1000, 3) := by decide +kernel
theorem dX5_judge_19 : decode cX5_judge 19 = .ok (.iload_n 1, 1) := by decide +kernel
theorem dX5_judge_20 : decode cX5_judge 20 = .ok (.invokestatic 187, 3) := by decide +kernel
theorem dX5_judge_23 : decode cX5_judge 23 = .ok (.lcmp, 1) := by decide +kernel
theorem dX5_judge_24 : decode cX5_judge 24 = .ok (.ifCond .lt 6, 3) := by decide +kernel
theorem dX5_judge_27 : decode cX5_judge 27 = .ok (.bipush (-2), 2) := by decide +kernel
theorem dX5_judge_29 : decode cX5_judge 29 = .ok (.ireturn, 1) := by decide +kernel
theorem dX5_judge_30 : decode cX5_judge 30 = .ok (.aload_n 0, 1) := by decide +kernel
theorem dX5_judge_31 : decode cX5_judge 31 = .ok (.invokevirtual 173, 3) := by decide +kernel
theorem dX5_judge_34 : decode cX5_judge 34 = .ok (.astore 4, 2) := by decide +kernel
theorem dX5_judge_36 : decode cX5_judge 36 = .ok (.iconst 0, 1) := by decide +kernel
theorem dX5_judge_37 : decode cX5_judge 37 = .ok (.istore 5, 2) := by decide +kernel
theorem dX5_judge_39 : decode cX5_judge 39 = .ok (.iload 5, 2) := by decide +kernel
theorem dX5_judge_41 : decode cX5_judge 41 = .ok (.iload_n 1, 1) := by decide +kernel
theorem dX5_judge_42 : decode cX5_judge 42 = .ok (.if_icmp .ge 64, 3) := by decide +kernel
theorem dX5_judge_45 : decode cX5_judge 45 = .ok (.lload_n 2, 1) := by decide +kernel
theorem dX5_judge_46 : decode cX5_judge 46 = .ok (.lconst 1, 1) := by decide +kernel
theorem dX5_judge_47 : decode cX5_judge 47 = .ok (.sipush 1000, 3) := by decide +kernel
theorem dX5_judge_50 : decode cX5_judge 50 = .ok (.iload_n 1, 1) := by decide +kernel
theorem dX5_judge_51 : decode cX5_judge 51 = .ok (.iconst 1, 1) := by decide +kernel
theorem dX5_judge_52 : decode cX5_judge 52 = .ok (.isub, 1) := by decide +kernel
theorem dX5_judge_53 : decode cX5_judge 53 = .ok (.iload 5, 2) := by decide +kernel
theorem dX5_judge_55 : decode cX5_judge 55 = .ok (.isub, 1) := by decide +kernel
theorem dX5_judge_56 : decode cX5_judge 56 = .ok (.invokestatic 187, 3) := by decide +kernel
theorem dX5_judge_59 : decode cX5_judge 59 = .ok (.invokestatic 191, 3) := by decide +kernel
theorem dX5_judge_62 : decode cX5_judge 62 = .ok (.ldiv, 1) := by decide +kernel
theorem dX5_judge_63 : decode cX5_judge 63 = .ok (.ldc2_w 197, 3) := by decide +kernel
theorem dX5_judge_66 : decode cX5_judge 66 = .ok (.lrem, 1) := by decide +kernel
theorem dX5_judge_67 : decode cX5_judge 67 = .ok (.l2i, 1) := by decide +kernel
theorem dX5_judge_68 : decode cX5_judge 68 = .ok (.istore 6, 2) := by decide +kernel
theorem dX5_judge_70 : decode cX5_judge 70 = .ok (.aload_n 0, 1) := by decide +kernel
theorem dX5_judge_71 : decode cX5_judge 71 = .ok (.aload 4, 2) := by decide +kernel
theorem dX5_judge_73 : decode cX5_judge 73 = .ok (.iload 6, 2) := by decide +kernel
theorem dX5_judge_75 : decode cX5_judge 75 = .ok (.bipush 100, 2) := by decide +kernel
theorem dX5_judge_77 : decode cX5_judge 77 = .ok (.idiv, 1) := by decide +kernel
theorem dX5_judge_78 : decode cX5_judge 78 = .ok (.iload 6, 2) := by decide +kernel
theorem dX5_judge_80 : decode cX5_judge 80 = .ok (.bipush 10, 2) := by decide +kernel
theorem dX5_judge_82 : decode cX5_judge 82 = .ok (.idiv, 1) := by decide +kernel
theorem dX5_judge_83 : decode cX5_judge 83 = .ok (.bipush 10, 2) := by decide +kernel
theorem dX5_judge_85 : decode cX5_judge 85 = .ok (.irem, 1) := by decide +kernel
theorem dX5_judge_86 : decode cX5_judge 86 = .ok (.iload 6, 2) := by decide +kernel
theorem dX5_judge_88 : decode cX5_judge 88 = .ok (.bipush 10, 2) := by decide +kernel
theorem dX5_judge_90 : decode cX5_judge 90 = .ok (.irem, 1) := by decide +kernel
theorem dX5_judge_91 : decode cX5_judge 91 = .ok (.invokevirtual 199, 3) := by decide +kernel
theorem dX5_judge_94 : decode cX5_judge 94 = .ok (.ifCond .ne 6, 3) := by decide +kernel
theorem dX5_judge_97 : decode cX5_judge 97 = .ok (.iload 5, 2) := by decide +kernel
theorem dX5_judge_99 : decode cX5_judge 99 = .ok (.ireturn, 1) := by decide +kernel
theorem dX5_judge_100 : decode cX5_judge 100 = .ok (.iinc 5 1, 3) := by decide +kernel
theorem dX5_judge_103 : decode cX5_judge 103 = .ok (.goto (-64), 3) := by decide +kernel
theorem dX5_judge_106 : decode cX5_judge 106 = .ok (.bipush (-9), 2) := by decide +kernel
theorem dX5_judge_108 : decode cX5_judge 108 = .ok (.ireturn, 1) := by decide +kernel
set_option maxRecDepth 20000 in
theorem ggX5_heap_X5_within : GoodIn wsX5_heap wsX5_within := goodIn_r _ [5] (by decide +kernel) (by decide +kernel)
set_option maxRecDepth 20000 in
theorem gX5_heap_X5_within : GoodIn wsX5_heap (va_wsS RX5 61 yX5_within wsX5_within) := goodIn_app (goodIn_of _ (by decide +kernel)) ggX5_heap_X5_within
set_option maxRecDepth 20000 in
theorem ggX5_heap_X1_add : GoodIn wsX5_heap wsX1_add := goodIn_r _ [10, 11, 12, 13, 14, 24, 25, 26, 27] (by decide +kernel) (by decide +kernel)
set_option maxRecDepth 20000 in
theorem gX5_heap_X1_add : GoodIn wsX5_heap (wsV RX5 204 RX1 yX1_add wsX1_add) := goodIn_app (goodIn_of _ (by decide +kernel)) ggX5_heap_X1_add
theorem dX5_heap_0 : decode cX5_heap 0 = .ok (.iload_n 1, 1) := by decide +kernel
theorem dX5_heap_1 : decode cX5_heap 1 = .ok (.iconst 0, 1) := by decide +kernel
theorem dX5_heap_2 : decode cX5_heap 2 = .ok (.bipush 20, 2) := by decide +kernel
theorem dX5_heap_4 : decode cX5_heap 4 = .ok (.invokestatic 61, 3) := by decide +kernel
theorem dX5_heap_7 : decode cX5_heap 7 = .ok (.ifCond .eq 23, 3) := by decide +kernel
theorem dX5_heap_10 : decode cX5_heap 10 = .ok (.iload_n 2, 1) := by decide +kernel
theorem dX5_heap_11 : decode cX5_heap 11 = .ok (.iconst 0, 1) := by decide +kernel
theorem dX5_heap_12 : decode cX5_heap 12 = .ok (.bipush 20, 2) := by decide +kernel
theorem dX5_heap_14 : decode cX5_heap 14 = .ok (.invokestatic 61, 3) := by decide +kernel
theorem dX5_heap_17 : decode cX5_heap 17 = .ok (.ifCond .eq 13, 3) := by decide +kernel
theorem dX5_heap_20 : decode cX5_heap 20 = .ok (.iload_n 3, 1) := by decide +kernel
theorem dX5_heap_21 : decode cX5_heap 21 = .ok (.iconst 0, 1) := by decide +kernel
theorem dX5_heap_22 : decode cX5_heap 22 = .ok (.bipush 9, 2) := by decide +kernel
theorem dX5_heap_24 : decode cX5_heap 24 = .ok (.invokestatic 61, 3) := by decide +kernel
theorem dX5_heap_27 : decode cX5_heap 27 = .ok (.ifCond .ne 6, 3) := by decide +kernel
theorem dX5_heap_30 : decode cX5_heap 30 = .ok (.bipush (-2), 2) := by decide +kernel
theorem dX5_heap_32 : decode cX5_heap 32 = .ok (.ireturn, 1) := by decide +kernel
theorem dX5_heap_33 : decode cX5_heap 33 = .ok (.aload_n 0, 1) := by decide +kernel
theorem dX5_heap_34 : decode cX5_heap 34 = .ok (.getfield 45, 3) := by decide +kernel
theorem dX5_heap_37 : decode cX5_heap 37 = .ok (.getfield 203, 3) := by decide +kernel
theorem dX5_heap_40 : decode cX5_heap 40 = .ok (.bipush 6, 2) := by decide +kernel
theorem dX5_heap_42 : decode cX5_heap 42 = .ok (.if_icmp .lt 6, 3) := by decide +kernel
theorem dX5_heap_45 : decode cX5_heap 45 = .ok (.bipush (-4), 2) := by decide +kernel
theorem dX5_heap_47 : decode cX5_heap 47 = .ok (.ireturn, 1) := by decide +kernel
theorem dX5_heap_48 : decode cX5_heap 48 = .ok (.aload_n 0, 1) := by decide +kernel
theorem dX5_heap_49 : decode cX5_heap 49 = .ok (.getfield 45, 3) := by decide +kernel
theorem dX5_heap_52 : decode cX5_heap 52 = .ok (.iload_n 1, 1) := by decide +kernel
theorem dX5_heap_53 : decode cX5_heap 53 = .ok (.iload_n 2, 1) := by decide +kernel
theorem dX5_heap_54 : decode cX5_heap 54 = .ok (.iload_n 3, 1) := by decide +kernel
theorem dX5_heap_55 : decode cX5_heap 55 = .ok (.invokevirtual 204, 3) := by decide +kernel
theorem dX5_heap_58 : decode cX5_heap 58 = .ok (.aload_n 0, 1) := by decide +kernel
theorem dX5_heap_59 : decode cX5_heap 59 = .ok (.getfield 45, 3) := by decide +kernel
theorem dX5_heap_62 : decode cX5_heap 62 = .ok (.getfield 203, 3) := by decide +kernel
theorem dX5_heap_65 : decode cX5_heap 65 = .ok (.ireturn, 1) := by decide +kernel
theorem dX5_unheap_0 : decode cX5_unheap 0 = .ok (.aload_n 0, 1) := by decide +kernel
theorem dX5_unheap_1 : decode cX5_unheap 1 = .ok (.getfield 45, 3) := by decide +kernel
theorem dX5_unheap_4 : decode cX5_unheap 4 = .ok (.getfield 203, 3) := by decide +kernel
theorem dX5_unheap_7 : decode cX5_unheap 7 = .ok (.istore_n 1, 1) := by decide +kernel
theorem dX5_unheap_8 : decode cX5_unheap 8 = .ok (.aload_n 0, 1) := by decide +kernel
theorem dX5_unheap_9 : decode cX5_unheap 9 = .ok (.getfield 45, 3) := by decide +kernel
theorem dX5_unheap_12 : decode cX5_unheap 12 = .ok (.iconst 0, 1) := by decide +kernel
theorem dX5_unheap_13 : decode cX5_unheap 13 = .ok (.putfield 203, 3) := by decide +kernel
theorem dX5_unheap_16 : decode cX5_unheap 16 = .ok (.iload_n 1, 1) := by decide +kernel
theorem dX5_unheap_17 : decode cX5_unheap 17 = .ok (.ireturn, 1) := by decide +kernel
set_option maxRecDepth 20000 in
theorem ggX5_whose_X5_within : GoodIn wsX5_whose wsX5_within := goodIn_r _ [5] (by decide +kernel) (by decide +kernel)
set_option maxRecDepth 20000 in
theorem gX5_whose_X5_within : GoodIn wsX5_whose (va_wsS RX5 61 yX5_within wsX5_within) := goodIn_app (goodIn_of _ (by decide +kernel)) ggX5_whose_X5_within
set_option maxRecDepth 20000 in
theorem ggX5_whose_X1_fit : GoodIn wsX5_whose wsX1_fit := goodIn_r _ [10, 11, 12, 13, 14, 15, 16, 17, 18, 28, 29, 30, 31] (by decide +kernel) (by decide +kernel)
set_option maxRecDepth 20000 in
theorem gX5_whose_X1_fit : GoodIn wsX5_whose (wsV RX5 207 RX1 yX1_fit wsX1_fit) := goodIn_app (goodIn_of _ (by decide +kernel)) ggX5_whose_X1_fit
theorem dX5_whose_0 : decode cX5_whose 0 = .ok (.iload_n 1, 1) := by decide +kernel
theorem dX5_whose_1 : decode cX5_whose 1 = .ok (.iconst 0, 1) := by decide +kernel
theorem dX5_whose_2 : decode cX5_whose 2 = .ok (.iconst 1, 1) := by decide +kernel
theorem dX5_whose_3 : decode cX5_whose 3 = .ok (.invokestatic 61, 3) := by decide +kernel
theorem dX5_whose_6 : decode cX5_whose 6 = .ok (.ifCond .ne 6, 3) := by decide +kernel
theorem dX5_whose_9 : decode cX5_whose 9 = .ok (.bipush (-2), 2) := by decide +kernel
theorem dX5_whose_11 : decode cX5_whose 11 = .ok (.ireturn, 1) := by decide +kernel
theorem dX5_whose_12 : decode cX5_whose 12 = .ok (.iconst 0, 1) := by decide +kernel
theorem dX5_whose_13 : decode cX5_whose 13 = .ok (.istore_n 2, 1) := by decide +kernel
theorem dX5_whose_14 : decode cX5_whose 14 = .ok (.bipush (-9), 2) := by decide +kernel
theorem dX5_whose_16 : decode cX5_whose 16 = .ok (.istore_n 3, 1) := by decide +kernel
theorem dX5_whose_17 : decode cX5_whose 17 = .ok (.iconst 0, 1) := by decide +kernel
theorem dX5_whose_18 : decode cX5_whose 18 = .ok (.istore 4, 2) := by decide +kernel
theorem dX5_whose_20 : decode cX5_whose 20 = .ok (.iload 4, 2) := by decide +kernel
theorem dX5_whose_22 : decode cX5_whose 22 = .ok (.iconst 1, 1) := by decide +kernel
theorem dX5_whose_23 : decode cX5_whose 23 = .ok (.if_icmp .gt 61, 3) := by decide +kernel
theorem dX5_whose_26 : decode cX5_whose 26 = .ok (.iconst 1, 1) := by decide +kernel
theorem dX5_whose_27 : decode cX5_whose 27 = .ok (.istore 5, 2) := by decide +kernel
theorem dX5_whose_29 : decode cX5_whose 29 = .ok (.iload 5, 2) := by decide +kernel
theorem dX5_whose_31 : decode cX5_whose 31 = .ok (.bipush 9, 2) := by decide +kernel
theorem dX5_whose_33 : decode cX5_whose 33 = .ok (.if_icmp .gt 45, 3) := by decide +kernel
theorem dX5_whose_36 : decode cX5_whose 36 = .ok (.aload_n 0, 1) := by decide +kernel
theorem dX5_whose_37 : decode cX5_whose 37 = .ok (.getfield 45, 3) := by decide +kernel
theorem dX5_whose_40 : decode cX5_whose 40 = .ok (.iload 4, 2) := by decide +kernel
theorem dX5_whose_42 : decode cX5_whose 42 = .ok (.iload 5, 2) := by decide +kernel
theorem dX5_whose_44 : decode cX5_whose 44 = .ok (.invokevirtual 207, 3) := by decide +kernel
theorem dX5_whose_47 : decode cX5_whose 47 = .ok (.ifCond .eq 25, 3) := by decide +kernel
theorem dX5_whose_50 : decode cX5_whose 50 = .ok (.iinc 2 1, 3) := by decide +kernel
theorem dX5_whose_53 : decode cX5_whose 53 = .ok (.iload_n 3, 1) := by decide +kernel
theorem dX5_whose_54 : decode cX5_whose 54 = .ok (.bipush (-9), 2) := by decide +kernel
theorem dX5_whose_56 : decode cX5_whose 56 = .ok (.if_icmp .ne 14, 3) := by decide +kernel
theorem dX5_whose_59 : decode cX5_whose 59 = .ok (.bipush 10, 2) := by decide +kernel
theorem dX5_whose_61 : decode cX5_whose 61 = .ok (.iload 4, 2) := by decide +kernel
theorem dX5_whose_63 : decode cX5_whose 63 = .ok (.imul, 1) := by decide +kernel
theorem dX5_whose_64 : decode cX5_whose 64 = .ok (.iload 5, 2) := by decide +kernel
theorem dX5_whose_66 : decode cX5_whose 66 = .ok (.iadd, 1) := by decide +kernel
theorem dX5_whose_67 : decode cX5_whose 67 = .ok (.goto 4, 3) := by decide +kernel
theorem dX5_whose_70 : decode cX5_whose 70 = .ok (.iload_n 3, 1) := by decide +kernel
theorem dX5_whose_71 : decode cX5_whose 71 = .ok (.istore_n 3, 1) := by decide +kernel
theorem dX5_whose_72 : decode cX5_whose 72 = .ok (.iinc 5 1, 3) := by decide +kernel
theorem dX5_whose_75 : decode cX5_whose 75 = .ok (.goto (-46), 3) := by decide +kernel
theorem dX5_whose_78 : decode cX5_whose 78 = .ok (.iinc 4 1, 3) := by decide +kernel
theorem dX5_whose_81 : decode cX5_whose 81 = .ok (.goto (-61), 3) := by decide +kernel
theorem dX5_whose_84 : decode cX5_whose 84 = .ok (.iload_n 1, 1) := by decide +kernel
theorem dX5_whose_85 : decode cX5_whose 85 = .ok (.ifCond .ne 7, 3) := by decide +kernel
theorem dX5_whose_88 : decode cX5_whose 88 = .ok (.iload_n 2, 1) := by decide +kernel
theorem dX5_whose_89 : decode cX5_whose 89 = .ok (.goto 4, 3) := by decide +kernel
theorem dX5_whose_92 : decode cX5_whose 92 = .ok (.iload_n 3, 1) := by decide +kernel
theorem dX5_whose_93 : decode cX5_whose 93 = .ok (.ireturn, 1) := by decide +kernel
set_option maxRecDepth 20000 in
theorem ggX5_share_X4_hasBroom : GoodIn wsX5_share wsX4_hasBroom := goodIn_r _ [6, 7, 133, 134, 135, 136, 137, 138, 139, 140] (by decide +kernel) (by decide +kernel)
set_option maxRecDepth 20000 in
theorem gX5_share_X4_hasBroom : GoodIn wsX5_share (wsV RX5 107 RX4 yX4_hasBroom wsX4_hasBroom) := goodIn_app (goodIn_of _ (by decide +kernel)) ggX5_share_X4_hasBroom
set_option maxRecDepth 20000 in
theorem ggX5_share_X5_behind : GoodIn wsX5_share wsX5_behind := goodIn_r _ [12, 13, 14, 15, 11, 16, 17, 18, 19, 20, 21, 22, 23, 24, 25, 26, 27, 28, 29, 30, 31, 32, 33, 34, 35, 36, 37, 38, 39, 40, 41, 42, 43, 44, 45, 46, 47, 48, 49, 50, 51, 52, 53, 54, 55, 56, 57, 58, 59, 60, 3, 4, 5, 6, 7, 61, 62, 63, 64, 65, 66, 67, 68, 69, 70, 71, 72, 73, 74, 75, 76, 77, 78, 79, 80, 81, 82, 83, 84, 85, 86, 87, 88, 89, 90, 91, 92, 93, 124, 125, 126, 127, 128, 129, 130, 131, 132, 141, 142, 143, 144, 145, 146, 147, 133, 134, 135, 136, 137, 138, 139, 140] (by decide +kernel) (by decide +kernel)
set_option maxRecDepth 20000 in
theorem gX5_share_X5_behind : GoodIn wsX5_share (wsV RX5 166 RX5 yX5_behind wsX5_behind) := goodIn_app (goodIn_of _ (by decide +kernel)) ggX5_share_X5_behind
set_option maxRecDepth 20000 in
theorem ggX5_share_X2_allDust : GoodIn wsX5_share wsX2_allDust := goodIn_r _ [97, 24, 141, 142, 143, 144, 145, 146, 147] (by decide +kernel) (by decide +kernel)
set_option maxRecDepth 20000 in
theorem gX5_share_X2_allDust : GoodIn wsX5_share (wsV RX5 133 RX2 yX2_allDust wsX2_allDust) := goodIn_app (goodIn_of _ (by decide +kernel)) ggX5_share_X2_allDust
set_option maxRecDepth 20000 in
theorem ggX5_share_J6_bitCount_0f7a4 : GoodIn wsX5_share wsJ6_bitCount_0f7a4 := goodIn_r _ [101, 102, 103, 104] (by decide +kernel) (by decide +kernel)
set_option maxRecDepth 20000 in
theorem gX5_share_J6_bitCount_0f7a4 : GoodIn wsX5_share (va_wsS RX5 152 yJ6_bitCount_0f7a4 wsJ6_bitCount_0f7a4) := goodIn_app (goodIn_of _ (by decide +kernel)) ggX5_share_J6_bitCount_0f7a4
set_option maxRecDepth 20000 in
theorem ggX5_share_X5_ordersWith : GoodIn wsX5_share wsX5_ordersWith := goodIn_r _ [108, 1, 109, 110, 11, 111, 124, 125, 126, 127, 128, 129, 130, 131, 132, 133, 134, 135, 136, 137, 138, 139, 140] (by decide +kernel) (by decide +kernel)
set_option maxRecDepth 20000 in
theorem gX5_share_X5_ordersWith : GoodIn wsX5_share (wsV RX5 210 RX5 yX5_ordersWith wsX5_ordersWith) := goodIn_app (goodIn_of _ (by decide +kernel)) ggX5_share_X5_ordersWith
set_option maxRecDepth 20000 in
theorem ggX5_share_X5_factorial : GoodIn wsX5_share wsX5_factorial := goodIn_r _ [111] (by decide +kernel) (by decide +kernel)
set_option maxRecDepth 20000 in
theorem gX5_share_X5_factorial : GoodIn wsX5_share (va_wsS RX5 214 yX5_factorial wsX5_factorial) := goodIn_app (goodIn_of _ (by decide +kernel)) ggX5_share_X5_factorial
set_option maxRecDepth 20000 in
theorem ggX5_share_X5_fraction : GoodIn wsX5_share wsX5_fraction := goodIn_r _ [114, 115, 116, 48, 117, 118, 119, 120, 121, 122, 11, 123] (by decide +kernel) (by decide +kernel)
set_option maxRecDepth 20000 in
theorem gX5_share_X5_fraction : GoodIn wsX5_share (va_wsS RX5 217 yX5_fraction wsX5_fraction) := goodIn_app (goodIn_of _ (by decide +kernel)) ggX5_share_X5_fraction
theorem dX5_share_0 : decode cX5_share 0 = .ok (.aload_n 0, 1) := by decide +kernel
theorem dX5_share_1 : decode cX5_share 1 = .ok (.getfield 19, 3) := by decide +kernel
theorem dX5_share_4 : decode cX5_share 4 = .ok (.iload_n 1, 1) := by decide +kernel
theorem dX5_share_5 : decode cX5_share 5 = .ok (.invokevirtual 107, 3) := by decide +kernel
theorem dX5_share_8 : decode cX5_share 8 = .ok (.ifCond .ne 5, 3) := by decide +kernel
theorem dX5_share_11 : decode cX5_share 11 = .ok (.iconst (-1), 1) := by decide +kernel
theorem dX5_share_12 : decode cX5_share 12 = .ok (.ireturn, 1) := by decide +kernel
theorem dX5_share_13 : decode cX5_share 13 = .ok (.iconst 1, 1) := by decide +kernel
theorem dX5_share_14 : decode cX5_share 14 = .ok (.iload_n 1, 1) := by decide +kernel
theorem dX5_share_15 : decode cX5_share 15 = .ok (.ishl, 1) := by decide +kernel
theorem dX5_share_16 : decode cX5_share 16 = .ok (.istore_n 3, 1) := by decide +kernel
theorem dX5_share_17 : decode cX5_share 17 = .ok (.lconst 0, 1) := by decide +kernel
theorem dX5_share_18 : decode cX5_share 18 = .ok (.lstore 4, 2) := by decide +kernel
theorem dX5_share_20 : decode cX5_share 20 = .ok (.iconst 0, 1) := by decide +kernel
theorem dX5_share_21 : decode cX5_share 21 = .ok (.istore 6, 2) := by decide +kernel
theorem dX5_share_23 : decode cX5_share 23 = .ok (.iload 6, 2) := by decide +kernel
theorem dX5_share_25 : decode cX5_share 25 = .ok (.iconst 1, 1) := by decide +kernel
theorem dX5_share_26 : decode cX5_share 26 = .ok (.aload_n 0, 1) := by decide +kernel
theorem dX5_share_27 : decode cX5_share 27 = .ok (.getfield 19, 3) := by decide +kernel
theorem dX5_share_30 : decode cX5_share 30 = .ok (.getfield 87, 3) := by decide +kernel
theorem dX5_share_33 : decode cX5_share 33 = .ok (.ishl, 1) := by decide +kernel
theorem dX5_share_34 : decode cX5_share 34 = .ok (.if_icmp .ge 65, 3) := by decide +kernel
theorem dX5_share_37 : decode cX5_share 37 = .ok (.iload 6, 2) := by decide +kernel
theorem dX5_share_39 : decode cX5_share 39 = .ok (.iload_n 3, 1) := by decide +kernel
theorem dX5_share_40 : decode cX5_share 40 = .ok (.iand, 1) := by decide +kernel
theorem dX5_share_41 : decode cX5_share 41 = .ok (.ifCond .ne 52, 3) := by decide +kernel
theorem dX5_share_44 : decode cX5_share 44 = .ok (.aload_n 0, 1) := by decide +kernel
theorem dX5_share_45 : decode cX5_share 45 = .ok (.bipush 6, 2) := by decide +kernel
theorem dX5_share_47 : decode cX5_share 47 = .ok (.iload 6, 2) := by decide +kernel
theorem dX5_share_49 : decode cX5_share 49 = .ok (.invokevirtual 166, 3) := by decide +kernel
theorem dX5_share_52 : decode cX5_share 52 = .ok (.invokevirtual 133, 3) := by decide +kernel
theorem dX5_share_55 : decode cX5_share 55 = .ok (.istore 7, 2) := by decide +kernel
theorem dX5_share_57 : decode cX5_share 57 = .ok (.iload 7, 2) := by decide +kernel
theorem dX5_share_59 : decode cX5_share 59 = .ok (.aload_n 0, 1) := by decide +kernel
theorem dX5_share_60 : decode cX5_share 60 = .ok (.bipush 6, 2) := by decide +kernel
theorem dX5_share_62 : decode cX5_share 62 = .ok (.iload 6, 2) := by decide +kernel
theorem dX5_share_64 : decode cX5_share 64 = .ok (.iload_n 3, 1) := by decide +kernel
theorem dX5_share_65 : decode cX5_share 65 = .ok (.ior, 1) := by decide +kernel
theorem dX5_share_66 : decode cX5_share 66 = .ok (.invokevirtual 166, 3) := by decide +kernel
theorem dX5_share_69 : decode cX5_share 69 = .ok (.invokevirtual 133, 3) := by decide +kernel
theorem dX5_share_72 : decode cX5_share 72 = .ok (.isub, 1) := by decide +kernel
theorem dX5_share_73 : decode cX5_share 73 = .ok (.istore 7, 2) := by decide +kernel
theorem dX5_share_75 : decode cX5_share 75 = .ok (.lload 4, 2) := by decide +kernel
theorem dX5_share_77 : decode cX5_share 77 = .ok (.iload 7, 2) := by decide +kernel
theorem dX5_share_79 : decode cX5_share 79 = .ok (.i2l, 1) := by decide +kernel
theorem dX5_share_80 : decode cX5_share 80 = .ok (.aload_n 0, 1) := by decide +kernel
theorem dX5_share_81 : decode cX5_share 81 = .ok (.iload 6, 2) := by decide +kernel
theorem dX5_share_83 : decode cX5_share 83 = .ok (.invokestatic 152, 3) := by decide +kernel
theorem dX5_share_86 : decode cX5_share 86 = .ok (.invokevirtual 210, 3) := by decide +kernel
theorem dX5_share_89 : decode cX5_share 89 = .ok (.lmul, 1) := by decide +kernel
theorem dX5_share_90 : decode cX5_share 90 = .ok (.ladd, 1) := by decide +kernel
theorem dX5_share_91 : decode cX5_share 91 = .ok (.lstore 4, 2) := by decide +kernel
theorem dX5_share_93 : decode cX5_share 93 = .ok (.iinc 6 1, 3) := by decide +kernel
theorem dX5_share_96 : decode cX5_share 96 = .ok (.goto (-73), 3) := by decide +kernel
theorem dX5_share_99 : decode cX5_share 99 = .ok (.lload 4, 2) := by decide +kernel
theorem dX5_share_101 : decode cX5_share 101 = .ok (.aload_n 0, 1) := by decide +kernel
theorem dX5_share_102 : decode cX5_share 102 = .ok (.getfield 19, 3) := by decide +kernel
theorem dX5_share_105 : decode cX5_share 105 = .ok (.getfield 87, 3) := by decide +kernel
theorem dX5_share_108 : decode cX5_share 108 = .ok (.invokestatic 214, 3) := by decide +kernel
theorem dX5_share_111 : decode cX5_share 111 = .ok (.iload_n 2, 1) := by decide +kernel
theorem dX5_share_112 : decode cX5_share 112 = .ok (.invokestatic 217, 3) := by decide +kernel
theorem dX5_share_115 : decode cX5_share 115 = .ok (.ireturn, 1) := by decide +kernel
set_option maxRecDepth 20000 in
theorem ggX5_rests_X4_hasBroom : GoodIn wsX5_rests wsX4_hasBroom := goodIn_r _ [6, 7, 119, 120, 121, 122, 123, 124, 125, 126] (by decide +kernel) (by decide +kernel)
set_option maxRecDepth 20000 in
theorem gX5_rests_X4_hasBroom : GoodIn wsX5_rests (wsV RX5 107 RX4 yX4_hasBroom wsX4_hasBroom) := goodIn_app (goodIn_of _ (by decide +kernel)) ggX5_rests_X4_hasBroom
set_option maxRecDepth 20000 in
theorem ggX5_rests_X5_within : GoodIn wsX5_rests wsX5_within := goodIn_r _ [11] (by decide +kernel) (by decide +kernel)
set_option maxRecDepth 20000 in
theorem gX5_rests_X5_within : GoodIn wsX5_rests (va_wsS RX5 61 yX5_within wsX5_within) := goodIn_app (goodIn_of _ (by decide +kernel)) ggX5_rests_X5_within
set_option maxRecDepth 20000 in
theorem ggX5_rests_X5_isAtRest : GoodIn wsX5_rests wsX5_isAtRest := goodIn_r _ [15, 16, 17, 18, 10, 19, 20, 21, 22, 23, 24, 25, 26, 27, 28, 29, 30, 31, 32, 33, 34, 35, 36, 37, 38, 39, 40, 41, 42, 43, 44, 45, 46, 47, 48, 49, 50, 51, 52, 53, 54, 55, 56, 57, 58, 59, 60, 61, 62, 63, 64, 65, 66, 67, 68, 69, 70, 71, 3, 4, 5, 6, 7, 72, 73, 74, 75, 76, 77, 78, 79, 80, 81, 82, 83, 84, 85, 86, 87, 88, 89, 90, 91, 92, 93, 94, 95, 96, 97, 98, 99, 100, 101, 102, 103, 104, 105, 106, 107, 108, 109, 110, 111, 112, 113, 114, 115, 116, 117, 118, 127, 128, 129, 130, 131, 132, 133, 119, 120, 121, 122, 123, 124, 125, 126] (by decide +kernel) (by decide +kernel)
set_option maxRecDepth 20000 in
theorem gX5_rests_X5_isAtRest : GoodIn wsX5_rests (wsV RX5 221 RX5 yX5_isAtRest wsX5_isAtRest) := goodIn_app (goodIn_of _ (by decide +kernel)) ggX5_rests_X5_isAtRest
theorem dX5_rests_0 : decode cX5_rests 0 = .ok (.aload_n 0, 1) := by decide +kernel
theorem dX5_rests_1 : decode cX5_rests 1 = .ok (.getfield 19, 3) := by decide +kernel
theorem dX5_rests_4 : decode cX5_rests 4 = .ok (.iload_n 1, 1) := by decide +kernel
theorem dX5_rests_5 : decode cX5_rests 5 = .ok (.invokevirtual 107, 3) := by decide +kernel
theorem dX5_rests_8 : decode cX5_rests 8 = .ok (.ifCond .eq 14, 3) := by decide +kernel
theorem dX5_rests_11 : decode cX5_rests 11 = .ok (.aload_n 0, 1) := by decide +kernel
theorem dX5_rests_12 : decode cX5_rests 12 = .ok (.getfield 19, 3) := by decide +kernel
theorem dX5_rests_15 : decode cX5_rests 15 = .ok (.iload_n 2, 1) := by decide +kernel
theorem dX5_rests_16 : decode cX5_rests 16 = .ok (.invokevirtual 107, 3) := by decide +kernel
theorem dX5_rests_19 : decode cX5_rests 19 = .ok (.ifCond .ne 5, 3) := by decide +kernel
theorem dX5_rests_22 : decode cX5_rests 22 = .ok (.iconst (-1), 1) := by decide +kernel
theorem dX5_rests_23 : decode cX5_rests 23 = .ok (.ireturn, 1) := by decide +kernel
theorem dX5_rests_24 : decode cX5_rests 24 = .ok (.iload_n 1, 1) := by decide +kernel
theorem dX5_rests_25 : decode cX5_rests 25 = .ok (.iload_n 2, 1) := by decide +kernel
theorem dX5_rests_26 : decode cX5_rests 26 = .ok (.if_icmp .eq 12, 3) := by decide +kernel
theorem dX5_rests_29 : decode cX5_rests 29 = .ok (.iload_n 3, 1) := by decide +kernel
theorem dX5_rests_30 : decode cX5_rests 30 = .ok (.iconst 0, 1) := by decide +kernel
theorem dX5_rests_31 : decode cX5_rests 31 = .ok (.iconst 1, 1) := by decide +kernel
theorem dX5_rests_32 : decode cX5_rests 32 = .ok (.invokestatic 61, 3) := by decide +kernel
theorem dX5_rests_35 : decode cX5_rests 35 = .ok (.ifCond .ne 6, 3) := by decide +kernel
theorem dX5_rests_38 : decode cX5_rests 38 = .ok (.bipush (-2), 2) := by decide +kernel
theorem dX5_rests_40 : decode cX5_rests 40 = .ok (.ireturn, 1) := by decide +kernel
theorem dX5_rests_41 : decode cX5_rests 41 = .ok (.bipush 31, 2) := by decide +kernel
theorem dX5_rests_43 : decode cX5_rests 43 = .ok (.iconst 1, 1) := by decide +kernel
theorem dX5_rests_44 : decode cX5_rests 44 = .ok (.iload_n 1, 1) := by decide +kernel
theorem dX5_rests_45 : decode cX5_rests 45 = .ok (.ishl, 1) := by decide +kernel
theorem dX5_rests_46 : decode cX5_rests 46 = .ok (.iconst 1, 1) := by decide +kernel
theorem dX5_rests_47 : decode cX5_rests 47 = .ok (.iload_n 2, 1) := by decide +kernel
theorem dX5_rests_48 : decode cX5_rests 48 = .ok (.ishl, 1) := by decide +kernel
theorem dX5_rests_49 : decode cX5_rests 49 = .ok (.ior, 1) := by decide +kernel
theorem dX5_rests_50 : decode cX5_rests 50 = .ok (.iconst (-1), 1) := by decide +kernel
theorem dX5_rests_51 : decode cX5_rests 51 = .ok (.ixor, 1) := by decide +kernel
theorem dX5_rests_52 : decode cX5_rests 52 = .ok (.iand, 1) := by decide +kernel
theorem dX5_rests_53 : decode cX5_rests 53 = .ok (.istore 4, 2) := by decide +kernel
theorem dX5_rests_55 : decode cX5_rests 55 = .ok (.iconst 0, 1) := by decide +kernel
theorem dX5_rests_56 : decode cX5_rests 56 = .ok (.istore 5, 2) := by decide +kernel
theorem dX5_rests_58 : decode cX5_rests 58 = .ok (.bipush (-9), 2) := by decide +kernel
theorem dX5_rests_60 : decode cX5_rests 60 = .ok (.istore 6, 2) := by decide +kernel
theorem dX5_rests_62 : decode cX5_rests 62 = .ok (.iconst 0, 1) := by decide +kernel
theorem dX5_rests_63 : decode cX5_rests 63 = .ok (.istore 7, 2) := by decide +kernel
theorem dX5_rests_65 : decode cX5_rests 65 = .ok (.iload 7, 2) := by decide +kernel
theorem dX5_rests_67 : decode cX5_rests 67 = .ok (.iconst 1, 1) := by decide +kernel
theorem dX5_rests_68 : decode cX5_rests 68 = .ok (.if_icmp .gt 70, 3) := by decide +kernel
theorem dX5_rests_71 : decode cX5_rests 71 = .ok (.iconst 0, 1) := by decide +kernel
theorem dX5_rests_72 : decode cX5_rests 72 = .ok (.istore 8, 2) := by decide +kernel
theorem dX5_rests_74 : decode cX5_rests 74 = .ok (.iload 8, 2) := by decide +kernel
theorem dX5_rests_76 : decode cX5_rests 76 = .ok (.iconst 1, 1) := by decide +kernel
theorem dX5_rests_77 : decode cX5_rests 77 = .ok (.if_icmp .gt 55, 3) := by decide +kernel
theorem dX5_rests_80 : decode cX5_rests 80 = .ok (.aload_n 0, 1) := by decide +kernel
theorem dX5_rests_81 : decode cX5_rests 81 = .ok (.iload_n 1, 1) := by decide +kernel
theorem dX5_rests_82 : decode cX5_rests 82 = .ok (.iload_n 2, 1) := by decide +kernel
theorem dX5_rests_83 : decode cX5_rests 83 = .ok (.iload 4, 2) := by decide +kernel
theorem dX5_rests_85 : decode cX5_rests 85 = .ok (.iload 7, 2) := by decide +kernel
theorem dX5_rests_87 : decode cX5_rests 87 = .ok (.iload_n 1, 1) := by decide +kernel
theorem dX5_rests_88 : decode cX5_rests 88 = .ok (.ishl, 1) := by decide +kernel
theorem dX5_rests_89 : decode cX5_rests 89 = .ok (.ior, 1) := by decide +kernel
theorem dX5_rests_90 : decode cX5_rests 90 = .ok (.iload 8, 2) := by decide +kernel
theorem dX5_rests_92 : decode cX5_rests 92 = .ok (.iload_n 2, 1) := by decide +kernel
theorem dX5_rests_93 : decode cX5_rests 93 = .ok (.ishl, 1) := by decide +kernel
theorem dX5_rests_94 : decode cX5_rests 94 = .ok (.ior, 1) := by decide +kernel
theorem dX5_rests_95 : decode cX5_rests 95 = .ok (.invokevirtual 221, 3) := by decide +kernel
theorem dX5_rests_98 : decode cX5_rests 98 = .ok (.ifCond .eq 28, 3) := by decide +kernel
theorem dX5_rests_101 : decode cX5_rests 101 = .ok (.iinc 5 1, 3) := by decide +kernel
theorem dX5_rests_104 : decode cX5_rests 104 = .ok (.iload 6, 2) := by decide +kernel
theorem dX5_rests_106 : decode cX5_rests 106 = .ok (.bipush (-9), 2) := by decide +kernel
theorem dX5_rests_108 : decode cX5_rests 108 = .ok (.if_icmp .ne 14, 3) := by decide +kernel
theorem dX5_rests_111 : decode cX5_rests 111 = .ok (.bipush 10, 2) := by decide +kernel
theorem dX5_rests_113 : decode cX5_rests 113 = .ok (.iload 7, 2) := by decide +kernel
theorem dX5_rests_115 : decode cX5_rests 115 = .ok (.imul, 1) := by decide +kernel
theorem dX5_rests_116 : decode cX5_rests 116 = .ok (.iload 8, 2) := by decide +kernel
theorem dX5_rests_118 : decode cX5_rests 118 = .ok (.iadd, 1) := by decide +kernel
theorem dX5_rests_119 : decode cX5_rests 119 = .ok (.goto 5, 3) := by decide +kernel
theorem dX5_rests_122 : decode cX5_rests 122 = .ok (.iload 6, 2) := by decide +kernel
theorem dX5_rests_124 : decode cX5_rests 124 = .ok (.istore 6, 2) := by decide +kernel
theorem dX5_rests_126 : decode cX5_rests 126 = .ok (.iinc 8 1, 3) := by decide +kernel
theorem dX5_rests_129 : decode cX5_rests 129 = .ok (.goto (-55), 3) := by decide +kernel
theorem dX5_rests_132 : decode cX5_rests 132 = .ok (.iinc 7 1, 3) := by decide +kernel
theorem dX5_rests_135 : decode cX5_rests 135 = .ok (.goto (-70), 3) := by decide +kernel
theorem dX5_rests_138 : decode cX5_rests 138 = .ok (.iload_n 3, 1) := by decide +kernel
theorem dX5_rests_139 : decode cX5_rests 139 = .ok (.ifCond .ne 8, 3) := by decide +kernel
theorem dX5_rests_142 : decode cX5_rests 142 = .ok (.iload 5, 2) := by decide +kernel
theorem dX5_rests_144 : decode cX5_rests 144 = .ok (.goto 5, 3) := by decide +kernel
theorem dX5_rests_147 : decode cX5_rests 147 = .ok (.iload 6, 2) := by decide +kernel
theorem dX5_rests_149 : decode cX5_rests 149 = .ok (.ireturn, 1) := by decide +kernel
set_option maxRecDepth 20000 in
theorem ggX5_twice_X5_isStreet : GoodIn wsX5_twice wsX5_isStreet := goodIn_r _ [4] (by decide +kernel) (by decide +kernel)
set_option maxRecDepth 20000 in
theorem gX5_twice_X5_isStreet : GoodIn wsX5_twice (va_wsS RX5 93 yX5_isStreet wsX5_isStreet) := goodIn_app (goodIn_of _ (by decide +kernel)) ggX5_twice_X5_isStreet
set_option maxRecDepth 20000 in
theorem ggX5_twice_X5_within : GoodIn wsX5_twice wsX5_within := goodIn_r _ [7] (by decide +kernel) (by decide +kernel)
set_option maxRecDepth 20000 in
theorem gX5_twice_X5_within : GoodIn wsX5_twice (va_wsS RX5 61 yX5_within wsX5_within) := goodIn_app (goodIn_of _ (by decide +kernel)) ggX5_twice_X5_within
set_option maxRecDepth 20000 in
theorem ggX5_twice_X5_isDeepBehind : GoodIn wsX5_twice wsX5_isDeepBehind := goodIn_r _ [11, 12, 13, 14, 3, 15, 16, 17, 18, 19, 20, 21, 22, 23, 24, 25, 26, 27, 28, 29, 30, 31, 32, 33, 34, 35, 36, 37, 38, 39, 40, 41, 42, 43, 44, 45, 46, 47, 48, 2, 4, 49, 50, 51, 52, 53, 54, 55, 56, 57, 58, 59, 60, 61, 62, 63, 64, 65, 66, 67, 68, 69, 70, 71, 72, 73, 74, 75, 76, 77, 78, 79, 80, 81, 82, 83, 84, 85, 86, 87, 88, 89, 90, 91, 92, 93, 94, 95, 96, 97, 98, 99, 100, 101, 102, 103, 126, 127, 128, 129, 130, 131, 132, 133, 134, 135, 136, 137, 138, 139, 140, 141, 142, 143, 144, 145, 146, 147, 148, 149] (by decide +kernel) (by decide +kernel)
set_option maxRecDepth 20000 in
theorem gX5_twice_X5_isDeepBehind : GoodIn wsX5_twice (wsV RX5 224 RX5 yX5_isDeepBehind wsX5_isDeepBehind) := goodIn_app (goodIn_of _ (by decide +kernel)) ggX5_twice_X5_isDeepBehind
set_option maxRecDepth 20000 in
theorem ggX5_twice_J6_bitCount_0f7a4 : GoodIn wsX5_twice wsJ6_bitCount_0f7a4 := goodIn_r _ [107, 108, 109, 110] (by decide +kernel) (by decide +kernel)
set_option maxRecDepth 20000 in
theorem gX5_twice_J6_bitCount_0f7a4 : GoodIn wsX5_twice (va_wsS RX5 152 yJ6_bitCount_0f7a4 wsJ6_bitCount_0f7a4) := goodIn_app (goodIn_of _ (by decide +kernel)) ggX5_twice_J6_bitCount_0f7a4
set_option maxRecDepth 20000 in
theorem ggX5_twice_X5_power : GoodIn wsX5_twice wsX5_power := goodIn_r _ [113] (by decide +kernel) (by decide +kernel)
set_option maxRecDepth 20000 in
theorem gX5_twice_X5_power : GoodIn wsX5_twice (va_wsS RX5 187 yX5_power wsX5_power) := goodIn_app (goodIn_of _ (by decide +kernel)) ggX5_twice_X5_power
set_option maxRecDepth 20000 in
theorem ggX5_twice_X5_fraction : GoodIn wsX5_twice wsX5_fraction := goodIn_r _ [116, 117, 118, 47, 119, 120, 121, 122, 123, 124, 3, 125] (by decide +kernel) (by decide +kernel)
set_option maxRecDepth 20000 in
theorem gX5_twice_X5_fraction : GoodIn wsX5_twice (va_wsS RX5 217 yX5_fraction wsX5_fraction) := goodIn_app (goodIn_of _ (by decide +kernel)) ggX5_twice_X5_fraction
theorem dX5_twice_0 : decode cX5_twice 0 = .ok (.iload_n 1, 1) := by decide +kernel
theorem dX5_twice_1 : decode cX5_twice 1 = .ok (.invokestatic 93, 3) := by decide +kernel
theorem dX5_twice_4 : decode cX5_twice 4 = .ok (.ifCond .ne 5, 3) := by decide +kernel
theorem dX5_twice_7 : decode cX5_twice 7 = .ok (.iconst (-1), 1) := by decide +kernel
theorem dX5_twice_8 : decode cX5_twice 8 = .ok (.ireturn, 1) := by decide +kernel
theorem dX5_twice_9 : decode cX5_twice 9 = .ok (.iload_n 2, 1) := by decide +kernel
theorem dX5_twice_10 : decode cX5_twice 10 = .ok (.iconst 1, 1) := by decide +kernel
theorem dX5_twice_11 : decode cX5_twice 11 = .ok (.bipush 6, 2) := by decide +kernel
theorem dX5_twice_13 : decode cX5_twice 13 = .ok (.invokestatic 61, 3) := by decide +kernel
theorem dX5_twice_16 : decode cX5_twice 16 = .ok (.ifCond .eq 13, 3) := by decide +kernel
theorem dX5_twice_19 : decode cX5_twice 19 = .ok (.iload_n 3, 1) := by decide +kernel
theorem dX5_twice_20 : decode cX5_twice 20 = .ok (.iconst 0, 1) := by decide +kernel
theorem dX5_twice_21 : decode cX5_twice 21 = .ok (.bipush 10, 2) := by decide +kernel
theorem dX5_twice_23 : decode cX5_twice 23 = .ok (.invokestatic 61, 3) := by decide +kernel
theorem dX5_twice_26 : decode cX5_twice 26 = .ok (.ifCond .ne 6, 3) := by decide +kernel
theorem dX5_twice_29 : decode cX5_twice 29 = .ok (.bipush (-2), 2) := by decide +kernel
theorem dX5_twice_31 : decode cX5_twice 31 = .ok (.ireturn, 1) := by decide +kernel
theorem dX5_twice_32 : decode cX5_twice 32 = .ok (.lconst 0, 1) := by decide +kernel
theorem dX5_twice_33 : decode cX5_twice 33 = .ok (.lstore 5, 2) := by decide +kernel
theorem dX5_twice_35 : decode cX5_twice 35 = .ok (.iconst 0, 1) := by decide +kernel
theorem dX5_twice_36 : decode cX5_twice 36 = .ok (.istore 7, 2) := by decide +kernel
theorem dX5_twice_38 : decode cX5_twice 38 = .ok (.iload 7, 2) := by decide +kernel
theorem dX5_twice_40 : decode cX5_twice 40 = .ok (.iconst 1, 1) := by decide +kernel
theorem dX5_twice_41 : decode cX5_twice 41 = .ok (.iload_n 2, 1) := by decide +kernel
theorem dX5_twice_42 : decode cX5_twice 42 = .ok (.ishl, 1) := by decide +kernel
theorem dX5_twice_43 : decode cX5_twice 43 = .ok (.if_icmp .ge 50, 3) := by decide +kernel
theorem dX5_twice_46 : decode cX5_twice 46 = .ok (.aload_n 0, 1) := by decide +kernel
theorem dX5_twice_47 : decode cX5_twice 47 = .ok (.iload_n 1, 1) := by decide +kernel
theorem dX5_twice_48 : decode cX5_twice 48 = .ok (.iload_n 2, 1) := by decide +kernel
theorem dX5_twice_49 : decode cX5_twice 49 = .ok (.iload 7, 2) := by decide +kernel
theorem dX5_twice_51 : decode cX5_twice 51 = .ok (.invokevirtual 224, 3) := by decide +kernel
theorem dX5_twice_54 : decode cX5_twice 54 = .ok (.ifCond .eq 33, 3) := by decide +kernel
theorem dX5_twice_57 : decode cX5_twice 57 = .ok (.iload 7, 2) := by decide +kernel
theorem dX5_twice_59 : decode cX5_twice 59 = .ok (.invokestatic 152, 3) := by decide +kernel
theorem dX5_twice_62 : decode cX5_twice 62 = .ok (.istore 8, 2) := by decide +kernel
theorem dX5_twice_64 : decode cX5_twice 64 = .ok (.lload 5, 2) := by decide +kernel
theorem dX5_twice_66 : decode cX5_twice 66 = .ok (.iload_n 3, 1) := by decide +kernel
theorem dX5_twice_67 : decode cX5_twice 67 = .ok (.iload 8, 2) := by decide +kernel
theorem dX5_twice_69 : decode cX5_twice 69 = .ok (.invokestatic 187, 3) := by decide +kernel
theorem dX5_twice_72 : decode cX5_twice 72 = .ok (.bipush 10, 2) := by decide +kernel
theorem dX5_twice_74 : decode cX5_twice 74 = .ok (.iload_n 3, 1) := by decide +kernel
theorem dX5_twice_75 : decode cX5_twice 75 = .ok (.isub, 1) := by decide +kernel
theorem dX5_twice_76 : decode cX5_twice 76 = .ok (.iload_n 2, 1) := by decide +kernel
theorem dX5_twice_77 : decode cX5_twice 77 = .ok (.iload 8, 2) := by decide +kernel
theorem dX5_twice_79 : decode cX5_twice 79 = .ok (.isub, 1) := by decide +kernel
theorem dX5_twice_80 : decode cX5_twice 80 = .ok (.invokestatic 187, 3) := by decide +kernel
theorem dX5_twice_83 : decode cX5_twice 83 = .ok (.lmul, 1) := by decide +kernel
theorem dX5_twice_84 : decode cX5_twice 84 = .ok (.ladd, 1) := by decide +kernel
theorem dX5_twice_85 : decode cX5_twice 85 = .ok (.lstore 5, 2) := by decide +kernel
theorem dX5_twice_87 : decode cX5_twice 87 = .ok (.iinc 7 1, 3) := by decide +kernel
theorem dX5_twice_90 : decode cX5_twice 90 = .ok (.goto (-52), 3) := by decide +kernel
theorem dX5_twice_93 : decode cX5_twice 93 = .ok (.lload 5, 2) := by decide +kernel
theorem dX5_twice_95 : decode cX5_twice 95 = .ok (.bipush 10, 2) := by decide +kernel
theorem dX5_twice_97 : decode cX5_twice 97 = .ok (.iload_n 2, 1) := by decide +kernel
theorem dX5_twice_98 : decode cX5_twice 98 = .ok (.invokestatic 187, 3) := by decide +kernel
theorem dX5_twice_101 : decode cX5_twice 101 = .ok (.iload 4, 2) := by decide +kernel
theorem dX5_twice_103 : decode cX5_twice 103 = .ok (.invokestatic 217, 3) := by decide +kernel
theorem dX5_twice_106 : decode cX5_twice 106 = .ok (.ireturn, 1) := by decide +kernel
theorem dX5_seed_0 : decode cX5_seed 0 = .ok (.aload_n 0, 1) := by decide +kernel
theorem dX5_seed_1 : decode cX5_seed 1 = .ok (.getfield 57, 3) := by decide +kernel
theorem dX5_seed_4 : decode cX5_seed 4 = .ok (.lstore_n 3, 1) := by decide +kernel
theorem dX5_seed_5 : decode cX5_seed 5 = .ok (.aload_n 0, 1) := by decide +kernel
theorem dX5_seed_6 : decode cX5_seed 6 = .ok (.lload_n 1, 1) := by decide +kernel
theorem dX5_seed_7 : decode cX5_seed 7 = .ok (.putfield 57, 3) := by decide +kernel
theorem dX5_seed_10 : decode cX5_seed 10 = .ok (.lload_n 3, 1) := by decide +kernel
theorem dX5_seed_11 : decode cX5_seed 11 = .ok (.lreturn, 1) := by decide +kernel
set_option maxRecDepth 20000 in
theorem ggX5_years_X5_within : GoodIn wsX5_years wsX5_within := goodIn_r _ [8] (by decide +kernel) (by decide +kernel)
set_option maxRecDepth 20000 in
theorem gX5_years_X5_within : GoodIn wsX5_years (va_wsS RX5 61 yX5_within wsX5_within) := goodIn_app (goodIn_of _ (by decide +kernel)) ggX5_years_X5_within
set_option maxRecDepth 20000 in
theorem ggX5_years_X5_fromNow : GoodIn wsX5_years wsX5_fromNow := goodIn_r _ [12, 13, 14, 15, 16, 17, 18, 19, 20, 21, 22, 23, 24, 25, 26, 27, 28, 142, 143, 144, 145, 146, 147, 148, 149, 150, 151, 152, 153, 154, 155, 156, 157] (by decide +kernel) (by decide +kernel)
set_option maxRecDepth 20000 in
theorem gX5_years_X5_fromNow : GoodIn wsX5_years (wsV RX5 173 RX5 yX5_fromNow wsX5_fromNow) := goodIn_app (goodIn_of _ (by decide +kernel)) ggX5_years_X5_fromNow
set_option maxRecDepth 20000 in
theorem ggX5_years_X5_happen : GoodIn wsX5_years wsX5_happen := goodIn_r _ [32, 33, 34, 35, 7, 36, 37, 38, 39, 40, 41, 42, 43, 5, 6, 8, 44, 45, 46, 18, 47, 48, 49, 50, 51, 52, 25, 53, 54, 55, 56, 57, 58, 59, 60, 61, 62, 63, 64, 65, 66, 67, 68, 69, 70, 71, 26, 72, 73, 74, 75, 76, 77, 78, 79, 80, 81, 82, 20, 83, 84, 85, 86, 87, 88, 89, 90, 91, 92, 93, 94, 28, 95, 96, 97, 98, 99, 100, 101, 102, 103, 104, 105, 106, 107, 108, 109, 110, 111, 112, 113, 114, 115, 116, 117, 118, 119, 120, 121, 122, 123, 124, 125, 126, 127, 128, 27, 129, 130, 131, 132, 133, 134, 135, 136, 137, 142, 143, 144, 145, 146, 147, 148, 149, 150, 158, 159, 160, 161, 162, 163, 164, 165, 151, 152, 153, 154, 155, 156, 157] (by decide +kernel) (by decide +kernel)
set_option maxRecDepth 20000 in
theorem gX5_years_X5_happen : GoodIn wsX5_years (wsV RX5 233 RX5 yX5_happen wsX5_happen) := goodIn_app (goodIn_of _ (by decide +kernel)) ggX5_years_X5_happen
set_option maxRecDepth 20000 in
theorem ggX5_years_X2_allDust : GoodIn wsX5_years wsX2_allDust := goodIn_r _ [141, 20, 151, 152, 153, 154, 155, 156, 157] (by decide +kernel) (by decide +kernel)
set_option maxRecDepth 20000 in
theorem gX5_years_X2_allDust : GoodIn wsX5_years (wsV RX5 133 RX2 yX2_allDust wsX2_allDust) := goodIn_app (goodIn_of _ (by decide +kernel)) ggX5_years_X2_allDust
theorem dX5_years_0 : decode cX5_years 0 = .ok (.iload_n 1, 1) := by decide +kernel
theorem dX5_years_1 : decode cX5_years 1 = .ok (.iconst 1, 1) := by decide +kernel
theorem dX5_years_2 : decode cX5_years 2 = .ok (.bipush 30, 2) := by decide +kernel
theorem dX5_years_4 : decode cX5_years 4 = .ok (.invokestatic 61, 3) := by decide +kernel
theorem dX5_years_7 : decode cX5_years 7 = .ok (.ifCond .ne 6, 3) := by decide +kernel
theorem dX5_years_10 : decode cX5_years 10 = .ok (.bipush (-2), 2) := by decide +kernel
theorem dX5_years_12 : decode cX5_years 12 = .ok (.ireturn, 1) := by decide +kernel
theorem dX5_years_13 : decode cX5_years 13 = .ok (.aload_n 0, 1) := by decide +kernel
theorem dX5_years_14 : decode cX5_years 14 = .ok (.invokevirtual 173, 3) := by decide +kernel
theorem dX5_years_17 : decode cX5_years 17 = .ok (.astore_n 2, 1) := by decide +kernel
theorem dX5_years_18 : decode cX5_years 18 = .ok (.iconst 0, 1) := by decide +kernel
theorem dX5_years_19 : decode cX5_years 19 = .ok (.istore_n 3, 1) := by decide +kernel
theorem dX5_years_20 : decode cX5_years 20 = .ok (.iconst 0, 1) := by decide +kernel
theorem dX5_years_21 : decode cX5_years 21 = .ok (.istore 4, 2) := by decide +kernel
theorem dX5_years_23 : decode cX5_years 23 = .ok (.iload 4, 2) := by decide +kernel
theorem dX5_years_25 : decode cX5_years 25 = .ok (.iload_n 1, 1) := by decide +kernel
theorem dX5_years_26 : decode cX5_years 26 = .ok (.if_icmp .ge 49, 3) := by decide +kernel
theorem dX5_years_29 : decode cX5_years 29 = .ok (.aload_n 0, 1) := by decide +kernel
theorem dX5_years_30 : decode cX5_years 30 = .ok (.aload_n 0, 1) := by decide +kernel
theorem dX5_years_31 : decode cX5_years 31 = .ok (.getfield 57, 3) := by decide +kernel
theorem dX5_years_34 : decode cX5_years 34 = .ok (.ldc2_w 227, 3) := by decide +kernel
theorem dX5_years_37 : decode cX5_years 37 = .ok (.lmul, 1) := by decide +kernel
theorem dX5_years_38 : decode cX5_years 38 = .ok (.ldc2_w 229, 3) := by decide +kernel
theorem dX5_years_41 : decode cX5_years 41 = .ok (.ladd, 1) := by decide +kernel
theorem dX5_years_42 : decode cX5_years 42 = .ok (.putfield 57, 3) := by decide +kernel
theorem dX5_years_45 : decode cX5_years 45 = .ok (.aload_n 0, 1) := by decide +kernel
theorem dX5_years_46 : decode cX5_years 46 = .ok (.aload_n 2, 1) := by decide +kernel
theorem dX5_years_47 : decode cX5_years 47 = .ok (.aload_n 0, 1) := by decide +kernel
theorem dX5_years_48 : decode cX5_years 48 = .ok (.getfield 57, 3) := by decide +kernel
theorem dX5_years_51 : decode cX5_years 51 = .ok (.bipush 33, 2) := by decide +kernel
theorem dX5_years_53 : decode cX5_years 53 = .ok (.lushr, 1) := by decide +kernel
theorem dX5_years_54 : decode cX5_years 54 = .ok (.ldc2_w 231, 3) := by decide +kernel
theorem dX5_years_57 : decode cX5_years 57 = .ok (.lrem, 1) := by decide +kernel
theorem dX5_years_58 : decode cX5_years 58 = .ok (.l2i, 1) := by decide +kernel
theorem dX5_years_59 : decode cX5_years 59 = .ok (.invokevirtual 233, 3) := by decide +kernel
theorem dX5_years_62 : decode cX5_years 62 = .ok (.iload_n 3, 1) := by decide +kernel
theorem dX5_years_63 : decode cX5_years 63 = .ok (.aload_n 2, 1) := by decide +kernel
theorem dX5_years_64 : decode cX5_years 64 = .ok (.invokevirtual 133, 3) := by decide +kernel
theorem dX5_years_67 : decode cX5_years 67 = .ok (.iadd, 1) := by decide +kernel
theorem dX5_years_68 : decode cX5_years 68 = .ok (.istore_n 3, 1) := by decide +kernel
theorem dX5_years_69 : decode cX5_years 69 = .ok (.iinc 4 1, 3) := by decide +kernel
theorem dX5_years_72 : decode cX5_years 72 = .ok (.goto (-49), 3) := by decide +kernel
theorem dX5_years_75 : decode cX5_years 75 = .ok (.iload_n 3, 1) := by decide +kernel
theorem dX5_years_76 : decode cX5_years 76 = .ok (.ireturn, 1) := by decide +kernel
set_option maxRecDepth 20000 in
theorem ggX5_keep_X5_within : GoodIn wsX5_keep wsX5_within := goodIn_r _ [7] (by decide +kernel) (by decide +kernel)
set_option maxRecDepth 20000 in
theorem gX5_keep_X5_within : GoodIn wsX5_keep (va_wsS RX5 61 yX5_within wsX5_within) := goodIn_app (goodIn_of _ (by decide +kernel)) ggX5_keep_X5_within
set_option maxRecDepth 20000 in
theorem ggX5_keep_X2_save : GoodIn wsX5_keep wsX2_save := goodIn_r _ [12, 13, 14, 15, 16, 17, 18, 19, 20, 21, 31, 32, 33, 34, 35, 36, 37] (by decide +kernel) (by decide +kernel)
set_option maxRecDepth 20000 in
theorem gX5_keep_X2_save : GoodIn wsX5_keep (wsV RX5 237 RX2 yX2_save wsX2_save) := goodIn_app (goodIn_of _ (by decide +kernel)) ggX5_keep_X2_save
theorem dX5_keep_0 : decode cX5_keep 0 = .ok (.iload_n 1, 1) := by decide +kernel
theorem dX5_keep_1 : decode cX5_keep 1 = .ok (.iconst 0, 1) := by decide +kernel
theorem dX5_keep_2 : decode cX5_keep 2 = .ok (.iconst 1, 1) := by decide +kernel
theorem dX5_keep_3 : decode cX5_keep 3 = .ok (.invokestatic 61, 3) := by decide +kernel
theorem dX5_keep_6 : decode cX5_keep 6 = .ok (.ifCond .ne 5, 3) := by decide +kernel
theorem dX5_keep_9 : decode cX5_keep 9 = .ok (.iconst (-1), 1) := by decide +kernel
theorem dX5_keep_10 : decode cX5_keep 10 = .ok (.ireturn, 1) := by decide +kernel
theorem dX5_keep_11 : decode cX5_keep 11 = .ok (.aload_n 0, 1) := by decide +kernel
theorem dX5_keep_12 : decode cX5_keep 12 = .ok (.getfield 28, 3) := by decide +kernel
theorem dX5_keep_15 : decode cX5_keep 15 = .ok (.aload_n 0, 1) := by decide +kernel
theorem dX5_keep_16 : decode cX5_keep 16 = .ok (.getfield 49, 3) := by decide +kernel
theorem dX5_keep_19 : decode cX5_keep 19 = .ok (.iload_n 1, 1) := by decide +kernel
theorem dX5_keep_20 : decode cX5_keep 20 = .ok (.bipush 16, 2) := by decide +kernel
theorem dX5_keep_22 : decode cX5_keep 22 = .ok (.imul, 1) := by decide +kernel
theorem dX5_keep_23 : decode cX5_keep 23 = .ok (.invokevirtual 237, 3) := by decide +kernel
theorem dX5_keep_26 : decode cX5_keep 26 = .ok (.aload_n 0, 1) := by decide +kernel
theorem dX5_keep_27 : decode cX5_keep 27 = .ok (.getfield 53, 3) := by decide +kernel
theorem dX5_keep_30 : decode cX5_keep 30 = .ok (.iload_n 1, 1) := by decide +kernel
theorem dX5_keep_31 : decode cX5_keep 31 = .ok (.iconst 1, 1) := by decide +kernel
theorem dX5_keep_32 : decode cX5_keep 32 = .ok (.bastore, 1) := by decide +kernel
theorem dX5_keep_33 : decode cX5_keep 33 = .ok (.aload_n 0, 1) := by decide +kernel
theorem dX5_keep_34 : decode cX5_keep 34 = .ok (.getfield 28, 3) := by decide +kernel
theorem dX5_keep_37 : decode cX5_keep 37 = .ok (.getfield 241, 3) := by decide +kernel
theorem dX5_keep_40 : decode cX5_keep 40 = .ok (.ireturn, 1) := by decide +kernel
set_option maxRecDepth 20000 in
theorem ggX5_again_X5_within : GoodIn wsX5_again wsX5_within := goodIn_r _ [8] (by decide +kernel) (by decide +kernel)
set_option maxRecDepth 20000 in
theorem gX5_again_X5_within : GoodIn wsX5_again (va_wsS RX5 61 yX5_within wsX5_within) := goodIn_app (goodIn_of _ (by decide +kernel)) ggX5_again_X5_within
set_option maxRecDepth 20000 in
theorem ggX5_again_X2_load : GoodIn wsX5_again wsX2_load := goodIn_r _ [13, 14, 15, 16, 17, 18, 19, 20, 21, 22, 39, 40, 41, 42, 43, 44, 45] (by decide +kernel) (by decide +kernel)
set_option maxRecDepth 20000 in
theorem gX5_again_X2_load : GoodIn wsX5_again (wsV RX5 244 RX2 yX2_load wsX2_load) := goodIn_app (goodIn_of _ (by decide +kernel)) ggX5_again_X2_load
set_option maxRecDepth 20000 in
theorem ggX5_again_X0_clear : GoodIn wsX5_again wsX0_clear := goodIn_r _ [27, 28, 29, 46, 47, 48] (by decide +kernel) (by decide +kernel)
set_option maxRecDepth 20000 in
theorem gX5_again_X0_clear : GoodIn wsX5_again (wsV RX5 84 RX0 yX0_clear wsX0_clear) := goodIn_app (goodIn_of _ (by decide +kernel)) ggX5_again_X0_clear
theorem dX5_again_0 : decode cX5_again 0 = .ok (.iload_n 1, 1) := by decide +kernel
theorem dX5_again_1 : decode cX5_again 1 = .ok (.iconst 0, 1) := by decide +kernel
theorem dX5_again_2 : decode cX5_again 2 = .ok (.iconst 1, 1) := by decide +kernel
theorem dX5_again_3 : decode cX5_again 3 = .ok (.invokestatic 61, 3) := by decide +kernel
theorem dX5_again_6 : decode cX5_again 6 = .ok (.ifCond .ne 5, 3) := by decide +kernel
theorem dX5_again_9 : decode cX5_again 9 = .ok (.iconst (-1), 1) := by decide +kernel
theorem dX5_again_10 : decode cX5_again 10 = .ok (.ireturn, 1) := by decide +kernel
theorem dX5_again_11 : decode cX5_again 11 = .ok (.aload_n 0, 1) := by decide +kernel
theorem dX5_again_12 : decode cX5_again 12 = .ok (.getfield 53, 3) := by decide +kernel
theorem dX5_again_15 : decode cX5_again 15 = .ok (.iload_n 1, 1) := by decide +kernel
theorem dX5_again_16 : decode cX5_again 16 = .ok (.baload, 1) := by decide +kernel
theorem dX5_again_17 : decode cX5_again 17 = .ok (.ifCond .ne 6, 3) := by decide +kernel
theorem dX5_again_20 : decode cX5_again 20 = .ok (.bipush (-3), 2) := by decide +kernel
theorem dX5_again_22 : decode cX5_again 22 = .ok (.ireturn, 1) := by decide +kernel
theorem dX5_again_23 : decode cX5_again 23 = .ok (.aload_n 0, 1) := by decide +kernel
theorem dX5_again_24 : decode cX5_again 24 = .ok (.getfield 28, 3) := by decide +kernel
theorem dX5_again_27 : decode cX5_again 27 = .ok (.aload_n 0, 1) := by decide +kernel
theorem dX5_again_28 : decode cX5_again 28 = .ok (.getfield 49, 3) := by decide +kernel
theorem dX5_again_31 : decode cX5_again 31 = .ok (.iload_n 1, 1) := by decide +kernel
theorem dX5_again_32 : decode cX5_again 32 = .ok (.bipush 16, 2) := by decide +kernel
theorem dX5_again_34 : decode cX5_again 34 = .ok (.imul, 1) := by decide +kernel
theorem dX5_again_35 : decode cX5_again 35 = .ok (.invokevirtual 244, 3) := by decide +kernel
theorem dX5_again_38 : decode cX5_again 38 = .ok (.aload_n 0, 1) := by decide +kernel
theorem dX5_again_39 : decode cX5_again 39 = .ok (.getfield 38, 3) := by decide +kernel
theorem dX5_again_42 : decode cX5_again 42 = .ok (.invokevirtual 84, 3) := by decide +kernel
theorem dX5_again_45 : decode cX5_again 45 = .ok (.aload_n 0, 1) := by decide +kernel
theorem dX5_again_46 : decode cX5_again 46 = .ok (.getfield 28, 3) := by decide +kernel
theorem dX5_again_49 : decode cX5_again 49 = .ok (.getfield 241, 3) := by decide +kernel
theorem dX5_again_52 : decode cX5_again 52 = .ok (.ireturn, 1) := by decide +kernel
set_option maxRecDepth 20000 in
theorem ggX5_count_X2_allDust : GoodIn wsX5_count wsX2_allDust := goodIn_r _ [10, 11, 46, 47, 48, 49, 50, 51, 52] (by decide +kernel) (by decide +kernel)
set_option maxRecDepth 20000 in
theorem gX5_count_X2_allDust : GoodIn wsX5_count (wsV RX5 133 RX2 yX2_allDust wsX2_allDust) := goodIn_app (goodIn_of _ (by decide +kernel)) ggX5_count_X2_allDust
set_option maxRecDepth 20000 in
theorem ggX5_count_X2_deepStreets : GoodIn wsX5_count wsX2_deepStreets := goodIn_r _ [15, 16, 17, 18, 9, 19, 20, 21, 22, 23, 11, 24, 25, 26, 46, 47, 48, 49, 50, 51, 52] (by decide +kernel) (by decide +kernel)
set_option maxRecDepth 20000 in
theorem gX5_count_X2_deepStreets : GoodIn wsX5_count (wsV RX5 170 RX2 yX2_deepStreets wsX2_deepStreets) := goodIn_app (goodIn_of _ (by decide +kernel)) ggX5_count_X2_deepStreets
theorem dX5_count_0 : decode cX5_count 0 = .ok (.iload_n 1, 1) := by decide +kernel
theorem dX5_count_1 : decode cX5_count 1 = .ok (.tableswitch 143 0 9 #[55, 63, 71, 79, 87, 95, 103, 119, 127, 135], 55) := by decide +kernel
theorem dX5_count_56 : decode cX5_count 56 = .ok (.aload_n 0, 1) := by decide +kernel
theorem dX5_count_57 : decode cX5_count 57 = .ok (.getfield 12, 3) := by decide +kernel
theorem dX5_count_60 : decode cX5_count 60 = .ok (.getfield 65, 3) := by decide +kernel
theorem dX5_count_63 : decode cX5_count 63 = .ok (.ireturn, 1) := by decide +kernel
theorem dX5_count_64 : decode cX5_count 64 = .ok (.aload_n 0, 1) := by decide +kernel
theorem dX5_count_65 : decode cX5_count 65 = .ok (.getfield 19, 3) := by decide +kernel
theorem dX5_count_68 : decode cX5_count 68 = .ok (.getfield 87, 3) := by decide +kernel
theorem dX5_count_71 : decode cX5_count 71 = .ok (.ireturn, 1) := by decide +kernel
theorem dX5_count_72 : decode cX5_count 72 = .ok (.aload_n 0, 1) := by decide +kernel
theorem dX5_count_73 : decode cX5_count 73 = .ok (.getfield 19, 3) := by decide +kernel
theorem dX5_count_76 : decode cX5_count 76 = .ok (.getfield 90, 3) := by decide +kernel
theorem dX5_count_79 : decode cX5_count 79 = .ok (.ireturn, 1) := by decide +kernel
theorem dX5_count_80 : decode cX5_count 80 = .ok (.aload_n 0, 1) := by decide +kernel
theorem dX5_count_81 : decode cX5_count 81 = .ok (.getfield 28, 3) := by decide +kernel
theorem dX5_count_84 : decode cX5_count 84 = .ok (.getfield 241, 3) := by decide +kernel
theorem dX5_count_87 : decode cX5_count 87 = .ok (.ireturn, 1) := by decide +kernel
theorem dX5_count_88 : decode cX5_count 88 = .ok (.aload_n 0, 1) := by decide +kernel
theorem dX5_count_89 : decode cX5_count 89 = .ok (.getfield 28, 3) := by decide +kernel
theorem dX5_count_92 : decode cX5_count 92 = .ok (.invokevirtual 133, 3) := by decide +kernel
theorem dX5_count_95 : decode cX5_count 95 = .ok (.ireturn, 1) := by decide +kernel
theorem dX5_count_96 : decode cX5_count 96 = .ok (.aload_n 0, 1) := by decide +kernel
theorem dX5_count_97 : decode cX5_count 97 = .ok (.getfield 28, 3) := by decide +kernel
theorem dX5_count_100 : decode cX5_count 100 = .ok (.invokevirtual 170, 3) := by decide +kernel
theorem dX5_count_103 : decode cX5_count 103 = .ok (.ireturn, 1) := by decide +kernel
theorem dX5_count_104 : decode cX5_count 104 = .ok (.aload_n 0, 1) := by decide +kernel
theorem dX5_count_105 : decode cX5_count 105 = .ok (.getfield 28, 3) := by decide +kernel
theorem dX5_count_108 : decode cX5_count 108 = .ok (.getfield 142, 3) := by decide +kernel
theorem dX5_count_111 : decode cX5_count 111 = .ok (.ifCond .eq 7, 3) := by decide +kernel
theorem dX5_count_114 : decode cX5_count 114 = .ok (.iconst 1, 1) := by decide +kernel
theorem dX5_count_115 : decode cX5_count 115 = .ok (.goto 4, 3) := by decide +kernel
theorem dX5_count_118 : decode cX5_count 118 = .ok (.iconst 0, 1) := by decide +kernel
theorem dX5_count_119 : decode cX5_count 119 = .ok (.ireturn, 1) := by decide +kernel
theorem dX5_count_120 : decode cX5_count 120 = .ok (.aload_n 0, 1) := by decide +kernel
theorem dX5_count_121 : decode cX5_count 121 = .ok (.getfield 28, 3) := by decide +kernel
theorem dX5_count_124 : decode cX5_count 124 = .ok (.getfield 149, 3) := by decide +kernel
theorem dX5_count_127 : decode cX5_count 127 = .ok (.ireturn, 1) := by decide +kernel
theorem dX5_count_128 : decode cX5_count 128 = .ok (.aload_n 0, 1) := by decide +kernel
theorem dX5_count_129 : decode cX5_count 129 = .ok (.getfield 38, 3) := by decide +kernel
theorem dX5_count_132 : decode cX5_count 132 = .ok (.getfield 160, 3) := by decide +kernel
theorem dX5_count_135 : decode cX5_count 135 = .ok (.ireturn, 1) := by decide +kernel
theorem dX5_count_136 : decode cX5_count 136 = .ok (.aload_n 0, 1) := by decide +kernel
theorem dX5_count_137 : decode cX5_count 137 = .ok (.getfield 45, 3) := by decide +kernel
theorem dX5_count_140 : decode cX5_count 140 = .ok (.getfield 203, 3) := by decide +kernel
theorem dX5_count_143 : decode cX5_count 143 = .ok (.ireturn, 1) := by decide +kernel
theorem dX5_count_144 : decode cX5_count 144 = .ok (.bipush (-2), 2) := by decide +kernel
theorem dX5_count_146 : decode cX5_count 146 = .ok (.ireturn, 1) := by decide +kernel
theorem dX5_within_0 : decode cX5_within 0 = .ok (.iload_n 0, 1) := by decide +kernel
theorem dX5_within_1 : decode cX5_within 1 = .ok (.iload_n 1, 1) := by decide +kernel
theorem dX5_within_2 : decode cX5_within 2 = .ok (.if_icmp .lt 12, 3) := by decide +kernel
theorem dX5_within_5 : decode cX5_within 5 = .ok (.iload_n 0, 1) := by decide +kernel
theorem dX5_within_6 : decode cX5_within 6 = .ok (.iload_n 2, 1) := by decide +kernel
theorem dX5_within_7 : decode cX5_within 7 = .ok (.if_icmp .gt 7, 3) := by decide +kernel
theorem dX5_within_10 : decode cX5_within 10 = .ok (.iconst 1, 1) := by decide +kernel
theorem dX5_within_11 : decode cX5_within 11 = .ok (.goto 4, 3) := by decide +kernel
theorem dX5_within_14 : decode cX5_within 14 = .ok (.iconst 0, 1) := by decide +kernel
theorem dX5_within_15 : decode cX5_within 15 = .ok (.ireturn, 1) := by decide +kernel
theorem dX5_isStreet_0 : decode cX5_isStreet 0 = .ok (.iload_n 0, 1) := by decide +kernel
theorem dX5_isStreet_1 : decode cX5_isStreet 1 = .ok (.ifCond .lt 13, 3) := by decide +kernel
theorem dX5_isStreet_4 : decode cX5_isStreet 4 = .ok (.iload_n 0, 1) := by decide +kernel
theorem dX5_isStreet_5 : decode cX5_isStreet 5 = .ok (.bipush 8, 2) := by decide +kernel
theorem dX5_isStreet_7 : decode cX5_isStreet 7 = .ok (.if_icmp .ge 7, 3) := by decide +kernel
theorem dX5_isStreet_10 : decode cX5_isStreet 10 = .ok (.iconst 1, 1) := by decide +kernel
theorem dX5_isStreet_11 : decode cX5_isStreet 11 = .ok (.goto 4, 3) := by decide +kernel
theorem dX5_isStreet_14 : decode cX5_isStreet 14 = .ok (.iconst 0, 1) := by decide +kernel
theorem dX5_isStreet_15 : decode cX5_isStreet 15 = .ok (.ireturn, 1) := by decide +kernel
set_option maxRecDepth 20000 in
theorem ggX5_fromNow_X2_copy : GoodIn wsX5_fromNow wsX2_copy := goodIn_r _ [7, 8, 9, 10, 11, 12, 13, 14, 15, 16, 26, 27, 28, 29, 30, 31, 32] (by decide +kernel) (by decide +kernel)
set_option maxRecDepth 20000 in
theorem gX5_fromNow_X2_copy : GoodIn wsX5_fromNow (wsV RX5 247 RX2 yX2_copy wsX2_copy) := goodIn_app (goodIn_of _ (by decide +kernel)) ggX5_fromNow_X2_copy
theorem dX5_fromNow_0 : decode cX5_fromNow 0 = .ok (.aload_n 0, 1) := by decide +kernel
theorem dX5_fromNow_1 : decode cX5_fromNow 1 = .ok (.getfield 32, 3) := by decide +kernel
theorem dX5_fromNow_4 : decode cX5_fromNow 4 = .ok (.aload_n 0, 1) := by decide +kernel
theorem dX5_fromNow_5 : decode cX5_fromNow 5 = .ok (.getfield 28, 3) := by decide +kernel
theorem dX5_fromNow_8 : decode cX5_fromNow 8 = .ok (.invokevirtual 247, 3) := by decide +kernel
theorem dX5_fromNow_11 : decode cX5_fromNow 11 = .ok (.aload_n 0, 1) := by decide +kernel
theorem dX5_fromNow_12 : decode cX5_fromNow 12 = .ok (.getfield 32, 3) := by decide +kernel
theorem dX5_fromNow_15 : decode cX5_fromNow 15 = .ok (.areturn, 1) := by decide +kernel
set_option maxRecDepth 20000 in
theorem ggX5_behind_X5_fromNow : GoodIn wsX5_behind wsX5_fromNow := goodIn_r _ [5, 6, 7, 8, 9, 10, 11, 12, 13, 14, 15, 16, 17, 18, 19, 20, 21, 88, 89, 90, 91, 92, 93, 94, 95, 96, 97, 98, 99, 100, 101, 102, 103] (by decide +kernel) (by decide +kernel)
set_option maxRecDepth 20000 in
theorem gX5_behind_X5_fromNow : GoodIn wsX5_behind (wsV RX5 173 RX5 yX5_fromNow wsX5_fromNow) := goodIn_app (goodIn_of _ (by decide +kernel)) ggX5_behind_X5_fromNow
set_option maxRecDepth 20000 in
theorem ggX5_behind_X2_passDawn : GoodIn wsX5_behind wsX2_passDawn := goodIn_r _ [25, 26, 21, 27, 28, 29, 11, 30, 31, 32, 33, 34, 13, 35, 36, 37, 38, 39, 4, 40, 41, 42, 43, 44, 45, 46, 47, 48, 18, 49, 50, 51, 52, 53, 54, 55, 56, 57, 58, 59, 60, 61, 62, 63, 19, 64, 65, 66, 67, 68, 69, 70, 71, 72, 20, 73, 74, 75, 76, 77, 78, 79, 80, 81, 82, 83, 84, 85, 86, 87, 97, 98, 99, 100, 101, 102, 103, 104, 105, 106, 107, 108, 109, 110, 111] (by decide +kernel) (by decide +kernel)
set_option maxRecDepth 20000 in
theorem gX5_behind_X2_passDawn : GoodIn wsX5_behind (wsV RX5 129 RX2 yX2_passDawn wsX2_passDawn) := goodIn_app (goodIn_of _ (by decide +kernel)) ggX5_behind_X2_passDawn
theorem dX5_behind_0 : decode cX5_behind 0 = .ok (.aload_n 0, 1) := by decide +kernel
theorem dX5_behind_1 : decode cX5_behind 1 = .ok (.invokevirtual 173, 3) := by decide +kernel
theorem dX5_behind_4 : decode cX5_behind 4 = .ok (.astore_n 3, 1) := by decide +kernel
theorem dX5_behind_5 : decode cX5_behind 5 = .ok (.iconst 0, 1) := by decide +kernel
theorem dX5_behind_6 : decode cX5_behind 6 = .ok (.istore 4, 2) := by decide +kernel
theorem dX5_behind_8 : decode cX5_behind 8 = .ok (.iload 4, 2) := by decide +kernel
theorem dX5_behind_10 : decode cX5_behind 10 = .ok (.iload_n 1, 1) := by decide +kernel
theorem dX5_behind_11 : decode cX5_behind 11 = .ok (.if_icmp .ge 15, 3) := by decide +kernel
theorem dX5_behind_14 : decode cX5_behind 14 = .ok (.aload_n 3, 1) := by decide +kernel
theorem dX5_behind_15 : decode cX5_behind 15 = .ok (.iload_n 2, 1) := by decide +kernel
theorem dX5_behind_16 : decode cX5_behind 16 = .ok (.iconst 1, 1) := by decide +kernel
theorem dX5_behind_17 : decode cX5_behind 17 = .ok (.invokevirtual 129, 3) := by decide +kernel
theorem dX5_behind_20 : decode cX5_behind 20 = .ok (.iinc 4 1, 3) := by decide +kernel
theorem dX5_behind_23 : decode cX5_behind 23 = .ok (.goto (-15), 3) := by decide +kernel
theorem dX5_behind_26 : decode cX5_behind 26 = .ok (.aload_n 3, 1) := by decide +kernel
theorem dX5_behind_27 : decode cX5_behind 27 = .ok (.areturn, 1) := by decide +kernel
set_option maxRecDepth 20000 in
theorem ggX5_staysShallow_X5_fromNow : GoodIn wsX5_staysShallow wsX5_fromNow := goodIn_r _ [5, 6, 7, 8, 9, 10, 11, 12, 13, 14, 15, 16, 17, 18, 19, 20, 21, 104, 105, 106, 107, 108, 109, 110, 111, 112, 113, 114, 115, 116, 117, 118, 119] (by decide +kernel) (by decide +kernel)
set_option maxRecDepth 20000 in
theorem gX5_staysShallow_X5_fromNow : GoodIn wsX5_staysShallow (wsV RX5 173 RX5 yX5_fromNow wsX5_fromNow) := goodIn_app (goodIn_of _ (by decide +kernel)) ggX5_staysShallow_X5_fromNow
set_option maxRecDepth 20000 in
theorem ggX5_staysShallow_X2_bow : GoodIn wsX5_staysShallow wsX2_bow := goodIn_r _ [25, 20, 113, 114, 115, 116, 117, 118, 119] (by decide +kernel) (by decide +kernel)
set_option maxRecDepth 20000 in
theorem gX5_staysShallow_X2_bow : GoodIn wsX5_staysShallow (wsV RX5 146 RX2 yX2_bow wsX2_bow) := goodIn_app (goodIn_of _ (by decide +kernel)) ggX5_staysShallow_X2_bow
set_option maxRecDepth 20000 in
theorem ggX5_staysShallow_X2_passDawn : GoodIn wsX5_staysShallow wsX2_passDawn := goodIn_r _ [29, 30, 21, 31, 32, 33, 11, 34, 35, 36, 37, 38, 13, 39, 40, 41, 42, 43, 4, 44, 45, 46, 47, 48, 49, 50, 51, 52, 18, 53, 54, 55, 56, 57, 58, 59, 60, 61, 62, 63, 64, 65, 66, 67, 19, 68, 69, 70, 71, 72, 73, 74, 75, 76, 20, 77, 78, 79, 80, 81, 82, 83, 84, 85, 86, 87, 88, 89, 90, 91, 113, 114, 115, 116, 117, 118, 119, 120, 121, 122, 123, 124, 125, 126, 127] (by decide +kernel) (by decide +kernel)
set_option maxRecDepth 20000 in
theorem gX5_staysShallow_X2_passDawn : GoodIn wsX5_staysShallow (wsV RX5 129 RX2 yX2_passDawn wsX2_passDawn) := goodIn_app (goodIn_of _ (by decide +kernel)) ggX5_staysShallow_X2_passDawn
set_option maxRecDepth 20000 in
theorem ggX5_staysShallow_X2_firstDeep : GoodIn wsX5_staysShallow wsX2_firstDeep := goodIn_r _ [95, 96, 97, 98, 11, 99, 100, 101, 102, 103, 13, 43, 4, 44, 113, 114, 115, 116, 117, 118, 119] (by decide +kernel) (by decide +kernel)
set_option maxRecDepth 20000 in
theorem gX5_staysShallow_X2_firstDeep : GoodIn wsX5_staysShallow (wsV RX5 177 RX2 yX2_firstDeep wsX2_firstDeep) := goodIn_app (goodIn_of _ (by decide +kernel)) ggX5_staysShallow_X2_firstDeep
theorem dX5_staysShallow_0 : decode cX5_staysShallow 0 = .ok (.aload_n 0, 1) := by decide +kernel
theorem dX5_staysShallow_1 : decode cX5_staysShallow 1 = .ok (.invokevirtual 173, 3) := by decide +kernel
theorem dX5_staysShallow_4 : decode cX5_staysShallow 4 = .ok (.astore_n 3, 1) := by decide +kernel
theorem dX5_staysShallow_5 : decode cX5_staysShallow 5 = .ok (.aload_n 3, 1) := by decide +kernel
theorem dX5_staysShallow_6 : decode cX5_staysShallow 6 = .ok (.iload_n 1, 1) := by decide +kernel
theorem dX5_staysShallow_7 : decode cX5_staysShallow 7 = .ok (.invokevirtual 146, 3) := by decide +kernel
theorem dX5_staysShallow_10 : decode cX5_staysShallow 10 = .ok (.iconst 0, 1) := by decide +kernel
theorem dX5_staysShallow_11 : decode cX5_staysShallow 11 = .ok (.istore 4, 2) := by decide +kernel
theorem dX5_staysShallow_13 : decode cX5_staysShallow 13 = .ok (.iload 4, 2) := by decide +kernel
theorem dX5_staysShallow_15 : decode cX5_staysShallow 15 = .ok (.iload_n 2, 1) := by decide +kernel
theorem dX5_staysShallow_16 : decode cX5_staysShallow 16 = .ok (.if_icmp .ge 27, 3) := by decide +kernel
theorem dX5_staysShallow_19 : decode cX5_staysShallow 19 = .ok (.aload_n 3, 1) := by decide +kernel
theorem dX5_staysShallow_20 : decode cX5_staysShallow 20 = .ok (.bipush 31, 2) := by decide +kernel
theorem dX5_staysShallow_22 : decode cX5_staysShallow 22 = .ok (.iconst 1, 1) := by decide +kernel
theorem dX5_staysShallow_23 : decode cX5_staysShallow 23 = .ok (.invokevirtual 129, 3) := by decide +kernel
theorem dX5_staysShallow_26 : decode cX5_staysShallow 26 = .ok (.aload_n 3, 1) := by decide +kernel
theorem dX5_staysShallow_27 : decode cX5_staysShallow 27 = .ok (.invokevirtual 177, 3) := by decide +kernel
theorem dX5_staysShallow_30 : decode cX5_staysShallow 30 = .ok (.bipush (-9), 2) := by decide +kernel
theorem dX5_staysShallow_32 : decode cX5_staysShallow 32 = .ok (.if_icmp .eq 5, 3) := by decide +kernel
theorem dX5_staysShallow_35 : decode cX5_staysShallow 35 = .ok (.iconst 0, 1) := by decide +kernel
theorem dX5_staysShallow_36 : decode cX5_staysShallow 36 = .ok (.ireturn, 1) := by decide +kernel
theorem dX5_staysShallow_37 : decode cX5_staysShallow 37 = .ok (.iinc 4 1, 3) := by decide +kernel
theorem dX5_staysShallow_40 : decode cX5_staysShallow 40 = .ok (.goto (-27), 3) := by decide +kernel
theorem dX5_staysShallow_43 : decode cX5_staysShallow 43 = .ok (.iconst 1, 1) := by decide +kernel
theorem dX5_staysShallow_44 : decode cX5_staysShallow 44 = .ok (.ireturn, 1) := by decide +kernel
set_option maxRecDepth 20000 in
theorem ggX5_isSo_X5_tryStep : GoodIn wsX5_isSo wsX5_tryStep := goodIn_r _ [5, 6, 7, 8, 9, 10, 11, 12, 13, 14, 4, 15, 16, 17, 18, 19, 20, 21, 22, 23, 24, 25, 26, 27, 28, 29, 30, 31, 32, 33, 34, 35, 36, 37, 130, 131, 132, 133, 134, 135, 136, 137, 138, 139, 140, 141, 142, 143, 144, 145, 146, 147, 148, 149, 150, 151, 152, 153] (by decide +kernel) (by decide +kernel)
set_option maxRecDepth 20000 in
theorem gX5_isSo_X5_tryStep : GoodIn wsX5_isSo (wsV RX5 250 RX5 yX5_tryStep wsX5_tryStep) := goodIn_app (goodIn_of _ (by decide +kernel)) ggX5_isSo_X5_tryStep
set_option maxRecDepth 20000 in
theorem ggX5_isSo_X5_isStreet : GoodIn wsX5_isSo wsX5_isStreet := goodIn_r _ [40] (by decide +kernel) (by decide +kernel)
set_option maxRecDepth 20000 in
theorem gX5_isSo_X5_isStreet : GoodIn wsX5_isSo (va_wsS RX5 93 yX5_isStreet wsX5_isStreet) := goodIn_app (goodIn_of _ (by decide +kernel)) ggX5_isSo_X5_isStreet
set_option maxRecDepth 20000 in
theorem ggX5_isSo_X2_dustIn : GoodIn wsX5_isSo wsX2_dustIn := goodIn_r _ [44, 45, 39, 4, 40, 147, 148, 149, 150, 151, 152, 153] (by decide +kernel) (by decide +kernel)
set_option maxRecDepth 20000 in
theorem gX5_isSo_X2_dustIn : GoodIn wsX5_isSo (wsV RX5 97 RX2 yX2_dustIn wsX2_dustIn) := goodIn_app (goodIn_of _ (by decide +kernel)) ggX5_isSo_X2_dustIn
set_option maxRecDepth 20000 in
theorem ggX5_isSo_X5_tryDawn : GoodIn wsX5_isSo wsX5_tryDawn := goodIn_r _ [49, 50, 51, 52, 19, 53, 25, 54, 55, 56, 57, 58, 59, 60, 61, 62, 45, 63, 64, 65, 66, 39, 4, 40, 67, 68, 69, 70, 21, 22, 23, 24, 26, 27, 8, 9, 10, 11, 12, 71, 72, 73, 74, 75, 76, 77, 78, 79, 80, 81, 82, 83, 84, 85, 86, 87, 88, 89, 90, 91, 92, 93, 94, 31, 32, 33, 28, 29, 30, 95, 96, 97, 98, 99, 147, 148, 149, 150, 151, 152, 153, 139, 140, 141, 142, 143, 144, 145, 146] (by decide +kernel) (by decide +kernel)
set_option maxRecDepth 20000 in
theorem gX5_isSo_X5_tryDawn : GoodIn wsX5_isSo (wsV RX5 254 RX5 yX5_tryDawn wsX5_tryDawn) := goodIn_app (goodIn_of _ (by decide +kernel)) ggX5_isSo_X5_tryDawn
set_option maxRecDepth 20000 in
theorem ggX5_isSo_X5_tryVote : GoodIn wsX5_isSo wsX5_tryVote := goodIn_r _ [103, 104, 105, 106, 19, 107, 80, 147, 148, 149, 150, 151, 152, 153] (by decide +kernel) (by decide +kernel)
set_option maxRecDepth 20000 in
theorem gX5_isSo_X5_tryVote : GoodIn wsX5_isSo (wsV RX5 258 RX5 yX5_tryVote wsX5_tryVote) := goodIn_app (goodIn_of _ (by decide +kernel)) ggX5_isSo_X5_tryVote
set_option maxRecDepth 20000 in
theorem ggX5_isSo_X5_tryBow : GoodIn wsX5_isSo wsX5_tryBow := goodIn_r _ [111, 6, 7, 8, 9, 10, 11, 12, 112, 87, 88, 19, 89, 90, 113, 114, 115, 116, 130, 131, 132, 133, 134, 135, 136, 137, 138, 139, 140, 141, 142, 143, 144, 145, 146, 147, 148, 149, 150, 151, 152, 153] (by decide +kernel) (by decide +kernel)
set_option maxRecDepth 20000 in
theorem gX5_isSo_X5_tryBow : GoodIn wsX5_isSo (wsV RX5 261 RX5 yX5_tryBow wsX5_tryBow) := goodIn_app (goodIn_of _ (by decide +kernel)) ggX5_isSo_X5_tryBow
set_option maxRecDepth 20000 in
theorem ggX5_isSo_X5_tryEmpty : GoodIn wsX5_isSo wsX5_tryEmpty := goodIn_r _ [120, 38, 39, 4, 40, 41, 42, 43, 19, 44, 45, 121, 122, 123, 124, 147, 148, 149, 150, 151, 152, 153] (by decide +kernel) (by decide +kernel)
set_option maxRecDepth 20000 in
theorem gX5_isSo_X5_tryEmpty : GoodIn wsX5_isSo (wsV RX5 265 RX5 yX5_tryEmpty wsX5_tryEmpty) := goodIn_app (goodIn_of _ (by decide +kernel)) ggX5_isSo_X5_tryEmpty
set_option maxRecDepth 20000 in
theorem ggX5_isSo_X2_isDeep : GoodIn wsX5_isSo wsX2_isDeep := goodIn_r _ [128, 129, 42, 43, 19, 44, 45, 39, 4, 40, 147, 148, 149, 150, 151, 152, 153] (by decide +kernel) (by decide +kernel)
set_option maxRecDepth 20000 in
theorem gX5_isSo_X2_isDeep : GoodIn wsX5_isSo (wsV RX5 101 RX2 yX2_isDeep wsX2_isDeep) := goodIn_app (goodIn_of _ (by decide +kernel)) ggX5_isSo_X2_isDeep
theorem dX5_isSo_0 : decode cX5_isSo 0 = .ok (.iload_n 2, 1) := by decide +kernel
theorem dX5_isSo_1 : decode cX5_isSo 1 = .ok (.iconst 1, 1) := by decide +kernel
theorem dX5_isSo_2 : decode cX5_isSo 2 = .ok (.if_icmp .ne 12, 3) := by decide +kernel
theorem dX5_isSo_5 : decode cX5_isSo 5 = .ok (.aload_n 0, 1) := by decide +kernel
theorem dX5_isSo_6 : decode cX5_isSo 6 = .ok (.aload_n 1, 1) := by decide +kernel
theorem dX5_isSo_7 : decode cX5_isSo 7 = .ok (.iload_n 3, 1) := by decide +kernel
theorem dX5_isSo_8 : decode cX5_isSo 8 = .ok (.iload 4, 2) := by decide +kernel
theorem dX5_isSo_10 : decode cX5_isSo 10 = .ok (.invokevirtual 250, 3) := by decide +kernel
theorem dX5_isSo_13 : decode cX5_isSo 13 = .ok (.ireturn, 1) := by decide +kernel
theorem dX5_isSo_14 : decode cX5_isSo 14 = .ok (.iload_n 2, 1) := by decide +kernel
theorem dX5_isSo_15 : decode cX5_isSo 15 = .ok (.iconst 5, 1) := by decide +kernel
theorem dX5_isSo_16 : decode cX5_isSo 16 = .ok (.if_icmp .ne 26, 3) := by decide +kernel
theorem dX5_isSo_19 : decode cX5_isSo 19 = .ok (.iload_n 3, 1) := by decide +kernel
theorem dX5_isSo_20 : decode cX5_isSo 20 = .ok (.invokestatic 93, 3) := by decide +kernel
theorem dX5_isSo_23 : decode cX5_isSo 23 = .ok (.ifCond .eq 17, 3) := by decide +kernel
theorem dX5_isSo_26 : decode cX5_isSo 26 = .ok (.aload_n 1, 1) := by decide +kernel
theorem dX5_isSo_27 : decode cX5_isSo 27 = .ok (.iload_n 3, 1) := by decide +kernel
theorem dX5_isSo_28 : decode cX5_isSo 28 = .ok (.invokevirtual 97, 3) := by decide +kernel
theorem dX5_isSo_31 : decode cX5_isSo 31 = .ok (.iload 4, 2) := by decide +kernel
theorem dX5_isSo_33 : decode cX5_isSo 33 = .ok (.if_icmp .lt 7, 3) := by decide +kernel
theorem dX5_isSo_36 : decode cX5_isSo 36 = .ok (.iconst 1, 1) := by decide +kernel
theorem dX5_isSo_37 : decode cX5_isSo 37 = .ok (.goto 4, 3) := by decide +kernel
theorem dX5_isSo_40 : decode cX5_isSo 40 = .ok (.iconst 0, 1) := by decide +kernel
theorem dX5_isSo_41 : decode cX5_isSo 41 = .ok (.ireturn, 1) := by decide +kernel
theorem dX5_isSo_42 : decode cX5_isSo 42 = .ok (.iload_n 3, 1) := by decide +kernel
theorem dX5_isSo_43 : decode cX5_isSo 43 = .ok (.ifCond .eq 5, 3) := by decide +kernel
theorem dX5_isSo_46 : decode cX5_isSo 46 = .ok (.iconst 0, 1) := by decide +kernel
theorem dX5_isSo_47 : decode cX5_isSo 47 = .ok (.ireturn, 1) := by decide +kernel
theorem dX5_isSo_48 : decode cX5_isSo 48 = .ok (.iload_n 2, 1) := by decide +kernel
theorem dX5_isSo_49 : decode cX5_isSo 49 = .ok (.tableswitch 120 0 6 #[43, 120, 62, 81, 89, 120, 97], 43) := by decide +kernel
theorem dX5_isSo_92 : decode cX5_isSo 92 = .ok (.iload 4, 2) := by decide +kernel
theorem dX5_isSo_94 : decode cX5_isSo 94 = .ok (.ifCond .ne 15, 3) := by decide +kernel
theorem dX5_isSo_97 : decode cX5_isSo 97 = .ok (.aload_n 0, 1) := by decide +kernel
theorem dX5_isSo_98 : decode cX5_isSo 98 = .ok (.aload_n 1, 1) := by decide +kernel
theorem dX5_isSo_99 : decode cX5_isSo 99 = .ok (.invokevirtual 254, 3) := by decide +kernel
theorem dX5_isSo_102 : decode cX5_isSo 102 = .ok (.ifCond .eq 7, 3) := by decide +kernel
theorem dX5_isSo_105 : decode cX5_isSo 105 = .ok (.iconst 1, 1) := by decide +kernel
theorem dX5_isSo_106 : decode cX5_isSo 106 = .ok (.goto 4, 3) := by decide +kernel
theorem dX5_isSo_109 : decode cX5_isSo 109 = .ok (.iconst 0, 1) := by decide +kernel
theorem dX5_isSo_110 : decode cX5_isSo 110 = .ok (.ireturn, 1) := by decide +kernel
theorem dX5_isSo_111 : decode cX5_isSo 111 = .ok (.iload 4, 2) := by decide +kernel
theorem dX5_isSo_113 : decode cX5_isSo 113 = .ok (.ifCond .ne 15, 3) := by decide +kernel
theorem dX5_isSo_116 : decode cX5_isSo 116 = .ok (.aload_n 0, 1) := by decide +kernel
theorem dX5_isSo_117 : decode cX5_isSo 117 = .ok (.aload_n 1, 1) := by decide +kernel
theorem dX5_isSo_118 : decode cX5_isSo 118 = .ok (.invokevirtual 258, 3) := by decide +kernel
theorem dX5_isSo_121 : decode cX5_isSo 121 = .ok (.ifCond .eq 7, 3) := by decide +kernel
theorem dX5_isSo_124 : decode cX5_isSo 124 = .ok (.iconst 1, 1) := by decide +kernel
theorem dX5_isSo_125 : decode cX5_isSo 125 = .ok (.goto 4, 3) := by decide +kernel
theorem dX5_isSo_128 : decode cX5_isSo 128 = .ok (.iconst 0, 1) := by decide +kernel
theorem dX5_isSo_129 : decode cX5_isSo 129 = .ok (.ireturn, 1) := by decide +kernel
theorem dX5_isSo_130 : decode cX5_isSo 130 = .ok (.aload_n 0, 1) := by decide +kernel
theorem dX5_isSo_131 : decode cX5_isSo 131 = .ok (.aload_n 1, 1) := by decide +kernel
theorem dX5_isSo_132 : decode cX5_isSo 132 = .ok (.iload 4, 2) := by decide +kernel
theorem dX5_isSo_134 : decode cX5_isSo 134 = .ok (.invokevirtual 261, 3) := by decide +kernel
theorem dX5_isSo_137 : decode cX5_isSo 137 = .ok (.ireturn, 1) := by decide +kernel
theorem dX5_isSo_138 : decode cX5_isSo 138 = .ok (.aload_n 0, 1) := by decide +kernel
theorem dX5_isSo_139 : decode cX5_isSo 139 = .ok (.aload_n 1, 1) := by decide +kernel
theorem dX5_isSo_140 : decode cX5_isSo 140 = .ok (.iload 4, 2) := by decide +kernel
theorem dX5_isSo_142 : decode cX5_isSo 142 = .ok (.invokevirtual 265, 3) := by decide +kernel
theorem dX5_isSo_145 : decode cX5_isSo 145 = .ok (.ireturn, 1) := by decide +kernel
theorem dX5_isSo_146 : decode cX5_isSo 146 = .ok (.iload 4, 2) := by decide +kernel
theorem dX5_isSo_148 : decode cX5_isSo 148 = .ok (.invokestatic 93, 3) := by decide +kernel
theorem dX5_isSo_151 : decode cX5_isSo 151 = .ok (.ifCond .eq 16, 3) := by decide +kernel
theorem dX5_isSo_154 : decode cX5_isSo 154 = .ok (.aload_n 1, 1) := by decide +kernel
theorem dX5_isSo_155 : decode cX5_isSo 155 = .ok (.iload 4, 2) := by decide +kernel
theorem dX5_isSo_157 : decode cX5_isSo 157 = .ok (.invokevirtual 101, 3) := by decide +kernel
theorem dX5_isSo_160 : decode cX5_isSo 160 = .ok (.ifCond .eq 7, 3) := by decide +kernel
theorem dX5_isSo_163 : decode cX5_isSo 163 = .ok (.iconst 1, 1) := by decide +kernel
theorem dX5_isSo_164 : decode cX5_isSo 164 = .ok (.goto 4, 3) := by decide +kernel
theorem dX5_isSo_167 : decode cX5_isSo 167 = .ok (.iconst 0, 1) := by decide +kernel
theorem dX5_isSo_168 : decode cX5_isSo 168 = .ok (.ireturn, 1) := by decide +kernel
theorem dX5_isSo_169 : decode cX5_isSo 169 = .ok (.iconst 0, 1) := by decide +kernel
theorem dX5_isSo_170 : decode cX5_isSo 170 = .ok (.ireturn, 1) := by decide +kernel
set_option maxRecDepth 20000 in
theorem ggX5_tryDawn_X2_passDawn : GoodIn wsX5_tryDawn wsX2_passDawn := goodIn_r _ [5, 6, 7, 8, 9, 10, 4, 11, 12, 13, 14, 15, 16, 17, 18, 19, 20, 21, 22, 23, 24, 25, 26, 27, 28, 29, 30, 31, 32, 33, 34, 35, 36, 37, 38, 39, 40, 41, 42, 43, 44, 45, 46, 47, 48, 49, 50, 51, 52, 53, 54, 55, 56, 57, 58, 59, 60, 61, 62, 63, 64, 65, 66, 67, 68, 69, 70, 71, 72, 73, 74, 75, 76, 77, 78, 79, 80, 81, 82, 83, 84, 85, 86, 87, 88] (by decide +kernel) (by decide +kernel)
set_option maxRecDepth 20000 in
theorem gX5_tryDawn_X2_passDawn : GoodIn wsX5_tryDawn (wsV RX5 129 RX2 yX2_passDawn wsX2_passDawn) := goodIn_app (goodIn_of _ (by decide +kernel)) ggX5_tryDawn_X2_passDawn
theorem dX5_tryDawn_0 : decode cX5_tryDawn 0 = .ok (.aload_n 1, 1) := by decide +kernel
theorem dX5_tryDawn_1 : decode cX5_tryDawn 1 = .ok (.bipush 31, 2) := by decide +kernel
theorem dX5_tryDawn_3 : decode cX5_tryDawn 3 = .ok (.iconst 1, 1) := by decide +kernel
theorem dX5_tryDawn_4 : decode cX5_tryDawn 4 = .ok (.invokevirtual 129, 3) := by decide +kernel
theorem dX5_tryDawn_7 : decode cX5_tryDawn 7 = .ok (.iconst 1, 1) := by decide +kernel
theorem dX5_tryDawn_8 : decode cX5_tryDawn 8 = .ok (.ireturn, 1) := by decide +kernel
set_option maxRecDepth 20000 in
theorem ggX5_tryStep_X4_hasBroom : GoodIn wsX5_tryStep wsX4_hasBroom := goodIn_r _ [6, 7, 43, 44, 45, 46, 47, 48, 49, 50] (by decide +kernel) (by decide +kernel)
set_option maxRecDepth 20000 in
theorem gX5_tryStep_X4_hasBroom : GoodIn wsX5_tryStep (wsV RX5 107 RX4 yX4_hasBroom wsX4_hasBroom) := goodIn_app (goodIn_of _ (by decide +kernel)) ggX5_tryStep_X4_hasBroom
set_option maxRecDepth 20000 in
theorem ggX5_tryStep_X5_within : GoodIn wsX5_tryStep wsX5_within := goodIn_r _ [11] (by decide +kernel) (by decide +kernel)
set_option maxRecDepth 20000 in
theorem gX5_tryStep_X5_within : GoodIn wsX5_tryStep (va_wsS RX5 61 yX5_within wsX5_within) := goodIn_app (goodIn_of _ (by decide +kernel)) ggX5_tryStep_X5_within
set_option maxRecDepth 20000 in
theorem ggX5_tryStep_X2_step : GoodIn wsX5_tryStep wsX2_step := goodIn_r _ [16, 17, 18, 19, 15, 20, 21, 22, 23, 3, 4, 5, 6, 7, 24, 25, 26, 27, 28, 29, 30, 31, 32, 33, 51, 52, 53, 54, 55, 56, 57, 43, 44, 45, 46, 47, 48, 49, 50] (by decide +kernel) (by decide +kernel)
set_option maxRecDepth 20000 in
theorem gX5_tryStep_X2_step : GoodIn wsX5_tryStep (wsV RX5 136 RX2 yX2_step wsX2_step) := goodIn_app (goodIn_of _ (by decide +kernel)) ggX5_tryStep_X2_step
theorem dX5_tryStep_0 : decode cX5_tryStep 0 = .ok (.aload_n 0, 1) := by decide +kernel
theorem dX5_tryStep_1 : decode cX5_tryStep 1 = .ok (.getfield 19, 3) := by decide +kernel
theorem dX5_tryStep_4 : decode cX5_tryStep 4 = .ok (.iload_n 2, 1) := by decide +kernel
theorem dX5_tryStep_5 : decode cX5_tryStep 5 = .ok (.invokevirtual 107, 3) := by decide +kernel
theorem dX5_tryStep_8 : decode cX5_tryStep 8 = .ok (.ifCond .eq 12, 3) := by decide +kernel
theorem dX5_tryStep_11 : decode cX5_tryStep 11 = .ok (.iload_n 3, 1) := by decide +kernel
theorem dX5_tryStep_12 : decode cX5_tryStep 12 = .ok (.iconst 0, 1) := by decide +kernel
theorem dX5_tryStep_13 : decode cX5_tryStep 13 = .ok (.iconst 1, 1) := by decide +kernel
theorem dX5_tryStep_14 : decode cX5_tryStep 14 = .ok (.invokestatic 61, 3) := by decide +kernel
theorem dX5_tryStep_17 : decode cX5_tryStep 17 = .ok (.ifCond .ne 5, 3) := by decide +kernel
theorem dX5_tryStep_20 : decode cX5_tryStep 20 = .ok (.iconst 0, 1) := by decide +kernel
theorem dX5_tryStep_21 : decode cX5_tryStep 21 = .ok (.ireturn, 1) := by decide +kernel
theorem dX5_tryStep_22 : decode cX5_tryStep 22 = .ok (.aload_n 1, 1) := by decide +kernel
theorem dX5_tryStep_23 : decode cX5_tryStep 23 = .ok (.iload_n 2, 1) := by decide +kernel
theorem dX5_tryStep_24 : decode cX5_tryStep 24 = .ok (.iload_n 3, 1) := by decide +kernel
theorem dX5_tryStep_25 : decode cX5_tryStep 25 = .ok (.invokevirtual 136, 3) := by decide +kernel
theorem dX5_tryStep_28 : decode cX5_tryStep 28 = .ok (.iconst 1, 1) := by decide +kernel
theorem dX5_tryStep_29 : decode cX5_tryStep 29 = .ok (.ireturn, 1) := by decide +kernel
set_option maxRecDepth 20000 in
theorem ggX5_tryVote_X2_turnVote : GoodIn wsX5_tryVote wsX2_turnVote := goodIn_r _ [5, 6, 7, 8, 9, 10, 11, 12, 13] (by decide +kernel) (by decide +kernel)
set_option maxRecDepth 20000 in
theorem gX5_tryVote_X2_turnVote : GoodIn wsX5_tryVote (wsV RX5 139 RX2 yX2_turnVote wsX2_turnVote) := goodIn_app (goodIn_of _ (by decide +kernel)) ggX5_tryVote_X2_turnVote
theorem dX5_tryVote_0 : decode cX5_tryVote 0 = .ok (.aload_n 1, 1) := by decide +kernel
theorem dX5_tryVote_1 : decode cX5_tryVote 1 = .ok (.invokevirtual 139, 3) := by decide +kernel
theorem dX5_tryVote_4 : decode cX5_tryVote 4 = .ok (.iconst 1, 1) := by decide +kernel
theorem dX5_tryVote_5 : decode cX5_tryVote 5 = .ok (.ireturn, 1) := by decide +kernel
set_option maxRecDepth 20000 in
theorem ggX5_tryBow_X4_hasBroom : GoodIn wsX5_tryBow wsX4_hasBroom := goodIn_r _ [6, 7, 27, 28, 29, 30, 31, 32, 33, 34] (by decide +kernel) (by decide +kernel)
set_option maxRecDepth 20000 in
theorem gX5_tryBow_X4_hasBroom : GoodIn wsX5_tryBow (wsV RX5 107 RX4 yX4_hasBroom wsX4_hasBroom) := goodIn_app (goodIn_of _ (by decide +kernel)) ggX5_tryBow_X4_hasBroom
set_option maxRecDepth 20000 in
theorem ggX5_tryBow_X2_isBent : GoodIn wsX5_tryBow wsX2_isBent := goodIn_r _ [12, 13, 35, 36, 37, 38, 39, 40, 41] (by decide +kernel) (by decide +kernel)
set_option maxRecDepth 20000 in
theorem gX5_tryBow_X2_isBent : GoodIn wsX5_tryBow (wsV RX5 119 RX2 yX2_isBent wsX2_isBent) := goodIn_app (goodIn_of _ (by decide +kernel)) ggX5_tryBow_X2_isBent
set_option maxRecDepth 20000 in
theorem ggX5_tryBow_X2_bow : GoodIn wsX5_tryBow wsX2_bow := goodIn_r _ [17, 13, 35, 36, 37, 38, 39, 40, 41] (by decide +kernel) (by decide +kernel)
set_option maxRecDepth 20000 in
theorem gX5_tryBow_X2_bow : GoodIn wsX5_tryBow (wsV RX5 146 RX2 yX2_bow wsX2_bow) := goodIn_app (goodIn_of _ (by decide +kernel)) ggX5_tryBow_X2_bow
theorem dX5_tryBow_0 : decode cX5_tryBow 0 = .ok (.aload_n 0, 1) := by decide +kernel
theorem dX5_tryBow_1 : decode cX5_tryBow 1 = .ok (.getfield 19, 3) := by decide +kernel
theorem dX5_tryBow_4 : decode cX5_tryBow 4 = .ok (.iload_n 2, 1) := by decide +kernel
theorem dX5_tryBow_5 : decode cX5_tryBow 5 = .ok (.invokevirtual 107, 3) := by decide +kernel
theorem dX5_tryBow_8 : decode cX5_tryBow 8 = .ok (.ifCond .eq 11, 3) := by decide +kernel
theorem dX5_tryBow_11 : decode cX5_tryBow 11 = .ok (.aload_n 1, 1) := by decide +kernel
theorem dX5_tryBow_12 : decode cX5_tryBow 12 = .ok (.iload_n 2, 1) := by decide +kernel
theorem dX5_tryBow_13 : decode cX5_tryBow 13 = .ok (.invokevirtual 119, 3) := by decide +kernel
theorem dX5_tryBow_16 : decode cX5_tryBow 16 = .ok (.ifCond .eq 5, 3) := by decide +kernel
theorem dX5_tryBow_19 : decode cX5_tryBow 19 = .ok (.iconst 0, 1) := by decide +kernel
theorem dX5_tryBow_20 : decode cX5_tryBow 20 = .ok (.ireturn, 1) := by decide +kernel
theorem dX5_tryBow_21 : decode cX5_tryBow 21 = .ok (.aload_n 1, 1) := by decide +kernel
theorem dX5_tryBow_22 : decode cX5_tryBow 22 = .ok (.iconst 1, 1) := by decide +kernel
theorem dX5_tryBow_23 : decode cX5_tryBow 23 = .ok (.iload_n 2, 1) := by decide +kernel
theorem dX5_tryBow_24 : decode cX5_tryBow 24 = .ok (.ishl, 1) := by decide +kernel
theorem dX5_tryBow_25 : decode cX5_tryBow 25 = .ok (.invokevirtual 146, 3) := by decide +kernel
theorem dX5_tryBow_28 : decode cX5_tryBow 28 = .ok (.iconst 1, 1) := by decide +kernel
theorem dX5_tryBow_29 : decode cX5_tryBow 29 = .ok (.ireturn, 1) := by decide +kernel
set_option maxRecDepth 20000 in
theorem ggX5_tryEmpty_X5_isStreet : GoodIn wsX5_tryEmpty wsX5_isStreet := goodIn_r _ [4] (by decide +kernel) (by decide +kernel)
set_option maxRecDepth 20000 in
theorem gX5_tryEmpty_X5_isStreet : GoodIn wsX5_tryEmpty (va_wsS RX5 93 yX5_isStreet wsX5_isStreet) := goodIn_app (goodIn_of _ (by decide +kernel)) ggX5_tryEmpty_X5_isStreet
set_option maxRecDepth 20000 in
theorem ggX5_tryEmpty_X2_dustIn : GoodIn wsX5_tryEmpty wsX2_dustIn := goodIn_r _ [9, 10, 2, 3, 4, 15, 16, 17, 18, 19, 20, 21] (by decide +kernel) (by decide +kernel)
set_option maxRecDepth 20000 in
theorem gX5_tryEmpty_X2_dustIn : GoodIn wsX5_tryEmpty (wsV RX5 97 RX2 yX2_dustIn wsX2_dustIn) := goodIn_app (goodIn_of _ (by decide +kernel)) ggX5_tryEmpty_X2_dustIn
set_option maxRecDepth 20000 in
theorem ggX5_tryEmpty_X2_empty : GoodIn wsX5_tryEmpty wsX2_empty := goodIn_r _ [14, 10, 2, 3, 4, 15, 16, 17, 18, 19, 20, 21] (by decide +kernel) (by decide +kernel)
set_option maxRecDepth 20000 in
theorem gX5_tryEmpty_X2_empty : GoodIn wsX5_tryEmpty (wsV RX5 157 RX2 yX2_empty wsX2_empty) := goodIn_app (goodIn_of _ (by decide +kernel)) ggX5_tryEmpty_X2_empty
theorem dX5_tryEmpty_0 : decode cX5_tryEmpty 0 = .ok (.iload_n 2, 1) := by decide +kernel
theorem dX5_tryEmpty_1 : decode cX5_tryEmpty 1 = .ok (.invokestatic 93, 3) := by decide +kernel
theorem dX5_tryEmpty_4 : decode cX5_tryEmpty 4 = .ok (.ifCond .eq 11, 3) := by decide +kernel
theorem dX5_tryEmpty_7 : decode cX5_tryEmpty 7 = .ok (.aload_n 1, 1) := by decide +kernel
theorem dX5_tryEmpty_8 : decode cX5_tryEmpty 8 = .ok (.iload_n 2, 1) := by decide +kernel
theorem dX5_tryEmpty_9 : decode cX5_tryEmpty 9 = .ok (.invokevirtual 97, 3) := by decide +kernel
theorem dX5_tryEmpty_12 : decode cX5_tryEmpty 12 = .ok (.ifCond .ne 5, 3) := by decide +kernel
theorem dX5_tryEmpty_15 : decode cX5_tryEmpty 15 = .ok (.iconst 0, 1) := by decide +kernel
theorem dX5_tryEmpty_16 : decode cX5_tryEmpty 16 = .ok (.ireturn, 1) := by decide +kernel
theorem dX5_tryEmpty_17 : decode cX5_tryEmpty 17 = .ok (.aload_n 1, 1) := by decide +kernel
theorem dX5_tryEmpty_18 : decode cX5_tryEmpty 18 = .ok (.iload_n 2, 1) := by decide +kernel
theorem dX5_tryEmpty_19 : decode cX5_tryEmpty 19 = .ok (.invokevirtual 157, 3) := by decide +kernel
theorem dX5_tryEmpty_22 : decode cX5_tryEmpty 22 = .ok (.iconst 1, 1) := by decide +kernel
theorem dX5_tryEmpty_23 : decode cX5_tryEmpty 23 = .ok (.ireturn, 1) := by decide +kernel
set_option maxRecDepth 20000 in
theorem ggX5_happen_X5_tryStep : GoodIn wsX5_happen wsX5_tryStep := goodIn_r _ [5, 6, 7, 8, 9, 10, 11, 12, 13, 14, 4, 15, 16, 17, 18, 19, 20, 21, 22, 23, 24, 25, 26, 27, 28, 29, 30, 31, 32, 33, 34, 35, 36, 37, 116, 117, 118, 119, 120, 121, 122, 123, 124, 125, 126, 127, 128, 129, 130, 131, 132, 133, 134, 135, 136, 137, 138, 139] (by decide +kernel) (by decide +kernel)
set_option maxRecDepth 20000 in
theorem gX5_happen_X5_tryStep : GoodIn wsX5_happen (wsV RX5 250 RX5 yX5_tryStep wsX5_tryStep) := goodIn_app (goodIn_of _ (by decide +kernel)) ggX5_happen_X5_tryStep
set_option maxRecDepth 20000 in
theorem ggX5_happen_X5_tryVote : GoodIn wsX5_happen wsX5_tryVote := goodIn_r _ [41, 42, 43, 44, 19, 45, 46, 133, 134, 135, 136, 137, 138, 139] (by decide +kernel) (by decide +kernel)
set_option maxRecDepth 20000 in
theorem gX5_happen_X5_tryVote : GoodIn wsX5_happen (wsV RX5 258 RX5 yX5_tryVote wsX5_tryVote) := goodIn_app (goodIn_of _ (by decide +kernel)) ggX5_happen_X5_tryVote
set_option maxRecDepth 20000 in
theorem ggX5_happen_X5_tryEmpty : GoodIn wsX5_happen wsX5_tryEmpty := goodIn_r _ [50, 51, 52, 4, 53, 54, 55, 56, 19, 57, 58, 59, 60, 61, 62, 133, 134, 135, 136, 137, 138, 139] (by decide +kernel) (by decide +kernel)
set_option maxRecDepth 20000 in
theorem gX5_happen_X5_tryEmpty : GoodIn wsX5_happen (wsV RX5 265 RX5 yX5_tryEmpty wsX5_tryEmpty) := goodIn_app (goodIn_of _ (by decide +kernel)) ggX5_happen_X5_tryEmpty
set_option maxRecDepth 20000 in
theorem ggX5_happen_X5_tryDawn : GoodIn wsX5_happen wsX5_tryDawn := goodIn_r _ [66, 67, 68, 69, 19, 70, 25, 71, 72, 73, 74, 75, 76, 77, 78, 79, 58, 80, 81, 82, 83, 52, 4, 53, 84, 85, 86, 87, 21, 22, 23, 24, 26, 27, 8, 9, 10, 11, 12, 88, 89, 90, 91, 92, 93, 94, 95, 96, 46, 97, 98, 99, 100, 101, 102, 103, 104, 105, 106, 107, 108, 109, 110, 31, 32, 33, 28, 29, 30, 111, 112, 113, 114, 115, 133, 134, 135, 136, 137, 138, 139, 125, 126, 127, 128, 129, 130, 131, 132] (by decide +kernel) (by decide +kernel)
set_option maxRecDepth 20000 in
theorem gX5_happen_X5_tryDawn : GoodIn wsX5_happen (wsV RX5 254 RX5 yX5_tryDawn wsX5_tryDawn) := goodIn_app (goodIn_of _ (by decide +kernel)) ggX5_happen_X5_tryDawn
theorem dX5_happen_0 : decode cX5_happen 0 = .ok (.iload_n 2, 1) := by decide +kernel
theorem dX5_happen_1 : decode cX5_happen 1 = .ok (.bipush 9, 2) := by decide +kernel
theorem dX5_happen_3 : decode cX5_happen 3 = .ok (.if_icmp .gt 18, 3) := by decide +kernel
theorem dX5_happen_6 : decode cX5_happen 6 = .ok (.aload_n 0, 1) := by decide +kernel
theorem dX5_happen_7 : decode cX5_happen 7 = .ok (.aload_n 1, 1) := by decide +kernel
theorem dX5_happen_8 : decode cX5_happen 8 = .ok (.iload_n 2, 1) := by decide +kernel
theorem dX5_happen_9 : decode cX5_happen 9 = .ok (.iconst 2, 1) := by decide +kernel
theorem dX5_happen_10 : decode cX5_happen 10 = .ok (.idiv, 1) := by decide +kernel
theorem dX5_happen_11 : decode cX5_happen 11 = .ok (.iload_n 2, 1) := by decide +kernel
theorem dX5_happen_12 : decode cX5_happen 12 = .ok (.iconst 2, 1) := by decide +kernel
theorem dX5_happen_13 : decode cX5_happen 13 = .ok (.irem, 1) := by decide +kernel
theorem dX5_happen_14 : decode cX5_happen 14 = .ok (.invokevirtual 250, 3) := by decide +kernel
theorem dX5_happen_17 : decode cX5_happen 17 = .ok (.pop, 1) := by decide +kernel
theorem dX5_happen_18 : decode cX5_happen 18 = .ok (.goto 43, 3) := by decide +kernel
theorem dX5_happen_21 : decode cX5_happen 21 = .ok (.iload_n 2, 1) := by decide +kernel
theorem dX5_happen_22 : decode cX5_happen 22 = .ok (.bipush 10, 2) := by decide +kernel
theorem dX5_happen_24 : decode cX5_happen 24 = .ok (.if_icmp .ne 12, 3) := by decide +kernel
theorem dX5_happen_27 : decode cX5_happen 27 = .ok (.aload_n 0, 1) := by decide +kernel
theorem dX5_happen_28 : decode cX5_happen 28 = .ok (.aload_n 1, 1) := by decide +kernel
theorem dX5_happen_29 : decode cX5_happen 29 = .ok (.invokevirtual 258, 3) := by decide +kernel
theorem dX5_happen_32 : decode cX5_happen 32 = .ok (.pop, 1) := by decide +kernel
theorem dX5_happen_33 : decode cX5_happen 33 = .ok (.goto 28, 3) := by decide +kernel
theorem dX5_happen_36 : decode cX5_happen 36 = .ok (.iload_n 2, 1) := by decide +kernel
theorem dX5_happen_37 : decode cX5_happen 37 = .ok (.bipush 18, 2) := by decide +kernel
theorem dX5_happen_39 : decode cX5_happen 39 = .ok (.if_icmp .gt 16, 3) := by decide +kernel
theorem dX5_happen_42 : decode cX5_happen 42 = .ok (.aload_n 0, 1) := by decide +kernel
theorem dX5_happen_43 : decode cX5_happen 43 = .ok (.aload_n 1, 1) := by decide +kernel
theorem dX5_happen_44 : decode cX5_happen 44 = .ok (.iload_n 2, 1) := by decide +kernel
theorem dX5_happen_45 : decode cX5_happen 45 = .ok (.bipush 11, 2) := by decide +kernel
theorem dX5_happen_47 : decode cX5_happen 47 = .ok (.isub, 1) := by decide +kernel
theorem dX5_happen_48 : decode cX5_happen 48 = .ok (.invokevirtual 265, 3) := by decide +kernel
theorem dX5_happen_51 : decode cX5_happen 51 = .ok (.pop, 1) := by decide +kernel
theorem dX5_happen_52 : decode cX5_happen 52 = .ok (.goto 9, 3) := by decide +kernel
theorem dX5_happen_55 : decode cX5_happen 55 = .ok (.aload_n 0, 1) := by decide +kernel
theorem dX5_happen_56 : decode cX5_happen 56 = .ok (.aload_n 1, 1) := by decide +kernel
theorem dX5_happen_57 : decode cX5_happen 57 = .ok (.invokevirtual 254, 3) := by decide +kernel
theorem dX5_happen_60 : decode cX5_happen 60 = .ok (.pop, 1) := by decide +kernel
theorem dX5_happen_61 : decode cX5_happen 61 = .ok (.return_, 1) := by decide +kernel
set_option maxRecDepth 20000 in
theorem ggX5_ordersWith_X5_factorial : GoodIn wsX5_ordersWith wsX5_factorial := goodIn_r _ [5] (by decide +kernel) (by decide +kernel)
set_option maxRecDepth 20000 in
theorem gX5_ordersWith_X5_factorial : GoodIn wsX5_ordersWith (va_wsS RX5 214 yX5_factorial wsX5_factorial) := goodIn_app (goodIn_of _ (by decide +kernel)) ggX5_ordersWith_X5_factorial
theorem dX5_ordersWith_0 : decode cX5_ordersWith 0 = .ok (.iload_n 1, 1) := by decide +kernel
theorem dX5_ordersWith_1 : decode cX5_ordersWith 1 = .ok (.invokestatic 214, 3) := by decide +kernel
theorem dX5_ordersWith_4 : decode cX5_ordersWith 4 = .ok (.aload_n 0, 1) := by decide +kernel
theorem dX5_ordersWith_5 : decode cX5_ordersWith 5 = .ok (.getfield 19, 3) := by decide +kernel
theorem dX5_ordersWith_8 : decode cX5_ordersWith 8 = .ok (.getfield 87, 3) := by decide +kernel
theorem dX5_ordersWith_11 : decode cX5_ordersWith 11 = .ok (.iconst 1, 1) := by decide +kernel
theorem dX5_ordersWith_12 : decode cX5_ordersWith 12 = .ok (.isub, 1) := by decide +kernel
theorem dX5_ordersWith_13 : decode cX5_ordersWith 13 = .ok (.iload_n 1, 1) := by decide +kernel
theorem dX5_ordersWith_14 : decode cX5_ordersWith 14 = .ok (.isub, 1) := by decide +kernel
theorem dX5_ordersWith_15 : decode cX5_ordersWith 15 = .ok (.invokestatic 214, 3) := by decide +kernel
theorem dX5_ordersWith_18 : decode cX5_ordersWith 18 = .ok (.lmul, 1) := by decide +kernel
theorem dX5_ordersWith_19 : decode cX5_ordersWith 19 = .ok (.lreturn, 1) := by decide +kernel
set_option maxRecDepth 20000 in
theorem ggX5_isAtRest_X5_gain : GoodIn wsX5_isAtRest wsX5_gain := goodIn_r _ [5, 6, 7, 8, 4, 9, 10, 11, 12, 13, 14, 15, 16, 17, 18, 19, 20, 21, 22, 23, 24, 25, 26, 27, 28, 29, 30, 31, 32, 33, 34, 35, 36, 37, 38, 39, 40, 41, 42, 43, 44, 45, 46, 47, 48, 49, 50, 51, 52, 53, 54, 55, 56, 57, 58, 59, 60, 61, 62, 63, 64, 65, 66, 67, 68, 69, 70, 71, 72, 73, 74, 75, 76, 77, 78, 79, 80, 81, 82, 83, 84, 85, 86, 87, 88, 89, 90, 91, 92, 93, 94, 95, 96, 97, 98, 99, 100, 101, 102, 103, 104, 105, 106, 107, 108, 109, 110, 111, 112, 113, 114, 115, 116, 117, 118, 119, 120, 121, 122, 123, 124] (by decide +kernel) (by decide +kernel)
set_option maxRecDepth 20000 in
theorem gX5_isAtRest_X5_gain : GoodIn wsX5_isAtRest (wsV RX5 268 RX5 yX5_gain wsX5_gain) := goodIn_app (goodIn_of _ (by decide +kernel)) ggX5_isAtRest_X5_gain
theorem dX5_isAtRest_0 : decode cX5_isAtRest 0 = .ok (.aload_n 0, 1) := by decide +kernel
theorem dX5_isAtRest_1 : decode cX5_isAtRest 1 = .ok (.iload_n 1, 1) := by decide +kernel
theorem dX5_isAtRest_2 : decode cX5_isAtRest 2 = .ok (.iload_n 3, 1) := by decide +kernel
theorem dX5_isAtRest_3 : decode cX5_isAtRest 3 = .ok (.invokevirtual 268, 3) := by decide +kernel
theorem dX5_isAtRest_6 : decode cX5_isAtRest 6 = .ok (.aload_n 0, 1) := by decide +kernel
theorem dX5_isAtRest_7 : decode cX5_isAtRest 7 = .ok (.iload_n 1, 1) := by decide +kernel
theorem dX5_isAtRest_8 : decode cX5_isAtRest 8 = .ok (.iload_n 3, 1) := by decide +kernel
theorem dX5_isAtRest_9 : decode cX5_isAtRest 9 = .ok (.iconst 1, 1) := by decide +kernel
theorem dX5_isAtRest_10 : decode cX5_isAtRest 10 = .ok (.iload_n 1, 1) := by decide +kernel
theorem dX5_isAtRest_11 : decode cX5_isAtRest 11 = .ok (.ishl, 1) := by decide +kernel
theorem dX5_isAtRest_12 : decode cX5_isAtRest 12 = .ok (.ixor, 1) := by decide +kernel
theorem dX5_isAtRest_13 : decode cX5_isAtRest 13 = .ok (.invokevirtual 268, 3) := by decide +kernel
theorem dX5_isAtRest_16 : decode cX5_isAtRest 16 = .ok (.if_icmp .lt 26, 3) := by decide +kernel
theorem dX5_isAtRest_19 : decode cX5_isAtRest 19 = .ok (.aload_n 0, 1) := by decide +kernel
theorem dX5_isAtRest_20 : decode cX5_isAtRest 20 = .ok (.iload_n 2, 1) := by decide +kernel
theorem dX5_isAtRest_21 : decode cX5_isAtRest 21 = .ok (.iload_n 3, 1) := by decide +kernel
theorem dX5_isAtRest_22 : decode cX5_isAtRest 22 = .ok (.invokevirtual 268, 3) := by decide +kernel
theorem dX5_isAtRest_25 : decode cX5_isAtRest 25 = .ok (.aload_n 0, 1) := by decide +kernel
theorem dX5_isAtRest_26 : decode cX5_isAtRest 26 = .ok (.iload_n 2, 1) := by decide +kernel
theorem dX5_isAtRest_27 : decode cX5_isAtRest 27 = .ok (.iload_n 3, 1) := by decide +kernel
theorem dX5_isAtRest_28 : decode cX5_isAtRest 28 = .ok (.iconst 1, 1) := by decide +kernel
theorem dX5_isAtRest_29 : decode cX5_isAtRest 29 = .ok (.iload_n 2, 1) := by decide +kernel
theorem dX5_isAtRest_30 : decode cX5_isAtRest 30 = .ok (.ishl, 1) := by decide +kernel
theorem dX5_isAtRest_31 : decode cX5_isAtRest 31 = .ok (.ixor, 1) := by decide +kernel
theorem dX5_isAtRest_32 : decode cX5_isAtRest 32 = .ok (.invokevirtual 268, 3) := by decide +kernel
theorem dX5_isAtRest_35 : decode cX5_isAtRest 35 = .ok (.if_icmp .lt 7, 3) := by decide +kernel
theorem dX5_isAtRest_38 : decode cX5_isAtRest 38 = .ok (.iconst 1, 1) := by decide +kernel
theorem dX5_isAtRest_39 : decode cX5_isAtRest 39 = .ok (.goto 4, 3) := by decide +kernel
theorem dX5_isAtRest_42 : decode cX5_isAtRest 42 = .ok (.iconst 0, 1) := by decide +kernel
theorem dX5_isAtRest_43 : decode cX5_isAtRest 43 = .ok (.ireturn, 1) := by decide +kernel
set_option maxRecDepth 20000 in
theorem ggX5_gain_X5_behind : GoodIn wsX5_gain wsX5_behind := goodIn_r _ [5, 6, 7, 8, 4, 9, 10, 11, 12, 13, 14, 15, 16, 17, 18, 19, 20, 21, 22, 23, 24, 25, 26, 27, 28, 29, 30, 31, 32, 33, 34, 35, 36, 37, 38, 39, 40, 41, 42, 43, 44, 45, 46, 47, 48, 49, 50, 51, 52, 53, 54, 55, 56, 57, 58, 59, 60, 61, 62, 63, 64, 65, 66, 67, 68, 69, 70, 71, 72, 73, 74, 75, 76, 77, 78, 79, 80, 81, 82, 83, 84, 85, 86, 87, 88, 89, 90, 91, 97, 98, 99, 100, 101, 102, 103, 104, 105, 106, 107, 108, 109, 110, 111, 112, 113, 114, 115, 116, 117, 118, 119, 120] (by decide +kernel) (by decide +kernel)
set_option maxRecDepth 20000 in
theorem gX5_gain_X5_behind : GoodIn wsX5_gain (wsV RX5 166 RX5 yX5_behind wsX5_behind) := goodIn_app (goodIn_of _ (by decide +kernel)) ggX5_gain_X5_behind
set_option maxRecDepth 20000 in
theorem ggX5_gain_X2_placeOf : GoodIn wsX5_gain wsX2_placeOf := goodIn_r _ [52, 30, 22, 53, 54, 55, 56, 57, 58, 106, 107, 108, 109, 110, 111, 112, 113, 114, 115, 116, 117, 118, 119, 120] (by decide +kernel) (by decide +kernel)
set_option maxRecDepth 20000 in
theorem gX5_gain_X2_placeOf : GoodIn wsX5_gain (wsV RX5 110 RX2 yX2_placeOf wsX2_placeOf) := goodIn_app (goodIn_of _ (by decide +kernel)) ggX5_gain_X2_placeOf
set_option maxRecDepth 20000 in
theorem ggX5_gain_X2_dustIn : GoodIn wsX5_gain wsX2_dustIn := goodIn_r _ [96, 17, 43, 4, 44, 106, 107, 108, 109, 110, 111, 112] (by decide +kernel) (by decide +kernel)
set_option maxRecDepth 20000 in
theorem gX5_gain_X2_dustIn : GoodIn wsX5_gain (wsV RX5 97 RX2 yX2_dustIn wsX2_dustIn) := goodIn_app (goodIn_of _ (by decide +kernel)) ggX5_gain_X2_dustIn
theorem dX5_gain_0 : decode cX5_gain 0 = .ok (.aload_n 0, 1) := by decide +kernel
theorem dX5_gain_1 : decode cX5_gain 1 = .ok (.iconst 3, 1) := by decide +kernel
theorem dX5_gain_2 : decode cX5_gain 2 = .ok (.iload_n 2, 1) := by decide +kernel
theorem dX5_gain_3 : decode cX5_gain 3 = .ok (.invokevirtual 166, 3) := by decide +kernel
theorem dX5_gain_6 : decode cX5_gain 6 = .ok (.astore_n 3, 1) := by decide +kernel
theorem dX5_gain_7 : decode cX5_gain 7 = .ok (.iload_n 2, 1) := by decide +kernel
theorem dX5_gain_8 : decode cX5_gain 8 = .ok (.iload_n 1, 1) := by decide +kernel
theorem dX5_gain_9 : decode cX5_gain 9 = .ok (.ishr, 1) := by decide +kernel
theorem dX5_gain_10 : decode cX5_gain 10 = .ok (.iconst 1, 1) := by decide +kernel
theorem dX5_gain_11 : decode cX5_gain 11 = .ok (.iand, 1) := by decide +kernel
theorem dX5_gain_12 : decode cX5_gain 12 = .ok (.iconst 1, 1) := by decide +kernel
theorem dX5_gain_13 : decode cX5_gain 13 = .ok (.if_icmp .ne 7, 3) := by decide +kernel
theorem dX5_gain_16 : decode cX5_gain 16 = .ok (.iconst 4, 1) := by decide +kernel
theorem dX5_gain_17 : decode cX5_gain 17 = .ok (.goto 4, 3) := by decide +kernel
theorem dX5_gain_20 : decode cX5_gain 20 = .ok (.iconst 0, 1) := by decide +kernel
theorem dX5_gain_21 : decode cX5_gain 21 = .ok (.istore 4, 2) := by decide +kernel
theorem dX5_gain_23 : decode cX5_gain 23 = .ok (.bipush 20, 2) := by decide +kernel
theorem dX5_gain_25 : decode cX5_gain 25 = .ok (.aload_n 3, 1) := by decide +kernel
theorem dX5_gain_26 : decode cX5_gain 26 = .ok (.aload_n 3, 1) := by decide +kernel
theorem dX5_gain_27 : decode cX5_gain 27 = .ok (.iload_n 1, 1) := by decide +kernel
theorem dX5_gain_28 : decode cX5_gain 28 = .ok (.invokevirtual 110, 3) := by decide +kernel
theorem dX5_gain_31 : decode cX5_gain 31 = .ok (.invokevirtual 97, 3) := by decide +kernel
theorem dX5_gain_34 : decode cX5_gain 34 = .ok (.isub, 1) := by decide +kernel
theorem dX5_gain_35 : decode cX5_gain 35 = .ok (.iload 4, 2) := by decide +kernel
theorem dX5_gain_37 : decode cX5_gain 37 = .ok (.isub, 1) := by decide +kernel
theorem dX5_gain_38 : decode cX5_gain 38 = .ok (.ireturn, 1) := by decide +kernel
set_option maxRecDepth 20000 in
theorem ggX5_isDeepBehind_X5_fromNow : GoodIn wsX5_isDeepBehind wsX5_fromNow := goodIn_r _ [5, 6, 7, 8, 9, 10, 11, 12, 13, 14, 15, 16, 17, 18, 19, 20, 21, 96, 97, 98, 99, 100, 101, 102, 103, 104, 105, 106, 107, 108, 109, 110, 111] (by decide +kernel) (by decide +kernel)
set_option maxRecDepth 20000 in
theorem gX5_isDeepBehind_X5_fromNow : GoodIn wsX5_isDeepBehind (wsV RX5 173 RX5 yX5_fromNow wsX5_fromNow) := goodIn_app (goodIn_of _ (by decide +kernel)) ggX5_isDeepBehind_X5_fromNow
set_option maxRecDepth 20000 in
theorem ggX5_isDeepBehind_X2_passDawn : GoodIn wsX5_isDeepBehind wsX2_passDawn := goodIn_r _ [25, 26, 21, 27, 28, 29, 11, 30, 31, 32, 33, 34, 13, 35, 36, 37, 38, 39, 4, 40, 41, 42, 43, 44, 45, 46, 47, 48, 18, 49, 50, 51, 52, 53, 54, 55, 56, 57, 58, 59, 60, 61, 62, 63, 19, 64, 65, 66, 67, 68, 69, 70, 71, 72, 20, 73, 74, 75, 76, 77, 78, 79, 80, 81, 82, 83, 84, 85, 86, 87, 105, 106, 107, 108, 109, 110, 111, 112, 113, 114, 115, 116, 117, 118, 119] (by decide +kernel) (by decide +kernel)
set_option maxRecDepth 20000 in
theorem gX5_isDeepBehind_X2_passDawn : GoodIn wsX5_isDeepBehind (wsV RX5 129 RX2 yX2_passDawn wsX2_passDawn) := goodIn_app (goodIn_of _ (by decide +kernel)) ggX5_isDeepBehind_X2_passDawn
set_option maxRecDepth 20000 in
theorem ggX5_isDeepBehind_X2_isDeep : GoodIn wsX5_isDeepBehind wsX2_isDeep := goodIn_r _ [91, 92, 93, 94, 11, 95, 13, 39, 4, 40, 105, 106, 107, 108, 109, 110, 111] (by decide +kernel) (by decide +kernel)
set_option maxRecDepth 20000 in
theorem gX5_isDeepBehind_X2_isDeep : GoodIn wsX5_isDeepBehind (wsV RX5 101 RX2 yX2_isDeep wsX2_isDeep) := goodIn_app (goodIn_of _ (by decide +kernel)) ggX5_isDeepBehind_X2_isDeep
theorem dX5_isDeepBehind_0 : decode cX5_isDeepBehind 0 = .ok (.aload_n 0, 1) := by decide +kernel
theorem dX5_isDeepBehind_1 : decode cX5_isDeepBehind 1 = .ok (.invokevirtual 173, 3) := by decide +kernel
theorem dX5_isDeepBehind_4 : decode cX5_isDeepBehind 4 = .ok (.astore 4, 2) := by decide +kernel
theorem dX5_isDeepBehind_6 : decode cX5_isDeepBehind 6 = .ok (.iconst 0, 1) := by decide +kernel
theorem dX5_isDeepBehind_7 : decode cX5_isDeepBehind 7 = .ok (.istore 5, 2) := by decide +kernel
theorem dX5_isDeepBehind_9 : decode cX5_isDeepBehind 9 = .ok (.iload 5, 2) := by decide +kernel
theorem dX5_isDeepBehind_11 : decode cX5_isDeepBehind 11 = .ok (.iload_n 2, 1) := by decide +kernel
theorem dX5_isDeepBehind_12 : decode cX5_isDeepBehind 12 = .ok (.if_icmp .ge 24, 3) := by decide +kernel
theorem dX5_isDeepBehind_15 : decode cX5_isDeepBehind 15 = .ok (.aload 4, 2) := by decide +kernel
theorem dX5_isDeepBehind_17 : decode cX5_isDeepBehind 17 = .ok (.bipush 31, 2) := by decide +kernel
theorem dX5_isDeepBehind_19 : decode cX5_isDeepBehind 19 = .ok (.iconst 1, 1) := by decide +kernel
theorem dX5_isDeepBehind_20 : decode cX5_isDeepBehind 20 = .ok (.iload_n 3, 1) := by decide +kernel
theorem dX5_isDeepBehind_21 : decode cX5_isDeepBehind 21 = .ok (.iload 5, 2) := by decide +kernel
theorem dX5_isDeepBehind_23 : decode cX5_isDeepBehind 23 = .ok (.ishr, 1) := by decide +kernel
theorem dX5_isDeepBehind_24 : decode cX5_isDeepBehind 24 = .ok (.iconst 1, 1) := by decide +kernel
theorem dX5_isDeepBehind_25 : decode cX5_isDeepBehind 25 = .ok (.iand, 1) := by decide +kernel
theorem dX5_isDeepBehind_26 : decode cX5_isDeepBehind 26 = .ok (.iadd, 1) := by decide +kernel
theorem dX5_isDeepBehind_27 : decode cX5_isDeepBehind 27 = .ok (.invokevirtual 129, 3) := by decide +kernel
theorem dX5_isDeepBehind_30 : decode cX5_isDeepBehind 30 = .ok (.iinc 5 1, 3) := by decide +kernel
theorem dX5_isDeepBehind_33 : decode cX5_isDeepBehind 33 = .ok (.goto (-24), 3) := by decide +kernel
theorem dX5_isDeepBehind_36 : decode cX5_isDeepBehind 36 = .ok (.aload 4, 2) := by decide +kernel
theorem dX5_isDeepBehind_38 : decode cX5_isDeepBehind 38 = .ok (.iload_n 1, 1) := by decide +kernel
theorem dX5_isDeepBehind_39 : decode cX5_isDeepBehind 39 = .ok (.invokevirtual 101, 3) := by decide +kernel
theorem dX5_isDeepBehind_42 : decode cX5_isDeepBehind 42 = .ok (.ireturn, 1) := by decide +kernel
theorem dX5_factorial_0 : decode cX5_factorial 0 = .ok (.lconst 1, 1) := by decide +kernel
theorem dX5_factorial_1 : decode cX5_factorial 1 = .ok (.lstore_n 1, 1) := by decide +kernel
theorem dX5_factorial_2 : decode cX5_factorial 2 = .ok (.iconst 2, 1) := by decide +kernel
theorem dX5_factorial_3 : decode cX5_factorial 3 = .ok (.istore_n 3, 1) := by decide +kernel
theorem dX5_factorial_4 : decode cX5_factorial 4 = .ok (.iload_n 3, 1) := by decide +kernel
theorem dX5_factorial_5 : decode cX5_factorial 5 = .ok (.iload_n 0, 1) := by decide +kernel
theorem dX5_factorial_6 : decode cX5_factorial 6 = .ok (.if_icmp .gt 14, 3) := by decide +kernel
theorem dX5_factorial_9 : decode cX5_factorial 9 = .ok (.lload_n 1, 1) := by decide +kernel
theorem dX5_factorial_10 : decode cX5_factorial 10 = .ok (.iload_n 3, 1) := by decide +kernel
theorem dX5_factorial_11 : decode cX5_factorial 11 = .ok (.i2l, 1) := by decide +kernel
theorem dX5_factorial_12 : decode cX5_factorial 12 = .ok (.lmul, 1) := by decide +kernel
theorem dX5_factorial_13 : decode cX5_factorial 13 = .ok (.lstore_n 1, 1) := by decide +kernel
theorem dX5_factorial_14 : decode cX5_factorial 14 = .ok (.iinc 3 1, 3) := by decide +kernel
theorem dX5_factorial_17 : decode cX5_factorial 17 = .ok (.goto (-13), 3) := by decide +kernel
theorem dX5_factorial_20 : decode cX5_factorial 20 = .ok (.lload_n 1, 1) := by decide +kernel
theorem dX5_factorial_21 : decode cX5_factorial 21 = .ok (.lreturn, 1) := by decide +kernel
theorem dX5_power_0 : decode cX5_power 0 = .ok (.lconst 1, 1) := by decide +kernel
theorem dX5_power_1 : decode cX5_power 1 = .ok (.lstore_n 2, 1) := by decide +kernel
theorem dX5_power_2 : decode cX5_power 2 = .ok (.iconst 0, 1) := by decide +kernel
theorem dX5_power_3 : decode cX5_power 3 = .ok (.istore 4, 2) := by decide +kernel
theorem dX5_power_5 : decode cX5_power 5 = .ok (.iload 4, 2) := by decide +kernel
theorem dX5_power_7 : decode cX5_power 7 = .ok (.iload_n 1, 1) := by decide +kernel
theorem dX5_power_8 : decode cX5_power 8 = .ok (.if_icmp .ge 14, 3) := by decide +kernel
theorem dX5_power_11 : decode cX5_power 11 = .ok (.lload_n 2, 1) := by decide +kernel
theorem dX5_power_12 : decode cX5_power 12 = .ok (.iload_n 0, 1) := by decide +kernel
theorem dX5_power_13 : decode cX5_power 13 = .ok (.i2l, 1) := by decide +kernel
theorem dX5_power_14 : decode cX5_power 14 = .ok (.lmul, 1) := by decide +kernel
theorem dX5_power_15 : decode cX5_power 15 = .ok (.lstore_n 2, 1) := by decide +kernel
theorem dX5_power_16 : decode cX5_power 16 = .ok (.iinc 4 1, 3) := by decide +kernel
theorem dX5_power_19 : decode cX5_power 19 = .ok (.goto (-14), 3) := by decide +kernel
theorem dX5_power_22 : decode cX5_power 22 = .ok (.lload_n 2, 1) := by decide +kernel
theorem dX5_power_23 : decode cX5_power 23 = .ok (.lreturn, 1) := by decide +kernel
set_option maxRecDepth 20000 in
theorem ggX5_fraction_X5_commonDivisor : GoodIn wsX5_fraction wsX5_commonDivisor := goodIn_r _ [11] (by decide +kernel) (by decide +kernel)
set_option maxRecDepth 20000 in
theorem gX5_fraction_X5_commonDivisor : GoodIn wsX5_fraction (va_wsS RX5 276 yX5_commonDivisor wsX5_commonDivisor) := goodIn_app (goodIn_of _ (by decide +kernel)) ggX5_fraction_X5_commonDivisor
theorem dX5_fraction_0 : decode cX5_fraction 0 = .ok (.lconst 1, 1) := by decide +kernel
theorem dX5_fraction_1 : decode cX5_fraction 1 = .ok (.lload_n 0, 1) := by decide +kernel
theorem dX5_fraction_2 : decode cX5_fraction 2 = .ok (.invokestatic 272, 3) := by decide +kernel
theorem dX5_fraction_5 : decode cX5_fraction 5 = .ok (.lload_n 2, 1) := by decide +kernel
theorem dX5_fraction_6 : decode cX5_fraction 6 = .ok (.invokestatic 276, 3) := by decide +kernel
theorem dX5_fraction_9 : decode cX5_fraction 9 = .ok (.invokestatic 191, 3) := by decide +kernel
theorem dX5_fraction_12 : decode cX5_fraction 12 = .ok (.lstore 5, 2) := by decide +kernel
theorem dX5_fraction_14 : decode cX5_fraction 14 = .ok (.iload 4, 2) := by decide +kernel
theorem dX5_fraction_16 : decode cX5_fraction 16 = .ok (.ifCond .eq 7, 3) := by decide +kernel
theorem dX5_fraction_19 : decode cX5_fraction 19 = .ok (.lload_n 0, 1) := by decide +kernel
theorem dX5_fraction_20 : decode cX5_fraction 20 = .ok (.goto 4, 3) := by decide +kernel
theorem dX5_fraction_23 : decode cX5_fraction 23 = .ok (.lload_n 2, 1) := by decide +kernel
theorem dX5_fraction_24 : decode cX5_fraction 24 = .ok (.lload 5, 2) := by decide +kernel
theorem dX5_fraction_26 : decode cX5_fraction 26 = .ok (.ldiv, 1) := by decide +kernel
theorem dX5_fraction_27 : decode cX5_fraction 27 = .ok (.l2i, 1) := by decide +kernel
theorem dX5_fraction_28 : decode cX5_fraction 28 = .ok (.ireturn, 1) := by decide +kernel
theorem dX5_commonDivisor_0 : decode cX5_commonDivisor 0 = .ok (.lload_n 0, 1) := by decide +kernel
theorem dX5_commonDivisor_1 : decode cX5_commonDivisor 1 = .ok (.lstore 4, 2) := by decide +kernel
theorem dX5_commonDivisor_3 : decode cX5_commonDivisor 3 = .ok (.lload_n 2, 1) := by decide +kernel
theorem dX5_commonDivisor_4 : decode cX5_commonDivisor 4 = .ok (.lstore 6, 2) := by decide +kernel
theorem dX5_commonDivisor_6 : decode cX5_commonDivisor 6 = .ok (.iconst 0, 1) := by decide +kernel
theorem dX5_commonDivisor_7 : decode cX5_commonDivisor 7 = .ok (.istore 8, 2) := by decide +kernel
theorem dX5_commonDivisor_9 : decode cX5_commonDivisor 9 = .ok (.iload 8, 2) := by decide +kernel
theorem dX5_commonDivisor_11 : decode cX5_commonDivisor 11 = .ok (.bipush 100, 2) := by decide +kernel
theorem dX5_commonDivisor_13 : decode cX5_commonDivisor 13 = .ok (.if_icmp .ge 31, 3) := by decide +kernel
theorem dX5_commonDivisor_16 : decode cX5_commonDivisor 16 = .ok (.lload 6, 2) := by decide +kernel
theorem dX5_commonDivisor_18 : decode cX5_commonDivisor 18 = .ok (.lconst 0, 1) := by decide +kernel
theorem dX5_commonDivisor_19 : decode cX5_commonDivisor 19 = .ok (.lcmp, 1) := by decide +kernel
theorem dX5_commonDivisor_20 : decode cX5_commonDivisor 20 = .ok (.ifCond .eq 24, 3) := by decide +kernel
theorem dX5_commonDivisor_23 : decode cX5_commonDivisor 23 = .ok (.lload 4, 2) := by decide +kernel
theorem dX5_commonDivisor_25 : decode cX5_commonDivisor 25 = .ok (.lload 6, 2) := by decide +kernel
theorem dX5_commonDivisor_27 : decode cX5_commonDivisor 27 = .ok (.lrem, 1) := by decide +kernel
theorem dX5_commonDivisor_28 : decode cX5_commonDivisor 28 = .ok (.lstore 9, 2) := by decide +kernel
theorem dX5_commonDivisor_30 : decode cX5_commonDivisor 30 = .ok (.lload 6, 2) := by decide +kernel
theorem dX5_commonDivisor_32 : decode cX5_commonDivisor 32 = .ok (.lstore 4, 2) := by decide +kernel
theorem dX5_commonDivisor_34 : decode cX5_commonDivisor 34 = .ok (.lload 9, 2) := by decide +kernel
theorem dX5_commonDivisor_36 : decode cX5_commonDivisor 36 = .ok (.lstore 6, 2) := by decide +kernel
theorem dX5_commonDivisor_38 : decode cX5_commonDivisor 38 = .ok (.iinc 8 1, 3) := by decide +kernel
theorem dX5_commonDivisor_41 : decode cX5_commonDivisor 41 = .ok (.goto (-32), 3) := by decide +kernel
theorem dX5_commonDivisor_44 : decode cX5_commonDivisor 44 = .ok (.lload 4, 2) := by decide +kernel
theorem dX5_commonDivisor_46 : decode cX5_commonDivisor 46 = .ok (.lreturn, 1) := by decide +kernel
theorem dX6_init_0 : decode cX6_init 0 = .ok (.aload_n 0, 1) := by decide +kernel
theorem dX6_init_1 : decode cX6_init 1 = .ok (.invokespecial 1, 3) := by decide +kernel
theorem dX6_init_4 : decode cX6_init 4 = .ok (.aload_n 0, 1) := by decide +kernel
theorem dX6_init_5 : decode cX6_init 5 = .ok (.iconst 5, 1) := by decide +kernel
theorem dX6_init_6 : decode cX6_init 6 = .ok (.newarray .int, 2) := by decide +kernel
theorem dX6_init_8 : decode cX6_init 8 = .ok (.putfield 7, 3) := by decide +kernel
theorem dX6_init_11 : decode cX6_init 11 = .ok (.aload_n 0, 1) := by decide +kernel
theorem dX6_init_12 : decode cX6_init 12 = .ok (.iconst 5, 1) := by decide +kernel
theorem dX6_init_13 : decode cX6_init 13 = .ok (.newarray .int, 2) := by decide +kernel
theorem dX6_init_15 : decode cX6_init 15 = .ok (.putfield 13, 3) := by decide +kernel
theorem dX6_init_18 : decode cX6_init 18 = .ok (.aload_n 0, 1) := by decide +kernel
theorem dX6_init_19 : decode cX6_init 19 = .ok (.iconst 5, 1) := by decide +kernel
theorem dX6_init_20 : decode cX6_init 20 = .ok (.newarray .int, 2) := by decide +kernel
theorem dX6_init_22 : decode cX6_init 22 = .ok (.putfield 16, 3) := by decide +kernel
theorem dX6_init_25 : decode cX6_init 25 = .ok (.aload_n 0, 1) := by decide +kernel
theorem dX6_init_26 : decode cX6_init 26 = .ok (.iconst 5, 1) := by decide +kernel
theorem dX6_init_27 : decode cX6_init 27 = .ok (.newarray .int, 2) := by decide +kernel
theorem dX6_init_29 : decode cX6_init 29 = .ok (.putfield 19, 3) := by decide +kernel
theorem dX6_init_32 : decode cX6_init 32 = .ok (.aload_n 0, 1) := by decide +kernel
theorem dX6_init_33 : decode cX6_init 33 = .ok (.bipush 32, 2) := by decide +kernel
theorem dX6_init_35 : decode cX6_init 35 = .ok (.newarray .int, 2) := by decide +kernel
theorem dX6_init_37 : decode cX6_init 37 = .ok (.putfield 22, 3) := by decide +kernel
theorem dX6_init_40 : decode cX6_init 40 = .ok (.aload_n 0, 1) := by decide +kernel
theorem dX6_init_41 : decode cX6_init 41 = .ok (.bipush 8, 2) := by decide +kernel
theorem dX6_init_43 : decode cX6_init 43 = .ok (.newarray .int, 2) := by decide +kernel
theorem dX6_init_45 : decode cX6_init 45 = .ok (.putfield 25, 3) := by decide +kernel
theorem dX6_init_48 : decode cX6_init 48 = .ok (.aload_n 0, 1) := by decide +kernel
theorem dX6_init_49 : decode cX6_init 49 = .ok (.bipush 15, 2) := by decide +kernel
theorem dX6_init_51 : decode cX6_init 51 = .ok (.newarray .int, 2) := by decide +kernel
theorem dX6_init_53 : decode cX6_init 53 = .ok (.putfield 28, 3) := by decide +kernel
theorem dX6_init_56 : decode cX6_init 56 = .ok (.aload_n 0, 1) := by decide +kernel
theorem dX6_init_57 : decode cX6_init 57 = .ok (.bipush 10, 2) := by decide +kernel
theorem dX6_init_59 : decode cX6_init 59 = .ok (.newarray .int, 2) := by decide +kernel
theorem dX6_init_61 : decode cX6_init 61 = .ok (.putfield 31, 3) := by decide +kernel
theorem dX6_init_64 : decode cX6_init 64 = .ok (.aload_n 0, 1) := by decide +kernel
theorem dX6_init_65 : decode cX6_init 65 = .ok (.bipush 48, 2) := by decide +kernel
theorem dX6_init_67 : decode cX6_init 67 = .ok (.newarray .int, 2) := by decide +kernel
theorem dX6_init_69 : decode cX6_init 69 = .ok (.putfield 34, 3) := by decide +kernel
theorem dX6_init_72 : decode cX6_init 72 = .ok (.aload_n 0, 1) := by decide +kernel
theorem dX6_init_73 : decode cX6_init 73 = .ok (.bipush 31, 2) := by decide +kernel
theorem dX6_init_75 : decode cX6_init 75 = .ok (.putfield 37, 3) := by decide +kernel
theorem dX6_init_78 : decode cX6_init 78 = .ok (.aload_n 0, 1) := by decide +kernel
theorem dX6_init_79 : decode cX6_init 79 = .ok (.sipush 224, 3) := by decide +kernel
theorem dX6_init_82 : decode cX6_init 82 = .ok (.newarray .int, 2) := by decide +kernel
theorem dX6_init_84 : decode cX6_init 84 = .ok (.putfield 41, 3) := by decide +kernel
theorem dX6_init_87 : decode cX6_init 87 = .ok (.aload_n 0, 1) := by decide +kernel
theorem dX6_init_88 : decode cX6_init 88 = .ok (.bipush 6, 2) := by decide +kernel
theorem dX6_init_90 : decode cX6_init 90 = .ok (.newarray .int, 2) := by decide +kernel
theorem dX6_init_92 : decode cX6_init 92 = .ok (.putfield 44, 3) := by decide +kernel
theorem dX6_init_95 : decode cX6_init 95 = .ok (.aload_n 0, 1) := by decide +kernel
theorem dX6_init_96 : decode cX6_init 96 = .ok (.bipush 6, 2) := by decide +kernel
theorem dX6_init_98 : decode cX6_init 98 = .ok (.newarray .int, 2) := by decide +kernel
theorem dX6_init_100 : decode cX6_init 100 = .ok (.putfield 47, 3) := by decide +kernel
theorem dX6_init_103 : decode cX6_init 103 = .ok (.aload_n 0, 1) := by decide +kernel
theorem dX6_init_104 : decode cX6_init 104 = .ok (.bipush 6, 2) := by decide +kernel
theorem dX6_init_106 : decode cX6_init 106 = .ok (.newarray .int, 2) := by decide +kernel
theorem dX6_init_108 : decode cX6_init 108 = .ok (.putfield 50, 3) := by decide +kernel
theorem dX6_init_111 : decode cX6_init 111 = .ok (.aload_n 0, 1) := by decide +kernel
theorem dX6_init_112 : decode cX6_init 112 = .ok (.iconst 2, 1) := by decide +kernel
theorem dX6_init_113 : decode cX6_init 113 = .ok (.newarray .boolean, 2) := by decide +kernel
theorem dX6_init_115 : decode cX6_init 115 = .ok (.putfield 53, 3) := by decide +kernel
theorem dX6_init_118 : decode cX6_init 118 = .ok (.aload_n 0, 1) := by decide +kernel
theorem dX6_init_119 : decode cX6_init 119 = .ok (.bipush 32, 2) := by decide +kernel
theorem dX6_init_121 : decode cX6_init 121 = .ok (.newarray .int, 2) := by decide +kernel
theorem dX6_init_123 : decode cX6_init 123 = .ok (.putfield 57, 3) := by decide +kernel
theorem dX6_init_126 : decode cX6_init 126 = .ok (.return_, 1) := by decide +kernel
theorem dX6_in_0 : decode cX6_in 0 = .ok (.lload_n 0, 1) := by decide +kernel
theorem dX6_in_1 : decode cX6_in 1 = .ok (.lload_n 2, 1) := by decide +kernel
theorem dX6_in_2 : decode cX6_in 2 = .ok (.lcmp, 1) := by decide +kernel
theorem dX6_in_3 : decode cX6_in 3 = .ok (.ifCond .lt 14, 3) := by decide +kernel
theorem dX6_in_6 : decode cX6_in 6 = .ok (.lload_n 0, 1) := by decide +kernel
theorem dX6_in_7 : decode cX6_in 7 = .ok (.lload 4, 2) := by decide +kernel
theorem dX6_in_9 : decode cX6_in 9 = .ok (.lcmp, 1) := by decide +kernel
theorem dX6_in_10 : decode cX6_in 10 = .ok (.ifCond .gt 7, 3) := by decide +kernel
theorem dX6_in_13 : decode cX6_in 13 = .ok (.iconst 1, 1) := by decide +kernel
theorem dX6_in_14 : decode cX6_in 14 = .ok (.goto 4, 3) := by decide +kernel
theorem dX6_in_17 : decode cX6_in 17 = .ok (.iconst 0, 1) := by decide +kernel
theorem dX6_in_18 : decode cX6_in 18 = .ok (.ireturn, 1) := by decide +kernel
theorem dX6_has_0 : decode cX6_has 0 = .ok (.iload_n 0, 1) := by decide +kernel
theorem dX6_has_1 : decode cX6_has 1 = .ok (.iload_n 1, 1) := by decide +kernel
theorem dX6_has_2 : decode cX6_has 2 = .ok (.ishr, 1) := by decide +kernel
theorem dX6_has_3 : decode cX6_has 3 = .ok (.iconst 1, 1) := by decide +kernel
theorem dX6_has_4 : decode cX6_has 4 = .ok (.iand, 1) := by decide +kernel
theorem dX6_has_5 : decode cX6_has 5 = .ok (.iconst 1, 1) := by decide +kernel
theorem dX6_has_6 : decode cX6_has 6 = .ok (.if_icmp .ne 7, 3) := by decide +kernel
theorem dX6_has_9 : decode cX6_has 9 = .ok (.iconst 1, 1) := by decide +kernel
theorem dX6_has_10 : decode cX6_has 10 = .ok (.goto 4, 3) := by decide +kernel
theorem dX6_has_13 : decode cX6_has 13 = .ok (.iconst 0, 1) := by decide +kernel
theorem dX6_has_14 : decode cX6_has 14 = .ok (.ireturn, 1) := by decide +kernel
theorem dX6_ones_0 : decode cX6_ones 0 = .ok (.iconst 0, 1) := by decide +kernel
theorem dX6_ones_1 : decode cX6_ones 1 = .ok (.istore_n 1, 1) := by decide +kernel
theorem dX6_ones_2 : decode cX6_ones 2 = .ok (.iconst 0, 1) := by decide +kernel
theorem dX6_ones_3 : decode cX6_ones 3 = .ok (.istore_n 2, 1) := by decide +kernel
theorem dX6_ones_4 : decode cX6_ones 4 = .ok (.iload_n 2, 1) := by decide +kernel
theorem dX6_ones_5 : decode cX6_ones 5 = .ok (.bipush 8, 2) := by decide +kernel
theorem dX6_ones_7 : decode cX6_ones 7 = .ok (.if_icmp .ge 17, 3) := by decide +kernel
theorem dX6_ones_10 : decode cX6_ones 10 = .ok (.iload_n 1, 1) := by decide +kernel
theorem dX6_ones_11 : decode cX6_ones 11 = .ok (.iload_n 0, 1) := by decide +kernel
theorem dX6_ones_12 : decode cX6_ones 12 = .ok (.iload_n 2, 1) := by decide +kernel
theorem dX6_ones_13 : decode cX6_ones 13 = .ok (.ishr, 1) := by decide +kernel
theorem dX6_ones_14 : decode cX6_ones 14 = .ok (.iconst 1, 1) := by decide +kernel
theorem dX6_ones_15 : decode cX6_ones 15 = .ok (.iand, 1) := by decide +kernel
theorem dX6_ones_16 : decode cX6_ones 16 = .ok (.iadd, 1) := by decide +kernel
theorem dX6_ones_17 : decode cX6_ones 17 = .ok (.istore_n 1, 1) := by decide +kernel
theorem dX6_ones_18 : decode cX6_ones 18 = .ok (.iinc 2 1, 3) := by decide +kernel
theorem dX6_ones_21 : decode cX6_ones 21 = .ok (.goto (-17), 3) := by decide +kernel
theorem dX6_ones_24 : decode cX6_ones 24 = .ok (.iload_n 1, 1) := by decide +kernel
theorem dX6_ones_25 : decode cX6_ones 25 = .ok (.ireturn, 1) := by decide +kernel
set_option maxRecDepth 20000 in
theorem ggX6_write_X6_in : GoodIn wsX6_write wsX6_in := goodIn_r _ [7] (by decide +kernel) (by decide +kernel)
set_option maxRecDepth 20000 in
theorem gX6_write_X6_in : GoodIn wsX6_write (va_wsS RX6 62 yX6_in wsX6_in) := goodIn_app (goodIn_of _ (by decide +kernel)) ggX6_write_X6_in
theorem dX6_write_0 : decode cX6_write 0 = .ok (.iload_n 1, 1) := by decide +kernel
theorem dX6_write_1 : decode cX6_write 1 = .ok (.i2l, 1) := by decide +kernel
theorem dX6_write_2 : decode cX6_write 2 = .ok (.lconst 0, 1) := by decide +kernel
theorem dX6_write_3 : decode cX6_write 3 = .ok (.ldc2_w 60, 3) := by decide +kernel
theorem dX6_write_6 : decode cX6_write 6 = .ok (.invokestatic 62, 3) := by decide +kernel
theorem dX6_write_9 : decode cX6_write 9 = .ok (.ifCond .ne 6, 3) := by decide +kernel
theorem dX6_write_12 : decode cX6_write 12 = .ok (.bipush (-2), 2) := by decide +kernel
theorem dX6_write_14 : decode cX6_write 14 = .ok (.ireturn, 1) := by decide +kernel
theorem dX6_write_15 : decode cX6_write 15 = .ok (.aload_n 0, 1) := by decide +kernel
theorem dX6_write_16 : decode cX6_write 16 = .ok (.getfield 66, 3) := by decide +kernel
theorem dX6_write_19 : decode cX6_write 19 = .ok (.bipush 48, 2) := by decide +kernel
theorem dX6_write_21 : decode cX6_write 21 = .ok (.if_icmp .ne 6, 3) := by decide +kernel
theorem dX6_write_24 : decode cX6_write 24 = .ok (.bipush (-4), 2) := by decide +kernel
theorem dX6_write_26 : decode cX6_write 26 = .ok (.ireturn, 1) := by decide +kernel
theorem dX6_write_27 : decode cX6_write 27 = .ok (.aload_n 0, 1) := by decide +kernel
theorem dX6_write_28 : decode cX6_write 28 = .ok (.getfield 34, 3) := by decide +kernel
theorem dX6_write_31 : decode cX6_write 31 = .ok (.aload_n 0, 1) := by decide +kernel
theorem dX6_write_32 : decode cX6_write 32 = .ok (.getfield 66, 3) := by decide +kernel
theorem dX6_write_35 : decode cX6_write 35 = .ok (.iload_n 1, 1) := by decide +kernel
theorem dX6_write_36 : decode cX6_write 36 = .ok (.iastore, 1) := by decide +kernel
theorem dX6_write_37 : decode cX6_write 37 = .ok (.aload_n 0, 1) := by decide +kernel
theorem dX6_write_38 : decode cX6_write 38 = .ok (.dup, 1) := by decide +kernel
theorem dX6_write_39 : decode cX6_write 39 = .ok (.getfield 66, 3) := by decide +kernel
theorem dX6_write_42 : decode cX6_write 42 = .ok (.iconst 1, 1) := by decide +kernel
theorem dX6_write_43 : decode cX6_write 43 = .ok (.iadd, 1) := by decide +kernel
theorem dX6_write_44 : decode cX6_write 44 = .ok (.putfield 66, 3) := by decide +kernel
theorem dX6_write_47 : decode cX6_write 47 = .ok (.aload_n 0, 1) := by decide +kernel
theorem dX6_write_48 : decode cX6_write 48 = .ok (.getfield 66, 3) := by decide +kernel
theorem dX6_write_51 : decode cX6_write 51 = .ok (.ireturn, 1) := by decide +kernel
theorem dX6_wipe_0 : decode cX6_wipe 0 = .ok (.aload_n 0, 1) := by decide +kernel
theorem dX6_wipe_1 : decode cX6_wipe 1 = .ok (.getfield 66, 3) := by decide +kernel
theorem dX6_wipe_4 : decode cX6_wipe 4 = .ok (.istore_n 1, 1) := by decide +kernel
theorem dX6_wipe_5 : decode cX6_wipe 5 = .ok (.aload_n 0, 1) := by decide +kernel
theorem dX6_wipe_6 : decode cX6_wipe 6 = .ok (.iconst 0, 1) := by decide +kernel
theorem dX6_wipe_7 : decode cX6_wipe 7 = .ok (.putfield 66, 3) := by decide +kernel
theorem dX6_wipe_10 : decode cX6_wipe 10 = .ok (.iload_n 1, 1) := by decide +kernel
theorem dX6_wipe_11 : decode cX6_wipe 11 = .ok (.ireturn, 1) := by decide +kernel
set_option maxRecDepth 20000 in
theorem ggX6_figureOf_X6_in : GoodIn wsX6_figureOf wsX6_in := goodIn_r _ [8] (by decide +kernel) (by decide +kernel)
set_option maxRecDepth 20000 in
theorem gX6_figureOf_X6_in : GoodIn wsX6_figureOf (va_wsS RX6 62 yX6_in wsX6_in) := goodIn_app (goodIn_of _ (by decide +kernel)) ggX6_figureOf_X6_in
theorem dX6_figureOf_0 : decode cX6_figureOf 0 = .ok (.aload_n 0, 1) := by decide +kernel
theorem dX6_figureOf_1 : decode cX6_figureOf 1 = .ok (.getfield 69, 3) := by decide +kernel
theorem dX6_figureOf_4 : decode cX6_figureOf 4 = .ok (.bipush (-9), 2) := by decide +kernel
theorem dX6_figureOf_6 : decode cX6_figureOf 6 = .ok (.if_icmp .ne 18, 3) := by decide +kernel
theorem dX6_figureOf_9 : decode cX6_figureOf 9 = .ok (.aload_n 0, 1) := by decide +kernel
theorem dX6_figureOf_10 : decode cX6_figureOf 10 = .ok (.getfield 72, 3) := by decide +kernel
theorem dX6_figureOf_13 : decode cX6_figureOf 13 = .ok (.aload_n 0, 1) := by decide +kernel
theorem dX6_figureOf_14 : decode cX6_figureOf 14 = .ok (.getfield 66, 3) := by decide +kernel
theorem dX6_figureOf_17 : decode cX6_figureOf 17 = .ok (.if_icmp .ge 7, 3) := by decide +kernel
theorem dX6_figureOf_20 : decode cX6_figureOf 20 = .ok (.iconst 1, 1) := by decide +kernel
theorem dX6_figureOf_21 : decode cX6_figureOf 21 = .ok (.goto 4, 3) := by decide +kernel
theorem dX6_figureOf_24 : decode cX6_figureOf 24 = .ok (.iconst 0, 1) := by decide +kernel
theorem dX6_figureOf_25 : decode cX6_figureOf 25 = .ok (.istore_n 3, 1) := by decide +kernel
theorem dX6_figureOf_26 : decode cX6_figureOf 26 = .ok (.iload_n 3, 1) := by decide +kernel
theorem dX6_figureOf_27 : decode cX6_figureOf 27 = .ok (.ifCond .eq 18, 3) := by decide +kernel
theorem dX6_figureOf_30 : decode cX6_figureOf 30 = .ok (.aload_n 0, 1) := by decide +kernel
theorem dX6_figureOf_31 : decode cX6_figureOf 31 = .ok (.getfield 34, 3) := by decide +kernel
theorem dX6_figureOf_34 : decode cX6_figureOf 34 = .ok (.aload_n 0, 1) := by decide +kernel
theorem dX6_figureOf_35 : decode cX6_figureOf 35 = .ok (.getfield 72, 3) := by decide +kernel
theorem dX6_figureOf_38 : decode cX6_figureOf 38 = .ok (.iaload, 1) := by decide +kernel
theorem dX6_figureOf_39 : decode cX6_figureOf 39 = .ok (.bipush 48, 2) := by decide +kernel
theorem dX6_figureOf_41 : decode cX6_figureOf 41 = .ok (.isub, 1) := by decide +kernel
theorem dX6_figureOf_42 : decode cX6_figureOf 42 = .ok (.goto 4, 3) := by decide +kernel
theorem dX6_figureOf_45 : decode cX6_figureOf 45 = .ok (.iconst 0, 1) := by decide +kernel
theorem dX6_figureOf_46 : decode cX6_figureOf 46 = .ok (.istore 4, 2) := by decide +kernel
theorem dX6_figureOf_48 : decode cX6_figureOf 48 = .ok (.iload_n 3, 1) := by decide +kernel
theorem dX6_figureOf_49 : decode cX6_figureOf 49 = .ok (.ifCond .eq 16, 3) := by decide +kernel
theorem dX6_figureOf_52 : decode cX6_figureOf 52 = .ok (.iload 4, 2) := by decide +kernel
theorem dX6_figureOf_54 : decode cX6_figureOf 54 = .ok (.i2l, 1) := by decide +kernel
theorem dX6_figureOf_55 : decode cX6_figureOf 55 = .ok (.iload_n 1, 1) := by decide +kernel
theorem dX6_figureOf_56 : decode cX6_figureOf 56 = .ok (.i2l, 1) := by decide +kernel
theorem dX6_figureOf_57 : decode cX6_figureOf 57 = .ok (.iload_n 2, 1) := by decide +kernel
theorem dX6_figureOf_58 : decode cX6_figureOf 58 = .ok (.i2l, 1) := by decide +kernel
theorem dX6_figureOf_59 : decode cX6_figureOf 59 = .ok (.invokestatic 62, 3) := by decide +kernel
theorem dX6_figureOf_62 : decode cX6_figureOf 62 = .ok (.ifCond .ne 29, 3) := by decide +kernel
theorem dX6_figureOf_65 : decode cX6_figureOf 65 = .ok (.aload_n 0, 1) := by decide +kernel
theorem dX6_figureOf_66 : decode cX6_figureOf 66 = .ok (.aload_n 0, 1) := by decide +kernel
theorem dX6_figureOf_67 : decode cX6_figureOf 67 = .ok (.getfield 69, 3) := by decide +kernel
theorem dX6_figureOf_70 : decode cX6_figureOf 70 = .ok (.bipush (-9), 2) := by decide +kernel
theorem dX6_figureOf_72 : decode cX6_figureOf 72 = .ok (.if_icmp .ne 10, 3) := by decide +kernel
theorem dX6_figureOf_75 : decode cX6_figureOf 75 = .ok (.aload_n 0, 1) := by decide +kernel
theorem dX6_figureOf_76 : decode cX6_figureOf 76 = .ok (.getfield 72, 3) := by decide +kernel
theorem dX6_figureOf_79 : decode cX6_figureOf 79 = .ok (.goto 7, 3) := by decide +kernel
theorem dX6_figureOf_82 : decode cX6_figureOf 82 = .ok (.aload_n 0, 1) := by decide +kernel
theorem dX6_figureOf_83 : decode cX6_figureOf 83 = .ok (.getfield 69, 3) := by decide +kernel
theorem dX6_figureOf_86 : decode cX6_figureOf 86 = .ok (.putfield 69, 3) := by decide +kernel
theorem dX6_figureOf_89 : decode cX6_figureOf 89 = .ok (.iconst 0, 1) := by decide +kernel
theorem dX6_figureOf_90 : decode cX6_figureOf 90 = .ok (.ireturn, 1) := by decide +kernel
theorem dX6_figureOf_91 : decode cX6_figureOf 91 = .ok (.aload_n 0, 1) := by decide +kernel
theorem dX6_figureOf_92 : decode cX6_figureOf 92 = .ok (.dup, 1) := by decide +kernel
theorem dX6_figureOf_93 : decode cX6_figureOf 93 = .ok (.getfield 72, 3) := by decide +kernel
theorem dX6_figureOf_96 : decode cX6_figureOf 96 = .ok (.iconst 1, 1) := by decide +kernel
theorem dX6_figureOf_97 : decode cX6_figureOf 97 = .ok (.iadd, 1) := by decide +kernel
theorem dX6_figureOf_98 : decode cX6_figureOf 98 = .ok (.putfield 72, 3) := by decide +kernel
theorem dX6_figureOf_101 : decode cX6_figureOf 101 = .ok (.iload 4, 2) := by decide +kernel
theorem dX6_figureOf_103 : decode cX6_figureOf 103 = .ok (.ireturn, 1) := by decide +kernel
set_option maxRecDepth 20000 in
theorem ggX6_readText_X6_figureOf : GoodIn wsX6_readText wsX6_figureOf := goodIn_r _ [12, 2, 1, 5, 6, 13, 14, 11, 15, 22, 23, 24, 25, 26, 27, 28, 29, 30, 31, 32, 33, 34, 35, 36, 37, 38, 39, 40, 41, 42, 43, 44, 45, 46, 47, 48] (by decide +kernel) (by decide +kernel)
set_option maxRecDepth 20000 in
theorem gX6_readText_X6_figureOf : GoodIn wsX6_readText (wsV RX6 81 RX6 yX6_figureOf wsX6_figureOf) := goodIn_app (goodIn_of _ (by decide +kernel)) ggX6_readText_X6_figureOf
set_option maxRecDepth 20000 in
theorem ggX6_readText_X6_readPart : GoodIn wsX6_readText wsX6_readPart := goodIn_r _ [19, 3, 1, 20, 4, 21, 2, 8, 9, 10, 11, 12, 5, 6, 13, 14, 15, 22, 23, 24, 25, 26, 27, 28, 29, 30, 31, 32, 33, 34, 35, 36, 37, 38, 39, 40, 41, 42, 43, 44, 45, 46, 47, 48] (by decide +kernel) (by decide +kernel)
set_option maxRecDepth 20000 in
theorem gX6_readText_X6_readPart : GoodIn wsX6_readText (wsV RX6 85 RX6 yX6_readPart wsX6_readPart) := goodIn_app (goodIn_of _ (by decide +kernel)) ggX6_readText_X6_readPart
theorem dX6_readText_0 : decode cX6_readText 0 = .ok (.aload_n 0, 1) := by decide +kernel
theorem dX6_readText_1 : decode cX6_readText 1 = .ok (.iconst 0, 1) := by decide +kernel
theorem dX6_readText_2 : decode cX6_readText 2 = .ok (.putfield 72, 3) := by decide +kernel
theorem dX6_readText_5 : decode cX6_readText 5 = .ok (.aload_n 0, 1) := by decide +kernel
theorem dX6_readText_6 : decode cX6_readText 6 = .ok (.bipush (-9), 2) := by decide +kernel
theorem dX6_readText_8 : decode cX6_readText 8 = .ok (.putfield 69, 3) := by decide +kernel
theorem dX6_readText_11 : decode cX6_readText 11 = .ok (.aload_n 0, 1) := by decide +kernel
theorem dX6_readText_12 : decode cX6_readText 12 = .ok (.iconst 0, 1) := by decide +kernel
theorem dX6_readText_13 : decode cX6_readText 13 = .ok (.putfield 75, 3) := by decide +kernel
theorem dX6_readText_16 : decode cX6_readText 16 = .ok (.aload_n 0, 1) := by decide +kernel
theorem dX6_readText_17 : decode cX6_readText 17 = .ok (.iconst 0, 1) := by decide +kernel
theorem dX6_readText_18 : decode cX6_readText 18 = .ok (.putfield 78, 3) := by decide +kernel
theorem dX6_readText_21 : decode cX6_readText 21 = .ok (.aload_n 0, 1) := by decide +kernel
theorem dX6_readText_22 : decode cX6_readText 22 = .ok (.getfield 66, 3) := by decide +kernel
theorem dX6_readText_25 : decode cX6_readText 25 = .ok (.ifCond .eq 14, 3) := by decide +kernel
theorem dX6_readText_28 : decode cX6_readText 28 = .ok (.aload_n 0, 1) := by decide +kernel
theorem dX6_readText_29 : decode cX6_readText 29 = .ok (.getfield 34, 3) := by decide +kernel
theorem dX6_readText_32 : decode cX6_readText 32 = .ok (.iconst 0, 1) := by decide +kernel
theorem dX6_readText_33 : decode cX6_readText 33 = .ok (.iaload, 1) := by decide +kernel
theorem dX6_readText_34 : decode cX6_readText 34 = .ok (.bipush 66, 2) := by decide +kernel
theorem dX6_readText_36 : decode cX6_readText 36 = .ok (.if_icmp .eq 5, 3) := by decide +kernel
theorem dX6_readText_39 : decode cX6_readText 39 = .ok (.iconst 0, 1) := by decide +kernel
theorem dX6_readText_40 : decode cX6_readText 40 = .ok (.ireturn, 1) := by decide +kernel
end
section
theorem dX6_readText_41 : decode cX6_readText 41 = .ok (.aload_n 0, 1) := by decide +kernel
theorem dX6_readText_42 : decode cX6_readText 42 = .ok (.iconst 1, 1) := by decide +kernel
theorem dX6_readText_43 : decode cX6_readText 43 = .ok (.putfield 72, 3) := by decide +kernel
theorem dX6_readText_46 : decode cX6_readText 46 = .ok (.iconst 0, 1) := by decide +kernel
theorem dX6_readText_47 : decode cX6_readText 47 = .ok (.istore_n 1, 1) := by decide +kernel
theorem dX6_readText_48 : decode cX6_readText 48 = .ok (.iload_n 1, 1) := by decide +kernel
theorem dX6_readText_49 : decode cX6_readText 49 = .ok (.bipush 8, 2) := by decide +kernel
theorem dX6_readText_51 : decode cX6_readText 51 = .ok (.if_icmp .ge 22, 3) := by decide +kernel
theorem dX6_readText_54 : decode cX6_readText 54 = .ok (.aload_n 0, 1) := by decide +kernel
theorem dX6_readText_55 : decode cX6_readText 55 = .ok (.getfield 25, 3) := by decide +kernel
theorem dX6_readText_58 : decode cX6_readText 58 = .ok (.iload_n 1, 1) := by decide +kernel
theorem dX6_readText_59 : decode cX6_readText 59 = .ok (.aload_n 0, 1) := by decide +kernel
theorem dX6_readText_60 : decode cX6_readText 60 = .ok (.iconst 0, 1) := by decide +kernel
theorem dX6_readText_61 : decode cX6_readText 61 = .ok (.bipush 9, 2) := by decide +kernel
theorem dX6_readText_63 : decode cX6_readText 63 = .ok (.invokevirtual 81, 3) := by decide +kernel
theorem dX6_readText_66 : decode cX6_readText 66 = .ok (.iastore, 1) := by decide +kernel
theorem dX6_readText_67 : decode cX6_readText 67 = .ok (.iinc 1 1, 3) := by decide +kernel
theorem dX6_readText_70 : decode cX6_readText 70 = .ok (.goto (-22), 3) := by decide +kernel
theorem dX6_readText_73 : decode cX6_readText 73 = .ok (.aload_n 0, 1) := by decide +kernel
theorem dX6_readText_74 : decode cX6_readText 74 = .ok (.getfield 69, 3) := by decide +kernel
theorem dX6_readText_77 : decode cX6_readText 77 = .ok (.bipush (-9), 2) := by decide +kernel
theorem dX6_readText_79 : decode cX6_readText 79 = .ok (.if_icmp .ne 30, 3) := by decide +kernel
theorem dX6_readText_82 : decode cX6_readText 82 = .ok (.aload_n 0, 1) := by decide +kernel
theorem dX6_readText_83 : decode cX6_readText 83 = .ok (.getfield 72, 3) := by decide +kernel
theorem dX6_readText_86 : decode cX6_readText 86 = .ok (.aload_n 0, 1) := by decide +kernel
theorem dX6_readText_87 : decode cX6_readText 87 = .ok (.getfield 66, 3) := by decide +kernel
theorem dX6_readText_90 : decode cX6_readText 90 = .ok (.if_icmp .ge 19, 3) := by decide +kernel
theorem dX6_readText_93 : decode cX6_readText 93 = .ok (.aload_n 0, 1) := by decide +kernel
theorem dX6_readText_94 : decode cX6_readText 94 = .ok (.aload_n 0, 1) := by decide +kernel
theorem dX6_readText_95 : decode cX6_readText 95 = .ok (.getfield 34, 3) := by decide +kernel
theorem dX6_readText_98 : decode cX6_readText 98 = .ok (.aload_n 0, 1) := by decide +kernel
theorem dX6_readText_99 : decode cX6_readText 99 = .ok (.getfield 72, 3) := by decide +kernel
theorem dX6_readText_102 : decode cX6_readText 102 = .ok (.iaload, 1) := by decide +kernel
theorem dX6_readText_103 : decode cX6_readText 103 = .ok (.invokevirtual 85, 3) := by decide +kernel
theorem dX6_readText_106 : decode cX6_readText 106 = .ok (.goto (-33), 3) := by decide +kernel
theorem dX6_readText_109 : decode cX6_readText 109 = .ok (.aload_n 0, 1) := by decide +kernel
theorem dX6_readText_110 : decode cX6_readText 110 = .ok (.getfield 69, 3) := by decide +kernel
theorem dX6_readText_113 : decode cX6_readText 113 = .ok (.ireturn, 1) := by decide +kernel
set_option maxRecDepth 20000 in
theorem ggX6_readPart_X6_figureOf : GoodIn wsX6_readPart wsX6_figureOf := goodIn_r _ [11, 6, 2, 12, 13, 14, 15, 10, 16, 17, 18, 19, 20, 21, 22, 23, 24, 25, 26, 27, 28, 29, 30, 31, 32, 33, 34, 35, 36, 37, 38, 39, 40, 41, 42, 43] (by decide +kernel) (by decide +kernel)
set_option maxRecDepth 20000 in
theorem gX6_readPart_X6_figureOf : GoodIn wsX6_readPart (wsV RX6 81 RX6 yX6_figureOf wsX6_figureOf) := goodIn_app (goodIn_of _ (by decide +kernel)) ggX6_readPart_X6_figureOf
theorem dX6_readPart_0 : decode cX6_readPart 0 = .ok (.iload_n 1, 1) := by decide +kernel
theorem dX6_readPart_1 : decode cX6_readPart 1 = .ok (.bipush 78, 2) := by decide +kernel
theorem dX6_readPart_3 : decode cX6_readPart 3 = .ok (.if_icmp .ne 91, 3) := by decide +kernel
theorem dX6_readPart_6 : decode cX6_readPart 6 = .ok (.aload_n 0, 1) := by decide +kernel
theorem dX6_readPart_7 : decode cX6_readPart 7 = .ok (.getfield 75, 3) := by decide +kernel
theorem dX6_readPart_10 : decode cX6_readPart 10 = .ok (.iconst 5, 1) := by decide +kernel
theorem dX6_readPart_11 : decode cX6_readPart 11 = .ok (.if_icmp .ge 83, 3) := by decide +kernel
theorem dX6_readPart_14 : decode cX6_readPart 14 = .ok (.aload_n 0, 1) := by decide +kernel
theorem dX6_readPart_15 : decode cX6_readPart 15 = .ok (.dup, 1) := by decide +kernel
theorem dX6_readPart_16 : decode cX6_readPart 16 = .ok (.getfield 72, 3) := by decide +kernel
theorem dX6_readPart_19 : decode cX6_readPart 19 = .ok (.iconst 1, 1) := by decide +kernel
theorem dX6_readPart_20 : decode cX6_readPart 20 = .ok (.iadd, 1) := by decide +kernel
theorem dX6_readPart_21 : decode cX6_readPart 21 = .ok (.putfield 72, 3) := by decide +kernel
theorem dX6_readPart_24 : decode cX6_readPart 24 = .ok (.aload_n 0, 1) := by decide +kernel
theorem dX6_readPart_25 : decode cX6_readPart 25 = .ok (.getfield 28, 3) := by decide +kernel
theorem dX6_readPart_28 : decode cX6_readPart 28 = .ok (.iconst 3, 1) := by decide +kernel
theorem dX6_readPart_29 : decode cX6_readPart 29 = .ok (.aload_n 0, 1) := by decide +kernel
theorem dX6_readPart_30 : decode cX6_readPart 30 = .ok (.getfield 75, 3) := by decide +kernel
theorem dX6_readPart_33 : decode cX6_readPart 33 = .ok (.imul, 1) := by decide +kernel
theorem dX6_readPart_34 : decode cX6_readPart 34 = .ok (.aload_n 0, 1) := by decide +kernel
theorem dX6_readPart_35 : decode cX6_readPart 35 = .ok (.iconst 0, 1) := by decide +kernel
theorem dX6_readPart_36 : decode cX6_readPart 36 = .ok (.bipush 7, 2) := by decide +kernel
theorem dX6_readPart_38 : decode cX6_readPart 38 = .ok (.invokevirtual 81, 3) := by decide +kernel
theorem dX6_readPart_41 : decode cX6_readPart 41 = .ok (.iastore, 1) := by decide +kernel
theorem dX6_readPart_42 : decode cX6_readPart 42 = .ok (.aload_n 0, 1) := by decide +kernel
theorem dX6_readPart_43 : decode cX6_readPart 43 = .ok (.getfield 28, 3) := by decide +kernel
theorem dX6_readPart_46 : decode cX6_readPart 46 = .ok (.iconst 3, 1) := by decide +kernel
theorem dX6_readPart_47 : decode cX6_readPart 47 = .ok (.aload_n 0, 1) := by decide +kernel
theorem dX6_readPart_48 : decode cX6_readPart 48 = .ok (.getfield 75, 3) := by decide +kernel
theorem dX6_readPart_51 : decode cX6_readPart 51 = .ok (.imul, 1) := by decide +kernel
theorem dX6_readPart_52 : decode cX6_readPart 52 = .ok (.iconst 1, 1) := by decide +kernel
theorem dX6_readPart_53 : decode cX6_readPart 53 = .ok (.iadd, 1) := by decide +kernel
theorem dX6_readPart_54 : decode cX6_readPart 54 = .ok (.aload_n 0, 1) := by decide +kernel
theorem dX6_readPart_55 : decode cX6_readPart 55 = .ok (.iconst 1, 1) := by decide +kernel
theorem dX6_readPart_56 : decode cX6_readPart 56 = .ok (.bipush 9, 2) := by decide +kernel
theorem dX6_readPart_58 : decode cX6_readPart 58 = .ok (.invokevirtual 81, 3) := by decide +kernel
theorem dX6_readPart_61 : decode cX6_readPart 61 = .ok (.iastore, 1) := by decide +kernel
theorem dX6_readPart_62 : decode cX6_readPart 62 = .ok (.aload_n 0, 1) := by decide +kernel
theorem dX6_readPart_63 : decode cX6_readPart 63 = .ok (.getfield 28, 3) := by decide +kernel
theorem dX6_readPart_66 : decode cX6_readPart 66 = .ok (.iconst 3, 1) := by decide +kernel
theorem dX6_readPart_67 : decode cX6_readPart 67 = .ok (.aload_n 0, 1) := by decide +kernel
theorem dX6_readPart_68 : decode cX6_readPart 68 = .ok (.getfield 75, 3) := by decide +kernel
theorem dX6_readPart_71 : decode cX6_readPart 71 = .ok (.imul, 1) := by decide +kernel
theorem dX6_readPart_72 : decode cX6_readPart 72 = .ok (.iconst 2, 1) := by decide +kernel
theorem dX6_readPart_73 : decode cX6_readPart 73 = .ok (.iadd, 1) := by decide +kernel
theorem dX6_readPart_74 : decode cX6_readPart 74 = .ok (.aload_n 0, 1) := by decide +kernel
theorem dX6_readPart_75 : decode cX6_readPart 75 = .ok (.iconst 0, 1) := by decide +kernel
theorem dX6_readPart_76 : decode cX6_readPart 76 = .ok (.iconst 3, 1) := by decide +kernel
theorem dX6_readPart_77 : decode cX6_readPart 77 = .ok (.invokevirtual 81, 3) := by decide +kernel
theorem dX6_readPart_80 : decode cX6_readPart 80 = .ok (.iastore, 1) := by decide +kernel
theorem dX6_readPart_81 : decode cX6_readPart 81 = .ok (.aload_n 0, 1) := by decide +kernel
theorem dX6_readPart_82 : decode cX6_readPart 82 = .ok (.dup, 1) := by decide +kernel
theorem dX6_readPart_83 : decode cX6_readPart 83 = .ok (.getfield 75, 3) := by decide +kernel
theorem dX6_readPart_86 : decode cX6_readPart 86 = .ok (.iconst 1, 1) := by decide +kernel
theorem dX6_readPart_87 : decode cX6_readPart 87 = .ok (.iadd, 1) := by decide +kernel
theorem dX6_readPart_88 : decode cX6_readPart 88 = .ok (.putfield 75, 3) := by decide +kernel
theorem dX6_readPart_91 : decode cX6_readPart 91 = .ok (.goto 86, 3) := by decide +kernel
theorem dX6_readPart_94 : decode cX6_readPart 94 = .ok (.iload_n 1, 1) := by decide +kernel
theorem dX6_readPart_95 : decode cX6_readPart 95 = .ok (.bipush 70, 2) := by decide +kernel
theorem dX6_readPart_97 : decode cX6_readPart 97 = .ok (.if_icmp .ne 72, 3) := by decide +kernel
theorem dX6_readPart_100 : decode cX6_readPart 100 = .ok (.aload_n 0, 1) := by decide +kernel
theorem dX6_readPart_101 : decode cX6_readPart 101 = .ok (.getfield 78, 3) := by decide +kernel
theorem dX6_readPart_104 : decode cX6_readPart 104 = .ok (.iconst 5, 1) := by decide +kernel
theorem dX6_readPart_105 : decode cX6_readPart 105 = .ok (.if_icmp .ge 64, 3) := by decide +kernel
theorem dX6_readPart_108 : decode cX6_readPart 108 = .ok (.aload_n 0, 1) := by decide +kernel
theorem dX6_readPart_109 : decode cX6_readPart 109 = .ok (.dup, 1) := by decide +kernel
theorem dX6_readPart_110 : decode cX6_readPart 110 = .ok (.getfield 72, 3) := by decide +kernel
theorem dX6_readPart_113 : decode cX6_readPart 113 = .ok (.iconst 1, 1) := by decide +kernel
theorem dX6_readPart_114 : decode cX6_readPart 114 = .ok (.iadd, 1) := by decide +kernel
theorem dX6_readPart_115 : decode cX6_readPart 115 = .ok (.putfield 72, 3) := by decide +kernel
theorem dX6_readPart_118 : decode cX6_readPart 118 = .ok (.aload_n 0, 1) := by decide +kernel
theorem dX6_readPart_119 : decode cX6_readPart 119 = .ok (.getfield 31, 3) := by decide +kernel
theorem dX6_readPart_122 : decode cX6_readPart 122 = .ok (.iconst 2, 1) := by decide +kernel
theorem dX6_readPart_123 : decode cX6_readPart 123 = .ok (.aload_n 0, 1) := by decide +kernel
theorem dX6_readPart_124 : decode cX6_readPart 124 = .ok (.getfield 78, 3) := by decide +kernel
theorem dX6_readPart_127 : decode cX6_readPart 127 = .ok (.imul, 1) := by decide +kernel
theorem dX6_readPart_128 : decode cX6_readPart 128 = .ok (.aload_n 0, 1) := by decide +kernel
theorem dX6_readPart_129 : decode cX6_readPart 129 = .ok (.iconst 0, 1) := by decide +kernel
theorem dX6_readPart_130 : decode cX6_readPart 130 = .ok (.bipush 7, 2) := by decide +kernel
theorem dX6_readPart_132 : decode cX6_readPart 132 = .ok (.invokevirtual 81, 3) := by decide +kernel
theorem dX6_readPart_135 : decode cX6_readPart 135 = .ok (.iastore, 1) := by decide +kernel
theorem dX6_readPart_136 : decode cX6_readPart 136 = .ok (.aload_n 0, 1) := by decide +kernel
theorem dX6_readPart_137 : decode cX6_readPart 137 = .ok (.getfield 31, 3) := by decide +kernel
theorem dX6_readPart_140 : decode cX6_readPart 140 = .ok (.iconst 2, 1) := by decide +kernel
theorem dX6_readPart_141 : decode cX6_readPart 141 = .ok (.aload_n 0, 1) := by decide +kernel
theorem dX6_readPart_142 : decode cX6_readPart 142 = .ok (.getfield 78, 3) := by decide +kernel
theorem dX6_readPart_145 : decode cX6_readPart 145 = .ok (.imul, 1) := by decide +kernel
theorem dX6_readPart_146 : decode cX6_readPart 146 = .ok (.iconst 1, 1) := by decide +kernel
theorem dX6_readPart_147 : decode cX6_readPart 147 = .ok (.iadd, 1) := by decide +kernel
theorem dX6_readPart_148 : decode cX6_readPart 148 = .ok (.aload_n 0, 1) := by decide +kernel
theorem dX6_readPart_149 : decode cX6_readPart 149 = .ok (.iconst 0, 1) := by decide +kernel
theorem dX6_readPart_150 : decode cX6_readPart 150 = .ok (.bipush 9, 2) := by decide +kernel
theorem dX6_readPart_152 : decode cX6_readPart 152 = .ok (.invokevirtual 81, 3) := by decide +kernel
theorem dX6_readPart_155 : decode cX6_readPart 155 = .ok (.iastore, 1) := by decide +kernel
theorem dX6_readPart_156 : decode cX6_readPart 156 = .ok (.aload_n 0, 1) := by decide +kernel
theorem dX6_readPart_157 : decode cX6_readPart 157 = .ok (.dup, 1) := by decide +kernel
theorem dX6_readPart_158 : decode cX6_readPart 158 = .ok (.getfield 78, 3) := by decide +kernel
theorem dX6_readPart_161 : decode cX6_readPart 161 = .ok (.iconst 1, 1) := by decide +kernel
theorem dX6_readPart_162 : decode cX6_readPart 162 = .ok (.iadd, 1) := by decide +kernel
theorem dX6_readPart_163 : decode cX6_readPart 163 = .ok (.putfield 78, 3) := by decide +kernel
theorem dX6_readPart_166 : decode cX6_readPart 166 = .ok (.goto 11, 3) := by decide +kernel
theorem dX6_readPart_169 : decode cX6_readPart 169 = .ok (.aload_n 0, 1) := by decide +kernel
theorem dX6_readPart_170 : decode cX6_readPart 170 = .ok (.aload_n 0, 1) := by decide +kernel
theorem dX6_readPart_171 : decode cX6_readPart 171 = .ok (.getfield 72, 3) := by decide +kernel
theorem dX6_readPart_174 : decode cX6_readPart 174 = .ok (.putfield 69, 3) := by decide +kernel
theorem dX6_readPart_177 : decode cX6_readPart 177 = .ok (.return_, 1) := by decide +kernel
set_option maxRecDepth 20000 in
theorem ggX6_fault_X6_readText : GoodIn wsX6_fault wsX6_readText := goodIn_r _ [5, 6, 7, 8, 9, 10, 11, 12, 13, 14, 15, 4, 16, 17, 18, 19, 20, 21, 22, 23, 24, 25, 26, 27, 28, 29, 30, 31, 32, 33, 34, 35, 36, 37, 38, 39, 40, 41, 42, 43, 44, 45, 46, 47, 48, 49, 50, 51, 52] (by decide +kernel) (by decide +kernel)
set_option maxRecDepth 20000 in
theorem gX6_fault_X6_readText : GoodIn wsX6_fault (wsV RX6 89 RX6 yX6_readText wsX6_readText) := goodIn_app (goodIn_of _ (by decide +kernel)) ggX6_fault_X6_readText
theorem dX6_fault_0 : decode cX6_fault 0 = .ok (.aload_n 0, 1) := by decide +kernel
theorem dX6_fault_1 : decode cX6_fault 1 = .ok (.invokevirtual 89, 3) := by decide +kernel
theorem dX6_fault_4 : decode cX6_fault 4 = .ok (.ireturn, 1) := by decide +kernel
set_option maxRecDepth 20000 in
theorem ggX6_city_X6_readText : GoodIn wsX6_city wsX6_readText := goodIn_r _ [19, 20, 21, 1, 3, 22, 23, 6, 24, 25, 26, 18, 27, 28, 29, 30, 31, 32, 33, 34, 7, 11, 35, 36, 37, 38, 39, 40, 41, 42, 43, 44, 45, 46, 47, 48, 49, 50, 51, 52, 53, 54, 55, 56, 57, 58, 59, 60, 61] (by decide +kernel) (by decide +kernel)
set_option maxRecDepth 20000 in
theorem gX6_city_X6_readText : GoodIn wsX6_city (wsV RX6 89 RX6 yX6_readText wsX6_readText) := goodIn_app (goodIn_of _ (by decide +kernel)) ggX6_city_X6_readText
theorem dX6_city_0 : decode cX6_city 0 = .ok (.aload_n 0, 1) := by decide +kernel
theorem dX6_city_1 : decode cX6_city 1 = .ok (.invokevirtual 89, 3) := by decide +kernel
theorem dX6_city_4 : decode cX6_city 4 = .ok (.bipush (-9), 2) := by decide +kernel
theorem dX6_city_6 : decode cX6_city 6 = .ok (.if_icmp .eq 6, 3) := by decide +kernel
theorem dX6_city_9 : decode cX6_city 9 = .ok (.bipush (-3), 2) := by decide +kernel
theorem dX6_city_11 : decode cX6_city 11 = .ok (.ireturn, 1) := by decide +kernel
theorem dX6_city_12 : decode cX6_city 12 = .ok (.aload_n 0, 1) := by decide +kernel
theorem dX6_city_13 : decode cX6_city 13 = .ok (.aload_n 0, 1) := by decide +kernel
theorem dX6_city_14 : decode cX6_city 14 = .ok (.getfield 75, 3) := by decide +kernel
theorem dX6_city_17 : decode cX6_city 17 = .ok (.putfield 93, 3) := by decide +kernel
theorem dX6_city_20 : decode cX6_city 20 = .ok (.aload_n 0, 1) := by decide +kernel
theorem dX6_city_21 : decode cX6_city 21 = .ok (.aload_n 0, 1) := by decide +kernel
theorem dX6_city_22 : decode cX6_city 22 = .ok (.getfield 78, 3) := by decide +kernel
theorem dX6_city_25 : decode cX6_city 25 = .ok (.putfield 96, 3) := by decide +kernel
theorem dX6_city_28 : decode cX6_city 28 = .ok (.iconst 0, 1) := by decide +kernel
theorem dX6_city_29 : decode cX6_city 29 = .ok (.istore_n 1, 1) := by decide +kernel
theorem dX6_city_30 : decode cX6_city 30 = .ok (.iload_n 1, 1) := by decide +kernel
theorem dX6_city_31 : decode cX6_city 31 = .ok (.bipush 16, 2) := by decide +kernel
theorem dX6_city_33 : decode cX6_city 33 = .ok (.if_icmp .ge 31, 3) := by decide +kernel
theorem dX6_city_36 : decode cX6_city 36 = .ok (.aload_n 0, 1) := by decide +kernel
theorem dX6_city_37 : decode cX6_city 37 = .ok (.getfield 22, 3) := by decide +kernel
theorem dX6_city_40 : decode cX6_city 40 = .ok (.iload_n 1, 1) := by decide +kernel
theorem dX6_city_41 : decode cX6_city 41 = .ok (.iload_n 1, 1) := by decide +kernel
theorem dX6_city_42 : decode cX6_city 42 = .ok (.bipush 8, 2) := by decide +kernel
theorem dX6_city_44 : decode cX6_city 44 = .ok (.if_icmp .ge 12, 3) := by decide +kernel
theorem dX6_city_47 : decode cX6_city 47 = .ok (.aload_n 0, 1) := by decide +kernel
theorem dX6_city_48 : decode cX6_city 48 = .ok (.getfield 25, 3) := by decide +kernel
theorem dX6_city_51 : decode cX6_city 51 = .ok (.iload_n 1, 1) := by decide +kernel
theorem dX6_city_52 : decode cX6_city 52 = .ok (.iaload, 1) := by decide +kernel
theorem dX6_city_53 : decode cX6_city 53 = .ok (.goto 4, 3) := by decide +kernel
theorem dX6_city_56 : decode cX6_city 56 = .ok (.iconst 0, 1) := by decide +kernel
theorem dX6_city_57 : decode cX6_city 57 = .ok (.iastore, 1) := by decide +kernel
theorem dX6_city_58 : decode cX6_city 58 = .ok (.iinc 1 1, 3) := by decide +kernel
theorem dX6_city_61 : decode cX6_city 61 = .ok (.goto (-31), 3) := by decide +kernel
theorem dX6_city_64 : decode cX6_city 64 = .ok (.iconst 0, 1) := by decide +kernel
theorem dX6_city_65 : decode cX6_city 65 = .ok (.istore_n 1, 1) := by decide +kernel
theorem dX6_city_66 : decode cX6_city 66 = .ok (.iload_n 1, 1) := by decide +kernel
theorem dX6_city_67 : decode cX6_city 67 = .ok (.aload_n 0, 1) := by decide +kernel
theorem dX6_city_68 : decode cX6_city 68 = .ok (.getfield 93, 3) := by decide +kernel
theorem dX6_city_71 : decode cX6_city 71 = .ok (.if_icmp .ge 58, 3) := by decide +kernel
theorem dX6_city_74 : decode cX6_city 74 = .ok (.aload_n 0, 1) := by decide +kernel
theorem dX6_city_75 : decode cX6_city 75 = .ok (.getfield 22, 3) := by decide +kernel
theorem dX6_city_78 : decode cX6_city 78 = .ok (.bipush 8, 2) := by decide +kernel
theorem dX6_city_80 : decode cX6_city 80 = .ok (.iload_n 1, 1) := by decide +kernel
theorem dX6_city_81 : decode cX6_city 81 = .ok (.iadd, 1) := by decide +kernel
theorem dX6_city_82 : decode cX6_city 82 = .ok (.aload_n 0, 1) := by decide +kernel
theorem dX6_city_83 : decode cX6_city 83 = .ok (.getfield 28, 3) := by decide +kernel
theorem dX6_city_86 : decode cX6_city 86 = .ok (.iconst 3, 1) := by decide +kernel
theorem dX6_city_87 : decode cX6_city 87 = .ok (.iload_n 1, 1) := by decide +kernel
theorem dX6_city_88 : decode cX6_city 88 = .ok (.imul, 1) := by decide +kernel
theorem dX6_city_89 : decode cX6_city 89 = .ok (.iaload, 1) := by decide +kernel
theorem dX6_city_90 : decode cX6_city 90 = .ok (.iastore, 1) := by decide +kernel
theorem dX6_city_91 : decode cX6_city 91 = .ok (.aload_n 0, 1) := by decide +kernel
theorem dX6_city_92 : decode cX6_city 92 = .ok (.getfield 7, 3) := by decide +kernel
theorem dX6_city_95 : decode cX6_city 95 = .ok (.iload_n 1, 1) := by decide +kernel
theorem dX6_city_96 : decode cX6_city 96 = .ok (.aload_n 0, 1) := by decide +kernel
theorem dX6_city_97 : decode cX6_city 97 = .ok (.getfield 28, 3) := by decide +kernel
theorem dX6_city_100 : decode cX6_city 100 = .ok (.iconst 3, 1) := by decide +kernel
theorem dX6_city_101 : decode cX6_city 101 = .ok (.iload_n 1, 1) := by decide +kernel
theorem dX6_city_102 : decode cX6_city 102 = .ok (.imul, 1) := by decide +kernel
theorem dX6_city_103 : decode cX6_city 103 = .ok (.iconst 1, 1) := by decide +kernel
theorem dX6_city_104 : decode cX6_city 104 = .ok (.iadd, 1) := by decide +kernel
theorem dX6_city_105 : decode cX6_city 105 = .ok (.iaload, 1) := by decide +kernel
theorem dX6_city_106 : decode cX6_city 106 = .ok (.iastore, 1) := by decide +kernel
theorem dX6_city_107 : decode cX6_city 107 = .ok (.aload_n 0, 1) := by decide +kernel
theorem dX6_city_108 : decode cX6_city 108 = .ok (.getfield 13, 3) := by decide +kernel
theorem dX6_city_111 : decode cX6_city 111 = .ok (.iload_n 1, 1) := by decide +kernel
theorem dX6_city_112 : decode cX6_city 112 = .ok (.aload_n 0, 1) := by decide +kernel
theorem dX6_city_113 : decode cX6_city 113 = .ok (.getfield 28, 3) := by decide +kernel
theorem dX6_city_116 : decode cX6_city 116 = .ok (.iconst 3, 1) := by decide +kernel
theorem dX6_city_117 : decode cX6_city 117 = .ok (.iload_n 1, 1) := by decide +kernel
theorem dX6_city_118 : decode cX6_city 118 = .ok (.imul, 1) := by decide +kernel
theorem dX6_city_119 : decode cX6_city 119 = .ok (.iconst 2, 1) := by decide +kernel
theorem dX6_city_120 : decode cX6_city 120 = .ok (.iadd, 1) := by decide +kernel
theorem dX6_city_121 : decode cX6_city 121 = .ok (.iaload, 1) := by decide +kernel
theorem dX6_city_122 : decode cX6_city 122 = .ok (.iastore, 1) := by decide +kernel
theorem dX6_city_123 : decode cX6_city 123 = .ok (.iinc 1 1, 3) := by decide +kernel
theorem dX6_city_126 : decode cX6_city 126 = .ok (.goto (-60), 3) := by decide +kernel
theorem dX6_city_129 : decode cX6_city 129 = .ok (.iconst 0, 1) := by decide +kernel
theorem dX6_city_130 : decode cX6_city 130 = .ok (.istore_n 1, 1) := by decide +kernel
theorem dX6_city_131 : decode cX6_city 131 = .ok (.iload_n 1, 1) := by decide +kernel
theorem dX6_city_132 : decode cX6_city 132 = .ok (.aload_n 0, 1) := by decide +kernel
theorem dX6_city_133 : decode cX6_city 133 = .ok (.getfield 96, 3) := by decide +kernel
theorem dX6_city_136 : decode cX6_city 136 = .ok (.if_icmp .ge 39, 3) := by decide +kernel
theorem dX6_city_139 : decode cX6_city 139 = .ok (.aload_n 0, 1) := by decide +kernel
theorem dX6_city_140 : decode cX6_city 140 = .ok (.getfield 16, 3) := by decide +kernel
theorem dX6_city_143 : decode cX6_city 143 = .ok (.iload_n 1, 1) := by decide +kernel
theorem dX6_city_144 : decode cX6_city 144 = .ok (.aload_n 0, 1) := by decide +kernel
theorem dX6_city_145 : decode cX6_city 145 = .ok (.getfield 31, 3) := by decide +kernel
theorem dX6_city_148 : decode cX6_city 148 = .ok (.iconst 2, 1) := by decide +kernel
theorem dX6_city_149 : decode cX6_city 149 = .ok (.iload_n 1, 1) := by decide +kernel
theorem dX6_city_150 : decode cX6_city 150 = .ok (.imul, 1) := by decide +kernel
theorem dX6_city_151 : decode cX6_city 151 = .ok (.iaload, 1) := by decide +kernel
theorem dX6_city_152 : decode cX6_city 152 = .ok (.iastore, 1) := by decide +kernel
theorem dX6_city_153 : decode cX6_city 153 = .ok (.aload_n 0, 1) := by decide +kernel
theorem dX6_city_154 : decode cX6_city 154 = .ok (.getfield 19, 3) := by decide +kernel
theorem dX6_city_157 : decode cX6_city 157 = .ok (.iload_n 1, 1) := by decide +kernel
theorem dX6_city_158 : decode cX6_city 158 = .ok (.aload_n 0, 1) := by decide +kernel
theorem dX6_city_159 : decode cX6_city 159 = .ok (.getfield 31, 3) := by decide +kernel
theorem dX6_city_162 : decode cX6_city 162 = .ok (.iconst 2, 1) := by decide +kernel
theorem dX6_city_163 : decode cX6_city 163 = .ok (.iload_n 1, 1) := by decide +kernel
theorem dX6_city_164 : decode cX6_city 164 = .ok (.imul, 1) := by decide +kernel
theorem dX6_city_165 : decode cX6_city 165 = .ok (.iconst 1, 1) := by decide +kernel
theorem dX6_city_166 : decode cX6_city 166 = .ok (.iadd, 1) := by decide +kernel
theorem dX6_city_167 : decode cX6_city 167 = .ok (.iaload, 1) := by decide +kernel
theorem dX6_city_168 : decode cX6_city 168 = .ok (.iastore, 1) := by decide +kernel
theorem dX6_city_169 : decode cX6_city 169 = .ok (.iinc 1 1, 3) := by decide +kernel
theorem dX6_city_172 : decode cX6_city 172 = .ok (.goto (-41), 3) := by decide +kernel
theorem dX6_city_175 : decode cX6_city 175 = .ok (.aload_n 0, 1) := by decide +kernel
theorem dX6_city_176 : decode cX6_city 176 = .ok (.iconst 0, 1) := by decide +kernel
theorem dX6_city_177 : decode cX6_city 177 = .ok (.putfield 99, 3) := by decide +kernel
theorem dX6_city_180 : decode cX6_city 180 = .ok (.aload_n 0, 1) := by decide +kernel
theorem dX6_city_181 : decode cX6_city 181 = .ok (.getfield 53, 3) := by decide +kernel
theorem dX6_city_184 : decode cX6_city 184 = .ok (.iconst 0, 1) := by decide +kernel
theorem dX6_city_185 : decode cX6_city 185 = .ok (.iconst 0, 1) := by decide +kernel
theorem dX6_city_186 : decode cX6_city 186 = .ok (.bastore, 1) := by decide +kernel
theorem dX6_city_187 : decode cX6_city 187 = .ok (.aload_n 0, 1) := by decide +kernel
theorem dX6_city_188 : decode cX6_city 188 = .ok (.getfield 53, 3) := by decide +kernel
theorem dX6_city_191 : decode cX6_city 191 = .ok (.iconst 1, 1) := by decide +kernel
theorem dX6_city_192 : decode cX6_city 192 = .ok (.iconst 0, 1) := by decide +kernel
theorem dX6_city_193 : decode cX6_city 193 = .ok (.bastore, 1) := by decide +kernel
theorem dX6_city_194 : decode cX6_city 194 = .ok (.bipush 10, 2) := by decide +kernel
theorem dX6_city_196 : decode cX6_city 196 = .ok (.aload_n 0, 1) := by decide +kernel
theorem dX6_city_197 : decode cX6_city 197 = .ok (.getfield 93, 3) := by decide +kernel
theorem dX6_city_200 : decode cX6_city 200 = .ok (.imul, 1) := by decide +kernel
theorem dX6_city_201 : decode cX6_city 201 = .ok (.aload_n 0, 1) := by decide +kernel
theorem dX6_city_202 : decode cX6_city 202 = .ok (.getfield 96, 3) := by decide +kernel
theorem dX6_city_205 : decode cX6_city 205 = .ok (.iadd, 1) := by decide +kernel
theorem dX6_city_206 : decode cX6_city 206 = .ok (.ireturn, 1) := by decide +kernel
set_option maxRecDepth 20000 in
theorem ggX6_isBroom_X6_in : GoodIn wsX6_isBroom wsX6_in := goodIn_r _ [5] (by decide +kernel) (by decide +kernel)
set_option maxRecDepth 20000 in
theorem gX6_isBroom_X6_in : GoodIn wsX6_isBroom (va_wsS RX6 62 yX6_in wsX6_in) := goodIn_app (goodIn_of _ (by decide +kernel)) ggX6_isBroom_X6_in
theorem dX6_isBroom_0 : decode cX6_isBroom 0 = .ok (.iload_n 1, 1) := by decide +kernel
theorem dX6_isBroom_1 : decode cX6_isBroom 1 = .ok (.i2l, 1) := by decide +kernel
theorem dX6_isBroom_2 : decode cX6_isBroom 2 = .ok (.lconst 0, 1) := by decide +kernel
theorem dX6_isBroom_3 : decode cX6_isBroom 3 = .ok (.aload_n 0, 1) := by decide +kernel
theorem dX6_isBroom_4 : decode cX6_isBroom 4 = .ok (.getfield 93, 3) := by decide +kernel
theorem dX6_isBroom_7 : decode cX6_isBroom 7 = .ok (.iconst 1, 1) := by decide +kernel
theorem dX6_isBroom_8 : decode cX6_isBroom 8 = .ok (.isub, 1) := by decide +kernel
theorem dX6_isBroom_9 : decode cX6_isBroom 9 = .ok (.i2l, 1) := by decide +kernel
theorem dX6_isBroom_10 : decode cX6_isBroom 10 = .ok (.invokestatic 62, 3) := by decide +kernel
theorem dX6_isBroom_13 : decode cX6_isBroom 13 = .ok (.ireturn, 1) := by decide +kernel
set_option maxRecDepth 20000 in
theorem ggX6_isStreet_X6_in : GoodIn wsX6_isStreet wsX6_in := goodIn_r _ [5] (by decide +kernel) (by decide +kernel)
set_option maxRecDepth 20000 in
theorem gX6_isStreet_X6_in : GoodIn wsX6_isStreet (va_wsS RX6 62 yX6_in wsX6_in) := goodIn_app (goodIn_of _ (by decide +kernel)) ggX6_isStreet_X6_in
theorem dX6_isStreet_0 : decode cX6_isStreet 0 = .ok (.iload_n 0, 1) := by decide +kernel
theorem dX6_isStreet_1 : decode cX6_isStreet 1 = .ok (.i2l, 1) := by decide +kernel
theorem dX6_isStreet_2 : decode cX6_isStreet 2 = .ok (.lconst 0, 1) := by decide +kernel
theorem dX6_isStreet_3 : decode cX6_isStreet 3 = .ok (.ldc2_w 102, 3) := by decide +kernel
theorem dX6_isStreet_6 : decode cX6_isStreet 6 = .ok (.invokestatic 62, 3) := by decide +kernel
theorem dX6_isStreet_9 : decode cX6_isStreet 9 = .ok (.ireturn, 1) := by decide +kernel
set_option maxRecDepth 20000 in
theorem ggX6_worksAs_X6_has : GoodIn wsX6_worksAs wsX6_has := goodIn_r _ [6] (by decide +kernel) (by decide +kernel)
set_option maxRecDepth 20000 in
theorem gX6_worksAs_X6_has : GoodIn wsX6_worksAs (va_wsS RX6 104 yX6_has wsX6_has) := goodIn_app (goodIn_of _ (by decide +kernel)) ggX6_worksAs_X6_has
theorem dX6_worksAs_0 : decode cX6_worksAs 0 = .ok (.aload_n 0, 1) := by decide +kernel
theorem dX6_worksAs_1 : decode cX6_worksAs 1 = .ok (.getfield 22, 3) := by decide +kernel
theorem dX6_worksAs_4 : decode cX6_worksAs 4 = .ok (.bipush 16, 2) := by decide +kernel
theorem dX6_worksAs_6 : decode cX6_worksAs 6 = .ok (.iload_n 1, 1) := by decide +kernel
theorem dX6_worksAs_7 : decode cX6_worksAs 7 = .ok (.imul, 1) := by decide +kernel
theorem dX6_worksAs_8 : decode cX6_worksAs 8 = .ok (.bipush 13, 2) := by decide +kernel
theorem dX6_worksAs_10 : decode cX6_worksAs 10 = .ok (.iadd, 1) := by decide +kernel
theorem dX6_worksAs_11 : decode cX6_worksAs 11 = .ok (.iaload, 1) := by decide +kernel
theorem dX6_worksAs_12 : decode cX6_worksAs 12 = .ok (.iconst 1, 1) := by decide +kernel
theorem dX6_worksAs_13 : decode cX6_worksAs 13 = .ok (.if_icmp .eq 22, 3) := by decide +kernel
theorem dX6_worksAs_16 : decode cX6_worksAs 16 = .ok (.aload_n 0, 1) := by decide +kernel
theorem dX6_worksAs_17 : decode cX6_worksAs 17 = .ok (.getfield 22, 3) := by decide +kernel
theorem dX6_worksAs_20 : decode cX6_worksAs 20 = .ok (.bipush 16, 2) := by decide +kernel
theorem dX6_worksAs_22 : decode cX6_worksAs 22 = .ok (.iload_n 1, 1) := by decide +kernel
theorem dX6_worksAs_23 : decode cX6_worksAs 23 = .ok (.imul, 1) := by decide +kernel
theorem dX6_worksAs_24 : decode cX6_worksAs 24 = .ok (.bipush 14, 2) := by decide +kernel
theorem dX6_worksAs_26 : decode cX6_worksAs 26 = .ok (.iadd, 1) := by decide +kernel
theorem dX6_worksAs_27 : decode cX6_worksAs 27 = .ok (.iaload, 1) := by decide +kernel
theorem dX6_worksAs_28 : decode cX6_worksAs 28 = .ok (.iload_n 2, 1) := by decide +kernel
theorem dX6_worksAs_29 : decode cX6_worksAs 29 = .ok (.invokestatic 104, 3) := by decide +kernel
theorem dX6_worksAs_32 : decode cX6_worksAs 32 = .ok (.ifCond .eq 7, 3) := by decide +kernel
theorem dX6_worksAs_35 : decode cX6_worksAs 35 = .ok (.iconst 1, 1) := by decide +kernel
theorem dX6_worksAs_36 : decode cX6_worksAs 36 = .ok (.goto 4, 3) := by decide +kernel
theorem dX6_worksAs_39 : decode cX6_worksAs 39 = .ok (.iconst 0, 1) := by decide +kernel
theorem dX6_worksAs_40 : decode cX6_worksAs 40 = .ok (.istore_n 3, 1) := by decide +kernel
theorem dX6_worksAs_41 : decode cX6_worksAs 41 = .ok (.aload_n 0, 1) := by decide +kernel
theorem dX6_worksAs_42 : decode cX6_worksAs 42 = .ok (.getfield 13, 3) := by decide +kernel
theorem dX6_worksAs_45 : decode cX6_worksAs 45 = .ok (.iload_n 2, 1) := by decide +kernel
theorem dX6_worksAs_46 : decode cX6_worksAs 46 = .ok (.iaload, 1) := by decide +kernel
theorem dX6_worksAs_47 : decode cX6_worksAs 47 = .ok (.iconst 2, 1) := by decide +kernel
theorem dX6_worksAs_48 : decode cX6_worksAs 48 = .ok (.if_icmp .ne 7, 3) := by decide +kernel
theorem dX6_worksAs_51 : decode cX6_worksAs 51 = .ok (.iconst 2, 1) := by decide +kernel
theorem dX6_worksAs_52 : decode cX6_worksAs 52 = .ok (.goto 26, 3) := by decide +kernel
theorem dX6_worksAs_55 : decode cX6_worksAs 55 = .ok (.iload_n 3, 1) := by decide +kernel
theorem dX6_worksAs_56 : decode cX6_worksAs 56 = .ok (.ifCond .ne 12, 3) := by decide +kernel
theorem dX6_worksAs_59 : decode cX6_worksAs 59 = .ok (.aload_n 0, 1) := by decide +kernel
theorem dX6_worksAs_60 : decode cX6_worksAs 60 = .ok (.getfield 13, 3) := by decide +kernel
theorem dX6_worksAs_63 : decode cX6_worksAs 63 = .ok (.iload_n 2, 1) := by decide +kernel
theorem dX6_worksAs_64 : decode cX6_worksAs 64 = .ok (.iaload, 1) := by decide +kernel
theorem dX6_worksAs_65 : decode cX6_worksAs 65 = .ok (.ifCond .ne 7, 3) := by decide +kernel
theorem dX6_worksAs_68 : decode cX6_worksAs 68 = .ok (.iconst 0, 1) := by decide +kernel
theorem dX6_worksAs_69 : decode cX6_worksAs 69 = .ok (.goto 9, 3) := by decide +kernel
theorem dX6_worksAs_72 : decode cX6_worksAs 72 = .ok (.aload_n 0, 1) := by decide +kernel
theorem dX6_worksAs_73 : decode cX6_worksAs 73 = .ok (.getfield 13, 3) := by decide +kernel
theorem dX6_worksAs_76 : decode cX6_worksAs 76 = .ok (.iload_n 2, 1) := by decide +kernel
theorem dX6_worksAs_77 : decode cX6_worksAs 77 = .ok (.iaload, 1) := by decide +kernel
theorem dX6_worksAs_78 : decode cX6_worksAs 78 = .ok (.ireturn, 1) := by decide +kernel
theorem dX6_add_0 : decode cX6_add 0 = .ok (.bipush 16, 2) := by decide +kernel
theorem dX6_add_2 : decode cX6_add 2 = .ok (.iload_n 1, 1) := by decide +kernel
theorem dX6_add_3 : decode cX6_add 3 = .ok (.imul, 1) := by decide +kernel
theorem dX6_add_4 : decode cX6_add 4 = .ok (.iload_n 2, 1) := by decide +kernel
theorem dX6_add_5 : decode cX6_add 5 = .ok (.bipush 8, 2) := by decide +kernel
theorem dX6_add_7 : decode cX6_add 7 = .ok (.iadd, 1) := by decide +kernel
theorem dX6_add_8 : decode cX6_add 8 = .ok (.bipush 8, 2) := by decide +kernel
theorem dX6_add_10 : decode cX6_add 10 = .ok (.irem, 1) := by decide +kernel
theorem dX6_add_11 : decode cX6_add 11 = .ok (.iadd, 1) := by decide +kernel
theorem dX6_add_12 : decode cX6_add 12 = .ok (.istore 4, 2) := by decide +kernel
theorem dX6_add_14 : decode cX6_add 14 = .ok (.aload_n 0, 1) := by decide +kernel
theorem dX6_add_15 : decode cX6_add 15 = .ok (.getfield 22, 3) := by decide +kernel
theorem dX6_add_18 : decode cX6_add 18 = .ok (.iload 4, 2) := by decide +kernel
theorem dX6_add_20 : decode cX6_add 20 = .ok (.aload_n 0, 1) := by decide +kernel
theorem dX6_add_21 : decode cX6_add 21 = .ok (.getfield 22, 3) := by decide +kernel
theorem dX6_add_24 : decode cX6_add 24 = .ok (.iload 4, 2) := by decide +kernel
theorem dX6_add_26 : decode cX6_add 26 = .ok (.iaload, 1) := by decide +kernel
theorem dX6_add_27 : decode cX6_add 27 = .ok (.iload_n 3, 1) := by decide +kernel
theorem dX6_add_28 : decode cX6_add 28 = .ok (.iadd, 1) := by decide +kernel
theorem dX6_add_29 : decode cX6_add 29 = .ok (.bipush 99, 2) := by decide +kernel
theorem dX6_add_31 : decode cX6_add 31 = .ok (.if_icmp .le 8, 3) := by decide +kernel
theorem dX6_add_34 : decode cX6_add 34 = .ok (.bipush 99, 2) := by decide +kernel
theorem dX6_add_36 : decode cX6_add 36 = .ok (.goto 12, 3) := by decide +kernel
theorem dX6_add_39 : decode cX6_add 39 = .ok (.aload_n 0, 1) := by decide +kernel
theorem dX6_add_40 : decode cX6_add 40 = .ok (.getfield 22, 3) := by decide +kernel
theorem dX6_add_43 : decode cX6_add 43 = .ok (.iload 4, 2) := by decide +kernel
theorem dX6_add_45 : decode cX6_add 45 = .ok (.iaload, 1) := by decide +kernel
theorem dX6_add_46 : decode cX6_add 46 = .ok (.iload_n 3, 1) := by decide +kernel
theorem dX6_add_47 : decode cX6_add 47 = .ok (.iadd, 1) := by decide +kernel
theorem dX6_add_48 : decode cX6_add 48 = .ok (.iastore, 1) := by decide +kernel
theorem dX6_add_49 : decode cX6_add 49 = .ok (.return_, 1) := by decide +kernel
theorem dX6_takeOff_0 : decode cX6_takeOff 0 = .ok (.bipush 16, 2) := by decide +kernel
theorem dX6_takeOff_2 : decode cX6_takeOff 2 = .ok (.iload_n 1, 1) := by decide +kernel
theorem dX6_takeOff_3 : decode cX6_takeOff 3 = .ok (.imul, 1) := by decide +kernel
theorem dX6_takeOff_4 : decode cX6_takeOff 4 = .ok (.iload_n 2, 1) := by decide +kernel
theorem dX6_takeOff_5 : decode cX6_takeOff 5 = .ok (.bipush 8, 2) := by decide +kernel
theorem dX6_takeOff_7 : decode cX6_takeOff 7 = .ok (.iadd, 1) := by decide +kernel
theorem dX6_takeOff_8 : decode cX6_takeOff 8 = .ok (.bipush 8, 2) := by decide +kernel
theorem dX6_takeOff_10 : decode cX6_takeOff 10 = .ok (.irem, 1) := by decide +kernel
theorem dX6_takeOff_11 : decode cX6_takeOff 11 = .ok (.iadd, 1) := by decide +kernel
theorem dX6_takeOff_12 : decode cX6_takeOff 12 = .ok (.istore 4, 2) := by decide +kernel
theorem dX6_takeOff_14 : decode cX6_takeOff 14 = .ok (.aload_n 0, 1) := by decide +kernel
theorem dX6_takeOff_15 : decode cX6_takeOff 15 = .ok (.getfield 22, 3) := by decide +kernel
theorem dX6_takeOff_18 : decode cX6_takeOff 18 = .ok (.iload 4, 2) := by decide +kernel
theorem dX6_takeOff_20 : decode cX6_takeOff 20 = .ok (.iaload, 1) := by decide +kernel
theorem dX6_takeOff_21 : decode cX6_takeOff 21 = .ok (.iload_n 3, 1) := by decide +kernel
theorem dX6_takeOff_22 : decode cX6_takeOff 22 = .ok (.if_icmp .ge 13, 3) := by decide +kernel
theorem dX6_takeOff_25 : decode cX6_takeOff 25 = .ok (.aload_n 0, 1) := by decide +kernel
theorem dX6_takeOff_26 : decode cX6_takeOff 26 = .ok (.getfield 22, 3) := by decide +kernel
theorem dX6_takeOff_29 : decode cX6_takeOff 29 = .ok (.iload 4, 2) := by decide +kernel
theorem dX6_takeOff_31 : decode cX6_takeOff 31 = .ok (.iaload, 1) := by decide +kernel
theorem dX6_takeOff_32 : decode cX6_takeOff 32 = .ok (.goto 4, 3) := by decide +kernel
theorem dX6_takeOff_35 : decode cX6_takeOff 35 = .ok (.iload_n 3, 1) := by decide +kernel
theorem dX6_takeOff_36 : decode cX6_takeOff 36 = .ok (.istore 5, 2) := by decide +kernel
theorem dX6_takeOff_38 : decode cX6_takeOff 38 = .ok (.aload_n 0, 1) := by decide +kernel
theorem dX6_takeOff_39 : decode cX6_takeOff 39 = .ok (.getfield 22, 3) := by decide +kernel
theorem dX6_takeOff_42 : decode cX6_takeOff 42 = .ok (.iload 4, 2) := by decide +kernel
theorem dX6_takeOff_44 : decode cX6_takeOff 44 = .ok (.dup2, 1) := by decide +kernel
theorem dX6_takeOff_45 : decode cX6_takeOff 45 = .ok (.iaload, 1) := by decide +kernel
theorem dX6_takeOff_46 : decode cX6_takeOff 46 = .ok (.iload 5, 2) := by decide +kernel
theorem dX6_takeOff_48 : decode cX6_takeOff 48 = .ok (.isub, 1) := by decide +kernel
theorem dX6_takeOff_49 : decode cX6_takeOff 49 = .ok (.iastore, 1) := by decide +kernel
theorem dX6_takeOff_50 : decode cX6_takeOff 50 = .ok (.iload 5, 2) := by decide +kernel
theorem dX6_takeOff_52 : decode cX6_takeOff 52 = .ok (.ireturn, 1) := by decide +kernel
set_option maxRecDepth 20000 in
theorem ggX6_sweep_X6_worksAs : GoodIn wsX6_sweep wsX6_worksAs := goodIn_r _ [8, 1, 9, 10, 11, 7, 12, 21, 22, 23, 24, 25, 26, 27, 28, 29, 30, 31, 32, 33, 34, 35, 36, 37, 38, 39, 40, 41, 42, 43, 44, 45, 46, 47] (by decide +kernel) (by decide +kernel)
set_option maxRecDepth 20000 in
theorem gX6_sweep_X6_worksAs : GoodIn wsX6_sweep (wsV RX6 108 RX6 yX6_worksAs wsX6_worksAs) := goodIn_app (goodIn_of _ (by decide +kernel)) ggX6_sweep_X6_worksAs
set_option maxRecDepth 20000 in
theorem ggX6_sweep_X6_has : GoodIn wsX6_sweep wsX6_has := goodIn_r _ [12] (by decide +kernel) (by decide +kernel)
set_option maxRecDepth 20000 in
theorem gX6_sweep_X6_has : GoodIn wsX6_sweep (va_wsS RX6 104 yX6_has wsX6_has) := goodIn_app (goodIn_of _ (by decide +kernel)) ggX6_sweep_X6_has
set_option maxRecDepth 20000 in
theorem ggX6_sweep_X6_takeOff : GoodIn wsX6_sweep wsX6_takeOff := goodIn_r _ [16, 1, 21, 22, 23, 24, 25, 26, 27, 28, 29, 30, 31, 32, 33, 34, 35, 36, 37, 38, 39, 40, 41, 42, 43, 44, 45, 46, 47] (by decide +kernel) (by decide +kernel)
set_option maxRecDepth 20000 in
theorem gX6_sweep_X6_takeOff : GoodIn wsX6_sweep (wsV RX6 111 RX6 yX6_takeOff wsX6_takeOff) := goodIn_app (goodIn_of _ (by decide +kernel)) ggX6_sweep_X6_takeOff
set_option maxRecDepth 20000 in
theorem ggX6_sweep_X6_add : GoodIn wsX6_sweep wsX6_add := goodIn_r _ [20, 1, 21, 22, 23, 24, 25, 26, 27, 28, 29, 30, 31, 32, 33, 34, 35, 36, 37, 38, 39, 40, 41, 42, 43, 44, 45, 46, 47] (by decide +kernel) (by decide +kernel)
set_option maxRecDepth 20000 in
theorem gX6_sweep_X6_add : GoodIn wsX6_sweep (wsV RX6 115 RX6 yX6_add wsX6_add) := goodIn_app (goodIn_of _ (by decide +kernel)) ggX6_sweep_X6_add
theorem dX6_sweep_0 : decode cX6_sweep 0 = .ok (.aload_n 0, 1) := by decide +kernel
theorem dX6_sweep_1 : decode cX6_sweep 1 = .ok (.getfield 22, 3) := by decide +kernel
theorem dX6_sweep_4 : decode cX6_sweep 4 = .ok (.bipush 16, 2) := by decide +kernel
theorem dX6_sweep_6 : decode cX6_sweep 6 = .ok (.iload_n 1, 1) := by decide +kernel
theorem dX6_sweep_7 : decode cX6_sweep 7 = .ok (.imul, 1) := by decide +kernel
theorem dX6_sweep_8 : decode cX6_sweep 8 = .ok (.bipush 8, 2) := by decide +kernel
theorem dX6_sweep_10 : decode cX6_sweep 10 = .ok (.iadd, 1) := by decide +kernel
theorem dX6_sweep_11 : decode cX6_sweep 11 = .ok (.iload_n 2, 1) := by decide +kernel
theorem dX6_sweep_12 : decode cX6_sweep 12 = .ok (.iadd, 1) := by decide +kernel
theorem dX6_sweep_13 : decode cX6_sweep 13 = .ok (.iaload, 1) := by decide +kernel
theorem dX6_sweep_14 : decode cX6_sweep 14 = .ok (.istore_n 3, 1) := by decide +kernel
theorem dX6_sweep_15 : decode cX6_sweep 15 = .ok (.aload_n 0, 1) := by decide +kernel
theorem dX6_sweep_16 : decode cX6_sweep 16 = .ok (.iload_n 1, 1) := by decide +kernel
theorem dX6_sweep_17 : decode cX6_sweep 17 = .ok (.iload_n 2, 1) := by decide +kernel
theorem dX6_sweep_18 : decode cX6_sweep 18 = .ok (.invokevirtual 108, 3) := by decide +kernel
theorem dX6_sweep_21 : decode cX6_sweep 21 = .ok (.istore 4, 2) := by decide +kernel
theorem dX6_sweep_23 : decode cX6_sweep 23 = .ok (.aload_n 0, 1) := by decide +kernel
theorem dX6_sweep_24 : decode cX6_sweep 24 = .ok (.getfield 37, 3) := by decide +kernel
theorem dX6_sweep_27 : decode cX6_sweep 27 = .ok (.iload_n 2, 1) := by decide +kernel
theorem dX6_sweep_28 : decode cX6_sweep 28 = .ok (.invokestatic 104, 3) := by decide +kernel
theorem dX6_sweep_31 : decode cX6_sweep 31 = .ok (.ifCond .eq 9, 3) := by decide +kernel
theorem dX6_sweep_34 : decode cX6_sweep 34 = .ok (.iload 4, 2) := by decide +kernel
theorem dX6_sweep_36 : decode cX6_sweep 36 = .ok (.iconst 3, 1) := by decide +kernel
theorem dX6_sweep_37 : decode cX6_sweep 37 = .ok (.if_icmp .ne 4, 3) := by decide +kernel
theorem dX6_sweep_40 : decode cX6_sweep 40 = .ok (.return_, 1) := by decide +kernel
theorem dX6_sweep_41 : decode cX6_sweep 41 = .ok (.aload_n 0, 1) := by decide +kernel
theorem dX6_sweep_42 : decode cX6_sweep 42 = .ok (.iload_n 1, 1) := by decide +kernel
theorem dX6_sweep_43 : decode cX6_sweep 43 = .ok (.iload_n 3, 1) := by decide +kernel
theorem dX6_sweep_44 : decode cX6_sweep 44 = .ok (.aload_n 0, 1) := by decide +kernel
theorem dX6_sweep_45 : decode cX6_sweep 45 = .ok (.getfield 7, 3) := by decide +kernel
theorem dX6_sweep_48 : decode cX6_sweep 48 = .ok (.iload_n 2, 1) := by decide +kernel
theorem dX6_sweep_49 : decode cX6_sweep 49 = .ok (.iaload, 1) := by decide +kernel
theorem dX6_sweep_50 : decode cX6_sweep 50 = .ok (.invokevirtual 111, 3) := by decide +kernel
theorem dX6_sweep_53 : decode cX6_sweep 53 = .ok (.istore 5, 2) := by decide +kernel
theorem dX6_sweep_55 : decode cX6_sweep 55 = .ok (.iload 4, 2) := by decide +kernel
theorem dX6_sweep_57 : decode cX6_sweep 57 = .ok (.iconst 1, 1) := by decide +kernel
theorem dX6_sweep_58 : decode cX6_sweep 58 = .ok (.if_icmp .ne 13, 3) := by decide +kernel
theorem dX6_sweep_61 : decode cX6_sweep 61 = .ok (.aload_n 0, 1) := by decide +kernel
theorem dX6_sweep_62 : decode cX6_sweep 62 = .ok (.iload_n 1, 1) := by decide +kernel
theorem dX6_sweep_63 : decode cX6_sweep 63 = .ok (.iload_n 3, 1) := by decide +kernel
theorem dX6_sweep_64 : decode cX6_sweep 64 = .ok (.iconst 1, 1) := by decide +kernel
theorem dX6_sweep_65 : decode cX6_sweep 65 = .ok (.iadd, 1) := by decide +kernel
theorem dX6_sweep_66 : decode cX6_sweep 66 = .ok (.iload 5, 2) := by decide +kernel
theorem dX6_sweep_68 : decode cX6_sweep 68 = .ok (.invokevirtual 115, 3) := by decide +kernel
theorem dX6_sweep_71 : decode cX6_sweep 71 = .ok (.iload 4, 2) := by decide +kernel
theorem dX6_sweep_73 : decode cX6_sweep 73 = .ok (.iconst 2, 1) := by decide +kernel
theorem dX6_sweep_74 : decode cX6_sweep 74 = .ok (.if_icmp .ne 37, 3) := by decide +kernel
theorem dX6_sweep_77 : decode cX6_sweep 77 = .ok (.aload_n 0, 1) := by decide +kernel
theorem dX6_sweep_78 : decode cX6_sweep 78 = .ok (.iload_n 1, 1) := by decide +kernel
theorem dX6_sweep_79 : decode cX6_sweep 79 = .ok (.iload_n 3, 1) := by decide +kernel
theorem dX6_sweep_80 : decode cX6_sweep 80 = .ok (.iconst 1, 1) := by decide +kernel
theorem dX6_sweep_81 : decode cX6_sweep 81 = .ok (.isub, 1) := by decide +kernel
theorem dX6_sweep_82 : decode cX6_sweep 82 = .ok (.aload_n 0, 1) := by decide +kernel
theorem dX6_sweep_83 : decode cX6_sweep 83 = .ok (.getfield 7, 3) := by decide +kernel
theorem dX6_sweep_86 : decode cX6_sweep 86 = .ok (.iload_n 2, 1) := by decide +kernel
theorem dX6_sweep_87 : decode cX6_sweep 87 = .ok (.iaload, 1) := by decide +kernel
theorem dX6_sweep_88 : decode cX6_sweep 88 = .ok (.iconst 2, 1) := by decide +kernel
theorem dX6_sweep_89 : decode cX6_sweep 89 = .ok (.idiv, 1) := by decide +kernel
theorem dX6_sweep_90 : decode cX6_sweep 90 = .ok (.invokevirtual 111, 3) := by decide +kernel
theorem dX6_sweep_93 : decode cX6_sweep 93 = .ok (.pop, 1) := by decide +kernel
theorem dX6_sweep_94 : decode cX6_sweep 94 = .ok (.aload_n 0, 1) := by decide +kernel
theorem dX6_sweep_95 : decode cX6_sweep 95 = .ok (.iload_n 1, 1) := by decide +kernel
theorem dX6_sweep_96 : decode cX6_sweep 96 = .ok (.iload_n 3, 1) := by decide +kernel
theorem dX6_sweep_97 : decode cX6_sweep 97 = .ok (.iconst 1, 1) := by decide +kernel
theorem dX6_sweep_98 : decode cX6_sweep 98 = .ok (.iadd, 1) := by decide +kernel
theorem dX6_sweep_99 : decode cX6_sweep 99 = .ok (.aload_n 0, 1) := by decide +kernel
theorem dX6_sweep_100 : decode cX6_sweep 100 = .ok (.getfield 7, 3) := by decide +kernel
theorem dX6_sweep_103 : decode cX6_sweep 103 = .ok (.iload_n 2, 1) := by decide +kernel
theorem dX6_sweep_104 : decode cX6_sweep 104 = .ok (.iaload, 1) := by decide +kernel
theorem dX6_sweep_105 : decode cX6_sweep 105 = .ok (.iconst 2, 1) := by decide +kernel
theorem dX6_sweep_106 : decode cX6_sweep 106 = .ok (.idiv, 1) := by decide +kernel
theorem dX6_sweep_107 : decode cX6_sweep 107 = .ok (.invokevirtual 111, 3) := by decide +kernel
theorem dX6_sweep_110 : decode cX6_sweep 110 = .ok (.pop, 1) := by decide +kernel
theorem dX6_sweep_111 : decode cX6_sweep 111 = .ok (.return_, 1) := by decide +kernel
theorem dX6_kneesOn_0 : decode cX6_kneesOn 0 = .ok (.iconst 0, 1) := by decide +kernel
theorem dX6_kneesOn_1 : decode cX6_kneesOn 1 = .ok (.istore_n 2, 1) := by decide +kernel
theorem dX6_kneesOn_2 : decode cX6_kneesOn 2 = .ok (.iconst 0, 1) := by decide +kernel
theorem dX6_kneesOn_3 : decode cX6_kneesOn 3 = .ok (.istore_n 3, 1) := by decide +kernel
theorem dX6_kneesOn_4 : decode cX6_kneesOn 4 = .ok (.iload_n 3, 1) := by decide +kernel
theorem dX6_kneesOn_5 : decode cX6_kneesOn 5 = .ok (.bipush 8, 2) := by decide +kernel
theorem dX6_kneesOn_7 : decode cX6_kneesOn 7 = .ok (.if_icmp .ge 35, 3) := by decide +kernel
theorem dX6_kneesOn_10 : decode cX6_kneesOn 10 = .ok (.iload_n 2, 1) := by decide +kernel
theorem dX6_kneesOn_11 : decode cX6_kneesOn 11 = .ok (.aload_n 0, 1) := by decide +kernel
theorem dX6_kneesOn_12 : decode cX6_kneesOn 12 = .ok (.getfield 22, 3) := by decide +kernel
theorem dX6_kneesOn_15 : decode cX6_kneesOn 15 = .ok (.bipush 16, 2) := by decide +kernel
theorem dX6_kneesOn_17 : decode cX6_kneesOn 17 = .ok (.iload_n 1, 1) := by decide +kernel
theorem dX6_kneesOn_18 : decode cX6_kneesOn 18 = .ok (.imul, 1) := by decide +kernel
theorem dX6_kneesOn_19 : decode cX6_kneesOn 19 = .ok (.iload_n 3, 1) := by decide +kernel
theorem dX6_kneesOn_20 : decode cX6_kneesOn 20 = .ok (.iadd, 1) := by decide +kernel
theorem dX6_kneesOn_21 : decode cX6_kneesOn 21 = .ok (.iaload, 1) := by decide +kernel
theorem dX6_kneesOn_22 : decode cX6_kneesOn 22 = .ok (.bipush 10, 2) := by decide +kernel
theorem dX6_kneesOn_24 : decode cX6_kneesOn 24 = .ok (.if_icmp .lt 9, 3) := by decide +kernel
theorem dX6_kneesOn_27 : decode cX6_kneesOn 27 = .ok (.iconst 1, 1) := by decide +kernel
theorem dX6_kneesOn_28 : decode cX6_kneesOn 28 = .ok (.iload_n 3, 1) := by decide +kernel
theorem dX6_kneesOn_29 : decode cX6_kneesOn 29 = .ok (.ishl, 1) := by decide +kernel
theorem dX6_kneesOn_30 : decode cX6_kneesOn 30 = .ok (.goto 4, 3) := by decide +kernel
theorem dX6_kneesOn_33 : decode cX6_kneesOn 33 = .ok (.iconst 0, 1) := by decide +kernel
theorem dX6_kneesOn_34 : decode cX6_kneesOn 34 = .ok (.ior, 1) := by decide +kernel
theorem dX6_kneesOn_35 : decode cX6_kneesOn 35 = .ok (.istore_n 2, 1) := by decide +kernel
theorem dX6_kneesOn_36 : decode cX6_kneesOn 36 = .ok (.iinc 3 1, 3) := by decide +kernel
theorem dX6_kneesOn_39 : decode cX6_kneesOn 39 = .ok (.goto (-35), 3) := by decide +kernel
theorem dX6_kneesOn_42 : decode cX6_kneesOn 42 = .ok (.iload_n 2, 1) := by decide +kernel
theorem dX6_kneesOn_43 : decode cX6_kneesOn 43 = .ok (.ireturn, 1) := by decide +kernel
set_option maxRecDepth 20000 in
theorem ggX6_passOn_X6_add : GoodIn wsX6_passOn wsX6_add := goodIn_r _ [10, 2, 33, 34, 35, 36, 37, 38, 39, 40, 41, 42, 43, 44, 45, 46, 47, 48, 49, 50, 51, 52, 53, 54, 55, 56, 57, 58, 59] (by decide +kernel) (by decide +kernel)
set_option maxRecDepth 20000 in
theorem gX6_passOn_X6_add : GoodIn wsX6_passOn (wsV RX6 115 RX6 yX6_add wsX6_add) := goodIn_app (goodIn_of _ (by decide +kernel)) ggX6_passOn_X6_add
set_option maxRecDepth 20000 in
theorem ggX6_passOn_X6_sweep : GoodIn wsX6_passOn wsX6_sweep := goodIn_r _ [14, 2, 15, 16, 17, 18, 19, 9, 20, 21, 22, 23, 24, 25, 26, 27, 28, 6, 7, 8, 10, 33, 34, 35, 36, 37, 38, 39, 40, 41, 42, 43, 44, 45, 46, 47, 48, 49, 50, 51, 52, 53, 54, 55, 56, 57, 58, 59] (by decide +kernel) (by decide +kernel)
set_option maxRecDepth 20000 in
theorem gX6_passOn_X6_sweep : GoodIn wsX6_passOn (wsV RX6 119 RX6 yX6_sweep wsX6_sweep) := goodIn_app (goodIn_of _ (by decide +kernel)) ggX6_passOn_X6_sweep
set_option maxRecDepth 20000 in
theorem ggX6_passOn_X6_kneesOn : GoodIn wsX6_passOn wsX6_kneesOn := goodIn_r _ [32, 2, 33, 34, 35, 36, 37, 38, 39, 40, 41, 42, 43, 44, 45, 46, 47, 48, 49, 50, 51, 52, 53, 54, 55, 56, 57, 58, 59] (by decide +kernel) (by decide +kernel)
set_option maxRecDepth 20000 in
theorem gX6_passOn_X6_kneesOn : GoodIn wsX6_passOn (wsV RX6 123 RX6 yX6_kneesOn wsX6_kneesOn) := goodIn_app (goodIn_of _ (by decide +kernel)) ggX6_passOn_X6_kneesOn
set_option maxRecDepth 20000 in
theorem ggX6_passOn_X6_has : GoodIn wsX6_passOn wsX6_has := goodIn_r _ [24] (by decide +kernel) (by decide +kernel)
set_option maxRecDepth 20000 in
theorem gX6_passOn_X6_has : GoodIn wsX6_passOn (va_wsS RX6 104 yX6_has wsX6_has) := goodIn_app (goodIn_of _ (by decide +kernel)) ggX6_passOn_X6_has
theorem dX6_passOn_0 : decode cX6_passOn 0 = .ok (.bipush 16, 2) := by decide +kernel
theorem dX6_passOn_2 : decode cX6_passOn 2 = .ok (.iload_n 1, 1) := by decide +kernel
theorem dX6_passOn_3 : decode cX6_passOn 3 = .ok (.imul, 1) := by decide +kernel
theorem dX6_passOn_4 : decode cX6_passOn 4 = .ok (.istore_n 3, 1) := by decide +kernel
theorem dX6_passOn_5 : decode cX6_passOn 5 = .ok (.aload_n 0, 1) := by decide +kernel
theorem dX6_passOn_6 : decode cX6_passOn 6 = .ok (.getfield 96, 3) := by decide +kernel
theorem dX6_passOn_9 : decode cX6_passOn 9 = .ok (.ifCond .le 40, 3) := by decide +kernel
theorem dX6_passOn_12 : decode cX6_passOn 12 = .ok (.aload_n 0, 1) := by decide +kernel
theorem dX6_passOn_13 : decode cX6_passOn 13 = .ok (.getfield 22, 3) := by decide +kernel
theorem dX6_passOn_16 : decode cX6_passOn 16 = .ok (.iload_n 3, 1) := by decide +kernel
theorem dX6_passOn_17 : decode cX6_passOn 17 = .ok (.bipush 15, 2) := by decide +kernel
theorem dX6_passOn_19 : decode cX6_passOn 19 = .ok (.iadd, 1) := by decide +kernel
theorem dX6_passOn_20 : decode cX6_passOn 20 = .ok (.iaload, 1) := by decide +kernel
theorem dX6_passOn_21 : decode cX6_passOn 21 = .ok (.aload_n 0, 1) := by decide +kernel
theorem dX6_passOn_22 : decode cX6_passOn 22 = .ok (.getfield 96, 3) := by decide +kernel
theorem dX6_passOn_25 : decode cX6_passOn 25 = .ok (.irem, 1) := by decide +kernel
theorem dX6_passOn_26 : decode cX6_passOn 26 = .ok (.istore 4, 2) := by decide +kernel
theorem dX6_passOn_28 : decode cX6_passOn 28 = .ok (.aload_n 0, 1) := by decide +kernel
theorem dX6_passOn_29 : decode cX6_passOn 29 = .ok (.iload_n 1, 1) := by decide +kernel
theorem dX6_passOn_30 : decode cX6_passOn 30 = .ok (.aload_n 0, 1) := by decide +kernel
theorem dX6_passOn_31 : decode cX6_passOn 31 = .ok (.getfield 16, 3) := by decide +kernel
theorem dX6_passOn_34 : decode cX6_passOn 34 = .ok (.iload 4, 2) := by decide +kernel
theorem dX6_passOn_36 : decode cX6_passOn 36 = .ok (.iaload, 1) := by decide +kernel
theorem dX6_passOn_37 : decode cX6_passOn 37 = .ok (.iload_n 2, 1) := by decide +kernel
theorem dX6_passOn_38 : decode cX6_passOn 38 = .ok (.aload_n 0, 1) := by decide +kernel
theorem dX6_passOn_39 : decode cX6_passOn 39 = .ok (.getfield 19, 3) := by decide +kernel
theorem dX6_passOn_42 : decode cX6_passOn 42 = .ok (.iload 4, 2) := by decide +kernel
theorem dX6_passOn_44 : decode cX6_passOn 44 = .ok (.iaload, 1) := by decide +kernel
theorem dX6_passOn_45 : decode cX6_passOn 45 = .ok (.imul, 1) := by decide +kernel
theorem dX6_passOn_46 : decode cX6_passOn 46 = .ok (.invokevirtual 115, 3) := by decide +kernel
theorem dX6_passOn_49 : decode cX6_passOn 49 = .ok (.iconst 0, 1) := by decide +kernel
theorem dX6_passOn_50 : decode cX6_passOn 50 = .ok (.istore 4, 2) := by decide +kernel
theorem dX6_passOn_52 : decode cX6_passOn 52 = .ok (.iload 4, 2) := by decide +kernel
theorem dX6_passOn_54 : decode cX6_passOn 54 = .ok (.aload_n 0, 1) := by decide +kernel
theorem dX6_passOn_55 : decode cX6_passOn 55 = .ok (.getfield 93, 3) := by decide +kernel
theorem dX6_passOn_58 : decode cX6_passOn 58 = .ok (.if_icmp .ge 16, 3) := by decide +kernel
theorem dX6_passOn_61 : decode cX6_passOn 61 = .ok (.aload_n 0, 1) := by decide +kernel
theorem dX6_passOn_62 : decode cX6_passOn 62 = .ok (.iload_n 1, 1) := by decide +kernel
theorem dX6_passOn_63 : decode cX6_passOn 63 = .ok (.iload 4, 2) := by decide +kernel
theorem dX6_passOn_65 : decode cX6_passOn 65 = .ok (.invokevirtual 119, 3) := by decide +kernel
theorem dX6_passOn_68 : decode cX6_passOn 68 = .ok (.iinc 4 1, 3) := by decide +kernel
theorem dX6_passOn_71 : decode cX6_passOn 71 = .ok (.goto (-19), 3) := by decide +kernel
theorem dX6_passOn_74 : decode cX6_passOn 74 = .ok (.aload_n 0, 1) := by decide +kernel
theorem dX6_passOn_75 : decode cX6_passOn 75 = .ok (.iload_n 1, 1) := by decide +kernel
theorem dX6_passOn_76 : decode cX6_passOn 76 = .ok (.invokevirtual 123, 3) := by decide +kernel
theorem dX6_passOn_79 : decode cX6_passOn 79 = .ok (.istore 4, 2) := by decide +kernel
theorem dX6_passOn_81 : decode cX6_passOn 81 = .ok (.iconst 0, 1) := by decide +kernel
theorem dX6_passOn_82 : decode cX6_passOn 82 = .ok (.istore 5, 2) := by decide +kernel
theorem dX6_passOn_84 : decode cX6_passOn 84 = .ok (.iload 5, 2) := by decide +kernel
theorem dX6_passOn_86 : decode cX6_passOn 86 = .ok (.bipush 8, 2) := by decide +kernel
theorem dX6_passOn_88 : decode cX6_passOn 88 = .ok (.if_icmp .ge 36, 3) := by decide +kernel
theorem dX6_passOn_91 : decode cX6_passOn 91 = .ok (.aload_n 0, 1) := by decide +kernel
theorem dX6_passOn_92 : decode cX6_passOn 92 = .ok (.getfield 22, 3) := by decide +kernel
theorem dX6_passOn_95 : decode cX6_passOn 95 = .ok (.iload_n 3, 1) := by decide +kernel
theorem dX6_passOn_96 : decode cX6_passOn 96 = .ok (.iload 5, 2) := by decide +kernel
theorem dX6_passOn_98 : decode cX6_passOn 98 = .ok (.iadd, 1) := by decide +kernel
theorem dX6_passOn_99 : decode cX6_passOn 99 = .ok (.dup2, 1) := by decide +kernel
theorem dX6_passOn_100 : decode cX6_passOn 100 = .ok (.iaload, 1) := by decide +kernel
theorem dX6_passOn_101 : decode cX6_passOn 101 = .ok (.iload 4, 2) := by decide +kernel
theorem dX6_passOn_103 : decode cX6_passOn 103 = .ok (.iload 5, 2) := by decide +kernel
theorem dX6_passOn_105 : decode cX6_passOn 105 = .ok (.invokestatic 104, 3) := by decide +kernel
theorem dX6_passOn_108 : decode cX6_passOn 108 = .ok (.ifCond .eq 7, 3) := by decide +kernel
theorem dX6_passOn_111 : decode cX6_passOn 111 = .ok (.iconst 2, 1) := by decide +kernel
theorem dX6_passOn_112 : decode cX6_passOn 112 = .ok (.goto 4, 3) := by decide +kernel
theorem dX6_passOn_115 : decode cX6_passOn 115 = .ok (.iconst 0, 1) := by decide +kernel
theorem dX6_passOn_116 : decode cX6_passOn 116 = .ok (.isub, 1) := by decide +kernel
theorem dX6_passOn_117 : decode cX6_passOn 117 = .ok (.iastore, 1) := by decide +kernel
theorem dX6_passOn_118 : decode cX6_passOn 118 = .ok (.iinc 5 1, 3) := by decide +kernel
theorem dX6_passOn_121 : decode cX6_passOn 121 = .ok (.goto (-37), 3) := by decide +kernel
theorem dX6_passOn_124 : decode cX6_passOn 124 = .ok (.iconst 0, 1) := by decide +kernel
theorem dX6_passOn_125 : decode cX6_passOn 125 = .ok (.istore 5, 2) := by decide +kernel
theorem dX6_passOn_127 : decode cX6_passOn 127 = .ok (.iload 5, 2) := by decide +kernel
theorem dX6_passOn_129 : decode cX6_passOn 129 = .ok (.bipush 8, 2) := by decide +kernel
theorem dX6_passOn_131 : decode cX6_passOn 131 = .ok (.if_icmp .ge 39, 3) := by decide +kernel
theorem dX6_passOn_134 : decode cX6_passOn 134 = .ok (.iload 4, 2) := by decide +kernel
theorem dX6_passOn_136 : decode cX6_passOn 136 = .ok (.iload 5, 2) := by decide +kernel
theorem dX6_passOn_138 : decode cX6_passOn 138 = .ok (.invokestatic 104, 3) := by decide +kernel
theorem dX6_passOn_141 : decode cX6_passOn 141 = .ok (.ifCond .eq 23, 3) := by decide +kernel
theorem dX6_passOn_144 : decode cX6_passOn 144 = .ok (.aload_n 0, 1) := by decide +kernel
theorem dX6_passOn_145 : decode cX6_passOn 145 = .ok (.iload_n 1, 1) := by decide +kernel
theorem dX6_passOn_146 : decode cX6_passOn 146 = .ok (.iload 5, 2) := by decide +kernel
theorem dX6_passOn_148 : decode cX6_passOn 148 = .ok (.iconst 1, 1) := by decide +kernel
theorem dX6_passOn_149 : decode cX6_passOn 149 = .ok (.isub, 1) := by decide +kernel
theorem dX6_passOn_150 : decode cX6_passOn 150 = .ok (.iconst 1, 1) := by decide +kernel
theorem dX6_passOn_151 : decode cX6_passOn 151 = .ok (.invokevirtual 115, 3) := by decide +kernel
theorem dX6_passOn_154 : decode cX6_passOn 154 = .ok (.aload_n 0, 1) := by decide +kernel
theorem dX6_passOn_155 : decode cX6_passOn 155 = .ok (.iload_n 1, 1) := by decide +kernel
theorem dX6_passOn_156 : decode cX6_passOn 156 = .ok (.iload 5, 2) := by decide +kernel
theorem dX6_passOn_158 : decode cX6_passOn 158 = .ok (.iconst 1, 1) := by decide +kernel
theorem dX6_passOn_159 : decode cX6_passOn 159 = .ok (.iadd, 1) := by decide +kernel
theorem dX6_passOn_160 : decode cX6_passOn 160 = .ok (.iconst 1, 1) := by decide +kernel
theorem dX6_passOn_161 : decode cX6_passOn 161 = .ok (.invokevirtual 115, 3) := by decide +kernel
theorem dX6_passOn_164 : decode cX6_passOn 164 = .ok (.iinc 5 1, 3) := by decide +kernel
theorem dX6_passOn_167 : decode cX6_passOn 167 = .ok (.goto (-40), 3) := by decide +kernel
theorem dX6_passOn_170 : decode cX6_passOn 170 = .ok (.aload_n 0, 1) := by decide +kernel
theorem dX6_passOn_171 : decode cX6_passOn 171 = .ok (.getfield 22, 3) := by decide +kernel
theorem dX6_passOn_174 : decode cX6_passOn 174 = .ok (.iload_n 3, 1) := by decide +kernel
theorem dX6_passOn_175 : decode cX6_passOn 175 = .ok (.bipush 15, 2) := by decide +kernel
theorem dX6_passOn_177 : decode cX6_passOn 177 = .ok (.iadd, 1) := by decide +kernel
theorem dX6_passOn_178 : decode cX6_passOn 178 = .ok (.dup2, 1) := by decide +kernel
theorem dX6_passOn_179 : decode cX6_passOn 179 = .ok (.iaload, 1) := by decide +kernel
theorem dX6_passOn_180 : decode cX6_passOn 180 = .ok (.iconst 1, 1) := by decide +kernel
theorem dX6_passOn_181 : decode cX6_passOn 181 = .ok (.iadd, 1) := by decide +kernel
theorem dX6_passOn_182 : decode cX6_passOn 182 = .ok (.iastore, 1) := by decide +kernel
theorem dX6_passOn_183 : decode cX6_passOn 183 = .ok (.return_, 1) := by decide +kernel
theorem dX6_dustOn_0 : decode cX6_dustOn 0 = .ok (.iconst 0, 1) := by decide +kernel
theorem dX6_dustOn_1 : decode cX6_dustOn 1 = .ok (.istore_n 2, 1) := by decide +kernel
theorem dX6_dustOn_2 : decode cX6_dustOn 2 = .ok (.iconst 0, 1) := by decide +kernel
theorem dX6_dustOn_3 : decode cX6_dustOn 3 = .ok (.istore_n 3, 1) := by decide +kernel
theorem dX6_dustOn_4 : decode cX6_dustOn 4 = .ok (.iload_n 3, 1) := by decide +kernel
theorem dX6_dustOn_5 : decode cX6_dustOn 5 = .ok (.bipush 8, 2) := by decide +kernel
theorem dX6_dustOn_7 : decode cX6_dustOn 7 = .ok (.if_icmp .ge 23, 3) := by decide +kernel
theorem dX6_dustOn_10 : decode cX6_dustOn 10 = .ok (.iload_n 2, 1) := by decide +kernel
theorem dX6_dustOn_11 : decode cX6_dustOn 11 = .ok (.aload_n 0, 1) := by decide +kernel
theorem dX6_dustOn_12 : decode cX6_dustOn 12 = .ok (.getfield 22, 3) := by decide +kernel
theorem dX6_dustOn_15 : decode cX6_dustOn 15 = .ok (.bipush 16, 2) := by decide +kernel
theorem dX6_dustOn_17 : decode cX6_dustOn 17 = .ok (.iload_n 1, 1) := by decide +kernel
theorem dX6_dustOn_18 : decode cX6_dustOn 18 = .ok (.imul, 1) := by decide +kernel
theorem dX6_dustOn_19 : decode cX6_dustOn 19 = .ok (.iload_n 3, 1) := by decide +kernel
theorem dX6_dustOn_20 : decode cX6_dustOn 20 = .ok (.iadd, 1) := by decide +kernel
theorem dX6_dustOn_21 : decode cX6_dustOn 21 = .ok (.iaload, 1) := by decide +kernel
theorem dX6_dustOn_22 : decode cX6_dustOn 22 = .ok (.iadd, 1) := by decide +kernel
theorem dX6_dustOn_23 : decode cX6_dustOn 23 = .ok (.istore_n 2, 1) := by decide +kernel
theorem dX6_dustOn_24 : decode cX6_dustOn 24 = .ok (.iinc 3 1, 3) := by decide +kernel
theorem dX6_dustOn_27 : decode cX6_dustOn 27 = .ok (.goto (-23), 3) := by decide +kernel
theorem dX6_dustOn_30 : decode cX6_dustOn 30 = .ok (.iload_n 2, 1) := by decide +kernel
theorem dX6_dustOn_31 : decode cX6_dustOn 31 = .ok (.ireturn, 1) := by decide +kernel
theorem dX6_broomsIn_0 : decode cX6_broomsIn 0 = .ok (.iconst 0, 1) := by decide +kernel
theorem dX6_broomsIn_1 : decode cX6_broomsIn 1 = .ok (.istore_n 2, 1) := by decide +kernel
theorem dX6_broomsIn_2 : decode cX6_broomsIn 2 = .ok (.iconst 0, 1) := by decide +kernel
theorem dX6_broomsIn_3 : decode cX6_broomsIn 3 = .ok (.istore_n 3, 1) := by decide +kernel
theorem dX6_broomsIn_4 : decode cX6_broomsIn 4 = .ok (.iload_n 3, 1) := by decide +kernel
theorem dX6_broomsIn_5 : decode cX6_broomsIn 5 = .ok (.aload_n 0, 1) := by decide +kernel
theorem dX6_broomsIn_6 : decode cX6_broomsIn 6 = .ok (.getfield 93, 3) := by decide +kernel
theorem dX6_broomsIn_9 : decode cX6_broomsIn 9 = .ok (.if_icmp .ge 32, 3) := by decide +kernel
theorem dX6_broomsIn_12 : decode cX6_broomsIn 12 = .ok (.iload_n 2, 1) := by decide +kernel
theorem dX6_broomsIn_13 : decode cX6_broomsIn 13 = .ok (.aload_n 0, 1) := by decide +kernel
theorem dX6_broomsIn_14 : decode cX6_broomsIn 14 = .ok (.getfield 22, 3) := by decide +kernel
theorem dX6_broomsIn_17 : decode cX6_broomsIn 17 = .ok (.bipush 8, 2) := by decide +kernel
theorem dX6_broomsIn_19 : decode cX6_broomsIn 19 = .ok (.iload_n 3, 1) := by decide +kernel
theorem dX6_broomsIn_20 : decode cX6_broomsIn 20 = .ok (.iadd, 1) := by decide +kernel
theorem dX6_broomsIn_21 : decode cX6_broomsIn 21 = .ok (.iaload, 1) := by decide +kernel
theorem dX6_broomsIn_22 : decode cX6_broomsIn 22 = .ok (.iload_n 1, 1) := by decide +kernel
theorem dX6_broomsIn_23 : decode cX6_broomsIn 23 = .ok (.if_icmp .ne 9, 3) := by decide +kernel
theorem dX6_broomsIn_26 : decode cX6_broomsIn 26 = .ok (.iconst 1, 1) := by decide +kernel
theorem dX6_broomsIn_27 : decode cX6_broomsIn 27 = .ok (.iload_n 3, 1) := by decide +kernel
theorem dX6_broomsIn_28 : decode cX6_broomsIn 28 = .ok (.ishl, 1) := by decide +kernel
theorem dX6_broomsIn_29 : decode cX6_broomsIn 29 = .ok (.goto 4, 3) := by decide +kernel
theorem dX6_broomsIn_32 : decode cX6_broomsIn 32 = .ok (.iconst 0, 1) := by decide +kernel
theorem dX6_broomsIn_33 : decode cX6_broomsIn 33 = .ok (.ior, 1) := by decide +kernel
theorem dX6_broomsIn_34 : decode cX6_broomsIn 34 = .ok (.istore_n 2, 1) := by decide +kernel
theorem dX6_broomsIn_35 : decode cX6_broomsIn 35 = .ok (.iinc 3 1, 3) := by decide +kernel
theorem dX6_broomsIn_38 : decode cX6_broomsIn 38 = .ok (.goto (-34), 3) := by decide +kernel
theorem dX6_broomsIn_41 : decode cX6_broomsIn 41 = .ok (.iload_n 2, 1) := by decide +kernel
theorem dX6_broomsIn_42 : decode cX6_broomsIn 42 = .ok (.ireturn, 1) := by decide +kernel
set_option maxRecDepth 20000 in
theorem ggX6_street_X6_isStreet : GoodIn wsX6_street wsX6_isStreet := goodIn_r _ [5, 6, 7, 8, 4, 9] (by decide +kernel) (by decide +kernel)
set_option maxRecDepth 20000 in
theorem gX6_street_X6_isStreet : GoodIn wsX6_street (va_wsS RX6 127 yX6_isStreet wsX6_isStreet) := goodIn_app (goodIn_of _ (by decide +kernel)) ggX6_street_X6_isStreet
set_option maxRecDepth 20000 in
theorem ggX6_street_X6_broomsIn : GoodIn wsX6_street wsX6_broomsIn := goodIn_r _ [13, 14, 1, 15, 16, 17, 18, 19, 20, 21, 22, 23, 24, 25, 26, 27, 28, 29, 30, 31, 32, 33, 34, 35, 36, 37, 38, 39, 40, 41] (by decide +kernel) (by decide +kernel)
set_option maxRecDepth 20000 in
theorem gX6_street_X6_broomsIn : GoodIn wsX6_street (wsV RX6 131 RX6 yX6_broomsIn wsX6_broomsIn) := goodIn_app (goodIn_of _ (by decide +kernel)) ggX6_street_X6_broomsIn
theorem dX6_street_0 : decode cX6_street 0 = .ok (.iload_n 1, 1) := by decide +kernel
theorem dX6_street_1 : decode cX6_street 1 = .ok (.invokestatic 127, 3) := by decide +kernel
theorem dX6_street_4 : decode cX6_street 4 = .ok (.ifCond .ne 5, 3) := by decide +kernel
theorem dX6_street_7 : decode cX6_street 7 = .ok (.iconst (-1), 1) := by decide +kernel
theorem dX6_street_8 : decode cX6_street 8 = .ok (.ireturn, 1) := by decide +kernel
theorem dX6_street_9 : decode cX6_street 9 = .ok (.iload_n 2, 1) := by decide +kernel
theorem dX6_street_10 : decode cX6_street 10 = .ok (.tableswitch 56 0 2 #[26, 33, 50], 26) := by decide +kernel
theorem dX6_street_36 : decode cX6_street 36 = .ok (.aload_n 0, 1) := by decide +kernel
theorem dX6_street_37 : decode cX6_street 37 = .ok (.getfield 22, 3) := by decide +kernel
theorem dX6_street_40 : decode cX6_street 40 = .ok (.iload_n 1, 1) := by decide +kernel
theorem dX6_street_41 : decode cX6_street 41 = .ok (.iaload, 1) := by decide +kernel
theorem dX6_street_42 : decode cX6_street 42 = .ok (.ireturn, 1) := by decide +kernel
theorem dX6_street_43 : decode cX6_street 43 = .ok (.aload_n 0, 1) := by decide +kernel
theorem dX6_street_44 : decode cX6_street 44 = .ok (.getfield 22, 3) := by decide +kernel
theorem dX6_street_47 : decode cX6_street 47 = .ok (.iload_n 1, 1) := by decide +kernel
theorem dX6_street_48 : decode cX6_street 48 = .ok (.iaload, 1) := by decide +kernel
theorem dX6_street_49 : decode cX6_street 49 = .ok (.bipush 10, 2) := by decide +kernel
theorem dX6_street_51 : decode cX6_street 51 = .ok (.if_icmp .lt 7, 3) := by decide +kernel
theorem dX6_street_54 : decode cX6_street 54 = .ok (.iconst 1, 1) := by decide +kernel
theorem dX6_street_55 : decode cX6_street 55 = .ok (.goto 4, 3) := by decide +kernel
theorem dX6_street_58 : decode cX6_street 58 = .ok (.iconst 0, 1) := by decide +kernel
theorem dX6_street_59 : decode cX6_street 59 = .ok (.ireturn, 1) := by decide +kernel
theorem dX6_street_60 : decode cX6_street 60 = .ok (.aload_n 0, 1) := by decide +kernel
theorem dX6_street_61 : decode cX6_street 61 = .ok (.iload_n 1, 1) := by decide +kernel
theorem dX6_street_62 : decode cX6_street 62 = .ok (.invokevirtual 131, 3) := by decide +kernel
theorem dX6_street_65 : decode cX6_street 65 = .ok (.ireturn, 1) := by decide +kernel
theorem dX6_street_66 : decode cX6_street 66 = .ok (.bipush (-2), 2) := by decide +kernel
theorem dX6_street_68 : decode cX6_street 68 = .ok (.ireturn, 1) := by decide +kernel
set_option maxRecDepth 20000 in
theorem ggX6_broom_X6_isBroom : GoodIn wsX6_broom wsX6_isBroom := goodIn_r _ [8, 9, 10, 11, 7, 12, 20, 21, 22, 23, 24, 25, 26, 27, 28, 29, 30, 31, 32, 33, 34, 35, 36, 37, 38, 39, 40, 41, 42, 43, 44, 45, 46] (by decide +kernel) (by decide +kernel)
set_option maxRecDepth 20000 in
theorem gX6_broom_X6_isBroom : GoodIn wsX6_broom (wsV RX6 134 RX6 yX6_isBroom wsX6_isBroom) := goodIn_app (goodIn_of _ (by decide +kernel)) ggX6_broom_X6_isBroom
set_option maxRecDepth 20000 in
theorem ggX6_broom_X6_worksAs : GoodIn wsX6_broom wsX6_worksAs := goodIn_r _ [16, 1, 3, 17, 18, 7, 19, 20, 21, 22, 23, 24, 25, 26, 27, 28, 29, 30, 31, 32, 33, 34, 35, 36, 37, 38, 39, 40, 41, 42, 43, 44, 45, 46] (by decide +kernel) (by decide +kernel)
set_option maxRecDepth 20000 in
theorem gX6_broom_X6_worksAs : GoodIn wsX6_broom (wsV RX6 108 RX6 yX6_worksAs wsX6_worksAs) := goodIn_app (goodIn_of _ (by decide +kernel)) ggX6_broom_X6_worksAs
theorem dX6_broom_0 : decode cX6_broom 0 = .ok (.aload_n 0, 1) := by decide +kernel
theorem dX6_broom_1 : decode cX6_broom 1 = .ok (.iload_n 1, 1) := by decide +kernel
theorem dX6_broom_2 : decode cX6_broom 2 = .ok (.invokevirtual 134, 3) := by decide +kernel
theorem dX6_broom_5 : decode cX6_broom 5 = .ok (.ifCond .ne 5, 3) := by decide +kernel
theorem dX6_broom_8 : decode cX6_broom 8 = .ok (.iconst (-1), 1) := by decide +kernel
theorem dX6_broom_9 : decode cX6_broom 9 = .ok (.ireturn, 1) := by decide +kernel
theorem dX6_broom_10 : decode cX6_broom 10 = .ok (.iload_n 2, 1) := by decide +kernel
theorem dX6_broom_11 : decode cX6_broom 11 = .ok (.tableswitch 76 0 4 #[33, 43, 50, 57, 69], 33) := by decide +kernel
theorem dX6_broom_44 : decode cX6_broom 44 = .ok (.aload_n 0, 1) := by decide +kernel
theorem dX6_broom_45 : decode cX6_broom 45 = .ok (.getfield 22, 3) := by decide +kernel
theorem dX6_broom_48 : decode cX6_broom 48 = .ok (.bipush 8, 2) := by decide +kernel
theorem dX6_broom_50 : decode cX6_broom 50 = .ok (.iload_n 1, 1) := by decide +kernel
theorem dX6_broom_51 : decode cX6_broom 51 = .ok (.iadd, 1) := by decide +kernel
theorem dX6_broom_52 : decode cX6_broom 52 = .ok (.iaload, 1) := by decide +kernel
theorem dX6_broom_53 : decode cX6_broom 53 = .ok (.ireturn, 1) := by decide +kernel
theorem dX6_broom_54 : decode cX6_broom 54 = .ok (.aload_n 0, 1) := by decide +kernel
theorem dX6_broom_55 : decode cX6_broom 55 = .ok (.getfield 7, 3) := by decide +kernel
theorem dX6_broom_58 : decode cX6_broom 58 = .ok (.iload_n 1, 1) := by decide +kernel
theorem dX6_broom_59 : decode cX6_broom 59 = .ok (.iaload, 1) := by decide +kernel
theorem dX6_broom_60 : decode cX6_broom 60 = .ok (.ireturn, 1) := by decide +kernel
theorem dX6_broom_61 : decode cX6_broom 61 = .ok (.aload_n 0, 1) := by decide +kernel
theorem dX6_broom_62 : decode cX6_broom 62 = .ok (.getfield 13, 3) := by decide +kernel
theorem dX6_broom_65 : decode cX6_broom 65 = .ok (.iload_n 1, 1) := by decide +kernel
theorem dX6_broom_66 : decode cX6_broom 66 = .ok (.iaload, 1) := by decide +kernel
theorem dX6_broom_67 : decode cX6_broom 67 = .ok (.ireturn, 1) := by decide +kernel
theorem dX6_broom_68 : decode cX6_broom 68 = .ok (.aload_n 0, 1) := by decide +kernel
theorem dX6_broom_69 : decode cX6_broom 69 = .ok (.getfield 22, 3) := by decide +kernel
theorem dX6_broom_72 : decode cX6_broom 72 = .ok (.bipush 14, 2) := by decide +kernel
theorem dX6_broom_74 : decode cX6_broom 74 = .ok (.iaload, 1) := by decide +kernel
theorem dX6_broom_75 : decode cX6_broom 75 = .ok (.iload_n 1, 1) := by decide +kernel
theorem dX6_broom_76 : decode cX6_broom 76 = .ok (.ishr, 1) := by decide +kernel
theorem dX6_broom_77 : decode cX6_broom 77 = .ok (.iconst 1, 1) := by decide +kernel
theorem dX6_broom_78 : decode cX6_broom 78 = .ok (.iand, 1) := by decide +kernel
theorem dX6_broom_79 : decode cX6_broom 79 = .ok (.ireturn, 1) := by decide +kernel
theorem dX6_broom_80 : decode cX6_broom 80 = .ok (.aload_n 0, 1) := by decide +kernel
theorem dX6_broom_81 : decode cX6_broom 81 = .ok (.iconst 0, 1) := by decide +kernel
theorem dX6_broom_82 : decode cX6_broom 82 = .ok (.iload_n 1, 1) := by decide +kernel
theorem dX6_broom_83 : decode cX6_broom 83 = .ok (.invokevirtual 108, 3) := by decide +kernel
theorem dX6_broom_86 : decode cX6_broom 86 = .ok (.ireturn, 1) := by decide +kernel
theorem dX6_broom_87 : decode cX6_broom 87 = .ok (.bipush (-2), 2) := by decide +kernel
theorem dX6_broom_89 : decode cX6_broom 89 = .ok (.ireturn, 1) := by decide +kernel
theorem dX6_keepAct_0 : decode cX6_keepAct 0 = .ok (.iconst 0, 1) := by decide +kernel
theorem dX6_keepAct_1 : decode cX6_keepAct 1 = .ok (.istore_n 1, 1) := by decide +kernel
theorem dX6_keepAct_2 : decode cX6_keepAct 2 = .ok (.iload_n 1, 1) := by decide +kernel
theorem dX6_keepAct_3 : decode cX6_keepAct 3 = .ok (.bipush 16, 2) := by decide +kernel
theorem dX6_keepAct_5 : decode cX6_keepAct 5 = .ok (.if_icmp .ge 29, 3) := by decide +kernel
theorem dX6_keepAct_8 : decode cX6_keepAct 8 = .ok (.aload_n 0, 1) := by decide +kernel
theorem dX6_keepAct_9 : decode cX6_keepAct 9 = .ok (.getfield 41, 3) := by decide +kernel
theorem dX6_keepAct_12 : decode cX6_keepAct 12 = .ok (.bipush 16, 2) := by decide +kernel
theorem dX6_keepAct_14 : decode cX6_keepAct 14 = .ok (.aload_n 0, 1) := by decide +kernel
theorem dX6_keepAct_15 : decode cX6_keepAct 15 = .ok (.getfield 137, 3) := by decide +kernel
theorem dX6_keepAct_18 : decode cX6_keepAct 18 = .ok (.imul, 1) := by decide +kernel
theorem dX6_keepAct_19 : decode cX6_keepAct 19 = .ok (.iload_n 1, 1) := by decide +kernel
theorem dX6_keepAct_20 : decode cX6_keepAct 20 = .ok (.iadd, 1) := by decide +kernel
theorem dX6_keepAct_21 : decode cX6_keepAct 21 = .ok (.aload_n 0, 1) := by decide +kernel
theorem dX6_keepAct_22 : decode cX6_keepAct 22 = .ok (.getfield 22, 3) := by decide +kernel
theorem dX6_keepAct_25 : decode cX6_keepAct 25 = .ok (.iload_n 1, 1) := by decide +kernel
theorem dX6_keepAct_26 : decode cX6_keepAct 26 = .ok (.iaload, 1) := by decide +kernel
theorem dX6_keepAct_27 : decode cX6_keepAct 27 = .ok (.iastore, 1) := by decide +kernel
theorem dX6_keepAct_28 : decode cX6_keepAct 28 = .ok (.iinc 1 1, 3) := by decide +kernel
theorem dX6_keepAct_31 : decode cX6_keepAct 31 = .ok (.goto (-29), 3) := by decide +kernel
theorem dX6_keepAct_34 : decode cX6_keepAct 34 = .ok (.aload_n 0, 1) := by decide +kernel
theorem dX6_keepAct_35 : decode cX6_keepAct 35 = .ok (.aload_n 0, 1) := by decide +kernel
theorem dX6_keepAct_36 : decode cX6_keepAct 36 = .ok (.getfield 137, 3) := by decide +kernel
theorem dX6_keepAct_39 : decode cX6_keepAct 39 = .ok (.iconst 1, 1) := by decide +kernel
theorem dX6_keepAct_40 : decode cX6_keepAct 40 = .ok (.iadd, 1) := by decide +kernel
theorem dX6_keepAct_41 : decode cX6_keepAct 41 = .ok (.bipush 14, 2) := by decide +kernel
theorem dX6_keepAct_43 : decode cX6_keepAct 43 = .ok (.irem, 1) := by decide +kernel
theorem dX6_keepAct_44 : decode cX6_keepAct 44 = .ok (.putfield 137, 3) := by decide +kernel
theorem dX6_keepAct_47 : decode cX6_keepAct 47 = .ok (.aload_n 0, 1) := by decide +kernel
theorem dX6_keepAct_48 : decode cX6_keepAct 48 = .ok (.aload_n 0, 1) := by decide +kernel
theorem dX6_keepAct_49 : decode cX6_keepAct 49 = .ok (.getfield 99, 3) := by decide +kernel
theorem dX6_keepAct_52 : decode cX6_keepAct 52 = .ok (.bipush 14, 2) := by decide +kernel
theorem dX6_keepAct_54 : decode cX6_keepAct 54 = .ok (.if_icmp .ge 12, 3) := by decide +kernel
theorem dX6_keepAct_57 : decode cX6_keepAct 57 = .ok (.aload_n 0, 1) := by decide +kernel
theorem dX6_keepAct_58 : decode cX6_keepAct 58 = .ok (.getfield 99, 3) := by decide +kernel
theorem dX6_keepAct_61 : decode cX6_keepAct 61 = .ok (.iconst 1, 1) := by decide +kernel
theorem dX6_keepAct_62 : decode cX6_keepAct 62 = .ok (.iadd, 1) := by decide +kernel
theorem dX6_keepAct_63 : decode cX6_keepAct 63 = .ok (.goto 5, 3) := by decide +kernel
theorem dX6_keepAct_66 : decode cX6_keepAct 66 = .ok (.bipush 14, 2) := by decide +kernel
theorem dX6_keepAct_68 : decode cX6_keepAct 68 = .ok (.putfield 99, 3) := by decide +kernel
theorem dX6_keepAct_71 : decode cX6_keepAct 71 = .ok (.return_, 1) := by decide +kernel
set_option maxRecDepth 20000 in
theorem ggX6_dawn_X6_keepAct : GoodIn wsX6_dawn wsX6_keepAct := goodIn_r _ [5, 6, 7, 8, 9, 48, 49, 50, 51, 52, 53, 54, 55, 56, 57, 58, 59, 60, 61, 62, 63, 64, 65, 66, 67, 68, 69, 70, 71, 72, 73, 74] (by decide +kernel) (by decide +kernel)
set_option maxRecDepth 20000 in
theorem gX6_dawn_X6_keepAct : GoodIn wsX6_dawn (wsV RX6 140 RX6 yX6_keepAct wsX6_keepAct) := goodIn_app (goodIn_of _ (by decide +kernel)) ggX6_dawn_X6_keepAct
set_option maxRecDepth 20000 in
theorem ggX6_dawn_X6_passOn : GoodIn wsX6_dawn wsX6_passOn := goodIn_r _ [13, 14, 8, 15, 16, 17, 18, 19, 20, 4, 21, 22, 23, 24, 25, 26, 27, 28, 29, 30, 31, 32, 33, 34, 35, 36, 37, 38, 39, 40, 41, 42, 43, 48, 49, 50, 51, 52, 53, 54, 55, 56, 57, 58, 59, 60, 61, 62, 63, 64, 65, 66, 67, 68, 69, 70, 71, 72, 73, 74] (by decide +kernel) (by decide +kernel)
set_option maxRecDepth 20000 in
theorem gX6_dawn_X6_passOn : GoodIn wsX6_dawn (wsV RX6 143 RX6 yX6_passOn wsX6_passOn) := goodIn_app (goodIn_of _ (by decide +kernel)) ggX6_dawn_X6_passOn
set_option maxRecDepth 20000 in
theorem ggX6_dawn_X6_dustOn : GoodIn wsX6_dawn wsX6_dustOn := goodIn_r _ [47, 8, 48, 49, 50, 51, 52, 53, 54, 55, 56, 57, 58, 59, 60, 61, 62, 63, 64, 65, 66, 67, 68, 69, 70, 71, 72, 73, 74] (by decide +kernel) (by decide +kernel)
set_option maxRecDepth 20000 in
theorem gX6_dawn_X6_dustOn : GoodIn wsX6_dawn (wsV RX6 146 RX6 yX6_dustOn wsX6_dustOn) := goodIn_app (goodIn_of _ (by decide +kernel)) ggX6_dawn_X6_dustOn
theorem dX6_dawn_0 : decode cX6_dawn 0 = .ok (.aload_n 0, 1) := by decide +kernel
theorem dX6_dawn_1 : decode cX6_dawn 1 = .ok (.invokevirtual 140, 3) := by decide +kernel
theorem dX6_dawn_4 : decode cX6_dawn 4 = .ok (.aload_n 0, 1) := by decide +kernel
theorem dX6_dawn_5 : decode cX6_dawn 5 = .ok (.iconst 0, 1) := by decide +kernel
theorem dX6_dawn_6 : decode cX6_dawn 6 = .ok (.iconst 1, 1) := by decide +kernel
theorem dX6_dawn_7 : decode cX6_dawn 7 = .ok (.invokevirtual 143, 3) := by decide +kernel
theorem dX6_dawn_10 : decode cX6_dawn 10 = .ok (.aload_n 0, 1) := by decide +kernel
theorem dX6_dawn_11 : decode cX6_dawn 11 = .ok (.iconst 0, 1) := by decide +kernel
theorem dX6_dawn_12 : decode cX6_dawn 12 = .ok (.invokevirtual 146, 3) := by decide +kernel
theorem dX6_dawn_15 : decode cX6_dawn 15 = .ok (.ireturn, 1) := by decide +kernel
theorem dX6_walkOn_0 : decode cX6_walkOn 0 = .ok (.bipush 16, 2) := by decide +kernel
theorem dX6_walkOn_2 : decode cX6_walkOn 2 = .ok (.iload_n 1, 1) := by decide +kernel
theorem dX6_walkOn_3 : decode cX6_walkOn 3 = .ok (.imul, 1) := by decide +kernel
theorem dX6_walkOn_4 : decode cX6_walkOn 4 = .ok (.bipush 8, 2) := by decide +kernel
theorem dX6_walkOn_6 : decode cX6_walkOn 6 = .ok (.iadd, 1) := by decide +kernel
theorem dX6_walkOn_7 : decode cX6_walkOn 7 = .ok (.iload_n 2, 1) := by decide +kernel
theorem dX6_walkOn_8 : decode cX6_walkOn 8 = .ok (.iadd, 1) := by decide +kernel
theorem dX6_walkOn_9 : decode cX6_walkOn 9 = .ok (.istore 4, 2) := by decide +kernel
theorem dX6_walkOn_11 : decode cX6_walkOn 11 = .ok (.aload_n 0, 1) := by decide +kernel
theorem dX6_walkOn_12 : decode cX6_walkOn 12 = .ok (.getfield 22, 3) := by decide +kernel
theorem dX6_walkOn_15 : decode cX6_walkOn 15 = .ok (.iload 4, 2) := by decide +kernel
theorem dX6_walkOn_17 : decode cX6_walkOn 17 = .ok (.aload_n 0, 1) := by decide +kernel
theorem dX6_walkOn_18 : decode cX6_walkOn 18 = .ok (.getfield 22, 3) := by decide +kernel
theorem dX6_walkOn_21 : decode cX6_walkOn 21 = .ok (.iload 4, 2) := by decide +kernel
theorem dX6_walkOn_23 : decode cX6_walkOn 23 = .ok (.iaload, 1) := by decide +kernel
theorem dX6_walkOn_24 : decode cX6_walkOn 24 = .ok (.iload_n 3, 1) := by decide +kernel
theorem dX6_walkOn_25 : decode cX6_walkOn 25 = .ok (.ifCond .ne 8, 3) := by decide +kernel
theorem dX6_walkOn_28 : decode cX6_walkOn 28 = .ok (.bipush 7, 2) := by decide +kernel
theorem dX6_walkOn_30 : decode cX6_walkOn 30 = .ok (.goto 4, 3) := by decide +kernel
theorem dX6_walkOn_33 : decode cX6_walkOn 33 = .ok (.iconst 1, 1) := by decide +kernel
theorem dX6_walkOn_34 : decode cX6_walkOn 34 = .ok (.iadd, 1) := by decide +kernel
theorem dX6_walkOn_35 : decode cX6_walkOn 35 = .ok (.bipush 8, 2) := by decide +kernel
theorem dX6_walkOn_37 : decode cX6_walkOn 37 = .ok (.irem, 1) := by decide +kernel
theorem dX6_walkOn_38 : decode cX6_walkOn 38 = .ok (.iastore, 1) := by decide +kernel
theorem dX6_walkOn_39 : decode cX6_walkOn 39 = .ok (.return_, 1) := by decide +kernel
set_option maxRecDepth 20000 in
theorem ggX6_walk_X6_isBroom : GoodIn wsX6_walk wsX6_isBroom := goodIn_r _ [6, 7, 8, 9, 5, 10, 22, 23, 24, 25, 26, 27, 28, 29, 30, 31, 32, 33, 34, 35, 36, 37, 38, 39, 40, 41, 42, 43, 44, 45, 46, 47, 48] (by decide +kernel) (by decide +kernel)
set_option maxRecDepth 20000 in
theorem gX6_walk_X6_isBroom : GoodIn wsX6_walk (wsV RX6 134 RX6 yX6_isBroom wsX6_isBroom) := goodIn_app (goodIn_of _ (by decide +kernel)) ggX6_walk_X6_isBroom
set_option maxRecDepth 20000 in
theorem ggX6_walk_X6_in : GoodIn wsX6_walk wsX6_in := goodIn_r _ [10] (by decide +kernel) (by decide +kernel)
set_option maxRecDepth 20000 in
theorem gX6_walk_X6_in : GoodIn wsX6_walk (va_wsS RX6 62 yX6_in wsX6_in) := goodIn_app (goodIn_of _ (by decide +kernel)) ggX6_walk_X6_in
set_option maxRecDepth 20000 in
theorem ggX6_walk_X6_keepAct : GoodIn wsX6_walk wsX6_keepAct := goodIn_r _ [14, 15, 16, 1, 17, 22, 23, 24, 25, 26, 27, 28, 29, 30, 31, 32, 33, 34, 35, 36, 37, 38, 39, 40, 41, 42, 43, 44, 45, 46, 47, 48] (by decide +kernel) (by decide +kernel)
set_option maxRecDepth 20000 in
theorem gX6_walk_X6_keepAct : GoodIn wsX6_walk (wsV RX6 140 RX6 yX6_keepAct wsX6_keepAct) := goodIn_app (goodIn_of _ (by decide +kernel)) ggX6_walk_X6_keepAct
set_option maxRecDepth 20000 in
theorem ggX6_walk_X6_walkOn : GoodIn wsX6_walk wsX6_walkOn := goodIn_r _ [21, 1, 22, 23, 24, 25, 26, 27, 28, 29, 30, 31, 32, 33, 34, 35, 36, 37, 38, 39, 40, 41, 42, 43, 44, 45, 46, 47, 48] (by decide +kernel) (by decide +kernel)
set_option maxRecDepth 20000 in
theorem gX6_walk_X6_walkOn : GoodIn wsX6_walk (wsV RX6 149 RX6 yX6_walkOn wsX6_walkOn) := goodIn_app (goodIn_of _ (by decide +kernel)) ggX6_walk_X6_walkOn
theorem dX6_walk_0 : decode cX6_walk 0 = .ok (.aload_n 0, 1) := by decide +kernel
theorem dX6_walk_1 : decode cX6_walk 1 = .ok (.iload_n 1, 1) := by decide +kernel
theorem dX6_walk_2 : decode cX6_walk 2 = .ok (.invokevirtual 134, 3) := by decide +kernel
theorem dX6_walk_5 : decode cX6_walk 5 = .ok (.ifCond .ne 5, 3) := by decide +kernel
theorem dX6_walk_8 : decode cX6_walk 8 = .ok (.iconst (-1), 1) := by decide +kernel
theorem dX6_walk_9 : decode cX6_walk 9 = .ok (.ireturn, 1) := by decide +kernel
theorem dX6_walk_10 : decode cX6_walk 10 = .ok (.iload_n 2, 1) := by decide +kernel
theorem dX6_walk_11 : decode cX6_walk 11 = .ok (.i2l, 1) := by decide +kernel
theorem dX6_walk_12 : decode cX6_walk 12 = .ok (.lconst 0, 1) := by decide +kernel
theorem dX6_walk_13 : decode cX6_walk 13 = .ok (.lconst 1, 1) := by decide +kernel
theorem dX6_walk_14 : decode cX6_walk 14 = .ok (.invokestatic 62, 3) := by decide +kernel
theorem dX6_walk_17 : decode cX6_walk 17 = .ok (.ifCond .ne 6, 3) := by decide +kernel
theorem dX6_walk_20 : decode cX6_walk 20 = .ok (.bipush (-2), 2) := by decide +kernel
theorem dX6_walk_22 : decode cX6_walk 22 = .ok (.ireturn, 1) := by decide +kernel
theorem dX6_walk_23 : decode cX6_walk 23 = .ok (.aload_n 0, 1) := by decide +kernel
theorem dX6_walk_24 : decode cX6_walk 24 = .ok (.invokevirtual 140, 3) := by decide +kernel
theorem dX6_walk_27 : decode cX6_walk 27 = .ok (.aload_n 0, 1) := by decide +kernel
theorem dX6_walk_28 : decode cX6_walk 28 = .ok (.iconst 0, 1) := by decide +kernel
theorem dX6_walk_29 : decode cX6_walk 29 = .ok (.iload_n 1, 1) := by decide +kernel
theorem dX6_walk_30 : decode cX6_walk 30 = .ok (.iload_n 2, 1) := by decide +kernel
theorem dX6_walk_31 : decode cX6_walk 31 = .ok (.invokevirtual 149, 3) := by decide +kernel
theorem dX6_walk_34 : decode cX6_walk 34 = .ok (.aload_n 0, 1) := by decide +kernel
theorem dX6_walk_35 : decode cX6_walk 35 = .ok (.getfield 22, 3) := by decide +kernel
theorem dX6_walk_38 : decode cX6_walk 38 = .ok (.bipush 8, 2) := by decide +kernel
theorem dX6_walk_40 : decode cX6_walk 40 = .ok (.iload_n 1, 1) := by decide +kernel
theorem dX6_walk_41 : decode cX6_walk 41 = .ok (.iadd, 1) := by decide +kernel
theorem dX6_walk_42 : decode cX6_walk 42 = .ok (.iaload, 1) := by decide +kernel
theorem dX6_walk_43 : decode cX6_walk 43 = .ok (.ireturn, 1) := by decide +kernel
set_option maxRecDepth 20000 in
theorem ggX6_vote_X6_keepAct : GoodIn wsX6_vote wsX6_keepAct := goodIn_r _ [6, 7, 8, 1, 9, 10, 11, 12, 13, 14, 15, 16, 17, 18, 19, 20, 21, 22, 23, 24, 25, 26, 27, 28, 29, 30, 31, 32, 33, 34, 35, 36] (by decide +kernel) (by decide +kernel)
set_option maxRecDepth 20000 in
theorem gX6_vote_X6_keepAct : GoodIn wsX6_vote (wsV RX6 140 RX6 yX6_keepAct wsX6_keepAct) := goodIn_app (goodIn_of _ (by decide +kernel)) ggX6_vote_X6_keepAct
theorem dX6_vote_0 : decode cX6_vote 0 = .ok (.aload_n 0, 1) := by decide +kernel
theorem dX6_vote_1 : decode cX6_vote 1 = .ok (.invokevirtual 140, 3) := by decide +kernel
theorem dX6_vote_4 : decode cX6_vote 4 = .ok (.aload_n 0, 1) := by decide +kernel
theorem dX6_vote_5 : decode cX6_vote 5 = .ok (.getfield 22, 3) := by decide +kernel
theorem dX6_vote_8 : decode cX6_vote 8 = .ok (.bipush 13, 2) := by decide +kernel
theorem dX6_vote_10 : decode cX6_vote 10 = .ok (.iconst 1, 1) := by decide +kernel
theorem dX6_vote_11 : decode cX6_vote 11 = .ok (.aload_n 0, 1) := by decide +kernel
theorem dX6_vote_12 : decode cX6_vote 12 = .ok (.getfield 22, 3) := by decide +kernel
theorem dX6_vote_15 : decode cX6_vote 15 = .ok (.bipush 13, 2) := by decide +kernel
theorem dX6_vote_17 : decode cX6_vote 17 = .ok (.iaload, 1) := by decide +kernel
theorem dX6_vote_18 : decode cX6_vote 18 = .ok (.isub, 1) := by decide +kernel
theorem dX6_vote_19 : decode cX6_vote 19 = .ok (.iastore, 1) := by decide +kernel
theorem dX6_vote_20 : decode cX6_vote 20 = .ok (.aload_n 0, 1) := by decide +kernel
theorem dX6_vote_21 : decode cX6_vote 21 = .ok (.getfield 22, 3) := by decide +kernel
theorem dX6_vote_24 : decode cX6_vote 24 = .ok (.bipush 13, 2) := by decide +kernel
theorem dX6_vote_26 : decode cX6_vote 26 = .ok (.iaload, 1) := by decide +kernel
theorem dX6_vote_27 : decode cX6_vote 27 = .ok (.ireturn, 1) := by decide +kernel
set_option maxRecDepth 20000 in
theorem ggX6_bend_X6_isBroom : GoodIn wsX6_bend wsX6_isBroom := goodIn_r _ [6, 7, 8, 9, 5, 10, 24, 25, 26, 27, 28, 29, 30, 31, 32, 33, 34, 35, 36, 37, 38, 39, 40, 41, 42, 43, 44, 45, 46, 47, 48, 49, 50] (by decide +kernel) (by decide +kernel)
set_option maxRecDepth 20000 in
theorem gX6_bend_X6_isBroom : GoodIn wsX6_bend (wsV RX6 134 RX6 yX6_isBroom wsX6_isBroom) := goodIn_app (goodIn_of _ (by decide +kernel)) ggX6_bend_X6_isBroom
set_option maxRecDepth 20000 in
theorem ggX6_bend_X6_has : GoodIn wsX6_bend wsX6_has := goodIn_r _ [13] (by decide +kernel) (by decide +kernel)
set_option maxRecDepth 20000 in
theorem gX6_bend_X6_has : GoodIn wsX6_bend (va_wsS RX6 104 yX6_has wsX6_has) := goodIn_app (goodIn_of _ (by decide +kernel)) ggX6_bend_X6_has
set_option maxRecDepth 20000 in
theorem ggX6_bend_X6_keepAct : GoodIn wsX6_bend wsX6_keepAct := goodIn_r _ [17, 18, 19, 1, 20, 24, 25, 26, 27, 28, 29, 30, 31, 32, 33, 34, 35, 36, 37, 38, 39, 40, 41, 42, 43, 44, 45, 46, 47, 48, 49, 50] (by decide +kernel) (by decide +kernel)
set_option maxRecDepth 20000 in
theorem gX6_bend_X6_keepAct : GoodIn wsX6_bend (wsV RX6 140 RX6 yX6_keepAct wsX6_keepAct) := goodIn_app (goodIn_of _ (by decide +kernel)) ggX6_bend_X6_keepAct
set_option maxRecDepth 20000 in
theorem ggX6_bend_X6_ones : GoodIn wsX6_bend wsX6_ones := goodIn_r _ [23] (by decide +kernel) (by decide +kernel)
set_option maxRecDepth 20000 in
theorem gX6_bend_X6_ones : GoodIn wsX6_bend (va_wsS RX6 152 yX6_ones wsX6_ones) := goodIn_app (goodIn_of _ (by decide +kernel)) ggX6_bend_X6_ones
theorem dX6_bend_0 : decode cX6_bend 0 = .ok (.aload_n 0, 1) := by decide +kernel
theorem dX6_bend_1 : decode cX6_bend 1 = .ok (.iload_n 1, 1) := by decide +kernel
theorem dX6_bend_2 : decode cX6_bend 2 = .ok (.invokevirtual 134, 3) := by decide +kernel
theorem dX6_bend_5 : decode cX6_bend 5 = .ok (.ifCond .ne 5, 3) := by decide +kernel
theorem dX6_bend_8 : decode cX6_bend 8 = .ok (.iconst (-1), 1) := by decide +kernel
theorem dX6_bend_9 : decode cX6_bend 9 = .ok (.ireturn, 1) := by decide +kernel
theorem dX6_bend_10 : decode cX6_bend 10 = .ok (.aload_n 0, 1) := by decide +kernel
theorem dX6_bend_11 : decode cX6_bend 11 = .ok (.getfield 22, 3) := by decide +kernel
theorem dX6_bend_14 : decode cX6_bend 14 = .ok (.bipush 14, 2) := by decide +kernel
theorem dX6_bend_16 : decode cX6_bend 16 = .ok (.iaload, 1) := by decide +kernel
theorem dX6_bend_17 : decode cX6_bend 17 = .ok (.iload_n 1, 1) := by decide +kernel
theorem dX6_bend_18 : decode cX6_bend 18 = .ok (.invokestatic 104, 3) := by decide +kernel
theorem dX6_bend_21 : decode cX6_bend 21 = .ok (.ifCond .eq 6, 3) := by decide +kernel
theorem dX6_bend_24 : decode cX6_bend 24 = .ok (.bipush (-3), 2) := by decide +kernel
theorem dX6_bend_26 : decode cX6_bend 26 = .ok (.ireturn, 1) := by decide +kernel
theorem dX6_bend_27 : decode cX6_bend 27 = .ok (.aload_n 0, 1) := by decide +kernel
theorem dX6_bend_28 : decode cX6_bend 28 = .ok (.invokevirtual 140, 3) := by decide +kernel
theorem dX6_bend_31 : decode cX6_bend 31 = .ok (.aload_n 0, 1) := by decide +kernel
theorem dX6_bend_32 : decode cX6_bend 32 = .ok (.getfield 22, 3) := by decide +kernel
theorem dX6_bend_35 : decode cX6_bend 35 = .ok (.bipush 14, 2) := by decide +kernel
theorem dX6_bend_37 : decode cX6_bend 37 = .ok (.dup2, 1) := by decide +kernel
theorem dX6_bend_38 : decode cX6_bend 38 = .ok (.iaload, 1) := by decide +kernel
theorem dX6_bend_39 : decode cX6_bend 39 = .ok (.iconst 1, 1) := by decide +kernel
theorem dX6_bend_40 : decode cX6_bend 40 = .ok (.iload_n 1, 1) := by decide +kernel
theorem dX6_bend_41 : decode cX6_bend 41 = .ok (.ishl, 1) := by decide +kernel
theorem dX6_bend_42 : decode cX6_bend 42 = .ok (.ior, 1) := by decide +kernel
theorem dX6_bend_43 : decode cX6_bend 43 = .ok (.iastore, 1) := by decide +kernel
theorem dX6_bend_44 : decode cX6_bend 44 = .ok (.aload_n 0, 1) := by decide +kernel
theorem dX6_bend_45 : decode cX6_bend 45 = .ok (.getfield 22, 3) := by decide +kernel
theorem dX6_bend_48 : decode cX6_bend 48 = .ok (.bipush 14, 2) := by decide +kernel
theorem dX6_bend_50 : decode cX6_bend 50 = .ok (.iaload, 1) := by decide +kernel
theorem dX6_bend_51 : decode cX6_bend 51 = .ok (.invokestatic 152, 3) := by decide +kernel
theorem dX6_bend_54 : decode cX6_bend 54 = .ok (.ireturn, 1) := by decide +kernel
set_option maxRecDepth 20000 in
theorem ggX6_hand_X6_isStreet : GoodIn wsX6_hand wsX6_isStreet := goodIn_r _ [5, 6, 7, 8, 4, 9] (by decide +kernel) (by decide +kernel)
set_option maxRecDepth 20000 in
theorem gX6_hand_X6_isStreet : GoodIn wsX6_hand (va_wsS RX6 127 yX6_isStreet wsX6_isStreet) := goodIn_app (goodIn_of _ (by decide +kernel)) ggX6_hand_X6_isStreet
set_option maxRecDepth 20000 in
theorem ggX6_hand_X6_keepAct : GoodIn wsX6_hand wsX6_keepAct := goodIn_r _ [13, 14, 15, 1, 16, 17, 18, 19, 20, 21, 22, 23, 24, 25, 26, 27, 28, 29, 30, 31, 32, 33, 34, 35, 36, 37, 38, 39, 40, 41, 42, 43] (by decide +kernel) (by decide +kernel)
set_option maxRecDepth 20000 in
theorem gX6_hand_X6_keepAct : GoodIn wsX6_hand (wsV RX6 140 RX6 yX6_keepAct wsX6_keepAct) := goodIn_app (goodIn_of _ (by decide +kernel)) ggX6_hand_X6_keepAct
theorem dX6_hand_0 : decode cX6_hand 0 = .ok (.iload_n 1, 1) := by decide +kernel
theorem dX6_hand_1 : decode cX6_hand 1 = .ok (.invokestatic 127, 3) := by decide +kernel
theorem dX6_hand_4 : decode cX6_hand 4 = .ok (.ifCond .ne 5, 3) := by decide +kernel
theorem dX6_hand_7 : decode cX6_hand 7 = .ok (.iconst (-1), 1) := by decide +kernel
theorem dX6_hand_8 : decode cX6_hand 8 = .ok (.ireturn, 1) := by decide +kernel
theorem dX6_hand_9 : decode cX6_hand 9 = .ok (.aload_n 0, 1) := by decide +kernel
theorem dX6_hand_10 : decode cX6_hand 10 = .ok (.getfield 22, 3) := by decide +kernel
theorem dX6_hand_13 : decode cX6_hand 13 = .ok (.iload_n 1, 1) := by decide +kernel
theorem dX6_hand_14 : decode cX6_hand 14 = .ok (.iaload, 1) := by decide +kernel
theorem dX6_hand_15 : decode cX6_hand 15 = .ok (.ifCond .ne 6, 3) := by decide +kernel
theorem dX6_hand_18 : decode cX6_hand 18 = .ok (.bipush (-3), 2) := by decide +kernel
theorem dX6_hand_20 : decode cX6_hand 20 = .ok (.ireturn, 1) := by decide +kernel
theorem dX6_hand_21 : decode cX6_hand 21 = .ok (.aload_n 0, 1) := by decide +kernel
theorem dX6_hand_22 : decode cX6_hand 22 = .ok (.invokevirtual 140, 3) := by decide +kernel
theorem dX6_hand_25 : decode cX6_hand 25 = .ok (.aload_n 0, 1) := by decide +kernel
theorem dX6_hand_26 : decode cX6_hand 26 = .ok (.getfield 22, 3) := by decide +kernel
theorem dX6_hand_29 : decode cX6_hand 29 = .ok (.iload_n 1, 1) := by decide +kernel
theorem dX6_hand_30 : decode cX6_hand 30 = .ok (.iaload, 1) := by decide +kernel
theorem dX6_hand_31 : decode cX6_hand 31 = .ok (.istore_n 2, 1) := by decide +kernel
theorem dX6_hand_32 : decode cX6_hand 32 = .ok (.aload_n 0, 1) := by decide +kernel
theorem dX6_hand_33 : decode cX6_hand 33 = .ok (.getfield 22, 3) := by decide +kernel
theorem dX6_hand_36 : decode cX6_hand 36 = .ok (.iload_n 1, 1) := by decide +kernel
theorem dX6_hand_37 : decode cX6_hand 37 = .ok (.iconst 0, 1) := by decide +kernel
theorem dX6_hand_38 : decode cX6_hand 38 = .ok (.iastore, 1) := by decide +kernel
theorem dX6_hand_39 : decode cX6_hand 39 = .ok (.iload_n 2, 1) := by decide +kernel
theorem dX6_hand_40 : decode cX6_hand 40 = .ok (.ireturn, 1) := by decide +kernel
theorem dX6_undo_0 : decode cX6_undo 0 = .ok (.aload_n 0, 1) := by decide +kernel
theorem dX6_undo_1 : decode cX6_undo 1 = .ok (.getfield 99, 3) := by decide +kernel
theorem dX6_undo_4 : decode cX6_undo 4 = .ok (.ifCond .ne 6, 3) := by decide +kernel
theorem dX6_undo_7 : decode cX6_undo 7 = .ok (.bipush (-3), 2) := by decide +kernel
theorem dX6_undo_9 : decode cX6_undo 9 = .ok (.ireturn, 1) := by decide +kernel
theorem dX6_undo_10 : decode cX6_undo 10 = .ok (.aload_n 0, 1) := by decide +kernel
theorem dX6_undo_11 : decode cX6_undo 11 = .ok (.dup, 1) := by decide +kernel
theorem dX6_undo_12 : decode cX6_undo 12 = .ok (.getfield 99, 3) := by decide +kernel
theorem dX6_undo_15 : decode cX6_undo 15 = .ok (.iconst 1, 1) := by decide +kernel
theorem dX6_undo_16 : decode cX6_undo 16 = .ok (.isub, 1) := by decide +kernel
theorem dX6_undo_17 : decode cX6_undo 17 = .ok (.putfield 99, 3) := by decide +kernel
theorem dX6_undo_20 : decode cX6_undo 20 = .ok (.aload_n 0, 1) := by decide +kernel
theorem dX6_undo_21 : decode cX6_undo 21 = .ok (.aload_n 0, 1) := by decide +kernel
theorem dX6_undo_22 : decode cX6_undo 22 = .ok (.getfield 137, 3) := by decide +kernel
theorem dX6_undo_25 : decode cX6_undo 25 = .ok (.bipush 13, 2) := by decide +kernel
theorem dX6_undo_27 : decode cX6_undo 27 = .ok (.iadd, 1) := by decide +kernel
theorem dX6_undo_28 : decode cX6_undo 28 = .ok (.bipush 14, 2) := by decide +kernel
theorem dX6_undo_30 : decode cX6_undo 30 = .ok (.irem, 1) := by decide +kernel
theorem dX6_undo_31 : decode cX6_undo 31 = .ok (.putfield 137, 3) := by decide +kernel
theorem dX6_undo_34 : decode cX6_undo 34 = .ok (.iconst 0, 1) := by decide +kernel
theorem dX6_undo_35 : decode cX6_undo 35 = .ok (.istore_n 1, 1) := by decide +kernel
theorem dX6_undo_36 : decode cX6_undo 36 = .ok (.iload_n 1, 1) := by decide +kernel
theorem dX6_undo_37 : decode cX6_undo 37 = .ok (.bipush 16, 2) := by decide +kernel
theorem dX6_undo_39 : decode cX6_undo 39 = .ok (.if_icmp .ge 29, 3) := by decide +kernel
theorem dX6_undo_42 : decode cX6_undo 42 = .ok (.aload_n 0, 1) := by decide +kernel
theorem dX6_undo_43 : decode cX6_undo 43 = .ok (.getfield 22, 3) := by decide +kernel
theorem dX6_undo_46 : decode cX6_undo 46 = .ok (.iload_n 1, 1) := by decide +kernel
theorem dX6_undo_47 : decode cX6_undo 47 = .ok (.aload_n 0, 1) := by decide +kernel
theorem dX6_undo_48 : decode cX6_undo 48 = .ok (.getfield 41, 3) := by decide +kernel
theorem dX6_undo_51 : decode cX6_undo 51 = .ok (.bipush 16, 2) := by decide +kernel
theorem dX6_undo_53 : decode cX6_undo 53 = .ok (.aload_n 0, 1) := by decide +kernel
theorem dX6_undo_54 : decode cX6_undo 54 = .ok (.getfield 137, 3) := by decide +kernel
theorem dX6_undo_57 : decode cX6_undo 57 = .ok (.imul, 1) := by decide +kernel
theorem dX6_undo_58 : decode cX6_undo 58 = .ok (.iload_n 1, 1) := by decide +kernel
theorem dX6_undo_59 : decode cX6_undo 59 = .ok (.iadd, 1) := by decide +kernel
theorem dX6_undo_60 : decode cX6_undo 60 = .ok (.iaload, 1) := by decide +kernel
theorem dX6_undo_61 : decode cX6_undo 61 = .ok (.iastore, 1) := by decide +kernel
theorem dX6_undo_62 : decode cX6_undo 62 = .ok (.iinc 1 1, 3) := by decide +kernel
theorem dX6_undo_65 : decode cX6_undo 65 = .ok (.goto (-29), 3) := by decide +kernel
theorem dX6_undo_68 : decode cX6_undo 68 = .ok (.aload_n 0, 1) := by decide +kernel
theorem dX6_undo_69 : decode cX6_undo 69 = .ok (.getfield 99, 3) := by decide +kernel
theorem dX6_undo_72 : decode cX6_undo 72 = .ok (.ireturn, 1) := by decide +kernel
theorem dX6_layTrial_0 : decode cX6_layTrial 0 = .ok (.iconst 0, 1) := by decide +kernel
theorem dX6_layTrial_1 : decode cX6_layTrial 1 = .ok (.istore_n 1, 1) := by decide +kernel
theorem dX6_layTrial_2 : decode cX6_layTrial 2 = .ok (.iload_n 1, 1) := by decide +kernel
theorem dX6_layTrial_3 : decode cX6_layTrial 3 = .ok (.bipush 16, 2) := by decide +kernel
theorem dX6_layTrial_5 : decode cX6_layTrial 5 = .ok (.if_icmp .ge 24, 3) := by decide +kernel
theorem dX6_layTrial_8 : decode cX6_layTrial 8 = .ok (.aload_n 0, 1) := by decide +kernel
theorem dX6_layTrial_9 : decode cX6_layTrial 9 = .ok (.getfield 22, 3) := by decide +kernel
theorem dX6_layTrial_12 : decode cX6_layTrial 12 = .ok (.bipush 16, 2) := by decide +kernel
theorem dX6_layTrial_14 : decode cX6_layTrial 14 = .ok (.iload_n 1, 1) := by decide +kernel
theorem dX6_layTrial_15 : decode cX6_layTrial 15 = .ok (.iadd, 1) := by decide +kernel
theorem dX6_layTrial_16 : decode cX6_layTrial 16 = .ok (.aload_n 0, 1) := by decide +kernel
theorem dX6_layTrial_17 : decode cX6_layTrial 17 = .ok (.getfield 22, 3) := by decide +kernel
theorem dX6_layTrial_20 : decode cX6_layTrial 20 = .ok (.iload_n 1, 1) := by decide +kernel
theorem dX6_layTrial_21 : decode cX6_layTrial 21 = .ok (.iaload, 1) := by decide +kernel
theorem dX6_layTrial_22 : decode cX6_layTrial 22 = .ok (.iastore, 1) := by decide +kernel
theorem dX6_layTrial_23 : decode cX6_layTrial 23 = .ok (.iinc 1 1, 3) := by decide +kernel
theorem dX6_layTrial_26 : decode cX6_layTrial 26 = .ok (.goto (-24), 3) := by decide +kernel
theorem dX6_layTrial_29 : decode cX6_layTrial 29 = .ok (.return_, 1) := by decide +kernel
set_option maxRecDepth 20000 in
theorem ggX6_goOn_X6_passOn : GoodIn wsX6_goOn wsX6_passOn := goodIn_r _ [5, 6, 7, 8, 9, 10, 11, 12, 13, 4, 14, 15, 16, 17, 18, 19, 20, 21, 22, 23, 24, 25, 26, 27, 28, 29, 30, 31, 32, 33, 34, 35, 36, 37, 38, 39, 40, 41, 42, 43, 44, 45, 46, 47, 48, 49, 50, 51, 52, 53, 54, 55, 56, 57, 58, 59, 60, 61, 62, 63] (by decide +kernel) (by decide +kernel)
set_option maxRecDepth 20000 in
theorem gX6_goOn_X6_passOn : GoodIn wsX6_goOn (wsV RX6 143 RX6 yX6_passOn wsX6_passOn) := goodIn_app (goodIn_of _ (by decide +kernel)) ggX6_goOn_X6_passOn
theorem dX6_goOn_0 : decode cX6_goOn 0 = .ok (.iconst 0, 1) := by decide +kernel
theorem dX6_goOn_1 : decode cX6_goOn 1 = .ok (.istore_n 2, 1) := by decide +kernel
theorem dX6_goOn_2 : decode cX6_goOn 2 = .ok (.iload_n 2, 1) := by decide +kernel
theorem dX6_goOn_3 : decode cX6_goOn 3 = .ok (.iload_n 1, 1) := by decide +kernel
theorem dX6_goOn_4 : decode cX6_goOn 4 = .ok (.if_icmp .ge 15, 3) := by decide +kernel
theorem dX6_goOn_7 : decode cX6_goOn 7 = .ok (.aload_n 0, 1) := by decide +kernel
theorem dX6_goOn_8 : decode cX6_goOn 8 = .ok (.iconst 1, 1) := by decide +kernel
theorem dX6_goOn_9 : decode cX6_goOn 9 = .ok (.iconst 1, 1) := by decide +kernel
theorem dX6_goOn_10 : decode cX6_goOn 10 = .ok (.invokevirtual 143, 3) := by decide +kernel
theorem dX6_goOn_13 : decode cX6_goOn 13 = .ok (.iinc 2 1, 3) := by decide +kernel
theorem dX6_goOn_16 : decode cX6_goOn 16 = .ok (.goto (-14), 3) := by decide +kernel
theorem dX6_goOn_19 : decode cX6_goOn 19 = .ok (.return_, 1) := by decide +kernel
set_option maxRecDepth 20000 in
theorem ggX6_dust_X6_isStreet : GoodIn wsX6_dust wsX6_isStreet := goodIn_r _ [6, 7, 8, 9, 5, 10] (by decide +kernel) (by decide +kernel)
set_option maxRecDepth 20000 in
theorem gX6_dust_X6_isStreet : GoodIn wsX6_dust (va_wsS RX6 127 yX6_isStreet wsX6_isStreet) := goodIn_app (goodIn_of _ (by decide +kernel)) ggX6_dust_X6_isStreet
set_option maxRecDepth 20000 in
theorem ggX6_dust_X6_in : GoodIn wsX6_dust wsX6_in := goodIn_r _ [10] (by decide +kernel) (by decide +kernel)
set_option maxRecDepth 20000 in
theorem gX6_dust_X6_in : GoodIn wsX6_dust (va_wsS RX6 62 yX6_in wsX6_in) := goodIn_app (goodIn_of _ (by decide +kernel)) ggX6_dust_X6_in
set_option maxRecDepth 20000 in
theorem ggX6_dust_X6_layTrial : GoodIn wsX6_dust wsX6_layTrial := goodIn_r _ [14, 2, 53, 54, 55, 56, 57, 58, 59, 60, 61, 62, 63, 64, 65, 66, 67, 68, 69, 70, 71, 72, 73, 74, 75, 76, 77, 78, 79] (by decide +kernel) (by decide +kernel)
set_option maxRecDepth 20000 in
theorem gX6_dust_X6_layTrial : GoodIn wsX6_dust (wsV RX6 157 RX6 yX6_layTrial wsX6_layTrial) := goodIn_app (goodIn_of _ (by decide +kernel)) ggX6_dust_X6_layTrial
set_option maxRecDepth 20000 in
theorem ggX6_dust_X6_goOn : GoodIn wsX6_dust wsX6_goOn := goodIn_r _ [18, 19, 20, 21, 5, 22, 23, 2, 24, 25, 26, 27, 28, 29, 30, 31, 32, 33, 34, 35, 36, 37, 38, 39, 40, 41, 42, 43, 44, 45, 46, 47, 48, 49, 50, 51, 52, 53, 54, 55, 56, 57, 58, 59, 60, 61, 62, 63, 64, 65, 66, 67, 68, 69, 70, 71, 72, 73, 74, 75, 76, 77, 78, 79] (by decide +kernel) (by decide +kernel)
set_option maxRecDepth 20000 in
theorem gX6_dust_X6_goOn : GoodIn wsX6_dust (wsV RX6 160 RX6 yX6_goOn wsX6_goOn) := goodIn_app (goodIn_of _ (by decide +kernel)) ggX6_dust_X6_goOn
theorem dX6_dust_0 : decode cX6_dust 0 = .ok (.iload_n 1, 1) := by decide +kernel
theorem dX6_dust_1 : decode cX6_dust 1 = .ok (.invokestatic 127, 3) := by decide +kernel
theorem dX6_dust_4 : decode cX6_dust 4 = .ok (.ifCond .ne 5, 3) := by decide +kernel
theorem dX6_dust_7 : decode cX6_dust 7 = .ok (.iconst (-1), 1) := by decide +kernel
theorem dX6_dust_8 : decode cX6_dust 8 = .ok (.ireturn, 1) := by decide +kernel
theorem dX6_dust_9 : decode cX6_dust 9 = .ok (.iload_n 2, 1) := by decide +kernel
theorem dX6_dust_10 : decode cX6_dust 10 = .ok (.i2l, 1) := by decide +kernel
theorem dX6_dust_11 : decode cX6_dust 11 = .ok (.lconst 0, 1) := by decide +kernel
theorem dX6_dust_12 : decode cX6_dust 12 = .ok (.ldc2_w 155, 3) := by decide +kernel
theorem dX6_dust_15 : decode cX6_dust 15 = .ok (.invokestatic 62, 3) := by decide +kernel
theorem dX6_dust_18 : decode cX6_dust 18 = .ok (.ifCond .ne 6, 3) := by decide +kernel
theorem dX6_dust_21 : decode cX6_dust 21 = .ok (.bipush (-2), 2) := by decide +kernel
theorem dX6_dust_23 : decode cX6_dust 23 = .ok (.ireturn, 1) := by decide +kernel
theorem dX6_dust_24 : decode cX6_dust 24 = .ok (.aload_n 0, 1) := by decide +kernel
theorem dX6_dust_25 : decode cX6_dust 25 = .ok (.invokevirtual 157, 3) := by decide +kernel
theorem dX6_dust_28 : decode cX6_dust 28 = .ok (.aload_n 0, 1) := by decide +kernel
theorem dX6_dust_29 : decode cX6_dust 29 = .ok (.iload_n 2, 1) := by decide +kernel
theorem dX6_dust_30 : decode cX6_dust 30 = .ok (.invokevirtual 160, 3) := by decide +kernel
theorem dX6_dust_33 : decode cX6_dust 33 = .ok (.aload_n 0, 1) := by decide +kernel
theorem dX6_dust_34 : decode cX6_dust 34 = .ok (.getfield 22, 3) := by decide +kernel
theorem dX6_dust_37 : decode cX6_dust 37 = .ok (.bipush 16, 2) := by decide +kernel
theorem dX6_dust_39 : decode cX6_dust 39 = .ok (.iload_n 1, 1) := by decide +kernel
theorem dX6_dust_40 : decode cX6_dust 40 = .ok (.iadd, 1) := by decide +kernel
theorem dX6_dust_41 : decode cX6_dust 41 = .ok (.iaload, 1) := by decide +kernel
theorem dX6_dust_42 : decode cX6_dust 42 = .ok (.ireturn, 1) := by decide +kernel
set_option maxRecDepth 20000 in
theorem ggX6_knees_X6_in : GoodIn wsX6_knees wsX6_in := goodIn_r _ [5] (by decide +kernel) (by decide +kernel)
set_option maxRecDepth 20000 in
theorem gX6_knees_X6_in : GoodIn wsX6_knees (va_wsS RX6 62 yX6_in wsX6_in) := goodIn_app (goodIn_of _ (by decide +kernel)) ggX6_knees_X6_in
set_option maxRecDepth 20000 in
theorem ggX6_knees_X6_layTrial : GoodIn wsX6_knees wsX6_layTrial := goodIn_r _ [9, 10, 49, 50, 51, 52, 53, 54, 55, 56, 57, 58, 59, 60, 61, 62, 63, 64, 65, 66, 67, 68, 69, 70, 71, 72, 73, 74, 75] (by decide +kernel) (by decide +kernel)
set_option maxRecDepth 20000 in
theorem gX6_knees_X6_layTrial : GoodIn wsX6_knees (wsV RX6 157 RX6 yX6_layTrial wsX6_layTrial) := goodIn_app (goodIn_of _ (by decide +kernel)) ggX6_knees_X6_layTrial
set_option maxRecDepth 20000 in
theorem ggX6_knees_X6_goOn : GoodIn wsX6_knees wsX6_goOn := goodIn_r _ [14, 15, 16, 17, 4, 18, 19, 10, 20, 21, 22, 23, 24, 25, 26, 27, 28, 29, 30, 31, 32, 33, 34, 35, 36, 37, 38, 39, 40, 41, 42, 43, 44, 45, 46, 47, 48, 49, 50, 51, 52, 53, 54, 55, 56, 57, 58, 59, 60, 61, 62, 63, 64, 65, 66, 67, 68, 69, 70, 71, 72, 73, 74, 75] (by decide +kernel) (by decide +kernel)
set_option maxRecDepth 20000 in
theorem gX6_knees_X6_goOn : GoodIn wsX6_knees (wsV RX6 160 RX6 yX6_goOn wsX6_goOn) := goodIn_app (goodIn_of _ (by decide +kernel)) ggX6_knees_X6_goOn
set_option maxRecDepth 20000 in
theorem ggX6_knees_X6_kneesOn : GoodIn wsX6_knees wsX6_kneesOn := goodIn_r _ [48, 10, 49, 50, 51, 52, 53, 54, 55, 56, 57, 58, 59, 60, 61, 62, 63, 64, 65, 66, 67, 68, 69, 70, 71, 72, 73, 74, 75] (by decide +kernel) (by decide +kernel)
set_option maxRecDepth 20000 in
theorem gX6_knees_X6_kneesOn : GoodIn wsX6_knees (wsV RX6 123 RX6 yX6_kneesOn wsX6_kneesOn) := goodIn_app (goodIn_of _ (by decide +kernel)) ggX6_knees_X6_kneesOn
theorem dX6_knees_0 : decode cX6_knees 0 = .ok (.iload_n 1, 1) := by decide +kernel
theorem dX6_knees_1 : decode cX6_knees 1 = .ok (.i2l, 1) := by decide +kernel
theorem dX6_knees_2 : decode cX6_knees 2 = .ok (.lconst 0, 1) := by decide +kernel
theorem dX6_knees_3 : decode cX6_knees 3 = .ok (.ldc2_w 155, 3) := by decide +kernel
theorem dX6_knees_6 : decode cX6_knees 6 = .ok (.invokestatic 62, 3) := by decide +kernel
theorem dX6_knees_9 : decode cX6_knees 9 = .ok (.ifCond .ne 6, 3) := by decide +kernel
theorem dX6_knees_12 : decode cX6_knees 12 = .ok (.bipush (-2), 2) := by decide +kernel
theorem dX6_knees_14 : decode cX6_knees 14 = .ok (.ireturn, 1) := by decide +kernel
theorem dX6_knees_15 : decode cX6_knees 15 = .ok (.aload_n 0, 1) := by decide +kernel
theorem dX6_knees_16 : decode cX6_knees 16 = .ok (.invokevirtual 157, 3) := by decide +kernel
theorem dX6_knees_19 : decode cX6_knees 19 = .ok (.aload_n 0, 1) := by decide +kernel
theorem dX6_knees_20 : decode cX6_knees 20 = .ok (.iload_n 1, 1) := by decide +kernel
theorem dX6_knees_21 : decode cX6_knees 21 = .ok (.invokevirtual 160, 3) := by decide +kernel
theorem dX6_knees_24 : decode cX6_knees 24 = .ok (.aload_n 0, 1) := by decide +kernel
theorem dX6_knees_25 : decode cX6_knees 25 = .ok (.iconst 1, 1) := by decide +kernel
theorem dX6_knees_26 : decode cX6_knees 26 = .ok (.invokevirtual 123, 3) := by decide +kernel
theorem dX6_knees_29 : decode cX6_knees 29 = .ok (.ireturn, 1) := by decide +kernel
set_option maxRecDepth 20000 in
theorem ggX6_leastOf_X6_has : GoodIn wsX6_leastOf wsX6_has := goodIn_r _ [4] (by decide +kernel) (by decide +kernel)
set_option maxRecDepth 20000 in
theorem gX6_leastOf_X6_has : GoodIn wsX6_leastOf (va_wsS RX6 104 yX6_has wsX6_has) := goodIn_app (goodIn_of _ (by decide +kernel)) ggX6_leastOf_X6_has
theorem dX6_leastOf_0 : decode cX6_leastOf 0 = .ok (.iconst 0, 1) := by decide +kernel
theorem dX6_leastOf_1 : decode cX6_leastOf 1 = .ok (.istore_n 1, 1) := by decide +kernel
theorem dX6_leastOf_2 : decode cX6_leastOf 2 = .ok (.iload_n 1, 1) := by decide +kernel
theorem dX6_leastOf_3 : decode cX6_leastOf 3 = .ok (.bipush 8, 2) := by decide +kernel
theorem dX6_leastOf_5 : decode cX6_leastOf 5 = .ok (.if_icmp .ge 19, 3) := by decide +kernel
theorem dX6_leastOf_8 : decode cX6_leastOf 8 = .ok (.iload_n 0, 1) := by decide +kernel
theorem dX6_leastOf_9 : decode cX6_leastOf 9 = .ok (.iload_n 1, 1) := by decide +kernel
theorem dX6_leastOf_10 : decode cX6_leastOf 10 = .ok (.invokestatic 104, 3) := by decide +kernel
theorem dX6_leastOf_13 : decode cX6_leastOf 13 = .ok (.ifCond .eq 5, 3) := by decide +kernel
theorem dX6_leastOf_16 : decode cX6_leastOf 16 = .ok (.iload_n 1, 1) := by decide +kernel
theorem dX6_leastOf_17 : decode cX6_leastOf 17 = .ok (.ireturn, 1) := by decide +kernel
theorem dX6_leastOf_18 : decode cX6_leastOf 18 = .ok (.iinc 1 1, 3) := by decide +kernel
theorem dX6_leastOf_21 : decode cX6_leastOf 21 = .ok (.goto (-19), 3) := by decide +kernel
theorem dX6_leastOf_24 : decode cX6_leastOf 24 = .ok (.bipush (-9), 2) := by decide +kernel
theorem dX6_leastOf_26 : decode cX6_leastOf 26 = .ok (.ireturn, 1) := by decide +kernel
set_option maxRecDepth 20000 in
theorem ggX6_knee_X6_in : GoodIn wsX6_knee wsX6_in := goodIn_r _ [4] (by decide +kernel) (by decide +kernel)
set_option maxRecDepth 20000 in
theorem gX6_knee_X6_in : GoodIn wsX6_knee (va_wsS RX6 62 yX6_in wsX6_in) := goodIn_app (goodIn_of _ (by decide +kernel)) ggX6_knee_X6_in
set_option maxRecDepth 20000 in
theorem ggX6_knee_X6_layTrial : GoodIn wsX6_knee wsX6_layTrial := goodIn_r _ [8, 9, 47, 48, 49, 50, 51, 52, 53, 54, 55, 56, 57, 58, 59, 60, 61, 62, 63, 64, 65, 66, 67, 68, 69, 70, 71, 72, 73] (by decide +kernel) (by decide +kernel)
set_option maxRecDepth 20000 in
theorem gX6_knee_X6_layTrial : GoodIn wsX6_knee (wsV RX6 157 RX6 yX6_layTrial wsX6_layTrial) := goodIn_app (goodIn_of _ (by decide +kernel)) ggX6_knee_X6_layTrial
set_option maxRecDepth 20000 in
theorem ggX6_knee_X6_kneesOn : GoodIn wsX6_knee wsX6_kneesOn := goodIn_r _ [13, 9, 47, 48, 49, 50, 51, 52, 53, 54, 55, 56, 57, 58, 59, 60, 61, 62, 63, 64, 65, 66, 67, 68, 69, 70, 71, 72, 73] (by decide +kernel) (by decide +kernel)
set_option maxRecDepth 20000 in
theorem gX6_knee_X6_kneesOn : GoodIn wsX6_knee (wsV RX6 123 RX6 yX6_kneesOn wsX6_kneesOn) := goodIn_app (goodIn_of _ (by decide +kernel)) ggX6_knee_X6_kneesOn
set_option maxRecDepth 20000 in
theorem ggX6_knee_X6_leastOf : GoodIn wsX6_knee wsX6_leastOf := goodIn_r _ [16, 17, 18, 3, 19] (by decide +kernel) (by decide +kernel)
set_option maxRecDepth 20000 in
theorem gX6_knee_X6_leastOf : GoodIn wsX6_knee (va_wsS RX6 163 yX6_leastOf wsX6_leastOf) := goodIn_app (goodIn_of _ (by decide +kernel)) ggX6_knee_X6_leastOf
set_option maxRecDepth 20000 in
theorem ggX6_knee_X6_passOn : GoodIn wsX6_knee wsX6_passOn := goodIn_r _ [23, 24, 9, 25, 26, 27, 28, 29, 30, 3, 31, 32, 33, 34, 35, 36, 37, 38, 39, 40, 41, 42, 17, 18, 19, 43, 44, 45, 46, 10, 11, 12, 13, 47, 48, 49, 50, 51, 52, 53, 54, 55, 56, 57, 58, 59, 60, 61, 62, 63, 64, 65, 66, 67, 68, 69, 70, 71, 72, 73] (by decide +kernel) (by decide +kernel)
set_option maxRecDepth 20000 in
theorem gX6_knee_X6_passOn : GoodIn wsX6_knee (wsV RX6 143 RX6 yX6_passOn wsX6_passOn) := goodIn_app (goodIn_of _ (by decide +kernel)) ggX6_knee_X6_passOn
theorem dX6_knee_0 : decode cX6_knee 0 = .ok (.iload_n 1, 1) := by decide +kernel
theorem dX6_knee_1 : decode cX6_knee 1 = .ok (.i2l, 1) := by decide +kernel
theorem dX6_knee_2 : decode cX6_knee 2 = .ok (.lconst 0, 1) := by decide +kernel
theorem dX6_knee_3 : decode cX6_knee 3 = .ok (.lconst 1, 1) := by decide +kernel
theorem dX6_knee_4 : decode cX6_knee 4 = .ok (.invokestatic 62, 3) := by decide +kernel
theorem dX6_knee_7 : decode cX6_knee 7 = .ok (.ifCond .ne 6, 3) := by decide +kernel
theorem dX6_knee_10 : decode cX6_knee 10 = .ok (.bipush (-2), 2) := by decide +kernel
theorem dX6_knee_12 : decode cX6_knee 12 = .ok (.ireturn, 1) := by decide +kernel
theorem dX6_knee_13 : decode cX6_knee 13 = .ok (.aload_n 0, 1) := by decide +kernel
theorem dX6_knee_14 : decode cX6_knee 14 = .ok (.invokevirtual 157, 3) := by decide +kernel
theorem dX6_knee_17 : decode cX6_knee 17 = .ok (.iconst 0, 1) := by decide +kernel
theorem dX6_knee_18 : decode cX6_knee 18 = .ok (.istore_n 2, 1) := by decide +kernel
theorem dX6_knee_19 : decode cX6_knee 19 = .ok (.iload_n 2, 1) := by decide +kernel
theorem dX6_knee_20 : decode cX6_knee 20 = .ok (.bipush 31, 2) := by decide +kernel
theorem dX6_knee_22 : decode cX6_knee 22 = .ok (.if_icmp .ge 38, 3) := by decide +kernel
theorem dX6_knee_25 : decode cX6_knee 25 = .ok (.aload_n 0, 1) := by decide +kernel
theorem dX6_knee_26 : decode cX6_knee 26 = .ok (.iconst 1, 1) := by decide +kernel
theorem dX6_knee_27 : decode cX6_knee 27 = .ok (.invokevirtual 123, 3) := by decide +kernel
theorem dX6_knee_30 : decode cX6_knee 30 = .ok (.istore_n 3, 1) := by decide +kernel
theorem dX6_knee_31 : decode cX6_knee 31 = .ok (.iload_n 3, 1) := by decide +kernel
theorem dX6_knee_32 : decode cX6_knee 32 = .ok (.ifCond .eq 16, 3) := by decide +kernel
theorem dX6_knee_35 : decode cX6_knee 35 = .ok (.iload_n 1, 1) := by decide +kernel
theorem dX6_knee_36 : decode cX6_knee 36 = .ok (.ifCond .ne 7, 3) := by decide +kernel
theorem dX6_knee_39 : decode cX6_knee 39 = .ok (.iload_n 2, 1) := by decide +kernel
theorem dX6_knee_40 : decode cX6_knee 40 = .ok (.goto 7, 3) := by decide +kernel
theorem dX6_knee_43 : decode cX6_knee 43 = .ok (.iload_n 3, 1) := by decide +kernel
theorem dX6_knee_44 : decode cX6_knee 44 = .ok (.invokestatic 163, 3) := by decide +kernel
theorem dX6_knee_47 : decode cX6_knee 47 = .ok (.ireturn, 1) := by decide +kernel
theorem dX6_knee_48 : decode cX6_knee 48 = .ok (.aload_n 0, 1) := by decide +kernel
theorem dX6_knee_49 : decode cX6_knee 49 = .ok (.iconst 1, 1) := by decide +kernel
theorem dX6_knee_50 : decode cX6_knee 50 = .ok (.iconst 1, 1) := by decide +kernel
theorem dX6_knee_51 : decode cX6_knee 51 = .ok (.invokevirtual 143, 3) := by decide +kernel
theorem dX6_knee_54 : decode cX6_knee 54 = .ok (.iinc 2 1, 3) := by decide +kernel
theorem dX6_knee_57 : decode cX6_knee 57 = .ok (.goto (-38), 3) := by decide +kernel
theorem dX6_knee_60 : decode cX6_knee 60 = .ok (.bipush (-9), 2) := by decide +kernel
theorem dX6_knee_62 : decode cX6_knee 62 = .ok (.ireturn, 1) := by decide +kernel
set_option maxRecDepth 20000 in
theorem ggX6_best_X6_isBroom : GoodIn wsX6_best wsX6_isBroom := goodIn_r _ [7, 8, 9, 10, 6, 11, 57, 58, 59, 60, 61, 62, 63, 64, 65, 66, 67, 68, 69, 70, 71, 72, 73, 74, 75, 76, 77, 78, 79, 80, 81, 82, 83] (by decide +kernel) (by decide +kernel)
set_option maxRecDepth 20000 in
theorem gX6_best_X6_isBroom : GoodIn wsX6_best (wsV RX6 134 RX6 yX6_isBroom wsX6_isBroom) := goodIn_app (goodIn_of _ (by decide +kernel)) ggX6_best_X6_isBroom
set_option maxRecDepth 20000 in
theorem ggX6_best_X6_in : GoodIn wsX6_best wsX6_in := goodIn_r _ [11] (by decide +kernel) (by decide +kernel)
set_option maxRecDepth 20000 in
theorem gX6_best_X6_in : GoodIn wsX6_best (va_wsS RX6 62 yX6_in wsX6_in) := goodIn_app (goodIn_of _ (by decide +kernel)) ggX6_best_X6_in
set_option maxRecDepth 20000 in
theorem ggX6_best_X6_layTrial : GoodIn wsX6_best wsX6_layTrial := goodIn_r _ [15, 2, 57, 58, 59, 60, 61, 62, 63, 64, 65, 66, 67, 68, 69, 70, 71, 72, 73, 74, 75, 76, 77, 78, 79, 80, 81, 82, 83] (by decide +kernel) (by decide +kernel)
set_option maxRecDepth 20000 in
theorem gX6_best_X6_layTrial : GoodIn wsX6_best (wsV RX6 157 RX6 yX6_layTrial wsX6_layTrial) := goodIn_app (goodIn_of _ (by decide +kernel)) ggX6_best_X6_layTrial
set_option maxRecDepth 20000 in
theorem ggX6_best_X6_goOn : GoodIn wsX6_best wsX6_goOn := goodIn_r _ [19, 20, 21, 22, 6, 23, 24, 2, 25, 26, 8, 27, 28, 29, 30, 31, 32, 33, 34, 35, 36, 37, 38, 39, 40, 41, 42, 43, 44, 45, 46, 47, 48, 49, 50, 51, 52, 57, 58, 59, 60, 61, 62, 63, 64, 65, 66, 67, 68, 69, 70, 71, 72, 73, 74, 75, 76, 77, 78, 79, 80, 81, 82, 83] (by decide +kernel) (by decide +kernel)
set_option maxRecDepth 20000 in
theorem gX6_best_X6_goOn : GoodIn wsX6_best (wsV RX6 160 RX6 yX6_goOn wsX6_goOn) := goodIn_app (goodIn_of _ (by decide +kernel)) ggX6_best_X6_goOn
set_option maxRecDepth 20000 in
theorem ggX6_best_X6_dustOn : GoodIn wsX6_best wsX6_dustOn := goodIn_r _ [56, 2, 57, 58, 59, 60, 61, 62, 63, 64, 65, 66, 67, 68, 69, 70, 71, 72, 73, 74, 75, 76, 77, 78, 79, 80, 81, 82, 83] (by decide +kernel) (by decide +kernel)
set_option maxRecDepth 20000 in
theorem gX6_best_X6_dustOn : GoodIn wsX6_best (wsV RX6 146 RX6 yX6_dustOn wsX6_dustOn) := goodIn_app (goodIn_of _ (by decide +kernel)) ggX6_best_X6_dustOn
theorem dX6_best_0 : decode cX6_best 0 = .ok (.aload_n 0, 1) := by decide +kernel
theorem dX6_best_1 : decode cX6_best 1 = .ok (.iload_n 1, 1) := by decide +kernel
theorem dX6_best_2 : decode cX6_best 2 = .ok (.invokevirtual 134, 3) := by decide +kernel
theorem dX6_best_5 : decode cX6_best 5 = .ok (.ifCond .ne 5, 3) := by decide +kernel
theorem dX6_best_8 : decode cX6_best 8 = .ok (.iconst (-1), 1) := by decide +kernel
theorem dX6_best_9 : decode cX6_best 9 = .ok (.ireturn, 1) := by decide +kernel
theorem dX6_best_10 : decode cX6_best 10 = .ok (.iload_n 2, 1) := by decide +kernel
theorem dX6_best_11 : decode cX6_best 11 = .ok (.i2l, 1) := by decide +kernel
theorem dX6_best_12 : decode cX6_best 12 = .ok (.lconst 1, 1) := by decide +kernel
theorem dX6_best_13 : decode cX6_best 13 = .ok (.ldc2_w 166, 3) := by decide +kernel
theorem dX6_best_16 : decode cX6_best 16 = .ok (.invokestatic 62, 3) := by decide +kernel
theorem dX6_best_19 : decode cX6_best 19 = .ok (.ifCond .eq 13, 3) := by decide +kernel
theorem dX6_best_22 : decode cX6_best 22 = .ok (.iload_n 3, 1) := by decide +kernel
theorem dX6_best_23 : decode cX6_best 23 = .ok (.i2l, 1) := by decide +kernel
theorem dX6_best_24 : decode cX6_best 24 = .ok (.lconst 0, 1) := by decide +kernel
theorem dX6_best_25 : decode cX6_best 25 = .ok (.lconst 1, 1) := by decide +kernel
theorem dX6_best_26 : decode cX6_best 26 = .ok (.invokestatic 62, 3) := by decide +kernel
theorem dX6_best_29 : decode cX6_best 29 = .ok (.ifCond .ne 6, 3) := by decide +kernel
theorem dX6_best_32 : decode cX6_best 32 = .ok (.bipush (-2), 2) := by decide +kernel
theorem dX6_best_34 : decode cX6_best 34 = .ok (.ireturn, 1) := by decide +kernel
theorem dX6_best_35 : decode cX6_best 35 = .ok (.bipush (-9), 2) := by decide +kernel
theorem dX6_best_37 : decode cX6_best 37 = .ok (.istore 4, 2) := by decide +kernel
theorem dX6_best_39 : decode cX6_best 39 = .ok (.sipush 9999, 3) := by decide +kernel
theorem dX6_best_42 : decode cX6_best 42 = .ok (.istore 5, 2) := by decide +kernel
theorem dX6_best_44 : decode cX6_best 44 = .ok (.iconst 0, 1) := by decide +kernel
theorem dX6_best_45 : decode cX6_best 45 = .ok (.istore 6, 2) := by decide +kernel
theorem dX6_best_47 : decode cX6_best 47 = .ok (.iload 6, 2) := by decide +kernel
theorem dX6_best_49 : decode cX6_best 49 = .ok (.bipush 8, 2) := by decide +kernel
theorem dX6_best_51 : decode cX6_best 51 = .ok (.if_icmp .ge 68, 3) := by decide +kernel
theorem dX6_best_54 : decode cX6_best 54 = .ok (.aload_n 0, 1) := by decide +kernel
theorem dX6_best_55 : decode cX6_best 55 = .ok (.invokevirtual 157, 3) := by decide +kernel
theorem dX6_best_58 : decode cX6_best 58 = .ok (.aload_n 0, 1) := by decide +kernel
theorem dX6_best_59 : decode cX6_best 59 = .ok (.getfield 22, 3) := by decide +kernel
theorem dX6_best_62 : decode cX6_best 62 = .ok (.bipush 24, 2) := by decide +kernel
theorem dX6_best_64 : decode cX6_best 64 = .ok (.iload_n 1, 1) := by decide +kernel
theorem dX6_best_65 : decode cX6_best 65 = .ok (.iadd, 1) := by decide +kernel
theorem dX6_best_66 : decode cX6_best 66 = .ok (.iload 6, 2) := by decide +kernel
theorem dX6_best_68 : decode cX6_best 68 = .ok (.iastore, 1) := by decide +kernel
theorem dX6_best_69 : decode cX6_best 69 = .ok (.aload_n 0, 1) := by decide +kernel
theorem dX6_best_70 : decode cX6_best 70 = .ok (.iload_n 2, 1) := by decide +kernel
theorem dX6_best_71 : decode cX6_best 71 = .ok (.invokevirtual 160, 3) := by decide +kernel
theorem dX6_best_74 : decode cX6_best 74 = .ok (.aload_n 0, 1) := by decide +kernel
theorem dX6_best_75 : decode cX6_best 75 = .ok (.iconst 1, 1) := by decide +kernel
theorem dX6_best_76 : decode cX6_best 76 = .ok (.invokevirtual 146, 3) := by decide +kernel
theorem dX6_best_79 : decode cX6_best 79 = .ok (.istore 7, 2) := by decide +kernel
theorem dX6_best_81 : decode cX6_best 81 = .ok (.iload 7, 2) := by decide +kernel
theorem dX6_best_83 : decode cX6_best 83 = .ok (.iload 5, 2) := by decide +kernel
theorem dX6_best_85 : decode cX6_best 85 = .ok (.if_icmp .ge 8, 3) := by decide +kernel
theorem dX6_best_88 : decode cX6_best 88 = .ok (.iload 6, 2) := by decide +kernel
theorem dX6_best_90 : decode cX6_best 90 = .ok (.goto 5, 3) := by decide +kernel
theorem dX6_best_93 : decode cX6_best 93 = .ok (.iload 4, 2) := by decide +kernel
theorem dX6_best_95 : decode cX6_best 95 = .ok (.istore 4, 2) := by decide +kernel
theorem dX6_best_97 : decode cX6_best 97 = .ok (.iload 7, 2) := by decide +kernel
theorem dX6_best_99 : decode cX6_best 99 = .ok (.iload 5, 2) := by decide +kernel
theorem dX6_best_101 : decode cX6_best 101 = .ok (.if_icmp .ge 8, 3) := by decide +kernel
theorem dX6_best_104 : decode cX6_best 104 = .ok (.iload 7, 2) := by decide +kernel
theorem dX6_best_106 : decode cX6_best 106 = .ok (.goto 5, 3) := by decide +kernel
theorem dX6_best_109 : decode cX6_best 109 = .ok (.iload 5, 2) := by decide +kernel
theorem dX6_best_111 : decode cX6_best 111 = .ok (.istore 5, 2) := by decide +kernel
theorem dX6_best_113 : decode cX6_best 113 = .ok (.iinc 6 1, 3) := by decide +kernel
theorem dX6_best_116 : decode cX6_best 116 = .ok (.goto (-69), 3) := by decide +kernel
theorem dX6_best_119 : decode cX6_best 119 = .ok (.iload_n 3, 1) := by decide +kernel
theorem dX6_best_120 : decode cX6_best 120 = .ok (.ifCond .ne 8, 3) := by decide +kernel
theorem dX6_best_123 : decode cX6_best 123 = .ok (.iload 4, 2) := by decide +kernel
theorem dX6_best_125 : decode cX6_best 125 = .ok (.goto 5, 3) := by decide +kernel
theorem dX6_best_128 : decode cX6_best 128 = .ok (.iload 5, 2) := by decide +kernel
theorem dX6_best_130 : decode cX6_best 130 = .ok (.ireturn, 1) := by decide +kernel
set_option maxRecDepth 20000 in
theorem ggX6_keepsBelow_X6_layTrial : GoodIn wsX6_keepsBelow wsX6_layTrial := goodIn_r _ [6, 1, 41, 42, 43, 44, 45, 46, 47, 48, 49, 50, 51, 52, 53, 54, 55, 56, 57, 58, 59, 60, 61, 62, 63, 64, 65, 66, 67] (by decide +kernel) (by decide +kernel)
set_option maxRecDepth 20000 in
theorem gX6_keepsBelow_X6_layTrial : GoodIn wsX6_keepsBelow (wsV RX6 157 RX6 yX6_layTrial wsX6_layTrial) := goodIn_app (goodIn_of _ (by decide +kernel)) ggX6_keepsBelow_X6_layTrial
set_option maxRecDepth 20000 in
theorem ggX6_keepsBelow_X6_passOn : GoodIn wsX6_keepsBelow wsX6_passOn := goodIn_r _ [10, 11, 1, 12, 13, 14, 15, 16, 17, 5, 18, 19, 20, 21, 22, 23, 24, 25, 26, 27, 28, 29, 30, 31, 32, 33, 34, 35, 36, 37, 38, 39, 40, 41, 42, 43, 44, 45, 46, 47, 48, 49, 50, 51, 52, 53, 54, 55, 56, 57, 58, 59, 60, 61, 62, 63, 64, 65, 66, 67] (by decide +kernel) (by decide +kernel)
set_option maxRecDepth 20000 in
theorem gX6_keepsBelow_X6_passOn : GoodIn wsX6_keepsBelow (wsV RX6 143 RX6 yX6_passOn wsX6_passOn) := goodIn_app (goodIn_of _ (by decide +kernel)) ggX6_keepsBelow_X6_passOn
set_option maxRecDepth 20000 in
theorem ggX6_keepsBelow_X6_kneesOn : GoodIn wsX6_keepsBelow wsX6_kneesOn := goodIn_r _ [40, 1, 41, 42, 43, 44, 45, 46, 47, 48, 49, 50, 51, 52, 53, 54, 55, 56, 57, 58, 59, 60, 61, 62, 63, 64, 65, 66, 67] (by decide +kernel) (by decide +kernel)
set_option maxRecDepth 20000 in
theorem gX6_keepsBelow_X6_kneesOn : GoodIn wsX6_keepsBelow (wsV RX6 123 RX6 yX6_kneesOn wsX6_kneesOn) := goodIn_app (goodIn_of _ (by decide +kernel)) ggX6_keepsBelow_X6_kneesOn
theorem dX6_keepsBelow_0 : decode cX6_keepsBelow 0 = .ok (.aload_n 0, 1) := by decide +kernel
theorem dX6_keepsBelow_1 : decode cX6_keepsBelow 1 = .ok (.invokevirtual 157, 3) := by decide +kernel
theorem dX6_keepsBelow_4 : decode cX6_keepsBelow 4 = .ok (.aload_n 0, 1) := by decide +kernel
theorem dX6_keepsBelow_5 : decode cX6_keepsBelow 5 = .ok (.getfield 22, 3) := by decide +kernel
theorem dX6_keepsBelow_8 : decode cX6_keepsBelow 8 = .ok (.bipush 30, 2) := by decide +kernel
theorem dX6_keepsBelow_10 : decode cX6_keepsBelow 10 = .ok (.dup2, 1) := by decide +kernel
theorem dX6_keepsBelow_11 : decode cX6_keepsBelow 11 = .ok (.iaload, 1) := by decide +kernel
theorem dX6_keepsBelow_12 : decode cX6_keepsBelow 12 = .ok (.iload_n 1, 1) := by decide +kernel
theorem dX6_keepsBelow_13 : decode cX6_keepsBelow 13 = .ok (.ior, 1) := by decide +kernel
theorem dX6_keepsBelow_14 : decode cX6_keepsBelow 14 = .ok (.iastore, 1) := by decide +kernel
theorem dX6_keepsBelow_15 : decode cX6_keepsBelow 15 = .ok (.iconst 0, 1) := by decide +kernel
theorem dX6_keepsBelow_16 : decode cX6_keepsBelow 16 = .ok (.istore_n 3, 1) := by decide +kernel
theorem dX6_keepsBelow_17 : decode cX6_keepsBelow 17 = .ok (.iload_n 3, 1) := by decide +kernel
theorem dX6_keepsBelow_18 : decode cX6_keepsBelow 18 = .ok (.iload_n 2, 1) := by decide +kernel
theorem dX6_keepsBelow_19 : decode cX6_keepsBelow 19 = .ok (.if_icmp .ge 25, 3) := by decide +kernel
theorem dX6_keepsBelow_22 : decode cX6_keepsBelow 22 = .ok (.aload_n 0, 1) := by decide +kernel
theorem dX6_keepsBelow_23 : decode cX6_keepsBelow 23 = .ok (.iconst 1, 1) := by decide +kernel
theorem dX6_keepsBelow_24 : decode cX6_keepsBelow 24 = .ok (.iconst 1, 1) := by decide +kernel
theorem dX6_keepsBelow_25 : decode cX6_keepsBelow 25 = .ok (.invokevirtual 143, 3) := by decide +kernel
theorem dX6_keepsBelow_28 : decode cX6_keepsBelow 28 = .ok (.aload_n 0, 1) := by decide +kernel
theorem dX6_keepsBelow_29 : decode cX6_keepsBelow 29 = .ok (.iconst 1, 1) := by decide +kernel
theorem dX6_keepsBelow_30 : decode cX6_keepsBelow 30 = .ok (.invokevirtual 123, 3) := by decide +kernel
theorem dX6_keepsBelow_33 : decode cX6_keepsBelow 33 = .ok (.ifCond .eq 5, 3) := by decide +kernel
theorem dX6_keepsBelow_36 : decode cX6_keepsBelow 36 = .ok (.iconst 0, 1) := by decide +kernel
theorem dX6_keepsBelow_37 : decode cX6_keepsBelow 37 = .ok (.ireturn, 1) := by decide +kernel
theorem dX6_keepsBelow_38 : decode cX6_keepsBelow 38 = .ok (.iinc 3 1, 3) := by decide +kernel
theorem dX6_keepsBelow_41 : decode cX6_keepsBelow 41 = .ok (.goto (-24), 3) := by decide +kernel
theorem dX6_keepsBelow_44 : decode cX6_keepsBelow 44 = .ok (.iconst 1, 1) := by decide +kernel
theorem dX6_keepsBelow_45 : decode cX6_keepsBelow 45 = .ok (.ireturn, 1) := by decide +kernel
set_option maxRecDepth 20000 in
theorem ggX6_bends_X6_in : GoodIn wsX6_bends wsX6_in := goodIn_r _ [7] (by decide +kernel) (by decide +kernel)
set_option maxRecDepth 20000 in
theorem gX6_bends_X6_in : GoodIn wsX6_bends (va_wsS RX6 62 yX6_in wsX6_in) := goodIn_app (goodIn_of _ (by decide +kernel)) ggX6_bends_X6_in
set_option maxRecDepth 20000 in
theorem ggX6_bends_X6_ones : GoodIn wsX6_bends wsX6_ones := goodIn_r _ [10] (by decide +kernel) (by decide +kernel)
set_option maxRecDepth 20000 in
theorem gX6_bends_X6_ones : GoodIn wsX6_bends (va_wsS RX6 152 yX6_ones wsX6_ones) := goodIn_app (goodIn_of _ (by decide +kernel)) ggX6_bends_X6_ones
set_option maxRecDepth 20000 in
theorem ggX6_bends_X6_keepsBelow : GoodIn wsX6_bends wsX6_keepsBelow := goodIn_r _ [14, 3, 15, 16, 17, 6, 18, 19, 20, 21, 22, 23, 24, 25, 2, 26, 27, 28, 29, 30, 31, 32, 33, 34, 35, 36, 37, 38, 39, 40, 41, 42, 43, 44, 45, 46, 47, 48, 49, 50, 51, 52, 53, 54, 55, 56, 57, 58, 59, 60, 61, 62, 63, 64, 65, 66, 67, 68, 69, 70, 71, 72, 73, 74, 75, 76, 77, 78] (by decide +kernel) (by decide +kernel)
set_option maxRecDepth 20000 in
theorem gX6_bends_X6_keepsBelow : GoodIn wsX6_bends (wsV RX6 168 RX6 yX6_keepsBelow wsX6_keepsBelow) := goodIn_app (goodIn_of _ (by decide +kernel)) ggX6_bends_X6_keepsBelow
theorem dX6_bends_0 : decode cX6_bends 0 = .ok (.iload_n 1, 1) := by decide +kernel
theorem dX6_bends_1 : decode cX6_bends 1 = .ok (.i2l, 1) := by decide +kernel
theorem dX6_bends_2 : decode cX6_bends 2 = .ok (.lconst 1, 1) := by decide +kernel
theorem dX6_bends_3 : decode cX6_bends 3 = .ok (.ldc2_w 166, 3) := by decide +kernel
theorem dX6_bends_6 : decode cX6_bends 6 = .ok (.invokestatic 62, 3) := by decide +kernel
theorem dX6_bends_9 : decode cX6_bends 9 = .ok (.ifCond .ne 6, 3) := by decide +kernel
theorem dX6_bends_12 : decode cX6_bends 12 = .ok (.bipush (-2), 2) := by decide +kernel
theorem dX6_bends_14 : decode cX6_bends 14 = .ok (.ireturn, 1) := by decide +kernel
theorem dX6_bends_15 : decode cX6_bends 15 = .ok (.bipush (-9), 2) := by decide +kernel
theorem dX6_bends_17 : decode cX6_bends 17 = .ok (.istore_n 2, 1) := by decide +kernel
theorem dX6_bends_18 : decode cX6_bends 18 = .ok (.iconst 0, 1) := by decide +kernel
theorem dX6_bends_19 : decode cX6_bends 19 = .ok (.istore_n 3, 1) := by decide +kernel
theorem dX6_bends_20 : decode cX6_bends 20 = .ok (.iload_n 3, 1) := by decide +kernel
theorem dX6_bends_21 : decode cX6_bends 21 = .ok (.iconst 1, 1) := by decide +kernel
theorem dX6_bends_22 : decode cX6_bends 22 = .ok (.aload_n 0, 1) := by decide +kernel
theorem dX6_bends_23 : decode cX6_bends 23 = .ok (.getfield 93, 3) := by decide +kernel
theorem dX6_bends_26 : decode cX6_bends 26 = .ok (.ishl, 1) := by decide +kernel
theorem dX6_bends_27 : decode cX6_bends 27 = .ok (.if_icmp .ge 65, 3) := by decide +kernel
theorem dX6_bends_30 : decode cX6_bends 30 = .ok (.iload_n 2, 1) := by decide +kernel
theorem dX6_bends_31 : decode cX6_bends 31 = .ok (.bipush (-9), 2) := by decide +kernel
theorem dX6_bends_33 : decode cX6_bends 33 = .ok (.if_icmp .eq 14, 3) := by decide +kernel
theorem dX6_bends_36 : decode cX6_bends 36 = .ok (.iload_n 3, 1) := by decide +kernel
theorem dX6_bends_37 : decode cX6_bends 37 = .ok (.invokestatic 152, 3) := by decide +kernel
theorem dX6_bends_40 : decode cX6_bends 40 = .ok (.iload_n 2, 1) := by decide +kernel
theorem dX6_bends_41 : decode cX6_bends 41 = .ok (.invokestatic 152, 3) := by decide +kernel
theorem dX6_bends_44 : decode cX6_bends 44 = .ok (.if_icmp .ge 7, 3) := by decide +kernel
theorem dX6_bends_47 : decode cX6_bends 47 = .ok (.iconst 1, 1) := by decide +kernel
theorem dX6_bends_48 : decode cX6_bends 48 = .ok (.goto 4, 3) := by decide +kernel
theorem dX6_bends_51 : decode cX6_bends 51 = .ok (.iconst 0, 1) := by decide +kernel
theorem dX6_bends_52 : decode cX6_bends 52 = .ok (.istore 4, 2) := by decide +kernel
theorem dX6_bends_54 : decode cX6_bends 54 = .ok (.iload 4, 2) := by decide +kernel
theorem dX6_bends_56 : decode cX6_bends 56 = .ok (.ifCond .eq 28, 3) := by decide +kernel
theorem dX6_bends_59 : decode cX6_bends 59 = .ok (.iload_n 3, 1) := by decide +kernel
theorem dX6_bends_60 : decode cX6_bends 60 = .ok (.aload_n 0, 1) := by decide +kernel
theorem dX6_bends_61 : decode cX6_bends 61 = .ok (.getfield 22, 3) := by decide +kernel
theorem dX6_bends_64 : decode cX6_bends 64 = .ok (.bipush 14, 2) := by decide +kernel
theorem dX6_bends_66 : decode cX6_bends 66 = .ok (.iaload, 1) := by decide +kernel
theorem dX6_bends_67 : decode cX6_bends 67 = .ok (.iand, 1) := by decide +kernel
theorem dX6_bends_68 : decode cX6_bends 68 = .ok (.ifCond .ne 16, 3) := by decide +kernel
theorem dX6_bends_71 : decode cX6_bends 71 = .ok (.aload_n 0, 1) := by decide +kernel
theorem dX6_bends_72 : decode cX6_bends 72 = .ok (.iload_n 3, 1) := by decide +kernel
theorem dX6_bends_73 : decode cX6_bends 73 = .ok (.iload_n 1, 1) := by decide +kernel
theorem dX6_bends_74 : decode cX6_bends 74 = .ok (.invokevirtual 168, 3) := by decide +kernel
theorem dX6_bends_77 : decode cX6_bends 77 = .ok (.ifCond .eq 7, 3) := by decide +kernel
theorem dX6_bends_80 : decode cX6_bends 80 = .ok (.iload_n 3, 1) := by decide +kernel
theorem dX6_bends_81 : decode cX6_bends 81 = .ok (.goto 4, 3) := by decide +kernel
theorem dX6_bends_84 : decode cX6_bends 84 = .ok (.iload_n 2, 1) := by decide +kernel
theorem dX6_bends_85 : decode cX6_bends 85 = .ok (.istore_n 2, 1) := by decide +kernel
theorem dX6_bends_86 : decode cX6_bends 86 = .ok (.iinc 3 1, 3) := by decide +kernel
theorem dX6_bends_89 : decode cX6_bends 89 = .ok (.goto (-69), 3) := by decide +kernel
theorem dX6_bends_92 : decode cX6_bends 92 = .ok (.iload_n 2, 1) := by decide +kernel
theorem dX6_bends_93 : decode cX6_bends 93 = .ok (.ireturn, 1) := by decide +kernel
set_option maxRecDepth 20000 in
theorem ggX6_tryThing_X6_passOn : GoodIn wsX6_tryThing wsX6_passOn := goodIn_r _ [6, 7, 1, 8, 9, 10, 11, 12, 13, 5, 14, 15, 16, 17, 18, 19, 20, 21, 22, 23, 24, 25, 26, 27, 28, 29, 30, 31, 32, 33, 34, 35, 36, 52, 53, 54, 55, 56, 57, 58, 59, 60, 61, 62, 63, 64, 65, 66, 67, 68, 69, 70, 71, 72, 73, 74, 75, 76, 77, 78] (by decide +kernel) (by decide +kernel)
set_option maxRecDepth 20000 in
theorem gX6_tryThing_X6_passOn : GoodIn wsX6_tryThing (wsV RX6 143 RX6 yX6_passOn wsX6_passOn) := goodIn_app (goodIn_of _ (by decide +kernel)) ggX6_tryThing_X6_passOn
set_option maxRecDepth 20000 in
theorem ggX6_tryThing_X6_isBroom : GoodIn wsX6_tryThing wsX6_isBroom := goodIn_r _ [40, 10, 41, 42, 5, 43, 52, 53, 54, 55, 56, 57, 58, 59, 60, 61, 62, 63, 64, 65, 66, 67, 68, 69, 70, 71, 72, 73, 74, 75, 76, 77, 78] (by decide +kernel) (by decide +kernel)
set_option maxRecDepth 20000 in
theorem gX6_tryThing_X6_isBroom : GoodIn wsX6_tryThing (wsV RX6 134 RX6 yX6_isBroom wsX6_isBroom) := goodIn_app (goodIn_of _ (by decide +kernel)) ggX6_tryThing_X6_isBroom
set_option maxRecDepth 20000 in
theorem ggX6_tryThing_X6_in : GoodIn wsX6_tryThing wsX6_in := goodIn_r _ [43] (by decide +kernel) (by decide +kernel)
set_option maxRecDepth 20000 in
theorem gX6_tryThing_X6_in : GoodIn wsX6_tryThing (va_wsS RX6 62 yX6_in wsX6_in) := goodIn_app (goodIn_of _ (by decide +kernel)) ggX6_tryThing_X6_in
set_option maxRecDepth 20000 in
theorem ggX6_tryThing_X6_walkOn : GoodIn wsX6_tryThing wsX6_walkOn := goodIn_r _ [47, 1, 52, 53, 54, 55, 56, 57, 58, 59, 60, 61, 62, 63, 64, 65, 66, 67, 68, 69, 70, 71, 72, 73, 74, 75, 76, 77, 78] (by decide +kernel) (by decide +kernel)
set_option maxRecDepth 20000 in
theorem gX6_tryThing_X6_walkOn : GoodIn wsX6_tryThing (wsV RX6 149 RX6 yX6_walkOn wsX6_walkOn) := goodIn_app (goodIn_of _ (by decide +kernel)) ggX6_tryThing_X6_walkOn
set_option maxRecDepth 20000 in
theorem ggX6_tryThing_X6_has : GoodIn wsX6_tryThing wsX6_has := goodIn_r _ [28] (by decide +kernel) (by decide +kernel)
set_option maxRecDepth 20000 in
theorem gX6_tryThing_X6_has : GoodIn wsX6_tryThing (va_wsS RX6 104 yX6_has wsX6_has) := goodIn_app (goodIn_of _ (by decide +kernel)) ggX6_tryThing_X6_has
set_option maxRecDepth 20000 in
theorem ggX6_tryThing_X6_isStreet : GoodIn wsX6_tryThing wsX6_isStreet := goodIn_r _ [50, 51, 41, 42, 5, 43] (by decide +kernel) (by decide +kernel)
set_option maxRecDepth 20000 in
theorem gX6_tryThing_X6_isStreet : GoodIn wsX6_tryThing (va_wsS RX6 127 yX6_isStreet wsX6_isStreet) := goodIn_app (goodIn_of _ (by decide +kernel)) ggX6_tryThing_X6_isStreet
theorem dX6_tryThing_0 : decode cX6_tryThing 0 = .ok (.iload_n 1, 1) := by decide +kernel
theorem dX6_tryThing_1 : decode cX6_tryThing 1 = .ok (.tableswitch 296 0 6 #[43, 63, 103, 133, 191, 239, 265], 43) := by decide +kernel
theorem dX6_tryThing_44 : decode cX6_tryThing 44 = .ok (.aload_n 0, 1) := by decide +kernel
theorem dX6_tryThing_45 : decode cX6_tryThing 45 = .ok (.iconst 1, 1) := by decide +kernel
theorem dX6_tryThing_46 : decode cX6_tryThing 46 = .ok (.iconst 1, 1) := by decide +kernel
theorem dX6_tryThing_47 : decode cX6_tryThing 47 = .ok (.invokevirtual 143, 3) := by decide +kernel
theorem dX6_tryThing_50 : decode cX6_tryThing 50 = .ok (.iload_n 2, 1) := by decide +kernel
theorem dX6_tryThing_51 : decode cX6_tryThing 51 = .ok (.ifCond .ne 11, 3) := by decide +kernel
theorem dX6_tryThing_54 : decode cX6_tryThing 54 = .ok (.iload_n 3, 1) := by decide +kernel
theorem dX6_tryThing_55 : decode cX6_tryThing 55 = .ok (.ifCond .ne 7, 3) := by decide +kernel
theorem dX6_tryThing_58 : decode cX6_tryThing 58 = .ok (.iconst 1, 1) := by decide +kernel
theorem dX6_tryThing_59 : decode cX6_tryThing 59 = .ok (.goto 4, 3) := by decide +kernel
theorem dX6_tryThing_62 : decode cX6_tryThing 62 = .ok (.iconst 0, 1) := by decide +kernel
theorem dX6_tryThing_63 : decode cX6_tryThing 63 = .ok (.ireturn, 1) := by decide +kernel
theorem dX6_tryThing_64 : decode cX6_tryThing 64 = .ok (.aload_n 0, 1) := by decide +kernel
theorem dX6_tryThing_65 : decode cX6_tryThing 65 = .ok (.iload_n 2, 1) := by decide +kernel
theorem dX6_tryThing_66 : decode cX6_tryThing 66 = .ok (.invokevirtual 134, 3) := by decide +kernel
theorem dX6_tryThing_69 : decode cX6_tryThing 69 = .ok (.ifCond .eq 17, 3) := by decide +kernel
theorem dX6_tryThing_72 : decode cX6_tryThing 72 = .ok (.iload_n 3, 1) := by decide +kernel
theorem dX6_tryThing_73 : decode cX6_tryThing 73 = .ok (.i2l, 1) := by decide +kernel
theorem dX6_tryThing_74 : decode cX6_tryThing 74 = .ok (.lconst 0, 1) := by decide +kernel
theorem dX6_tryThing_75 : decode cX6_tryThing 75 = .ok (.lconst 1, 1) := by decide +kernel
end
section
theorem dX6_tryThing_76 : decode cX6_tryThing 76 = .ok (.invokestatic 62, 3) := by decide +kernel
theorem dX6_tryThing_79 : decode cX6_tryThing 79 = .ok (.ifCond .eq 7, 3) := by decide +kernel
theorem dX6_tryThing_82 : decode cX6_tryThing 82 = .ok (.iconst 1, 1) := by decide +kernel
theorem dX6_tryThing_83 : decode cX6_tryThing 83 = .ok (.goto 4, 3) := by decide +kernel
theorem dX6_tryThing_86 : decode cX6_tryThing 86 = .ok (.iconst 0, 1) := by decide +kernel
theorem dX6_tryThing_87 : decode cX6_tryThing 87 = .ok (.istore 4, 2) := by decide +kernel
theorem dX6_tryThing_89 : decode cX6_tryThing 89 = .ok (.iload 4, 2) := by decide +kernel
theorem dX6_tryThing_91 : decode cX6_tryThing 91 = .ok (.ifCond .eq 10, 3) := by decide +kernel
theorem dX6_tryThing_94 : decode cX6_tryThing 94 = .ok (.aload_n 0, 1) := by decide +kernel
theorem dX6_tryThing_95 : decode cX6_tryThing 95 = .ok (.iconst 1, 1) := by decide +kernel
theorem dX6_tryThing_96 : decode cX6_tryThing 96 = .ok (.iload_n 2, 1) := by decide +kernel
theorem dX6_tryThing_97 : decode cX6_tryThing 97 = .ok (.iload_n 3, 1) := by decide +kernel
theorem dX6_tryThing_98 : decode cX6_tryThing 98 = .ok (.invokevirtual 149, 3) := by decide +kernel
theorem dX6_tryThing_101 : decode cX6_tryThing 101 = .ok (.iload 4, 2) := by decide +kernel
theorem dX6_tryThing_103 : decode cX6_tryThing 103 = .ok (.ireturn, 1) := by decide +kernel
theorem dX6_tryThing_104 : decode cX6_tryThing 104 = .ok (.aload_n 0, 1) := by decide +kernel
theorem dX6_tryThing_105 : decode cX6_tryThing 105 = .ok (.getfield 22, 3) := by decide +kernel
theorem dX6_tryThing_108 : decode cX6_tryThing 108 = .ok (.bipush 29, 2) := by decide +kernel
theorem dX6_tryThing_110 : decode cX6_tryThing 110 = .ok (.iconst 1, 1) := by decide +kernel
theorem dX6_tryThing_111 : decode cX6_tryThing 111 = .ok (.aload_n 0, 1) := by decide +kernel
theorem dX6_tryThing_112 : decode cX6_tryThing 112 = .ok (.getfield 22, 3) := by decide +kernel
theorem dX6_tryThing_115 : decode cX6_tryThing 115 = .ok (.bipush 29, 2) := by decide +kernel
theorem dX6_tryThing_117 : decode cX6_tryThing 117 = .ok (.iaload, 1) := by decide +kernel
theorem dX6_tryThing_118 : decode cX6_tryThing 118 = .ok (.isub, 1) := by decide +kernel
theorem dX6_tryThing_119 : decode cX6_tryThing 119 = .ok (.iastore, 1) := by decide +kernel
theorem dX6_tryThing_120 : decode cX6_tryThing 120 = .ok (.iload_n 2, 1) := by decide +kernel
theorem dX6_tryThing_121 : decode cX6_tryThing 121 = .ok (.ifCond .ne 11, 3) := by decide +kernel
theorem dX6_tryThing_124 : decode cX6_tryThing 124 = .ok (.iload_n 3, 1) := by decide +kernel
theorem dX6_tryThing_125 : decode cX6_tryThing 125 = .ok (.ifCond .ne 7, 3) := by decide +kernel
theorem dX6_tryThing_128 : decode cX6_tryThing 128 = .ok (.iconst 1, 1) := by decide +kernel
theorem dX6_tryThing_129 : decode cX6_tryThing 129 = .ok (.goto 4, 3) := by decide +kernel
theorem dX6_tryThing_132 : decode cX6_tryThing 132 = .ok (.iconst 0, 1) := by decide +kernel
theorem dX6_tryThing_133 : decode cX6_tryThing 133 = .ok (.ireturn, 1) := by decide +kernel
theorem dX6_tryThing_134 : decode cX6_tryThing 134 = .ok (.iload_n 2, 1) := by decide +kernel
theorem dX6_tryThing_135 : decode cX6_tryThing 135 = .ok (.ifCond .ne 29, 3) := by decide +kernel
theorem dX6_tryThing_138 : decode cX6_tryThing 138 = .ok (.aload_n 0, 1) := by decide +kernel
theorem dX6_tryThing_139 : decode cX6_tryThing 139 = .ok (.iload_n 3, 1) := by decide +kernel
theorem dX6_tryThing_140 : decode cX6_tryThing 140 = .ok (.invokevirtual 134, 3) := by decide +kernel
theorem dX6_tryThing_143 : decode cX6_tryThing 143 = .ok (.ifCond .eq 21, 3) := by decide +kernel
theorem dX6_tryThing_146 : decode cX6_tryThing 146 = .ok (.aload_n 0, 1) := by decide +kernel
theorem dX6_tryThing_147 : decode cX6_tryThing 147 = .ok (.getfield 22, 3) := by decide +kernel
theorem dX6_tryThing_150 : decode cX6_tryThing 150 = .ok (.bipush 30, 2) := by decide +kernel
theorem dX6_tryThing_152 : decode cX6_tryThing 152 = .ok (.iaload, 1) := by decide +kernel
theorem dX6_tryThing_153 : decode cX6_tryThing 153 = .ok (.iload_n 3, 1) := by decide +kernel
theorem dX6_tryThing_154 : decode cX6_tryThing 154 = .ok (.invokestatic 104, 3) := by decide +kernel
theorem dX6_tryThing_157 : decode cX6_tryThing 157 = .ok (.ifCond .ne 7, 3) := by decide +kernel
theorem dX6_tryThing_160 : decode cX6_tryThing 160 = .ok (.iconst 1, 1) := by decide +kernel
theorem dX6_tryThing_161 : decode cX6_tryThing 161 = .ok (.goto 4, 3) := by decide +kernel
theorem dX6_tryThing_164 : decode cX6_tryThing 164 = .ok (.iconst 0, 1) := by decide +kernel
theorem dX6_tryThing_165 : decode cX6_tryThing 165 = .ok (.istore 5, 2) := by decide +kernel
theorem dX6_tryThing_167 : decode cX6_tryThing 167 = .ok (.aload_n 0, 1) := by decide +kernel
theorem dX6_tryThing_168 : decode cX6_tryThing 168 = .ok (.getfield 22, 3) := by decide +kernel
theorem dX6_tryThing_171 : decode cX6_tryThing 171 = .ok (.bipush 30, 2) := by decide +kernel
theorem dX6_tryThing_173 : decode cX6_tryThing 173 = .ok (.dup2, 1) := by decide +kernel
theorem dX6_tryThing_174 : decode cX6_tryThing 174 = .ok (.iaload, 1) := by decide +kernel
theorem dX6_tryThing_175 : decode cX6_tryThing 175 = .ok (.iload 5, 2) := by decide +kernel
theorem dX6_tryThing_177 : decode cX6_tryThing 177 = .ok (.ifCond .eq 9, 3) := by decide +kernel
theorem dX6_tryThing_180 : decode cX6_tryThing 180 = .ok (.iconst 1, 1) := by decide +kernel
theorem dX6_tryThing_181 : decode cX6_tryThing 181 = .ok (.iload_n 3, 1) := by decide +kernel
theorem dX6_tryThing_182 : decode cX6_tryThing 182 = .ok (.ishl, 1) := by decide +kernel
theorem dX6_tryThing_183 : decode cX6_tryThing 183 = .ok (.goto 4, 3) := by decide +kernel
theorem dX6_tryThing_186 : decode cX6_tryThing 186 = .ok (.iconst 0, 1) := by decide +kernel
theorem dX6_tryThing_187 : decode cX6_tryThing 187 = .ok (.ior, 1) := by decide +kernel
theorem dX6_tryThing_188 : decode cX6_tryThing 188 = .ok (.iastore, 1) := by decide +kernel
theorem dX6_tryThing_189 : decode cX6_tryThing 189 = .ok (.iload 5, 2) := by decide +kernel
theorem dX6_tryThing_191 : decode cX6_tryThing 191 = .ok (.ireturn, 1) := by decide +kernel
theorem dX6_tryThing_192 : decode cX6_tryThing 192 = .ok (.iload_n 2, 1) := by decide +kernel
theorem dX6_tryThing_193 : decode cX6_tryThing 193 = .ok (.ifCond .ne 26, 3) := by decide +kernel
theorem dX6_tryThing_196 : decode cX6_tryThing 196 = .ok (.iload_n 3, 1) := by decide +kernel
theorem dX6_tryThing_197 : decode cX6_tryThing 197 = .ok (.invokestatic 127, 3) := by decide +kernel
theorem dX6_tryThing_200 : decode cX6_tryThing 200 = .ok (.ifCond .eq 19, 3) := by decide +kernel
theorem dX6_tryThing_203 : decode cX6_tryThing 203 = .ok (.aload_n 0, 1) := by decide +kernel
theorem dX6_tryThing_204 : decode cX6_tryThing 204 = .ok (.getfield 22, 3) := by decide +kernel
theorem dX6_tryThing_207 : decode cX6_tryThing 207 = .ok (.bipush 16, 2) := by decide +kernel
theorem dX6_tryThing_209 : decode cX6_tryThing 209 = .ok (.iload_n 3, 1) := by decide +kernel
theorem dX6_tryThing_210 : decode cX6_tryThing 210 = .ok (.iadd, 1) := by decide +kernel
theorem dX6_tryThing_211 : decode cX6_tryThing 211 = .ok (.iaload, 1) := by decide +kernel
theorem dX6_tryThing_212 : decode cX6_tryThing 212 = .ok (.ifCond .le 7, 3) := by decide +kernel
theorem dX6_tryThing_215 : decode cX6_tryThing 215 = .ok (.iconst 1, 1) := by decide +kernel
theorem dX6_tryThing_216 : decode cX6_tryThing 216 = .ok (.goto 4, 3) := by decide +kernel
theorem dX6_tryThing_219 : decode cX6_tryThing 219 = .ok (.iconst 0, 1) := by decide +kernel
theorem dX6_tryThing_220 : decode cX6_tryThing 220 = .ok (.istore 6, 2) := by decide +kernel
theorem dX6_tryThing_222 : decode cX6_tryThing 222 = .ok (.iload 6, 2) := by decide +kernel
theorem dX6_tryThing_224 : decode cX6_tryThing 224 = .ok (.ifCond .eq 13, 3) := by decide +kernel
theorem dX6_tryThing_227 : decode cX6_tryThing 227 = .ok (.aload_n 0, 1) := by decide +kernel
theorem dX6_tryThing_228 : decode cX6_tryThing 228 = .ok (.getfield 22, 3) := by decide +kernel
theorem dX6_tryThing_231 : decode cX6_tryThing 231 = .ok (.bipush 16, 2) := by decide +kernel
theorem dX6_tryThing_233 : decode cX6_tryThing 233 = .ok (.iload_n 3, 1) := by decide +kernel
theorem dX6_tryThing_234 : decode cX6_tryThing 234 = .ok (.iadd, 1) := by decide +kernel
theorem dX6_tryThing_235 : decode cX6_tryThing 235 = .ok (.iconst 0, 1) := by decide +kernel
theorem dX6_tryThing_236 : decode cX6_tryThing 236 = .ok (.iastore, 1) := by decide +kernel
theorem dX6_tryThing_237 : decode cX6_tryThing 237 = .ok (.iload 6, 2) := by decide +kernel
theorem dX6_tryThing_239 : decode cX6_tryThing 239 = .ok (.ireturn, 1) := by decide +kernel
theorem dX6_tryThing_240 : decode cX6_tryThing 240 = .ok (.iload_n 2, 1) := by decide +kernel
theorem dX6_tryThing_241 : decode cX6_tryThing 241 = .ok (.invokestatic 127, 3) := by decide +kernel
theorem dX6_tryThing_244 : decode cX6_tryThing 244 = .ok (.ifCond .eq 20, 3) := by decide +kernel
theorem dX6_tryThing_247 : decode cX6_tryThing 247 = .ok (.aload_n 0, 1) := by decide +kernel
theorem dX6_tryThing_248 : decode cX6_tryThing 248 = .ok (.getfield 22, 3) := by decide +kernel
theorem dX6_tryThing_251 : decode cX6_tryThing 251 = .ok (.bipush 16, 2) := by decide +kernel
theorem dX6_tryThing_253 : decode cX6_tryThing 253 = .ok (.iload_n 2, 1) := by decide +kernel
theorem dX6_tryThing_254 : decode cX6_tryThing 254 = .ok (.iadd, 1) := by decide +kernel
theorem dX6_tryThing_255 : decode cX6_tryThing 255 = .ok (.iaload, 1) := by decide +kernel
theorem dX6_tryThing_256 : decode cX6_tryThing 256 = .ok (.iload_n 3, 1) := by decide +kernel
theorem dX6_tryThing_257 : decode cX6_tryThing 257 = .ok (.if_icmp .lt 7, 3) := by decide +kernel
theorem dX6_tryThing_260 : decode cX6_tryThing 260 = .ok (.iconst 1, 1) := by decide +kernel
theorem dX6_tryThing_261 : decode cX6_tryThing 261 = .ok (.goto 4, 3) := by decide +kernel
theorem dX6_tryThing_264 : decode cX6_tryThing 264 = .ok (.iconst 0, 1) := by decide +kernel
theorem dX6_tryThing_265 : decode cX6_tryThing 265 = .ok (.ireturn, 1) := by decide +kernel
theorem dX6_tryThing_266 : decode cX6_tryThing 266 = .ok (.iload_n 2, 1) := by decide +kernel
theorem dX6_tryThing_267 : decode cX6_tryThing 267 = .ok (.ifCond .ne 28, 3) := by decide +kernel
theorem dX6_tryThing_270 : decode cX6_tryThing 270 = .ok (.iload_n 3, 1) := by decide +kernel
theorem dX6_tryThing_271 : decode cX6_tryThing 271 = .ok (.invokestatic 127, 3) := by decide +kernel
theorem dX6_tryThing_274 : decode cX6_tryThing 274 = .ok (.ifCond .eq 21, 3) := by decide +kernel
theorem dX6_tryThing_277 : decode cX6_tryThing 277 = .ok (.aload_n 0, 1) := by decide +kernel
theorem dX6_tryThing_278 : decode cX6_tryThing 278 = .ok (.getfield 22, 3) := by decide +kernel
theorem dX6_tryThing_281 : decode cX6_tryThing 281 = .ok (.bipush 16, 2) := by decide +kernel
theorem dX6_tryThing_283 : decode cX6_tryThing 283 = .ok (.iload_n 3, 1) := by decide +kernel
theorem dX6_tryThing_284 : decode cX6_tryThing 284 = .ok (.iadd, 1) := by decide +kernel
theorem dX6_tryThing_285 : decode cX6_tryThing 285 = .ok (.iaload, 1) := by decide +kernel
theorem dX6_tryThing_286 : decode cX6_tryThing 286 = .ok (.bipush 10, 2) := by decide +kernel
theorem dX6_tryThing_288 : decode cX6_tryThing 288 = .ok (.if_icmp .lt 7, 3) := by decide +kernel
theorem dX6_tryThing_291 : decode cX6_tryThing 291 = .ok (.iconst 1, 1) := by decide +kernel
theorem dX6_tryThing_292 : decode cX6_tryThing 292 = .ok (.goto 4, 3) := by decide +kernel
theorem dX6_tryThing_295 : decode cX6_tryThing 295 = .ok (.iconst 0, 1) := by decide +kernel
theorem dX6_tryThing_296 : decode cX6_tryThing 296 = .ok (.ireturn, 1) := by decide +kernel
theorem dX6_tryThing_297 : decode cX6_tryThing 297 = .ok (.iconst 0, 1) := by decide +kernel
theorem dX6_tryThing_298 : decode cX6_tryThing 298 = .ok (.ireturn, 1) := by decide +kernel
theorem dX6_thousandTo_0 : decode cX6_thousandTo 0 = .ok (.lconst 1, 1) := by decide +kernel
theorem dX6_thousandTo_1 : decode cX6_thousandTo 1 = .ok (.lstore_n 1, 1) := by decide +kernel
theorem dX6_thousandTo_2 : decode cX6_thousandTo 2 = .ok (.iconst 0, 1) := by decide +kernel
theorem dX6_thousandTo_3 : decode cX6_thousandTo 3 = .ok (.istore_n 3, 1) := by decide +kernel
theorem dX6_thousandTo_4 : decode cX6_thousandTo 4 = .ok (.iload_n 3, 1) := by decide +kernel
theorem dX6_thousandTo_5 : decode cX6_thousandTo 5 = .ok (.iload_n 0, 1) := by decide +kernel
theorem dX6_thousandTo_6 : decode cX6_thousandTo 6 = .ok (.if_icmp .ge 15, 3) := by decide +kernel
theorem dX6_thousandTo_9 : decode cX6_thousandTo 9 = .ok (.lload_n 1, 1) := by decide +kernel
theorem dX6_thousandTo_10 : decode cX6_thousandTo 10 = .ok (.ldc2_w 171, 3) := by decide +kernel
theorem dX6_thousandTo_13 : decode cX6_thousandTo 13 = .ok (.lmul, 1) := by decide +kernel
theorem dX6_thousandTo_14 : decode cX6_thousandTo 14 = .ok (.lstore_n 1, 1) := by decide +kernel
theorem dX6_thousandTo_15 : decode cX6_thousandTo 15 = .ok (.iinc 3 1, 3) := by decide +kernel
theorem dX6_thousandTo_18 : decode cX6_thousandTo 18 = .ok (.goto (-14), 3) := by decide +kernel
theorem dX6_thousandTo_21 : decode cX6_thousandTo 21 = .ok (.lload_n 1, 1) := by decide +kernel
theorem dX6_thousandTo_22 : decode cX6_thousandTo 22 = .ok (.lreturn, 1) := by decide +kernel
set_option maxRecDepth 20000 in
theorem ggX6_judge_X6_in : GoodIn wsX6_judge wsX6_in := goodIn_r _ [6] (by decide +kernel) (by decide +kernel)
set_option maxRecDepth 20000 in
theorem gX6_judge_X6_in : GoodIn wsX6_judge (va_wsS RX6 62 yX6_in wsX6_in) := goodIn_app (goodIn_of _ (by decide +kernel)) ggX6_judge_X6_in
set_option maxRecDepth 20000 in
theorem ggX6_judge_X6_thousandTo : GoodIn wsX6_judge wsX6_thousandTo := goodIn_r _ [9, 2] (by decide +kernel) (by decide +kernel)
set_option maxRecDepth 20000 in
theorem gX6_judge_X6_thousandTo : GoodIn wsX6_judge (va_wsS RX6 175 yX6_thousandTo wsX6_thousandTo) := goodIn_app (goodIn_of _ (by decide +kernel)) ggX6_judge_X6_thousandTo
set_option maxRecDepth 20000 in
theorem ggX6_judge_X6_layTrial : GoodIn wsX6_judge wsX6_layTrial := goodIn_r _ [13, 14, 65, 66, 67, 68, 69, 70, 71, 72, 73, 74, 75, 76, 77, 78, 79, 80, 81, 82, 83, 84, 85, 86, 87, 88, 89, 90, 91] (by decide +kernel) (by decide +kernel)
set_option maxRecDepth 20000 in
theorem gX6_judge_X6_layTrial : GoodIn wsX6_judge (wsV RX6 157 RX6 yX6_layTrial wsX6_layTrial) := goodIn_app (goodIn_of _ (by decide +kernel)) ggX6_judge_X6_layTrial
set_option maxRecDepth 20000 in
theorem ggX6_judge_X6_tryThing : GoodIn wsX6_judge wsX6_tryThing := goodIn_r _ [18, 14, 19, 20, 21, 5, 22, 23, 24, 25, 26, 27, 28, 29, 30, 31, 32, 33, 34, 35, 36, 37, 38, 39, 40, 41, 42, 43, 44, 45, 46, 47, 48, 49, 50, 51, 52, 53, 54, 55, 56, 3, 4, 6, 57, 58, 59, 60, 61, 62, 63, 64, 65, 66, 67, 68, 69, 70, 71, 72, 73, 74, 75, 76, 77, 78, 79, 80, 81, 82, 83, 84, 85, 86, 87, 88, 89, 90, 91] (by decide +kernel) (by decide +kernel)
set_option maxRecDepth 20000 in
theorem gX6_judge_X6_tryThing : GoodIn wsX6_judge (wsV RX6 179 RX6 yX6_tryThing wsX6_tryThing) := goodIn_app (goodIn_of _ (by decide +kernel)) ggX6_judge_X6_tryThing
theorem dX6_judge_0 : decode cX6_judge 0 = .ok (.iload_n 1, 1) := by decide +kernel
theorem dX6_judge_1 : decode cX6_judge 1 = .ok (.i2l, 1) := by decide +kernel
theorem dX6_judge_2 : decode cX6_judge 2 = .ok (.lconst 1, 1) := by decide +kernel
theorem dX6_judge_3 : decode cX6_judge 3 = .ok (.ldc2_w 173, 3) := by decide +kernel
theorem dX6_judge_6 : decode cX6_judge 6 = .ok (.invokestatic 62, 3) := by decide +kernel
theorem dX6_judge_9 : decode cX6_judge 9 = .ok (.ifCond .eq 17, 3) := by decide +kernel
theorem dX6_judge_12 : decode cX6_judge 12 = .ok (.lload_n 2, 1) := by decide +kernel
theorem dX6_judge_13 : decode cX6_judge 13 = .ok (.lconst 0, 1) := by decide +kernel
theorem dX6_judge_14 : decode cX6_judge 14 = .ok (.iload_n 1, 1) := by decide +kernel
theorem dX6_judge_15 : decode cX6_judge 15 = .ok (.invokestatic 175, 3) := by decide +kernel
theorem dX6_judge_18 : decode cX6_judge 18 = .ok (.lconst 1, 1) := by decide +kernel
theorem dX6_judge_19 : decode cX6_judge 19 = .ok (.lsub, 1) := by decide +kernel
theorem dX6_judge_20 : decode cX6_judge 20 = .ok (.invokestatic 62, 3) := by decide +kernel
theorem dX6_judge_23 : decode cX6_judge 23 = .ok (.ifCond .ne 6, 3) := by decide +kernel
theorem dX6_judge_26 : decode cX6_judge 26 = .ok (.bipush (-2), 2) := by decide +kernel
theorem dX6_judge_28 : decode cX6_judge 28 = .ok (.ireturn, 1) := by decide +kernel
theorem dX6_judge_29 : decode cX6_judge 29 = .ok (.aload_n 0, 1) := by decide +kernel
theorem dX6_judge_30 : decode cX6_judge 30 = .ok (.invokevirtual 157, 3) := by decide +kernel
theorem dX6_judge_33 : decode cX6_judge 33 = .ok (.iconst 0, 1) := by decide +kernel
theorem dX6_judge_34 : decode cX6_judge 34 = .ok (.istore 4, 2) := by decide +kernel
theorem dX6_judge_36 : decode cX6_judge 36 = .ok (.iload 4, 2) := by decide +kernel
theorem dX6_judge_38 : decode cX6_judge 38 = .ok (.iload_n 1, 1) := by decide +kernel
theorem dX6_judge_39 : decode cX6_judge 39 = .ok (.if_icmp .ge 55, 3) := by decide +kernel
theorem dX6_judge_42 : decode cX6_judge 42 = .ok (.lload_n 2, 1) := by decide +kernel
theorem dX6_judge_43 : decode cX6_judge 43 = .ok (.iload_n 1, 1) := by decide +kernel
theorem dX6_judge_44 : decode cX6_judge 44 = .ok (.iconst 1, 1) := by decide +kernel
theorem dX6_judge_45 : decode cX6_judge 45 = .ok (.isub, 1) := by decide +kernel
theorem dX6_judge_46 : decode cX6_judge 46 = .ok (.iload 4, 2) := by decide +kernel
theorem dX6_judge_48 : decode cX6_judge 48 = .ok (.isub, 1) := by decide +kernel
theorem dX6_judge_49 : decode cX6_judge 49 = .ok (.invokestatic 175, 3) := by decide +kernel
theorem dX6_judge_52 : decode cX6_judge 52 = .ok (.ldiv, 1) := by decide +kernel
theorem dX6_judge_53 : decode cX6_judge 53 = .ok (.ldc2_w 171, 3) := by decide +kernel
theorem dX6_judge_56 : decode cX6_judge 56 = .ok (.lrem, 1) := by decide +kernel
theorem dX6_judge_57 : decode cX6_judge 57 = .ok (.l2i, 1) := by decide +kernel
theorem dX6_judge_58 : decode cX6_judge 58 = .ok (.istore 5, 2) := by decide +kernel
theorem dX6_judge_60 : decode cX6_judge 60 = .ok (.aload_n 0, 1) := by decide +kernel
theorem dX6_judge_61 : decode cX6_judge 61 = .ok (.iload 5, 2) := by decide +kernel
theorem dX6_judge_63 : decode cX6_judge 63 = .ok (.bipush 100, 2) := by decide +kernel
theorem dX6_judge_65 : decode cX6_judge 65 = .ok (.idiv, 1) := by decide +kernel
theorem dX6_judge_66 : decode cX6_judge 66 = .ok (.iload 5, 2) := by decide +kernel
theorem dX6_judge_68 : decode cX6_judge 68 = .ok (.bipush 10, 2) := by decide +kernel
theorem dX6_judge_70 : decode cX6_judge 70 = .ok (.idiv, 1) := by decide +kernel
theorem dX6_judge_71 : decode cX6_judge 71 = .ok (.bipush 10, 2) := by decide +kernel
theorem dX6_judge_73 : decode cX6_judge 73 = .ok (.irem, 1) := by decide +kernel
theorem dX6_judge_74 : decode cX6_judge 74 = .ok (.iload 5, 2) := by decide +kernel
theorem dX6_judge_76 : decode cX6_judge 76 = .ok (.bipush 10, 2) := by decide +kernel
theorem dX6_judge_78 : decode cX6_judge 78 = .ok (.irem, 1) := by decide +kernel
theorem dX6_judge_79 : decode cX6_judge 79 = .ok (.invokevirtual 179, 3) := by decide +kernel
theorem dX6_judge_82 : decode cX6_judge 82 = .ok (.ifCond .ne 6, 3) := by decide +kernel
theorem dX6_judge_85 : decode cX6_judge 85 = .ok (.iload 4, 2) := by decide +kernel
theorem dX6_judge_87 : decode cX6_judge 87 = .ok (.ireturn, 1) := by decide +kernel
theorem dX6_judge_88 : decode cX6_judge 88 = .ok (.iinc 4 1, 3) := by decide +kernel
theorem dX6_judge_91 : decode cX6_judge 91 = .ok (.goto (-55), 3) := by decide +kernel
theorem dX6_judge_94 : decode cX6_judge 94 = .ok (.bipush (-9), 2) := by decide +kernel
theorem dX6_judge_96 : decode cX6_judge 96 = .ok (.ireturn, 1) := by decide +kernel
set_option maxRecDepth 20000 in
theorem ggX6_heap_X6_in : GoodIn wsX6_heap wsX6_in := goodIn_r _ [10] (by decide +kernel) (by decide +kernel)
set_option maxRecDepth 20000 in
theorem gX6_heap_X6_in : GoodIn wsX6_heap (va_wsS RX6 62 yX6_in wsX6_in) := goodIn_app (goodIn_of _ (by decide +kernel)) ggX6_heap_X6_in
theorem dX6_heap_0 : decode cX6_heap 0 = .ok (.iload_n 1, 1) := by decide +kernel
theorem dX6_heap_1 : decode cX6_heap 1 = .ok (.i2l, 1) := by decide +kernel
theorem dX6_heap_2 : decode cX6_heap 2 = .ok (.lconst 0, 1) := by decide +kernel
theorem dX6_heap_3 : decode cX6_heap 3 = .ok (.ldc2_w 183, 3) := by decide +kernel
theorem dX6_heap_6 : decode cX6_heap 6 = .ok (.invokestatic 62, 3) := by decide +kernel
theorem dX6_heap_9 : decode cX6_heap 9 = .ok (.ifCond .eq 27, 3) := by decide +kernel
theorem dX6_heap_12 : decode cX6_heap 12 = .ok (.iload_n 2, 1) := by decide +kernel
theorem dX6_heap_13 : decode cX6_heap 13 = .ok (.i2l, 1) := by decide +kernel
theorem dX6_heap_14 : decode cX6_heap 14 = .ok (.lconst 0, 1) := by decide +kernel
theorem dX6_heap_15 : decode cX6_heap 15 = .ok (.ldc2_w 183, 3) := by decide +kernel
theorem dX6_heap_18 : decode cX6_heap 18 = .ok (.invokestatic 62, 3) := by decide +kernel
theorem dX6_heap_21 : decode cX6_heap 21 = .ok (.ifCond .eq 15, 3) := by decide +kernel
theorem dX6_heap_24 : decode cX6_heap 24 = .ok (.iload_n 3, 1) := by decide +kernel
theorem dX6_heap_25 : decode cX6_heap 25 = .ok (.i2l, 1) := by decide +kernel
theorem dX6_heap_26 : decode cX6_heap 26 = .ok (.lconst 0, 1) := by decide +kernel
theorem dX6_heap_27 : decode cX6_heap 27 = .ok (.ldc2_w 166, 3) := by decide +kernel
theorem dX6_heap_30 : decode cX6_heap 30 = .ok (.invokestatic 62, 3) := by decide +kernel
theorem dX6_heap_33 : decode cX6_heap 33 = .ok (.ifCond .ne 6, 3) := by decide +kernel
theorem dX6_heap_36 : decode cX6_heap 36 = .ok (.bipush (-2), 2) := by decide +kernel
theorem dX6_heap_38 : decode cX6_heap 38 = .ok (.ireturn, 1) := by decide +kernel
theorem dX6_heap_39 : decode cX6_heap 39 = .ok (.aload_n 0, 1) := by decide +kernel
theorem dX6_heap_40 : decode cX6_heap 40 = .ok (.getfield 185, 3) := by decide +kernel
theorem dX6_heap_43 : decode cX6_heap 43 = .ok (.bipush 6, 2) := by decide +kernel
theorem dX6_heap_45 : decode cX6_heap 45 = .ok (.if_icmp .ne 6, 3) := by decide +kernel
theorem dX6_heap_48 : decode cX6_heap 48 = .ok (.bipush (-4), 2) := by decide +kernel
theorem dX6_heap_50 : decode cX6_heap 50 = .ok (.ireturn, 1) := by decide +kernel
theorem dX6_heap_51 : decode cX6_heap 51 = .ok (.aload_n 0, 1) := by decide +kernel
theorem dX6_heap_52 : decode cX6_heap 52 = .ok (.getfield 44, 3) := by decide +kernel
theorem dX6_heap_55 : decode cX6_heap 55 = .ok (.aload_n 0, 1) := by decide +kernel
theorem dX6_heap_56 : decode cX6_heap 56 = .ok (.getfield 185, 3) := by decide +kernel
theorem dX6_heap_59 : decode cX6_heap 59 = .ok (.iload_n 1, 1) := by decide +kernel
theorem dX6_heap_60 : decode cX6_heap 60 = .ok (.iastore, 1) := by decide +kernel
theorem dX6_heap_61 : decode cX6_heap 61 = .ok (.aload_n 0, 1) := by decide +kernel
theorem dX6_heap_62 : decode cX6_heap 62 = .ok (.getfield 47, 3) := by decide +kernel
theorem dX6_heap_65 : decode cX6_heap 65 = .ok (.aload_n 0, 1) := by decide +kernel
theorem dX6_heap_66 : decode cX6_heap 66 = .ok (.getfield 185, 3) := by decide +kernel
theorem dX6_heap_69 : decode cX6_heap 69 = .ok (.iload_n 2, 1) := by decide +kernel
theorem dX6_heap_70 : decode cX6_heap 70 = .ok (.iastore, 1) := by decide +kernel
theorem dX6_heap_71 : decode cX6_heap 71 = .ok (.aload_n 0, 1) := by decide +kernel
theorem dX6_heap_72 : decode cX6_heap 72 = .ok (.getfield 50, 3) := by decide +kernel
theorem dX6_heap_75 : decode cX6_heap 75 = .ok (.aload_n 0, 1) := by decide +kernel
theorem dX6_heap_76 : decode cX6_heap 76 = .ok (.getfield 185, 3) := by decide +kernel
theorem dX6_heap_79 : decode cX6_heap 79 = .ok (.iload_n 3, 1) := by decide +kernel
theorem dX6_heap_80 : decode cX6_heap 80 = .ok (.iastore, 1) := by decide +kernel
theorem dX6_heap_81 : decode cX6_heap 81 = .ok (.aload_n 0, 1) := by decide +kernel
theorem dX6_heap_82 : decode cX6_heap 82 = .ok (.dup, 1) := by decide +kernel
theorem dX6_heap_83 : decode cX6_heap 83 = .ok (.getfield 185, 3) := by decide +kernel
theorem dX6_heap_86 : decode cX6_heap 86 = .ok (.iconst 1, 1) := by decide +kernel
theorem dX6_heap_87 : decode cX6_heap 87 = .ok (.iadd, 1) := by decide +kernel
theorem dX6_heap_88 : decode cX6_heap 88 = .ok (.putfield 185, 3) := by decide +kernel
theorem dX6_heap_91 : decode cX6_heap 91 = .ok (.aload_n 0, 1) := by decide +kernel
theorem dX6_heap_92 : decode cX6_heap 92 = .ok (.getfield 185, 3) := by decide +kernel
theorem dX6_heap_95 : decode cX6_heap 95 = .ok (.ireturn, 1) := by decide +kernel
theorem dX6_unheap_0 : decode cX6_unheap 0 = .ok (.aload_n 0, 1) := by decide +kernel
theorem dX6_unheap_1 : decode cX6_unheap 1 = .ok (.getfield 185, 3) := by decide +kernel
theorem dX6_unheap_4 : decode cX6_unheap 4 = .ok (.istore_n 1, 1) := by decide +kernel
theorem dX6_unheap_5 : decode cX6_unheap 5 = .ok (.aload_n 0, 1) := by decide +kernel
theorem dX6_unheap_6 : decode cX6_unheap 6 = .ok (.iconst 0, 1) := by decide +kernel
theorem dX6_unheap_7 : decode cX6_unheap 7 = .ok (.putfield 185, 3) := by decide +kernel
theorem dX6_unheap_10 : decode cX6_unheap 10 = .ok (.iload_n 1, 1) := by decide +kernel
theorem dX6_unheap_11 : decode cX6_unheap 11 = .ok (.ireturn, 1) := by decide +kernel
set_option maxRecDepth 20000 in
theorem ggX6_whose_X6_in : GoodIn wsX6_whose wsX6_in := goodIn_r _ [8] (by decide +kernel) (by decide +kernel)
set_option maxRecDepth 20000 in
theorem gX6_whose_X6_in : GoodIn wsX6_whose (va_wsS RX6 62 yX6_in wsX6_in) := goodIn_app (goodIn_of _ (by decide +kernel)) ggX6_whose_X6_in
theorem dX6_whose_0 : decode cX6_whose 0 = .ok (.iload_n 1, 1) := by decide +kernel
theorem dX6_whose_1 : decode cX6_whose 1 = .ok (.i2l, 1) := by decide +kernel
theorem dX6_whose_2 : decode cX6_whose 2 = .ok (.lconst 0, 1) := by decide +kernel
theorem dX6_whose_3 : decode cX6_whose 3 = .ok (.lconst 1, 1) := by decide +kernel
theorem dX6_whose_4 : decode cX6_whose 4 = .ok (.invokestatic 62, 3) := by decide +kernel
theorem dX6_whose_7 : decode cX6_whose 7 = .ok (.ifCond .ne 6, 3) := by decide +kernel
theorem dX6_whose_10 : decode cX6_whose 10 = .ok (.bipush (-2), 2) := by decide +kernel
theorem dX6_whose_12 : decode cX6_whose 12 = .ok (.ireturn, 1) := by decide +kernel
theorem dX6_whose_13 : decode cX6_whose 13 = .ok (.iconst 0, 1) := by decide +kernel
theorem dX6_whose_14 : decode cX6_whose 14 = .ok (.istore_n 2, 1) := by decide +kernel
theorem dX6_whose_15 : decode cX6_whose 15 = .ok (.bipush (-9), 2) := by decide +kernel
theorem dX6_whose_17 : decode cX6_whose 17 = .ok (.istore_n 3, 1) := by decide +kernel
theorem dX6_whose_18 : decode cX6_whose 18 = .ok (.iconst 0, 1) := by decide +kernel
theorem dX6_whose_19 : decode cX6_whose 19 = .ok (.istore 4, 2) := by decide +kernel
theorem dX6_whose_21 : decode cX6_whose 21 = .ok (.iload 4, 2) := by decide +kernel
theorem dX6_whose_23 : decode cX6_whose 23 = .ok (.bipush 18, 2) := by decide +kernel
theorem dX6_whose_25 : decode cX6_whose 25 = .ok (.if_icmp .ge 158, 3) := by decide +kernel
theorem dX6_whose_28 : decode cX6_whose 28 = .ok (.iconst 1, 1) := by decide +kernel
theorem dX6_whose_29 : decode cX6_whose 29 = .ok (.iload 4, 2) := by decide +kernel
theorem dX6_whose_31 : decode cX6_whose 31 = .ok (.bipush 9, 2) := by decide +kernel
theorem dX6_whose_33 : decode cX6_whose 33 = .ok (.irem, 1) := by decide +kernel
theorem dX6_whose_34 : decode cX6_whose 34 = .ok (.iadd, 1) := by decide +kernel
theorem dX6_whose_35 : decode cX6_whose 35 = .ok (.istore 5, 2) := by decide +kernel
theorem dX6_whose_37 : decode cX6_whose 37 = .ok (.iconst 1, 1) := by decide +kernel
theorem dX6_whose_38 : decode cX6_whose 38 = .ok (.istore 6, 2) := by decide +kernel
theorem dX6_whose_40 : decode cX6_whose 40 = .ok (.iconst 0, 1) := by decide +kernel
theorem dX6_whose_41 : decode cX6_whose 41 = .ok (.istore 7, 2) := by decide +kernel
theorem dX6_whose_43 : decode cX6_whose 43 = .ok (.iload 7, 2) := by decide +kernel
theorem dX6_whose_45 : decode cX6_whose 45 = .ok (.aload_n 0, 1) := by decide +kernel
theorem dX6_whose_46 : decode cX6_whose 46 = .ok (.getfield 185, 3) := by decide +kernel
theorem dX6_whose_49 : decode cX6_whose 49 = .ok (.if_icmp .ge 90, 3) := by decide +kernel
theorem dX6_whose_52 : decode cX6_whose 52 = .ok (.aload_n 0, 1) := by decide +kernel
theorem dX6_whose_53 : decode cX6_whose 53 = .ok (.getfield 44, 3) := by decide +kernel
theorem dX6_whose_56 : decode cX6_whose 56 = .ok (.iload 7, 2) := by decide +kernel
theorem dX6_whose_58 : decode cX6_whose 58 = .ok (.iaload, 1) := by decide +kernel
theorem dX6_whose_59 : decode cX6_whose 59 = .ok (.iload 5, 2) := by decide +kernel
theorem dX6_whose_61 : decode cX6_whose 61 = .ok (.if_icmp .ge 13, 3) := by decide +kernel
theorem dX6_whose_64 : decode cX6_whose 64 = .ok (.aload_n 0, 1) := by decide +kernel
theorem dX6_whose_65 : decode cX6_whose 65 = .ok (.getfield 44, 3) := by decide +kernel
theorem dX6_whose_68 : decode cX6_whose 68 = .ok (.iload 7, 2) := by decide +kernel
theorem dX6_whose_70 : decode cX6_whose 70 = .ok (.iaload, 1) := by decide +kernel
theorem dX6_whose_71 : decode cX6_whose 71 = .ok (.goto 5, 3) := by decide +kernel
theorem dX6_whose_74 : decode cX6_whose 74 = .ok (.iload 5, 2) := by decide +kernel
theorem dX6_whose_76 : decode cX6_whose 76 = .ok (.istore 8, 2) := by decide +kernel
theorem dX6_whose_78 : decode cX6_whose 78 = .ok (.iload 6, 2) := by decide +kernel
theorem dX6_whose_80 : decode cX6_whose 80 = .ok (.ifCond .eq 50, 3) := by decide +kernel
theorem dX6_whose_83 : decode cX6_whose 83 = .ok (.aload_n 0, 1) := by decide +kernel
theorem dX6_whose_84 : decode cX6_whose 84 = .ok (.getfield 47, 3) := by decide +kernel
theorem dX6_whose_87 : decode cX6_whose 87 = .ok (.iload 7, 2) := by decide +kernel
theorem dX6_whose_89 : decode cX6_whose 89 = .ok (.iaload, 1) := by decide +kernel
theorem dX6_whose_90 : decode cX6_whose 90 = .ok (.aload_n 0, 1) := by decide +kernel
theorem dX6_whose_91 : decode cX6_whose 91 = .ok (.getfield 44, 3) := by decide +kernel
theorem dX6_whose_94 : decode cX6_whose 94 = .ok (.iload 7, 2) := by decide +kernel
theorem dX6_whose_96 : decode cX6_whose 96 = .ok (.iaload, 1) := by decide +kernel
theorem dX6_whose_97 : decode cX6_whose 97 = .ok (.iload 8, 2) := by decide +kernel
theorem dX6_whose_99 : decode cX6_whose 99 = .ok (.isub, 1) := by decide +kernel
theorem dX6_whose_100 : decode cX6_whose 100 = .ok (.if_icmp .ne 30, 3) := by decide +kernel
theorem dX6_whose_103 : decode cX6_whose 103 = .ok (.aload_n 0, 1) := by decide +kernel
theorem dX6_whose_104 : decode cX6_whose 104 = .ok (.getfield 50, 3) := by decide +kernel
theorem dX6_whose_107 : decode cX6_whose 107 = .ok (.iload 7, 2) := by decide +kernel
theorem dX6_whose_109 : decode cX6_whose 109 = .ok (.iaload, 1) := by decide +kernel
theorem dX6_whose_110 : decode cX6_whose 110 = .ok (.iload 4, 2) := by decide +kernel
theorem dX6_whose_112 : decode cX6_whose 112 = .ok (.bipush 9, 2) := by decide +kernel
theorem dX6_whose_114 : decode cX6_whose 114 = .ok (.if_icmp .ge 7, 3) := by decide +kernel
theorem dX6_whose_117 : decode cX6_whose 117 = .ok (.iconst 0, 1) := by decide +kernel
theorem dX6_whose_118 : decode cX6_whose 118 = .ok (.goto 5, 3) := by decide +kernel
theorem dX6_whose_121 : decode cX6_whose 121 = .ok (.iload 8, 2) := by decide +kernel
theorem dX6_whose_123 : decode cX6_whose 123 = .ok (.if_icmp .ne 7, 3) := by decide +kernel
theorem dX6_whose_126 : decode cX6_whose 126 = .ok (.iconst 1, 1) := by decide +kernel
theorem dX6_whose_127 : decode cX6_whose 127 = .ok (.goto 4, 3) := by decide +kernel
theorem dX6_whose_130 : decode cX6_whose 130 = .ok (.iconst 0, 1) := by decide +kernel
theorem dX6_whose_131 : decode cX6_whose 131 = .ok (.istore 6, 2) := by decide +kernel
theorem dX6_whose_133 : decode cX6_whose 133 = .ok (.iinc 7 1, 3) := by decide +kernel
theorem dX6_whose_136 : decode cX6_whose 136 = .ok (.goto (-93), 3) := by decide +kernel
theorem dX6_whose_139 : decode cX6_whose 139 = .ok (.iload 6, 2) := by decide +kernel
theorem dX6_whose_141 : decode cX6_whose 141 = .ok (.ifCond .eq 21, 3) := by decide +kernel
theorem dX6_whose_144 : decode cX6_whose 144 = .ok (.iload_n 2, 1) := by decide +kernel
theorem dX6_whose_145 : decode cX6_whose 145 = .ok (.ifCond .ne 17, 3) := by decide +kernel
theorem dX6_whose_148 : decode cX6_whose 148 = .ok (.bipush 10, 2) := by decide +kernel
theorem dX6_whose_150 : decode cX6_whose 150 = .ok (.iload 4, 2) := by decide +kernel
theorem dX6_whose_152 : decode cX6_whose 152 = .ok (.bipush 9, 2) := by decide +kernel
theorem dX6_whose_154 : decode cX6_whose 154 = .ok (.idiv, 1) := by decide +kernel
theorem dX6_whose_155 : decode cX6_whose 155 = .ok (.imul, 1) := by decide +kernel
theorem dX6_whose_156 : decode cX6_whose 156 = .ok (.iload 5, 2) := by decide +kernel
theorem dX6_whose_158 : decode cX6_whose 158 = .ok (.iadd, 1) := by decide +kernel
theorem dX6_whose_159 : decode cX6_whose 159 = .ok (.goto 4, 3) := by decide +kernel
theorem dX6_whose_162 : decode cX6_whose 162 = .ok (.iload_n 3, 1) := by decide +kernel
theorem dX6_whose_163 : decode cX6_whose 163 = .ok (.istore_n 3, 1) := by decide +kernel
theorem dX6_whose_164 : decode cX6_whose 164 = .ok (.iload_n 2, 1) := by decide +kernel
theorem dX6_whose_165 : decode cX6_whose 165 = .ok (.iload 6, 2) := by decide +kernel
theorem dX6_whose_167 : decode cX6_whose 167 = .ok (.ifCond .eq 7, 3) := by decide +kernel
theorem dX6_whose_170 : decode cX6_whose 170 = .ok (.iconst 1, 1) := by decide +kernel
theorem dX6_whose_171 : decode cX6_whose 171 = .ok (.goto 4, 3) := by decide +kernel
theorem dX6_whose_174 : decode cX6_whose 174 = .ok (.iconst 0, 1) := by decide +kernel
theorem dX6_whose_175 : decode cX6_whose 175 = .ok (.iadd, 1) := by decide +kernel
theorem dX6_whose_176 : decode cX6_whose 176 = .ok (.istore_n 2, 1) := by decide +kernel
theorem dX6_whose_177 : decode cX6_whose 177 = .ok (.iinc 4 1, 3) := by decide +kernel
theorem dX6_whose_180 : decode cX6_whose 180 = .ok (.goto (-159), 3) := by decide +kernel
theorem dX6_whose_183 : decode cX6_whose 183 = .ok (.iload_n 1, 1) := by decide +kernel
theorem dX6_whose_184 : decode cX6_whose 184 = .ok (.ifCond .ne 7, 3) := by decide +kernel
theorem dX6_whose_187 : decode cX6_whose 187 = .ok (.iload_n 2, 1) := by decide +kernel
theorem dX6_whose_188 : decode cX6_whose 188 = .ok (.goto 4, 3) := by decide +kernel
theorem dX6_whose_191 : decode cX6_whose 191 = .ok (.iload_n 3, 1) := by decide +kernel
theorem dX6_whose_192 : decode cX6_whose 192 = .ok (.ireturn, 1) := by decide +kernel
theorem dX6_factorial_0 : decode cX6_factorial 0 = .ok (.iconst 1, 1) := by decide +kernel
theorem dX6_factorial_1 : decode cX6_factorial 1 = .ok (.istore_n 1, 1) := by decide +kernel
theorem dX6_factorial_2 : decode cX6_factorial 2 = .ok (.iconst 2, 1) := by decide +kernel
theorem dX6_factorial_3 : decode cX6_factorial 3 = .ok (.istore_n 2, 1) := by decide +kernel
theorem dX6_factorial_4 : decode cX6_factorial 4 = .ok (.iload_n 2, 1) := by decide +kernel
theorem dX6_factorial_5 : decode cX6_factorial 5 = .ok (.iload_n 0, 1) := by decide +kernel
theorem dX6_factorial_6 : decode cX6_factorial 6 = .ok (.if_icmp .gt 13, 3) := by decide +kernel
theorem dX6_factorial_9 : decode cX6_factorial 9 = .ok (.iload_n 1, 1) := by decide +kernel
theorem dX6_factorial_10 : decode cX6_factorial 10 = .ok (.iload_n 2, 1) := by decide +kernel
theorem dX6_factorial_11 : decode cX6_factorial 11 = .ok (.imul, 1) := by decide +kernel
theorem dX6_factorial_12 : decode cX6_factorial 12 = .ok (.istore_n 1, 1) := by decide +kernel
theorem dX6_factorial_13 : decode cX6_factorial 13 = .ok (.iinc 2 1, 3) := by decide +kernel
theorem dX6_factorial_16 : decode cX6_factorial 16 = .ok (.goto (-12), 3) := by decide +kernel
theorem dX6_factorial_19 : decode cX6_factorial 19 = .ok (.iload_n 1, 1) := by decide +kernel
theorem dX6_factorial_20 : decode cX6_factorial 20 = .ok (.ireturn, 1) := by decide +kernel
theorem dX6_common_0 : decode cX6_common 0 = .ok (.iload_n 0, 1) := by decide +kernel
theorem dX6_common_1 : decode cX6_common 1 = .ok (.ifCond .ge 8, 3) := by decide +kernel
theorem dX6_common_4 : decode cX6_common 4 = .ok (.iload_n 0, 1) := by decide +kernel
theorem dX6_common_5 : decode cX6_common 5 = .ok (.ineg, 1) := by decide +kernel
theorem dX6_common_6 : decode cX6_common 6 = .ok (.goto 4, 3) := by decide +kernel
theorem dX6_common_9 : decode cX6_common 9 = .ok (.iload_n 0, 1) := by decide +kernel
theorem dX6_common_10 : decode cX6_common 10 = .ok (.istore_n 2, 1) := by decide +kernel
theorem dX6_common_11 : decode cX6_common 11 = .ok (.iload_n 1, 1) := by decide +kernel
theorem dX6_common_12 : decode cX6_common 12 = .ok (.istore_n 3, 1) := by decide +kernel
theorem dX6_common_13 : decode cX6_common 13 = .ok (.iload_n 3, 1) := by decide +kernel
theorem dX6_common_14 : decode cX6_common 14 = .ok (.ifCond .eq 16, 3) := by decide +kernel
theorem dX6_common_17 : decode cX6_common 17 = .ok (.iload_n 2, 1) := by decide +kernel
theorem dX6_common_18 : decode cX6_common 18 = .ok (.iload_n 3, 1) := by decide +kernel
theorem dX6_common_19 : decode cX6_common 19 = .ok (.irem, 1) := by decide +kernel
theorem dX6_common_20 : decode cX6_common 20 = .ok (.istore 4, 2) := by decide +kernel
theorem dX6_common_22 : decode cX6_common 22 = .ok (.iload_n 3, 1) := by decide +kernel
theorem dX6_common_23 : decode cX6_common 23 = .ok (.istore_n 2, 1) := by decide +kernel
theorem dX6_common_24 : decode cX6_common 24 = .ok (.iload 4, 2) := by decide +kernel
theorem dX6_common_26 : decode cX6_common 26 = .ok (.istore_n 3, 1) := by decide +kernel
theorem dX6_common_27 : decode cX6_common 27 = .ok (.goto (-14), 3) := by decide +kernel
theorem dX6_common_30 : decode cX6_common 30 = .ok (.iload_n 2, 1) := by decide +kernel
theorem dX6_common_31 : decode cX6_common 31 = .ok (.ireturn, 1) := by decide +kernel
set_option maxRecDepth 20000 in
theorem ggX6_dustBy_X6_layTrial : GoodIn wsX6_dustBy wsX6_layTrial := goodIn_r _ [6, 7, 49, 50, 51, 52, 53, 54, 55, 56, 57, 58, 59, 60, 61, 62, 63, 64, 65, 66, 67, 68, 69, 70, 71, 72, 73, 74, 75] (by decide +kernel) (by decide +kernel)
set_option maxRecDepth 20000 in
theorem gX6_dustBy_X6_layTrial : GoodIn wsX6_dustBy (wsV RX6 157 RX6 yX6_layTrial wsX6_layTrial) := goodIn_app (goodIn_of _ (by decide +kernel)) ggX6_dustBy_X6_layTrial
set_option maxRecDepth 20000 in
theorem ggX6_dustBy_X6_goOn : GoodIn wsX6_dustBy wsX6_goOn := goodIn_r _ [11, 12, 13, 14, 5, 15, 16, 7, 17, 18, 19, 20, 21, 22, 23, 24, 25, 26, 27, 1, 28, 29, 30, 31, 32, 33, 34, 35, 36, 37, 38, 39, 40, 41, 42, 43, 44, 49, 50, 51, 52, 53, 54, 55, 56, 57, 58, 59, 60, 61, 62, 63, 64, 65, 66, 67, 68, 69, 70, 71, 72, 73, 74, 75] (by decide +kernel) (by decide +kernel)
set_option maxRecDepth 20000 in
theorem gX6_dustBy_X6_goOn : GoodIn wsX6_dustBy (wsV RX6 160 RX6 yX6_goOn wsX6_goOn) := goodIn_app (goodIn_of _ (by decide +kernel)) ggX6_dustBy_X6_goOn
set_option maxRecDepth 20000 in
theorem ggX6_dustBy_X6_dustOn : GoodIn wsX6_dustBy wsX6_dustOn := goodIn_r _ [48, 7, 49, 50, 51, 52, 53, 54, 55, 56, 57, 58, 59, 60, 61, 62, 63, 64, 65, 66, 67, 68, 69, 70, 71, 72, 73, 74, 75] (by decide +kernel) (by decide +kernel)
set_option maxRecDepth 20000 in
theorem gX6_dustBy_X6_dustOn : GoodIn wsX6_dustBy (wsV RX6 146 RX6 yX6_dustOn wsX6_dustOn) := goodIn_app (goodIn_of _ (by decide +kernel)) ggX6_dustBy_X6_dustOn
theorem dX6_dustBy_0 : decode cX6_dustBy 0 = .ok (.aload_n 0, 1) := by decide +kernel
theorem dX6_dustBy_1 : decode cX6_dustBy 1 = .ok (.iload_n 1, 1) := by decide +kernel
theorem dX6_dustBy_2 : decode cX6_dustBy 2 = .ok (.putfield 37, 3) := by decide +kernel
theorem dX6_dustBy_5 : decode cX6_dustBy 5 = .ok (.aload_n 0, 1) := by decide +kernel
theorem dX6_dustBy_6 : decode cX6_dustBy 6 = .ok (.invokevirtual 157, 3) := by decide +kernel
theorem dX6_dustBy_9 : decode cX6_dustBy 9 = .ok (.aload_n 0, 1) := by decide +kernel
theorem dX6_dustBy_10 : decode cX6_dustBy 10 = .ok (.bipush 6, 2) := by decide +kernel
theorem dX6_dustBy_12 : decode cX6_dustBy 12 = .ok (.invokevirtual 160, 3) := by decide +kernel
theorem dX6_dustBy_15 : decode cX6_dustBy 15 = .ok (.aload_n 0, 1) := by decide +kernel
theorem dX6_dustBy_16 : decode cX6_dustBy 16 = .ok (.bipush 31, 2) := by decide +kernel
theorem dX6_dustBy_18 : decode cX6_dustBy 18 = .ok (.putfield 37, 3) := by decide +kernel
theorem dX6_dustBy_21 : decode cX6_dustBy 21 = .ok (.aload_n 0, 1) := by decide +kernel
theorem dX6_dustBy_22 : decode cX6_dustBy 22 = .ok (.iconst 1, 1) := by decide +kernel
theorem dX6_dustBy_23 : decode cX6_dustBy 23 = .ok (.invokevirtual 146, 3) := by decide +kernel
theorem dX6_dustBy_26 : decode cX6_dustBy 26 = .ok (.ireturn, 1) := by decide +kernel
set_option maxRecDepth 20000 in
theorem ggX6_share_X6_isBroom : GoodIn wsX6_share wsX6_isBroom := goodIn_r _ [6, 1, 7, 8, 5, 9, 69, 70, 71, 72, 73, 74, 75, 76, 77, 78, 79, 80, 81, 82, 83, 84, 85, 86, 87, 88, 89, 90, 91, 92, 93, 94, 95] (by decide +kernel) (by decide +kernel)
set_option maxRecDepth 20000 in
theorem gX6_share_X6_isBroom : GoodIn wsX6_share (wsV RX6 134 RX6 yX6_isBroom wsX6_isBroom) := goodIn_app (goodIn_of _ (by decide +kernel)) ggX6_share_X6_isBroom
set_option maxRecDepth 20000 in
theorem ggX6_share_X6_has : GoodIn wsX6_share wsX6_has := goodIn_r _ [12] (by decide +kernel) (by decide +kernel)
set_option maxRecDepth 20000 in
theorem gX6_share_X6_has : GoodIn wsX6_share (va_wsS RX6 104 yX6_has wsX6_has) := goodIn_app (goodIn_of _ (by decide +kernel)) ggX6_share_X6_has
set_option maxRecDepth 20000 in
theorem ggX6_share_X6_ones : GoodIn wsX6_share wsX6_ones := goodIn_r _ [15] (by decide +kernel) (by decide +kernel)
set_option maxRecDepth 20000 in
theorem gX6_share_X6_ones : GoodIn wsX6_share (va_wsS RX6 152 yX6_ones wsX6_ones) := goodIn_app (goodIn_of _ (by decide +kernel)) ggX6_share_X6_ones
set_option maxRecDepth 20000 in
theorem ggX6_share_X6_factorial : GoodIn wsX6_share wsX6_factorial := goodIn_r _ [18] (by decide +kernel) (by decide +kernel)
set_option maxRecDepth 20000 in
theorem gX6_share_X6_factorial : GoodIn wsX6_share (va_wsS RX6 188 yX6_factorial wsX6_factorial) := goodIn_app (goodIn_of _ (by decide +kernel)) ggX6_share_X6_factorial
set_option maxRecDepth 20000 in
theorem ggX6_share_X6_dustBy : GoodIn wsX6_share wsX6_dustBy := goodIn_r _ [22, 23, 24, 25, 26, 5, 27, 28, 29, 30, 31, 32, 33, 34, 35, 36, 37, 38, 39, 1, 40, 41, 42, 43, 44, 45, 46, 47, 48, 49, 50, 51, 52, 53, 10, 11, 12, 54, 55, 56, 57, 58, 59, 60, 61, 62, 63, 64, 65, 69, 70, 71, 72, 73, 74, 75, 76, 77, 78, 79, 80, 81, 82, 83, 84, 85, 86, 87, 88, 89, 90, 91, 92, 93, 94, 95] (by decide +kernel) (by decide +kernel)
set_option maxRecDepth 20000 in
theorem gX6_share_X6_dustBy : GoodIn wsX6_share (wsV RX6 191 RX6 yX6_dustBy wsX6_dustBy) := goodIn_app (goodIn_of _ (by decide +kernel)) ggX6_share_X6_dustBy
set_option maxRecDepth 20000 in
theorem ggX6_share_X6_common : GoodIn wsX6_share wsX6_common := goodIn_r _ [68] (by decide +kernel) (by decide +kernel)
set_option maxRecDepth 20000 in
theorem gX6_share_X6_common : GoodIn wsX6_share (va_wsS RX6 194 yX6_common wsX6_common) := goodIn_app (goodIn_of _ (by decide +kernel)) ggX6_share_X6_common
theorem dX6_share_0 : decode cX6_share 0 = .ok (.aload_n 0, 1) := by decide +kernel
theorem dX6_share_1 : decode cX6_share 1 = .ok (.iload_n 1, 1) := by decide +kernel
theorem dX6_share_2 : decode cX6_share 2 = .ok (.invokevirtual 134, 3) := by decide +kernel
theorem dX6_share_5 : decode cX6_share 5 = .ok (.ifCond .ne 5, 3) := by decide +kernel
theorem dX6_share_8 : decode cX6_share 8 = .ok (.iconst (-1), 1) := by decide +kernel
theorem dX6_share_9 : decode cX6_share 9 = .ok (.ireturn, 1) := by decide +kernel
theorem dX6_share_10 : decode cX6_share 10 = .ok (.iconst 0, 1) := by decide +kernel
theorem dX6_share_11 : decode cX6_share 11 = .ok (.istore_n 3, 1) := by decide +kernel
theorem dX6_share_12 : decode cX6_share 12 = .ok (.iconst 0, 1) := by decide +kernel
theorem dX6_share_13 : decode cX6_share 13 = .ok (.istore 4, 2) := by decide +kernel
theorem dX6_share_15 : decode cX6_share 15 = .ok (.iload 4, 2) := by decide +kernel
theorem dX6_share_17 : decode cX6_share 17 = .ok (.iconst 1, 1) := by decide +kernel
theorem dX6_share_18 : decode cX6_share 18 = .ok (.aload_n 0, 1) := by decide +kernel
theorem dX6_share_19 : decode cX6_share 19 = .ok (.getfield 93, 3) := by decide +kernel
theorem dX6_share_22 : decode cX6_share 22 = .ok (.ishl, 1) := by decide +kernel
theorem dX6_share_23 : decode cX6_share 23 = .ok (.if_icmp .ge 67, 3) := by decide +kernel
theorem dX6_share_26 : decode cX6_share 26 = .ok (.iload 4, 2) := by decide +kernel
theorem dX6_share_28 : decode cX6_share 28 = .ok (.iload_n 1, 1) := by decide +kernel
theorem dX6_share_29 : decode cX6_share 29 = .ok (.invokestatic 104, 3) := by decide +kernel
theorem dX6_share_32 : decode cX6_share 32 = .ok (.ifCond .ne 52, 3) := by decide +kernel
theorem dX6_share_35 : decode cX6_share 35 = .ok (.iload 4, 2) := by decide +kernel
theorem dX6_share_37 : decode cX6_share 37 = .ok (.invokestatic 152, 3) := by decide +kernel
theorem dX6_share_40 : decode cX6_share 40 = .ok (.invokestatic 188, 3) := by decide +kernel
theorem dX6_share_43 : decode cX6_share 43 = .ok (.aload_n 0, 1) := by decide +kernel
theorem dX6_share_44 : decode cX6_share 44 = .ok (.getfield 93, 3) := by decide +kernel
theorem dX6_share_47 : decode cX6_share 47 = .ok (.iconst 1, 1) := by decide +kernel
theorem dX6_share_48 : decode cX6_share 48 = .ok (.isub, 1) := by decide +kernel
theorem dX6_share_49 : decode cX6_share 49 = .ok (.iload 4, 2) := by decide +kernel
theorem dX6_share_51 : decode cX6_share 51 = .ok (.invokestatic 152, 3) := by decide +kernel
theorem dX6_share_54 : decode cX6_share 54 = .ok (.isub, 1) := by decide +kernel
theorem dX6_share_55 : decode cX6_share 55 = .ok (.invokestatic 188, 3) := by decide +kernel
theorem dX6_share_58 : decode cX6_share 58 = .ok (.imul, 1) := by decide +kernel
theorem dX6_share_59 : decode cX6_share 59 = .ok (.istore 5, 2) := by decide +kernel
theorem dX6_share_61 : decode cX6_share 61 = .ok (.iload_n 3, 1) := by decide +kernel
theorem dX6_share_62 : decode cX6_share 62 = .ok (.iload 5, 2) := by decide +kernel
theorem dX6_share_64 : decode cX6_share 64 = .ok (.aload_n 0, 1) := by decide +kernel
theorem dX6_share_65 : decode cX6_share 65 = .ok (.iload 4, 2) := by decide +kernel
theorem dX6_share_67 : decode cX6_share 67 = .ok (.invokevirtual 191, 3) := by decide +kernel
theorem dX6_share_70 : decode cX6_share 70 = .ok (.aload_n 0, 1) := by decide +kernel
theorem dX6_share_71 : decode cX6_share 71 = .ok (.iload 4, 2) := by decide +kernel
theorem dX6_share_73 : decode cX6_share 73 = .ok (.iconst 1, 1) := by decide +kernel
theorem dX6_share_74 : decode cX6_share 74 = .ok (.iload_n 1, 1) := by decide +kernel
theorem dX6_share_75 : decode cX6_share 75 = .ok (.ishl, 1) := by decide +kernel
theorem dX6_share_76 : decode cX6_share 76 = .ok (.ior, 1) := by decide +kernel
theorem dX6_share_77 : decode cX6_share 77 = .ok (.invokevirtual 191, 3) := by decide +kernel
theorem dX6_share_80 : decode cX6_share 80 = .ok (.isub, 1) := by decide +kernel
theorem dX6_share_81 : decode cX6_share 81 = .ok (.imul, 1) := by decide +kernel
theorem dX6_share_82 : decode cX6_share 82 = .ok (.iadd, 1) := by decide +kernel
theorem dX6_share_83 : decode cX6_share 83 = .ok (.istore_n 3, 1) := by decide +kernel
theorem dX6_share_84 : decode cX6_share 84 = .ok (.iinc 4 1, 3) := by decide +kernel
theorem dX6_share_87 : decode cX6_share 87 = .ok (.goto (-72), 3) := by decide +kernel
theorem dX6_share_90 : decode cX6_share 90 = .ok (.iload_n 3, 1) := by decide +kernel
theorem dX6_share_91 : decode cX6_share 91 = .ok (.aload_n 0, 1) := by decide +kernel
theorem dX6_share_92 : decode cX6_share 92 = .ok (.getfield 93, 3) := by decide +kernel
theorem dX6_share_95 : decode cX6_share 95 = .ok (.invokestatic 188, 3) := by decide +kernel
theorem dX6_share_98 : decode cX6_share 98 = .ok (.invokestatic 194, 3) := by decide +kernel
theorem dX6_share_101 : decode cX6_share 101 = .ok (.istore 4, 2) := by decide +kernel
theorem dX6_share_103 : decode cX6_share 103 = .ok (.iload_n 2, 1) := by decide +kernel
theorem dX6_share_104 : decode cX6_share 104 = .ok (.ifCond .eq 10, 3) := by decide +kernel
theorem dX6_share_107 : decode cX6_share 107 = .ok (.iload_n 3, 1) := by decide +kernel
theorem dX6_share_108 : decode cX6_share 108 = .ok (.iload 4, 2) := by decide +kernel
theorem dX6_share_110 : decode cX6_share 110 = .ok (.idiv, 1) := by decide +kernel
theorem dX6_share_111 : decode cX6_share 111 = .ok (.goto 13, 3) := by decide +kernel
theorem dX6_share_114 : decode cX6_share 114 = .ok (.aload_n 0, 1) := by decide +kernel
theorem dX6_share_115 : decode cX6_share 115 = .ok (.getfield 93, 3) := by decide +kernel
theorem dX6_share_118 : decode cX6_share 118 = .ok (.invokestatic 188, 3) := by decide +kernel
theorem dX6_share_121 : decode cX6_share 121 = .ok (.iload 4, 2) := by decide +kernel
theorem dX6_share_123 : decode cX6_share 123 = .ok (.idiv, 1) := by decide +kernel
theorem dX6_share_124 : decode cX6_share 124 = .ok (.ireturn, 1) := by decide +kernel
set_option maxRecDepth 20000 in
theorem ggX6_gain_X6_layTrial : GoodIn wsX6_gain wsX6_layTrial := goodIn_r _ [7, 2, 45, 46, 47, 48, 49, 50, 51, 52, 53, 54, 55, 56, 57, 58, 59, 60, 61, 62, 63, 64, 65, 66, 67, 68, 69, 70, 71] (by decide +kernel) (by decide +kernel)
set_option maxRecDepth 20000 in
theorem gX6_gain_X6_layTrial : GoodIn wsX6_gain (wsV RX6 157 RX6 yX6_layTrial wsX6_layTrial) := goodIn_app (goodIn_of _ (by decide +kernel)) ggX6_gain_X6_layTrial
set_option maxRecDepth 20000 in
theorem ggX6_gain_X6_goOn : GoodIn wsX6_gain wsX6_goOn := goodIn_r _ [11, 12, 13, 14, 6, 15, 16, 2, 17, 18, 19, 20, 21, 22, 23, 24, 25, 26, 27, 1, 28, 29, 30, 31, 32, 33, 34, 35, 36, 37, 38, 39, 40, 41, 42, 43, 44, 45, 46, 47, 48, 49, 50, 51, 52, 53, 54, 55, 56, 57, 58, 59, 60, 61, 62, 63, 64, 65, 66, 67, 68, 69, 70, 71] (by decide +kernel) (by decide +kernel)
set_option maxRecDepth 20000 in
theorem gX6_gain_X6_goOn : GoodIn wsX6_gain (wsV RX6 160 RX6 yX6_goOn wsX6_goOn) := goodIn_app (goodIn_of _ (by decide +kernel)) ggX6_gain_X6_goOn
theorem dX6_gain_0 : decode cX6_gain 0 = .ok (.aload_n 0, 1) := by decide +kernel
theorem dX6_gain_1 : decode cX6_gain 1 = .ok (.bipush 31, 2) := by decide +kernel
theorem dX6_gain_3 : decode cX6_gain 3 = .ok (.iconst 1, 1) := by decide +kernel
theorem dX6_gain_4 : decode cX6_gain 4 = .ok (.iload_n 1, 1) := by decide +kernel
theorem dX6_gain_5 : decode cX6_gain 5 = .ok (.ishl, 1) := by decide +kernel
theorem dX6_gain_6 : decode cX6_gain 6 = .ok (.iconst (-1), 1) := by decide +kernel
theorem dX6_gain_7 : decode cX6_gain 7 = .ok (.ixor, 1) := by decide +kernel
theorem dX6_gain_8 : decode cX6_gain 8 = .ok (.iand, 1) := by decide +kernel
theorem dX6_gain_9 : decode cX6_gain 9 = .ok (.iconst 1, 1) := by decide +kernel
theorem dX6_gain_10 : decode cX6_gain 10 = .ok (.iload_n 2, 1) := by decide +kernel
theorem dX6_gain_11 : decode cX6_gain 11 = .ok (.ishl, 1) := by decide +kernel
theorem dX6_gain_12 : decode cX6_gain 12 = .ok (.iconst (-1), 1) := by decide +kernel
theorem dX6_gain_13 : decode cX6_gain 13 = .ok (.ixor, 1) := by decide +kernel
theorem dX6_gain_14 : decode cX6_gain 14 = .ok (.iand, 1) := by decide +kernel
theorem dX6_gain_15 : decode cX6_gain 15 = .ok (.iload_n 3, 1) := by decide +kernel
theorem dX6_gain_16 : decode cX6_gain 16 = .ok (.iload_n 1, 1) := by decide +kernel
theorem dX6_gain_17 : decode cX6_gain 17 = .ok (.ishl, 1) := by decide +kernel
theorem dX6_gain_18 : decode cX6_gain 18 = .ok (.ior, 1) := by decide +kernel
theorem dX6_gain_19 : decode cX6_gain 19 = .ok (.iload 4, 2) := by decide +kernel
theorem dX6_gain_21 : decode cX6_gain 21 = .ok (.iload_n 2, 1) := by decide +kernel
theorem dX6_gain_22 : decode cX6_gain 22 = .ok (.ishl, 1) := by decide +kernel
theorem dX6_gain_23 : decode cX6_gain 23 = .ok (.ior, 1) := by decide +kernel
theorem dX6_gain_24 : decode cX6_gain 24 = .ok (.putfield 37, 3) := by decide +kernel
theorem dX6_gain_27 : decode cX6_gain 27 = .ok (.aload_n 0, 1) := by decide +kernel
theorem dX6_gain_28 : decode cX6_gain 28 = .ok (.invokevirtual 157, 3) := by decide +kernel
theorem dX6_gain_31 : decode cX6_gain 31 = .ok (.aload_n 0, 1) := by decide +kernel
theorem dX6_gain_32 : decode cX6_gain 32 = .ok (.iconst 3, 1) := by decide +kernel
theorem dX6_gain_33 : decode cX6_gain 33 = .ok (.invokevirtual 160, 3) := by decide +kernel
theorem dX6_gain_36 : decode cX6_gain 36 = .ok (.aload_n 0, 1) := by decide +kernel
theorem dX6_gain_37 : decode cX6_gain 37 = .ok (.bipush 31, 2) := by decide +kernel
theorem dX6_gain_39 : decode cX6_gain 39 = .ok (.putfield 37, 3) := by decide +kernel
theorem dX6_gain_42 : decode cX6_gain 42 = .ok (.bipush 20, 2) := by decide +kernel
theorem dX6_gain_44 : decode cX6_gain 44 = .ok (.aload_n 0, 1) := by decide +kernel
theorem dX6_gain_45 : decode cX6_gain 45 = .ok (.getfield 22, 3) := by decide +kernel
theorem dX6_gain_48 : decode cX6_gain 48 = .ok (.bipush 16, 2) := by decide +kernel
theorem dX6_gain_50 : decode cX6_gain 50 = .ok (.aload_n 0, 1) := by decide +kernel
theorem dX6_gain_51 : decode cX6_gain 51 = .ok (.getfield 22, 3) := by decide +kernel
theorem dX6_gain_54 : decode cX6_gain 54 = .ok (.bipush 8, 2) := by decide +kernel
theorem dX6_gain_56 : decode cX6_gain 56 = .ok (.iload_n 1, 1) := by decide +kernel
theorem dX6_gain_57 : decode cX6_gain 57 = .ok (.iadd, 1) := by decide +kernel
theorem dX6_gain_58 : decode cX6_gain 58 = .ok (.iaload, 1) := by decide +kernel
theorem dX6_gain_59 : decode cX6_gain 59 = .ok (.iadd, 1) := by decide +kernel
theorem dX6_gain_60 : decode cX6_gain 60 = .ok (.iaload, 1) := by decide +kernel
theorem dX6_gain_61 : decode cX6_gain 61 = .ok (.isub, 1) := by decide +kernel
theorem dX6_gain_62 : decode cX6_gain 62 = .ok (.iconst 4, 1) := by decide +kernel
theorem dX6_gain_63 : decode cX6_gain 63 = .ok (.iload_n 3, 1) := by decide +kernel
theorem dX6_gain_64 : decode cX6_gain 64 = .ok (.imul, 1) := by decide +kernel
theorem dX6_gain_65 : decode cX6_gain 65 = .ok (.isub, 1) := by decide +kernel
theorem dX6_gain_66 : decode cX6_gain 66 = .ok (.ireturn, 1) := by decide +kernel
set_option maxRecDepth 20000 in
theorem ggX6_isRest_X6_gain : GoodIn wsX6_isRest wsX6_gain := goodIn_r _ [5, 6, 7, 8, 9, 10, 4, 11, 12, 13, 14, 15, 16, 17, 18, 19, 20, 21, 22, 23, 24, 25, 26, 27, 28, 29, 30, 31, 32, 33, 34, 35, 36, 37, 38, 39, 40, 41, 42, 43, 44, 45, 46, 47, 48, 49, 50, 51, 52, 53, 54, 55, 56, 57, 58, 59, 60, 61, 62, 63, 64, 65, 66, 67, 68, 69, 70, 71, 72, 73, 74, 75] (by decide +kernel) (by decide +kernel)
set_option maxRecDepth 20000 in
theorem gX6_isRest_X6_gain : GoodIn wsX6_isRest (wsV RX6 197 RX6 yX6_gain wsX6_gain) := goodIn_app (goodIn_of _ (by decide +kernel)) ggX6_isRest_X6_gain
theorem dX6_isRest_0 : decode cX6_isRest 0 = .ok (.aload_n 0, 1) := by decide +kernel
theorem dX6_isRest_1 : decode cX6_isRest 1 = .ok (.iload_n 1, 1) := by decide +kernel
theorem dX6_isRest_2 : decode cX6_isRest 2 = .ok (.iload_n 2, 1) := by decide +kernel
theorem dX6_isRest_3 : decode cX6_isRest 3 = .ok (.iconst 1, 1) := by decide +kernel
theorem dX6_isRest_4 : decode cX6_isRest 4 = .ok (.iload_n 3, 1) := by decide +kernel
theorem dX6_isRest_5 : decode cX6_isRest 5 = .ok (.isub, 1) := by decide +kernel
theorem dX6_isRest_6 : decode cX6_isRest 6 = .ok (.iload 4, 2) := by decide +kernel
theorem dX6_isRest_8 : decode cX6_isRest 8 = .ok (.invokevirtual 197, 3) := by decide +kernel
theorem dX6_isRest_11 : decode cX6_isRest 11 = .ok (.aload_n 0, 1) := by decide +kernel
theorem dX6_isRest_12 : decode cX6_isRest 12 = .ok (.iload_n 1, 1) := by decide +kernel
theorem dX6_isRest_13 : decode cX6_isRest 13 = .ok (.iload_n 2, 1) := by decide +kernel
theorem dX6_isRest_14 : decode cX6_isRest 14 = .ok (.iload_n 3, 1) := by decide +kernel
theorem dX6_isRest_15 : decode cX6_isRest 15 = .ok (.iload 4, 2) := by decide +kernel
theorem dX6_isRest_17 : decode cX6_isRest 17 = .ok (.invokevirtual 197, 3) := by decide +kernel
theorem dX6_isRest_20 : decode cX6_isRest 20 = .ok (.if_icmp .gt 30, 3) := by decide +kernel
theorem dX6_isRest_23 : decode cX6_isRest 23 = .ok (.aload_n 0, 1) := by decide +kernel
theorem dX6_isRest_24 : decode cX6_isRest 24 = .ok (.iload_n 2, 1) := by decide +kernel
theorem dX6_isRest_25 : decode cX6_isRest 25 = .ok (.iload_n 1, 1) := by decide +kernel
theorem dX6_isRest_26 : decode cX6_isRest 26 = .ok (.iconst 1, 1) := by decide +kernel
theorem dX6_isRest_27 : decode cX6_isRest 27 = .ok (.iload 4, 2) := by decide +kernel
theorem dX6_isRest_29 : decode cX6_isRest 29 = .ok (.isub, 1) := by decide +kernel
theorem dX6_isRest_30 : decode cX6_isRest 30 = .ok (.iload_n 3, 1) := by decide +kernel
theorem dX6_isRest_31 : decode cX6_isRest 31 = .ok (.invokevirtual 197, 3) := by decide +kernel
theorem dX6_isRest_34 : decode cX6_isRest 34 = .ok (.aload_n 0, 1) := by decide +kernel
theorem dX6_isRest_35 : decode cX6_isRest 35 = .ok (.iload_n 2, 1) := by decide +kernel
theorem dX6_isRest_36 : decode cX6_isRest 36 = .ok (.iload_n 1, 1) := by decide +kernel
theorem dX6_isRest_37 : decode cX6_isRest 37 = .ok (.iload 4, 2) := by decide +kernel
theorem dX6_isRest_39 : decode cX6_isRest 39 = .ok (.iload_n 3, 1) := by decide +kernel
theorem dX6_isRest_40 : decode cX6_isRest 40 = .ok (.invokevirtual 197, 3) := by decide +kernel
theorem dX6_isRest_43 : decode cX6_isRest 43 = .ok (.if_icmp .gt 7, 3) := by decide +kernel
theorem dX6_isRest_46 : decode cX6_isRest 46 = .ok (.iconst 1, 1) := by decide +kernel
theorem dX6_isRest_47 : decode cX6_isRest 47 = .ok (.goto 4, 3) := by decide +kernel
theorem dX6_isRest_50 : decode cX6_isRest 50 = .ok (.iconst 0, 1) := by decide +kernel
theorem dX6_isRest_51 : decode cX6_isRest 51 = .ok (.ireturn, 1) := by decide +kernel
set_option maxRecDepth 20000 in
theorem ggX6_rests_X6_isBroom : GoodIn wsX6_rests wsX6_isBroom := goodIn_r _ [5, 6, 7, 8, 4, 9, 60, 61, 62, 63, 64, 65, 66, 67, 68, 69, 70, 71, 72, 73, 74, 75, 76, 77, 78, 79, 80, 81, 82, 83, 84, 85, 86] (by decide +kernel) (by decide +kernel)
set_option maxRecDepth 20000 in
theorem gX6_rests_X6_isBroom : GoodIn wsX6_rests (wsV RX6 134 RX6 yX6_isBroom wsX6_isBroom) := goodIn_app (goodIn_of _ (by decide +kernel)) ggX6_rests_X6_isBroom
set_option maxRecDepth 20000 in
theorem ggX6_rests_X6_in : GoodIn wsX6_rests wsX6_in := goodIn_r _ [9] (by decide +kernel) (by decide +kernel)
set_option maxRecDepth 20000 in
theorem gX6_rests_X6_in : GoodIn wsX6_rests (va_wsS RX6 62 yX6_in wsX6_in) := goodIn_app (goodIn_of _ (by decide +kernel)) ggX6_rests_X6_in
set_option maxRecDepth 20000 in
theorem ggX6_rests_X6_isRest : GoodIn wsX6_rests wsX6_isRest := goodIn_r _ [13, 14, 15, 16, 4, 17, 18, 19, 20, 21, 22, 23, 24, 25, 26, 27, 28, 29, 30, 31, 32, 33, 34, 6, 35, 36, 37, 38, 39, 40, 41, 42, 43, 44, 45, 46, 47, 48, 49, 50, 51, 52, 53, 54, 55, 56, 57, 58, 59, 60, 61, 62, 63, 64, 65, 66, 67, 68, 69, 70, 71, 72, 73, 74, 75, 76, 77, 78, 79, 80, 81, 82, 83, 84, 85, 86] (by decide +kernel) (by decide +kernel)
set_option maxRecDepth 20000 in
theorem gX6_rests_X6_isRest : GoodIn wsX6_rests (wsV RX6 201 RX6 yX6_isRest wsX6_isRest) := goodIn_app (goodIn_of _ (by decide +kernel)) ggX6_rests_X6_isRest
theorem dX6_rests_0 : decode cX6_rests 0 = .ok (.aload_n 0, 1) := by decide +kernel
theorem dX6_rests_1 : decode cX6_rests 1 = .ok (.iload_n 1, 1) := by decide +kernel
theorem dX6_rests_2 : decode cX6_rests 2 = .ok (.invokevirtual 134, 3) := by decide +kernel
theorem dX6_rests_5 : decode cX6_rests 5 = .ok (.ifCond .eq 11, 3) := by decide +kernel
theorem dX6_rests_8 : decode cX6_rests 8 = .ok (.aload_n 0, 1) := by decide +kernel
theorem dX6_rests_9 : decode cX6_rests 9 = .ok (.iload_n 2, 1) := by decide +kernel
theorem dX6_rests_10 : decode cX6_rests 10 = .ok (.invokevirtual 134, 3) := by decide +kernel
theorem dX6_rests_13 : decode cX6_rests 13 = .ok (.ifCond .ne 5, 3) := by decide +kernel
theorem dX6_rests_16 : decode cX6_rests 16 = .ok (.iconst (-1), 1) := by decide +kernel
theorem dX6_rests_17 : decode cX6_rests 17 = .ok (.ireturn, 1) := by decide +kernel
theorem dX6_rests_18 : decode cX6_rests 18 = .ok (.iload_n 1, 1) := by decide +kernel
theorem dX6_rests_19 : decode cX6_rests 19 = .ok (.iload_n 2, 1) := by decide +kernel
theorem dX6_rests_20 : decode cX6_rests 20 = .ok (.if_icmp .eq 13, 3) := by decide +kernel
theorem dX6_rests_23 : decode cX6_rests 23 = .ok (.iload_n 3, 1) := by decide +kernel
theorem dX6_rests_24 : decode cX6_rests 24 = .ok (.i2l, 1) := by decide +kernel
theorem dX6_rests_25 : decode cX6_rests 25 = .ok (.lconst 0, 1) := by decide +kernel
theorem dX6_rests_26 : decode cX6_rests 26 = .ok (.lconst 1, 1) := by decide +kernel
theorem dX6_rests_27 : decode cX6_rests 27 = .ok (.invokestatic 62, 3) := by decide +kernel
theorem dX6_rests_30 : decode cX6_rests 30 = .ok (.ifCond .ne 6, 3) := by decide +kernel
theorem dX6_rests_33 : decode cX6_rests 33 = .ok (.bipush (-2), 2) := by decide +kernel
theorem dX6_rests_35 : decode cX6_rests 35 = .ok (.ireturn, 1) := by decide +kernel
theorem dX6_rests_36 : decode cX6_rests 36 = .ok (.iconst 0, 1) := by decide +kernel
theorem dX6_rests_37 : decode cX6_rests 37 = .ok (.istore 4, 2) := by decide +kernel
theorem dX6_rests_39 : decode cX6_rests 39 = .ok (.bipush (-9), 2) := by decide +kernel
theorem dX6_rests_41 : decode cX6_rests 41 = .ok (.istore 5, 2) := by decide +kernel
theorem dX6_rests_43 : decode cX6_rests 43 = .ok (.iconst 0, 1) := by decide +kernel
theorem dX6_rests_44 : decode cX6_rests 44 = .ok (.istore 6, 2) := by decide +kernel
theorem dX6_rests_46 : decode cX6_rests 46 = .ok (.iload 6, 2) := by decide +kernel
theorem dX6_rests_48 : decode cX6_rests 48 = .ok (.iconst 4, 1) := by decide +kernel
theorem dX6_rests_49 : decode cX6_rests 49 = .ok (.if_icmp .ge 53, 3) := by decide +kernel
theorem dX6_rests_52 : decode cX6_rests 52 = .ok (.aload_n 0, 1) := by decide +kernel
theorem dX6_rests_53 : decode cX6_rests 53 = .ok (.iload_n 1, 1) := by decide +kernel
theorem dX6_rests_54 : decode cX6_rests 54 = .ok (.iload_n 2, 1) := by decide +kernel
theorem dX6_rests_55 : decode cX6_rests 55 = .ok (.iload 6, 2) := by decide +kernel
theorem dX6_rests_57 : decode cX6_rests 57 = .ok (.iconst 2, 1) := by decide +kernel
theorem dX6_rests_58 : decode cX6_rests 58 = .ok (.idiv, 1) := by decide +kernel
theorem dX6_rests_59 : decode cX6_rests 59 = .ok (.iload 6, 2) := by decide +kernel
theorem dX6_rests_61 : decode cX6_rests 61 = .ok (.iconst 2, 1) := by decide +kernel
theorem dX6_rests_62 : decode cX6_rests 62 = .ok (.irem, 1) := by decide +kernel
theorem dX6_rests_63 : decode cX6_rests 63 = .ok (.invokevirtual 201, 3) := by decide +kernel
theorem dX6_rests_66 : decode cX6_rests 66 = .ok (.ifCond .eq 30, 3) := by decide +kernel
theorem dX6_rests_69 : decode cX6_rests 69 = .ok (.iload 4, 2) := by decide +kernel
theorem dX6_rests_71 : decode cX6_rests 71 = .ok (.ifCond .ne 18, 3) := by decide +kernel
theorem dX6_rests_74 : decode cX6_rests 74 = .ok (.bipush 10, 2) := by decide +kernel
theorem dX6_rests_76 : decode cX6_rests 76 = .ok (.iload 6, 2) := by decide +kernel
theorem dX6_rests_78 : decode cX6_rests 78 = .ok (.iconst 2, 1) := by decide +kernel
theorem dX6_rests_79 : decode cX6_rests 79 = .ok (.idiv, 1) := by decide +kernel
theorem dX6_rests_80 : decode cX6_rests 80 = .ok (.imul, 1) := by decide +kernel
theorem dX6_rests_81 : decode cX6_rests 81 = .ok (.iload 6, 2) := by decide +kernel
theorem dX6_rests_83 : decode cX6_rests 83 = .ok (.iconst 2, 1) := by decide +kernel
theorem dX6_rests_84 : decode cX6_rests 84 = .ok (.irem, 1) := by decide +kernel
theorem dX6_rests_85 : decode cX6_rests 85 = .ok (.iadd, 1) := by decide +kernel
theorem dX6_rests_86 : decode cX6_rests 86 = .ok (.goto 5, 3) := by decide +kernel
theorem dX6_rests_89 : decode cX6_rests 89 = .ok (.iload 5, 2) := by decide +kernel
theorem dX6_rests_91 : decode cX6_rests 91 = .ok (.istore 5, 2) := by decide +kernel
theorem dX6_rests_93 : decode cX6_rests 93 = .ok (.iinc 4 1, 3) := by decide +kernel
theorem dX6_rests_96 : decode cX6_rests 96 = .ok (.iinc 6 1, 3) := by decide +kernel
theorem dX6_rests_99 : decode cX6_rests 99 = .ok (.goto (-53), 3) := by decide +kernel
theorem dX6_rests_102 : decode cX6_rests 102 = .ok (.iload_n 3, 1) := by decide +kernel
theorem dX6_rests_103 : decode cX6_rests 103 = .ok (.ifCond .ne 8, 3) := by decide +kernel
theorem dX6_rests_106 : decode cX6_rests 106 = .ok (.iload 4, 2) := by decide +kernel
theorem dX6_rests_108 : decode cX6_rests 108 = .ok (.goto 5, 3) := by decide +kernel
theorem dX6_rests_111 : decode cX6_rests 111 = .ok (.iload 5, 2) := by decide +kernel
theorem dX6_rests_113 : decode cX6_rests 113 = .ok (.ireturn, 1) := by decide +kernel
set_option maxRecDepth 20000 in
theorem ggX6_twice_X6_isStreet : GoodIn wsX6_twice wsX6_isStreet := goodIn_r _ [7, 8, 9, 10, 6, 11] (by decide +kernel) (by decide +kernel)
set_option maxRecDepth 20000 in
theorem gX6_twice_X6_isStreet : GoodIn wsX6_twice (va_wsS RX6 127 yX6_isStreet wsX6_isStreet) := goodIn_app (goodIn_of _ (by decide +kernel)) ggX6_twice_X6_isStreet
set_option maxRecDepth 20000 in
theorem ggX6_twice_X6_in : GoodIn wsX6_twice wsX6_in := goodIn_r _ [11] (by decide +kernel) (by decide +kernel)
set_option maxRecDepth 20000 in
theorem gX6_twice_X6_in : GoodIn wsX6_twice (va_wsS RX6 62 yX6_in wsX6_in) := goodIn_app (goodIn_of _ (by decide +kernel)) ggX6_twice_X6_in
set_option maxRecDepth 20000 in
theorem ggX6_twice_X6_layTrial : GoodIn wsX6_twice wsX6_layTrial := goodIn_r _ [15, 3, 53, 54, 55, 56, 57, 58, 59, 60, 61, 62, 63, 64, 65, 66, 67, 68, 69, 70, 71, 72, 73, 74, 75, 76, 77, 78, 79] (by decide +kernel) (by decide +kernel)
set_option maxRecDepth 20000 in
theorem gX6_twice_X6_layTrial : GoodIn wsX6_twice (wsV RX6 157 RX6 yX6_layTrial wsX6_layTrial) := goodIn_app (goodIn_of _ (by decide +kernel)) ggX6_twice_X6_layTrial
set_option maxRecDepth 20000 in
theorem ggX6_twice_X6_has : GoodIn wsX6_twice wsX6_has := goodIn_r _ [18] (by decide +kernel) (by decide +kernel)
set_option maxRecDepth 20000 in
theorem gX6_twice_X6_has : GoodIn wsX6_twice (va_wsS RX6 104 yX6_has wsX6_has) := goodIn_app (goodIn_of _ (by decide +kernel)) ggX6_twice_X6_has
set_option maxRecDepth 20000 in
theorem ggX6_twice_X6_passOn : GoodIn wsX6_twice wsX6_passOn := goodIn_r _ [22, 23, 3, 24, 25, 26, 27, 28, 29, 6, 30, 31, 32, 33, 34, 35, 36, 37, 38, 39, 40, 41, 16, 17, 18, 42, 43, 44, 45, 46, 47, 48, 49, 53, 54, 55, 56, 57, 58, 59, 60, 61, 62, 63, 64, 65, 66, 67, 68, 69, 70, 71, 72, 73, 74, 75, 76, 77, 78, 79] (by decide +kernel) (by decide +kernel)
set_option maxRecDepth 20000 in
theorem gX6_twice_X6_passOn : GoodIn wsX6_twice (wsV RX6 143 RX6 yX6_passOn wsX6_passOn) := goodIn_app (goodIn_of _ (by decide +kernel)) ggX6_twice_X6_passOn
set_option maxRecDepth 20000 in
theorem ggX6_twice_X6_common : GoodIn wsX6_twice wsX6_common := goodIn_r _ [52] (by decide +kernel) (by decide +kernel)
set_option maxRecDepth 20000 in
theorem gX6_twice_X6_common : GoodIn wsX6_twice (va_wsS RX6 194 yX6_common wsX6_common) := goodIn_app (goodIn_of _ (by decide +kernel)) ggX6_twice_X6_common
theorem dX6_twice_0 : decode cX6_twice 0 = .ok (.iload_n 1, 1) := by decide +kernel
theorem dX6_twice_1 : decode cX6_twice 1 = .ok (.invokestatic 127, 3) := by decide +kernel
theorem dX6_twice_4 : decode cX6_twice 4 = .ok (.ifCond .ne 5, 3) := by decide +kernel
theorem dX6_twice_7 : decode cX6_twice 7 = .ok (.iconst (-1), 1) := by decide +kernel
theorem dX6_twice_8 : decode cX6_twice 8 = .ok (.ireturn, 1) := by decide +kernel
theorem dX6_twice_9 : decode cX6_twice 9 = .ok (.iload_n 2, 1) := by decide +kernel
theorem dX6_twice_10 : decode cX6_twice 10 = .ok (.i2l, 1) := by decide +kernel
theorem dX6_twice_11 : decode cX6_twice 11 = .ok (.lconst 1, 1) := by decide +kernel
theorem dX6_twice_12 : decode cX6_twice 12 = .ok (.ldc2_w 205, 3) := by decide +kernel
theorem dX6_twice_15 : decode cX6_twice 15 = .ok (.invokestatic 62, 3) := by decide +kernel
theorem dX6_twice_18 : decode cX6_twice 18 = .ok (.ifCond .eq 15, 3) := by decide +kernel
theorem dX6_twice_21 : decode cX6_twice 21 = .ok (.iload_n 3, 1) := by decide +kernel
theorem dX6_twice_22 : decode cX6_twice 22 = .ok (.i2l, 1) := by decide +kernel
theorem dX6_twice_23 : decode cX6_twice 23 = .ok (.lconst 0, 1) := by decide +kernel
theorem dX6_twice_24 : decode cX6_twice 24 = .ok (.ldc2_w 207, 3) := by decide +kernel
theorem dX6_twice_27 : decode cX6_twice 27 = .ok (.invokestatic 62, 3) := by decide +kernel
theorem dX6_twice_30 : decode cX6_twice 30 = .ok (.ifCond .ne 6, 3) := by decide +kernel
theorem dX6_twice_33 : decode cX6_twice 33 = .ok (.bipush (-2), 2) := by decide +kernel
theorem dX6_twice_35 : decode cX6_twice 35 = .ok (.ireturn, 1) := by decide +kernel
theorem dX6_twice_36 : decode cX6_twice 36 = .ok (.iconst 0, 1) := by decide +kernel
theorem dX6_twice_37 : decode cX6_twice 37 = .ok (.istore 5, 2) := by decide +kernel
theorem dX6_twice_39 : decode cX6_twice 39 = .ok (.iconst 0, 1) := by decide +kernel
theorem dX6_twice_40 : decode cX6_twice 40 = .ok (.istore 6, 2) := by decide +kernel
theorem dX6_twice_42 : decode cX6_twice 42 = .ok (.iconst 0, 1) := by decide +kernel
theorem dX6_twice_43 : decode cX6_twice 43 = .ok (.istore 7, 2) := by decide +kernel
theorem dX6_twice_45 : decode cX6_twice 45 = .ok (.iload 7, 2) := by decide +kernel
theorem dX6_twice_47 : decode cX6_twice 47 = .ok (.iconst 1, 1) := by decide +kernel
theorem dX6_twice_48 : decode cX6_twice 48 = .ok (.iload_n 2, 1) := by decide +kernel
theorem dX6_twice_49 : decode cX6_twice 49 = .ok (.ishl, 1) := by decide +kernel
theorem dX6_twice_50 : decode cX6_twice 50 = .ok (.if_icmp .ge 106, 3) := by decide +kernel
theorem dX6_twice_53 : decode cX6_twice 53 = .ok (.iconst 1, 1) := by decide +kernel
theorem dX6_twice_54 : decode cX6_twice 54 = .ok (.istore 8, 2) := by decide +kernel
theorem dX6_twice_56 : decode cX6_twice 56 = .ok (.aload_n 0, 1) := by decide +kernel
theorem dX6_twice_57 : decode cX6_twice 57 = .ok (.invokevirtual 157, 3) := by decide +kernel
theorem dX6_twice_60 : decode cX6_twice 60 = .ok (.iconst 0, 1) := by decide +kernel
theorem dX6_twice_61 : decode cX6_twice 61 = .ok (.istore 9, 2) := by decide +kernel
theorem dX6_twice_63 : decode cX6_twice 63 = .ok (.iload 9, 2) := by decide +kernel
theorem dX6_twice_65 : decode cX6_twice 65 = .ok (.iload_n 2, 1) := by decide +kernel
theorem dX6_twice_66 : decode cX6_twice 66 = .ok (.if_icmp .ge 52, 3) := by decide +kernel
theorem dX6_twice_69 : decode cX6_twice 69 = .ok (.iload 8, 2) := by decide +kernel
theorem dX6_twice_71 : decode cX6_twice 71 = .ok (.iload 7, 2) := by decide +kernel
theorem dX6_twice_73 : decode cX6_twice 73 = .ok (.iload 9, 2) := by decide +kernel
theorem dX6_twice_75 : decode cX6_twice 75 = .ok (.invokestatic 104, 3) := by decide +kernel
theorem dX6_twice_78 : decode cX6_twice 78 = .ok (.ifCond .eq 7, 3) := by decide +kernel
theorem dX6_twice_81 : decode cX6_twice 81 = .ok (.iload_n 3, 1) := by decide +kernel
theorem dX6_twice_82 : decode cX6_twice 82 = .ok (.goto 7, 3) := by decide +kernel
theorem dX6_twice_85 : decode cX6_twice 85 = .ok (.bipush 10, 2) := by decide +kernel
theorem dX6_twice_87 : decode cX6_twice 87 = .ok (.iload_n 3, 1) := by decide +kernel
theorem dX6_twice_88 : decode cX6_twice 88 = .ok (.isub, 1) := by decide +kernel
theorem dX6_twice_89 : decode cX6_twice 89 = .ok (.imul, 1) := by decide +kernel
theorem dX6_twice_90 : decode cX6_twice 90 = .ok (.istore 8, 2) := by decide +kernel
theorem dX6_twice_92 : decode cX6_twice 92 = .ok (.aload_n 0, 1) := by decide +kernel
theorem dX6_twice_93 : decode cX6_twice 93 = .ok (.iconst 1, 1) := by decide +kernel
theorem dX6_twice_94 : decode cX6_twice 94 = .ok (.iload 7, 2) := by decide +kernel
theorem dX6_twice_96 : decode cX6_twice 96 = .ok (.iload 9, 2) := by decide +kernel
theorem dX6_twice_98 : decode cX6_twice 98 = .ok (.invokestatic 104, 3) := by decide +kernel
theorem dX6_twice_101 : decode cX6_twice 101 = .ok (.ifCond .eq 7, 3) := by decide +kernel
theorem dX6_twice_104 : decode cX6_twice 104 = .ok (.iconst 2, 1) := by decide +kernel
theorem dX6_twice_105 : decode cX6_twice 105 = .ok (.goto 4, 3) := by decide +kernel
theorem dX6_twice_108 : decode cX6_twice 108 = .ok (.iconst 1, 1) := by decide +kernel
theorem dX6_twice_109 : decode cX6_twice 109 = .ok (.invokevirtual 143, 3) := by decide +kernel
theorem dX6_twice_112 : decode cX6_twice 112 = .ok (.iinc 9 1, 3) := by decide +kernel
theorem dX6_twice_115 : decode cX6_twice 115 = .ok (.goto (-52), 3) := by decide +kernel
theorem dX6_twice_118 : decode cX6_twice 118 = .ok (.iload 6, 2) := by decide +kernel
theorem dX6_twice_120 : decode cX6_twice 120 = .ok (.iload 8, 2) := by decide +kernel
theorem dX6_twice_122 : decode cX6_twice 122 = .ok (.iadd, 1) := by decide +kernel
theorem dX6_twice_123 : decode cX6_twice 123 = .ok (.istore 6, 2) := by decide +kernel
theorem dX6_twice_125 : decode cX6_twice 125 = .ok (.iload 5, 2) := by decide +kernel
theorem dX6_twice_127 : decode cX6_twice 127 = .ok (.aload_n 0, 1) := by decide +kernel
theorem dX6_twice_128 : decode cX6_twice 128 = .ok (.getfield 22, 3) := by decide +kernel
theorem dX6_twice_131 : decode cX6_twice 131 = .ok (.bipush 16, 2) := by decide +kernel
theorem dX6_twice_133 : decode cX6_twice 133 = .ok (.iload_n 1, 1) := by decide +kernel
theorem dX6_twice_134 : decode cX6_twice 134 = .ok (.iadd, 1) := by decide +kernel
theorem dX6_twice_135 : decode cX6_twice 135 = .ok (.iaload, 1) := by decide +kernel
theorem dX6_twice_136 : decode cX6_twice 136 = .ok (.bipush 10, 2) := by decide +kernel
theorem dX6_twice_138 : decode cX6_twice 138 = .ok (.if_icmp .lt 8, 3) := by decide +kernel
theorem dX6_twice_141 : decode cX6_twice 141 = .ok (.iload 8, 2) := by decide +kernel
theorem dX6_twice_143 : decode cX6_twice 143 = .ok (.goto 4, 3) := by decide +kernel
theorem dX6_twice_146 : decode cX6_twice 146 = .ok (.iconst 0, 1) := by decide +kernel
theorem dX6_twice_147 : decode cX6_twice 147 = .ok (.iadd, 1) := by decide +kernel
theorem dX6_twice_148 : decode cX6_twice 148 = .ok (.istore 5, 2) := by decide +kernel
theorem dX6_twice_150 : decode cX6_twice 150 = .ok (.iinc 7 1, 3) := by decide +kernel
theorem dX6_twice_153 : decode cX6_twice 153 = .ok (.goto (-108), 3) := by decide +kernel
theorem dX6_twice_156 : decode cX6_twice 156 = .ok (.iload 5, 2) := by decide +kernel
theorem dX6_twice_158 : decode cX6_twice 158 = .ok (.iload 6, 2) := by decide +kernel
theorem dX6_twice_160 : decode cX6_twice 160 = .ok (.invokestatic 194, 3) := by decide +kernel
theorem dX6_twice_163 : decode cX6_twice 163 = .ok (.istore 7, 2) := by decide +kernel
theorem dX6_twice_165 : decode cX6_twice 165 = .ok (.iload 4, 2) := by decide +kernel
theorem dX6_twice_167 : decode cX6_twice 167 = .ok (.ifCond .eq 11, 3) := by decide +kernel
theorem dX6_twice_170 : decode cX6_twice 170 = .ok (.iload 5, 2) := by decide +kernel
theorem dX6_twice_172 : decode cX6_twice 172 = .ok (.iload 7, 2) := by decide +kernel
theorem dX6_twice_174 : decode cX6_twice 174 = .ok (.idiv, 1) := by decide +kernel
theorem dX6_twice_175 : decode cX6_twice 175 = .ok (.goto 8, 3) := by decide +kernel
theorem dX6_twice_178 : decode cX6_twice 178 = .ok (.iload 6, 2) := by decide +kernel
theorem dX6_twice_180 : decode cX6_twice 180 = .ok (.iload 7, 2) := by decide +kernel
theorem dX6_twice_182 : decode cX6_twice 182 = .ok (.idiv, 1) := by decide +kernel
theorem dX6_twice_183 : decode cX6_twice 183 = .ok (.ireturn, 1) := by decide +kernel
theorem dX6_seed_0 : decode cX6_seed 0 = .ok (.aload_n 0, 1) := by decide +kernel
theorem dX6_seed_1 : decode cX6_seed 1 = .ok (.getfield 209, 3) := by decide +kernel
theorem dX6_seed_4 : decode cX6_seed 4 = .ok (.lstore_n 3, 1) := by decide +kernel
theorem dX6_seed_5 : decode cX6_seed 5 = .ok (.aload_n 0, 1) := by decide +kernel
theorem dX6_seed_6 : decode cX6_seed 6 = .ok (.lload_n 1, 1) := by decide +kernel
theorem dX6_seed_7 : decode cX6_seed 7 = .ok (.putfield 209, 3) := by decide +kernel
theorem dX6_seed_10 : decode cX6_seed 10 = .ok (.lload_n 3, 1) := by decide +kernel
theorem dX6_seed_11 : decode cX6_seed 11 = .ok (.lreturn, 1) := by decide +kernel
set_option maxRecDepth 20000 in
theorem ggX6_years_X6_in : GoodIn wsX6_years wsX6_in := goodIn_r _ [9] (by decide +kernel) (by decide +kernel)
set_option maxRecDepth 20000 in
theorem gX6_years_X6_in : GoodIn wsX6_years (va_wsS RX6 62 yX6_in wsX6_in) := goodIn_app (goodIn_of _ (by decide +kernel)) ggX6_years_X6_in
set_option maxRecDepth 20000 in
theorem ggX6_years_X6_layTrial : GoodIn wsX6_years wsX6_layTrial := goodIn_r _ [13, 14, 69, 70, 71, 72, 73, 74, 75, 76, 77, 78, 79, 80, 81, 82, 83, 84, 85, 86, 87, 88, 89, 90, 91, 92, 93, 94, 95] (by decide +kernel) (by decide +kernel)
set_option maxRecDepth 20000 in
theorem gX6_years_X6_layTrial : GoodIn wsX6_years (wsV RX6 157 RX6 yX6_layTrial wsX6_layTrial) := goodIn_app (goodIn_of _ (by decide +kernel)) ggX6_years_X6_layTrial
set_option maxRecDepth 20000 in
theorem ggX6_years_X6_passOn : GoodIn wsX6_years wsX6_passOn := goodIn_r _ [18, 19, 14, 20, 21, 22, 23, 24, 25, 8, 26, 27, 28, 29, 30, 31, 32, 33, 34, 35, 36, 37, 38, 39, 40, 41, 42, 43, 44, 45, 46, 47, 48, 69, 70, 71, 72, 73, 74, 75, 76, 77, 78, 79, 80, 81, 82, 83, 84, 85, 86, 87, 88, 89, 90, 91, 92, 93, 94, 95] (by decide +kernel) (by decide +kernel)
set_option maxRecDepth 20000 in
theorem gX6_years_X6_passOn : GoodIn wsX6_years (wsV RX6 143 RX6 yX6_passOn wsX6_passOn) := goodIn_app (goodIn_of _ (by decide +kernel)) ggX6_years_X6_passOn
set_option maxRecDepth 20000 in
theorem ggX6_years_X6_tryThing : GoodIn wsX6_years wsX6_tryThing := goodIn_r _ [52, 14, 15, 16, 17, 8, 18, 19, 20, 21, 22, 23, 24, 25, 26, 27, 28, 29, 30, 31, 32, 33, 34, 35, 36, 37, 38, 39, 40, 41, 42, 43, 44, 45, 46, 47, 48, 53, 54, 55, 56, 6, 7, 9, 57, 58, 59, 60, 61, 62, 63, 64, 69, 70, 71, 72, 73, 74, 75, 76, 77, 78, 79, 80, 81, 82, 83, 84, 85, 86, 87, 88, 89, 90, 91, 92, 93, 94, 95] (by decide +kernel) (by decide +kernel)
set_option maxRecDepth 20000 in
theorem gX6_years_X6_tryThing : GoodIn wsX6_years (wsV RX6 179 RX6 yX6_tryThing wsX6_tryThing) := goodIn_app (goodIn_of _ (by decide +kernel)) ggX6_years_X6_tryThing
set_option maxRecDepth 20000 in
theorem ggX6_years_X6_dustOn : GoodIn wsX6_years wsX6_dustOn := goodIn_r _ [68, 14, 69, 70, 71, 72, 73, 74, 75, 76, 77, 78, 79, 80, 81, 82, 83, 84, 85, 86, 87, 88, 89, 90, 91, 92, 93, 94, 95] (by decide +kernel) (by decide +kernel)
set_option maxRecDepth 20000 in
theorem gX6_years_X6_dustOn : GoodIn wsX6_years (wsV RX6 146 RX6 yX6_dustOn wsX6_dustOn) := goodIn_app (goodIn_of _ (by decide +kernel)) ggX6_years_X6_dustOn
theorem dX6_years_0 : decode cX6_years 0 = .ok (.iload_n 1, 1) := by decide +kernel
theorem dX6_years_1 : decode cX6_years 1 = .ok (.i2l, 1) := by decide +kernel
theorem dX6_years_2 : decode cX6_years 2 = .ok (.lconst 1, 1) := by decide +kernel
theorem dX6_years_3 : decode cX6_years 3 = .ok (.ldc2_w 155, 3) := by decide +kernel
theorem dX6_years_6 : decode cX6_years 6 = .ok (.invokestatic 62, 3) := by decide +kernel
theorem dX6_years_9 : decode cX6_years 9 = .ok (.ifCond .ne 6, 3) := by decide +kernel
theorem dX6_years_12 : decode cX6_years 12 = .ok (.bipush (-2), 2) := by decide +kernel
theorem dX6_years_14 : decode cX6_years 14 = .ok (.ireturn, 1) := by decide +kernel
theorem dX6_years_15 : decode cX6_years 15 = .ok (.aload_n 0, 1) := by decide +kernel
theorem dX6_years_16 : decode cX6_years 16 = .ok (.invokevirtual 157, 3) := by decide +kernel
theorem dX6_years_19 : decode cX6_years 19 = .ok (.iconst 0, 1) := by decide +kernel
theorem dX6_years_20 : decode cX6_years 20 = .ok (.istore_n 2, 1) := by decide +kernel
theorem dX6_years_21 : decode cX6_years 21 = .ok (.iconst 0, 1) := by decide +kernel
theorem dX6_years_22 : decode cX6_years 22 = .ok (.istore_n 3, 1) := by decide +kernel
theorem dX6_years_23 : decode cX6_years 23 = .ok (.iload_n 3, 1) := by decide +kernel
theorem dX6_years_24 : decode cX6_years 24 = .ok (.iload_n 1, 1) := by decide +kernel
theorem dX6_years_25 : decode cX6_years 25 = .ok (.if_icmp .ge 117, 3) := by decide +kernel
theorem dX6_years_28 : decode cX6_years 28 = .ok (.aload_n 0, 1) := by decide +kernel
theorem dX6_years_29 : decode cX6_years 29 = .ok (.aload_n 0, 1) := by decide +kernel
theorem dX6_years_30 : decode cX6_years 30 = .ok (.getfield 209, 3) := by decide +kernel
theorem dX6_years_33 : decode cX6_years 33 = .ok (.ldc2_w 213, 3) := by decide +kernel
theorem dX6_years_36 : decode cX6_years 36 = .ok (.lmul, 1) := by decide +kernel
theorem dX6_years_37 : decode cX6_years 37 = .ok (.ldc2_w 215, 3) := by decide +kernel
theorem dX6_years_40 : decode cX6_years 40 = .ok (.ladd, 1) := by decide +kernel
theorem dX6_years_41 : decode cX6_years 41 = .ok (.putfield 209, 3) := by decide +kernel
theorem dX6_years_44 : decode cX6_years 44 = .ok (.aload_n 0, 1) := by decide +kernel
theorem dX6_years_45 : decode cX6_years 45 = .ok (.getfield 209, 3) := by decide +kernel
theorem dX6_years_48 : decode cX6_years 48 = .ok (.bipush 33, 2) := by decide +kernel
theorem dX6_years_50 : decode cX6_years 50 = .ok (.lushr, 1) := by decide +kernel
theorem dX6_years_51 : decode cX6_years 51 = .ok (.ldc2_w 217, 3) := by decide +kernel
theorem dX6_years_54 : decode cX6_years 54 = .ok (.lrem, 1) := by decide +kernel
theorem dX6_years_55 : decode cX6_years 55 = .ok (.l2i, 1) := by decide +kernel
theorem dX6_years_56 : decode cX6_years 56 = .ok (.istore 4, 2) := by decide +kernel
theorem dX6_years_58 : decode cX6_years 58 = .ok (.iload 4, 2) := by decide +kernel
theorem dX6_years_60 : decode cX6_years 60 = .ok (.bipush 18, 2) := by decide +kernel
theorem dX6_years_62 : decode cX6_years 62 = .ok (.if_icmp .le 12, 3) := by decide +kernel
theorem dX6_years_65 : decode cX6_years 65 = .ok (.aload_n 0, 1) := by decide +kernel
theorem dX6_years_66 : decode cX6_years 66 = .ok (.iconst 1, 1) := by decide +kernel
theorem dX6_years_67 : decode cX6_years 67 = .ok (.iconst 1, 1) := by decide +kernel
theorem dX6_years_68 : decode cX6_years 68 = .ok (.invokevirtual 143, 3) := by decide +kernel
theorem dX6_years_71 : decode cX6_years 71 = .ok (.goto 57, 3) := by decide +kernel
theorem dX6_years_74 : decode cX6_years 74 = .ok (.iload 4, 2) := by decide +kernel
theorem dX6_years_76 : decode cX6_years 76 = .ok (.bipush 10, 2) := by decide +kernel
theorem dX6_years_78 : decode cX6_years 78 = .ok (.if_icmp .le 18, 3) := by decide +kernel
theorem dX6_years_81 : decode cX6_years 81 = .ok (.aload_n 0, 1) := by decide +kernel
theorem dX6_years_82 : decode cX6_years 82 = .ok (.iconst 4, 1) := by decide +kernel
theorem dX6_years_83 : decode cX6_years 83 = .ok (.iconst 0, 1) := by decide +kernel
theorem dX6_years_84 : decode cX6_years 84 = .ok (.iload 4, 2) := by decide +kernel
theorem dX6_years_86 : decode cX6_years 86 = .ok (.bipush 11, 2) := by decide +kernel
theorem dX6_years_88 : decode cX6_years 88 = .ok (.isub, 1) := by decide +kernel
theorem dX6_years_89 : decode cX6_years 89 = .ok (.invokevirtual 179, 3) := by decide +kernel
theorem dX6_years_92 : decode cX6_years 92 = .ok (.pop, 1) := by decide +kernel
theorem dX6_years_93 : decode cX6_years 93 = .ok (.goto 35, 3) := by decide +kernel
theorem dX6_years_96 : decode cX6_years 96 = .ok (.iload 4, 2) := by decide +kernel
theorem dX6_years_98 : decode cX6_years 98 = .ok (.bipush 10, 2) := by decide +kernel
theorem dX6_years_100 : decode cX6_years 100 = .ok (.if_icmp .ne 14, 3) := by decide +kernel
theorem dX6_years_103 : decode cX6_years 103 = .ok (.aload_n 0, 1) := by decide +kernel
theorem dX6_years_104 : decode cX6_years 104 = .ok (.iconst 2, 1) := by decide +kernel
theorem dX6_years_105 : decode cX6_years 105 = .ok (.iconst 0, 1) := by decide +kernel
theorem dX6_years_106 : decode cX6_years 106 = .ok (.iconst 0, 1) := by decide +kernel
theorem dX6_years_107 : decode cX6_years 107 = .ok (.invokevirtual 179, 3) := by decide +kernel
theorem dX6_years_110 : decode cX6_years 110 = .ok (.pop, 1) := by decide +kernel
theorem dX6_years_111 : decode cX6_years 111 = .ok (.goto 17, 3) := by decide +kernel
theorem dX6_years_114 : decode cX6_years 114 = .ok (.aload_n 0, 1) := by decide +kernel
theorem dX6_years_115 : decode cX6_years 115 = .ok (.iconst 1, 1) := by decide +kernel
theorem dX6_years_116 : decode cX6_years 116 = .ok (.iload 4, 2) := by decide +kernel
theorem dX6_years_118 : decode cX6_years 118 = .ok (.iconst 2, 1) := by decide +kernel
theorem dX6_years_119 : decode cX6_years 119 = .ok (.idiv, 1) := by decide +kernel
theorem dX6_years_120 : decode cX6_years 120 = .ok (.iload 4, 2) := by decide +kernel
theorem dX6_years_122 : decode cX6_years 122 = .ok (.iconst 2, 1) := by decide +kernel
theorem dX6_years_123 : decode cX6_years 123 = .ok (.irem, 1) := by decide +kernel
theorem dX6_years_124 : decode cX6_years 124 = .ok (.invokevirtual 179, 3) := by decide +kernel
theorem dX6_years_127 : decode cX6_years 127 = .ok (.pop, 1) := by decide +kernel
theorem dX6_years_128 : decode cX6_years 128 = .ok (.iload_n 2, 1) := by decide +kernel
theorem dX6_years_129 : decode cX6_years 129 = .ok (.aload_n 0, 1) := by decide +kernel
theorem dX6_years_130 : decode cX6_years 130 = .ok (.iconst 1, 1) := by decide +kernel
theorem dX6_years_131 : decode cX6_years 131 = .ok (.invokevirtual 146, 3) := by decide +kernel
theorem dX6_years_134 : decode cX6_years 134 = .ok (.iadd, 1) := by decide +kernel
theorem dX6_years_135 : decode cX6_years 135 = .ok (.istore_n 2, 1) := by decide +kernel
theorem dX6_years_136 : decode cX6_years 136 = .ok (.iinc 3 1, 3) := by decide +kernel
theorem dX6_years_139 : decode cX6_years 139 = .ok (.goto (-116), 3) := by decide +kernel
theorem dX6_years_142 : decode cX6_years 142 = .ok (.iload_n 2, 1) := by decide +kernel
theorem dX6_years_143 : decode cX6_years 143 = .ok (.ireturn, 1) := by decide +kernel
set_option maxRecDepth 20000 in
theorem ggX6_keep_X6_in : GoodIn wsX6_keep wsX6_in := goodIn_r _ [7] (by decide +kernel) (by decide +kernel)
set_option maxRecDepth 20000 in
theorem gX6_keep_X6_in : GoodIn wsX6_keep (va_wsS RX6 62 yX6_in wsX6_in) := goodIn_app (goodIn_of _ (by decide +kernel)) ggX6_keep_X6_in
theorem dX6_keep_0 : decode cX6_keep 0 = .ok (.iload_n 1, 1) := by decide +kernel
theorem dX6_keep_1 : decode cX6_keep 1 = .ok (.i2l, 1) := by decide +kernel
theorem dX6_keep_2 : decode cX6_keep 2 = .ok (.lconst 0, 1) := by decide +kernel
theorem dX6_keep_3 : decode cX6_keep 3 = .ok (.lconst 1, 1) := by decide +kernel
theorem dX6_keep_4 : decode cX6_keep 4 = .ok (.invokestatic 62, 3) := by decide +kernel
theorem dX6_keep_7 : decode cX6_keep 7 = .ok (.ifCond .ne 5, 3) := by decide +kernel
theorem dX6_keep_10 : decode cX6_keep 10 = .ok (.iconst (-1), 1) := by decide +kernel
theorem dX6_keep_11 : decode cX6_keep 11 = .ok (.ireturn, 1) := by decide +kernel
theorem dX6_keep_12 : decode cX6_keep 12 = .ok (.aload_n 0, 1) := by decide +kernel
theorem dX6_keep_13 : decode cX6_keep 13 = .ok (.getfield 53, 3) := by decide +kernel
theorem dX6_keep_16 : decode cX6_keep 16 = .ok (.iload_n 1, 1) := by decide +kernel
theorem dX6_keep_17 : decode cX6_keep 17 = .ok (.iconst 1, 1) := by decide +kernel
theorem dX6_keep_18 : decode cX6_keep 18 = .ok (.bastore, 1) := by decide +kernel
theorem dX6_keep_19 : decode cX6_keep 19 = .ok (.iconst 0, 1) := by decide +kernel
theorem dX6_keep_20 : decode cX6_keep 20 = .ok (.istore_n 2, 1) := by decide +kernel
theorem dX6_keep_21 : decode cX6_keep 21 = .ok (.iload_n 2, 1) := by decide +kernel
theorem dX6_keep_22 : decode cX6_keep 22 = .ok (.bipush 16, 2) := by decide +kernel
theorem dX6_keep_24 : decode cX6_keep 24 = .ok (.if_icmp .ge 26, 3) := by decide +kernel
theorem dX6_keep_27 : decode cX6_keep 27 = .ok (.aload_n 0, 1) := by decide +kernel
theorem dX6_keep_28 : decode cX6_keep 28 = .ok (.getfield 57, 3) := by decide +kernel
theorem dX6_keep_31 : decode cX6_keep 31 = .ok (.bipush 16, 2) := by decide +kernel
theorem dX6_keep_33 : decode cX6_keep 33 = .ok (.iload_n 1, 1) := by decide +kernel
theorem dX6_keep_34 : decode cX6_keep 34 = .ok (.imul, 1) := by decide +kernel
theorem dX6_keep_35 : decode cX6_keep 35 = .ok (.iload_n 2, 1) := by decide +kernel
theorem dX6_keep_36 : decode cX6_keep 36 = .ok (.iadd, 1) := by decide +kernel
theorem dX6_keep_37 : decode cX6_keep 37 = .ok (.aload_n 0, 1) := by decide +kernel
theorem dX6_keep_38 : decode cX6_keep 38 = .ok (.getfield 22, 3) := by decide +kernel
theorem dX6_keep_41 : decode cX6_keep 41 = .ok (.iload_n 2, 1) := by decide +kernel
theorem dX6_keep_42 : decode cX6_keep 42 = .ok (.iaload, 1) := by decide +kernel
theorem dX6_keep_43 : decode cX6_keep 43 = .ok (.iastore, 1) := by decide +kernel
theorem dX6_keep_44 : decode cX6_keep 44 = .ok (.iinc 2 1, 3) := by decide +kernel
theorem dX6_keep_47 : decode cX6_keep 47 = .ok (.goto (-26), 3) := by decide +kernel
theorem dX6_keep_50 : decode cX6_keep 50 = .ok (.aload_n 0, 1) := by decide +kernel
theorem dX6_keep_51 : decode cX6_keep 51 = .ok (.getfield 22, 3) := by decide +kernel
theorem dX6_keep_54 : decode cX6_keep 54 = .ok (.bipush 15, 2) := by decide +kernel
theorem dX6_keep_56 : decode cX6_keep 56 = .ok (.iaload, 1) := by decide +kernel
theorem dX6_keep_57 : decode cX6_keep 57 = .ok (.ireturn, 1) := by decide +kernel
set_option maxRecDepth 20000 in
theorem ggX6_again_X6_in : GoodIn wsX6_again wsX6_in := goodIn_r _ [8] (by decide +kernel) (by decide +kernel)
set_option maxRecDepth 20000 in
theorem gX6_again_X6_in : GoodIn wsX6_again (va_wsS RX6 62 yX6_in wsX6_in) := goodIn_app (goodIn_of _ (by decide +kernel)) ggX6_again_X6_in
theorem dX6_again_0 : decode cX6_again 0 = .ok (.iload_n 1, 1) := by decide +kernel
theorem dX6_again_1 : decode cX6_again 1 = .ok (.i2l, 1) := by decide +kernel
theorem dX6_again_2 : decode cX6_again 2 = .ok (.lconst 0, 1) := by decide +kernel
theorem dX6_again_3 : decode cX6_again 3 = .ok (.lconst 1, 1) := by decide +kernel
theorem dX6_again_4 : decode cX6_again 4 = .ok (.invokestatic 62, 3) := by decide +kernel
theorem dX6_again_7 : decode cX6_again 7 = .ok (.ifCond .ne 5, 3) := by decide +kernel
theorem dX6_again_10 : decode cX6_again 10 = .ok (.iconst (-1), 1) := by decide +kernel
theorem dX6_again_11 : decode cX6_again 11 = .ok (.ireturn, 1) := by decide +kernel
theorem dX6_again_12 : decode cX6_again 12 = .ok (.aload_n 0, 1) := by decide +kernel
theorem dX6_again_13 : decode cX6_again 13 = .ok (.getfield 53, 3) := by decide +kernel
theorem dX6_again_16 : decode cX6_again 16 = .ok (.iload_n 1, 1) := by decide +kernel
theorem dX6_again_17 : decode cX6_again 17 = .ok (.baload, 1) := by decide +kernel
theorem dX6_again_18 : decode cX6_again 18 = .ok (.ifCond .ne 6, 3) := by decide +kernel
theorem dX6_again_21 : decode cX6_again 21 = .ok (.bipush (-3), 2) := by decide +kernel
theorem dX6_again_23 : decode cX6_again 23 = .ok (.ireturn, 1) := by decide +kernel
theorem dX6_again_24 : decode cX6_again 24 = .ok (.iconst 0, 1) := by decide +kernel
theorem dX6_again_25 : decode cX6_again 25 = .ok (.istore_n 2, 1) := by decide +kernel
theorem dX6_again_26 : decode cX6_again 26 = .ok (.iload_n 2, 1) := by decide +kernel
theorem dX6_again_27 : decode cX6_again 27 = .ok (.bipush 16, 2) := by decide +kernel
theorem dX6_again_29 : decode cX6_again 29 = .ok (.if_icmp .ge 26, 3) := by decide +kernel
theorem dX6_again_32 : decode cX6_again 32 = .ok (.aload_n 0, 1) := by decide +kernel
theorem dX6_again_33 : decode cX6_again 33 = .ok (.getfield 22, 3) := by decide +kernel
theorem dX6_again_36 : decode cX6_again 36 = .ok (.iload_n 2, 1) := by decide +kernel
theorem dX6_again_37 : decode cX6_again 37 = .ok (.aload_n 0, 1) := by decide +kernel
theorem dX6_again_38 : decode cX6_again 38 = .ok (.getfield 57, 3) := by decide +kernel
theorem dX6_again_41 : decode cX6_again 41 = .ok (.bipush 16, 2) := by decide +kernel
theorem dX6_again_43 : decode cX6_again 43 = .ok (.iload_n 1, 1) := by decide +kernel
theorem dX6_again_44 : decode cX6_again 44 = .ok (.imul, 1) := by decide +kernel
theorem dX6_again_45 : decode cX6_again 45 = .ok (.iload_n 2, 1) := by decide +kernel
theorem dX6_again_46 : decode cX6_again 46 = .ok (.iadd, 1) := by decide +kernel
theorem dX6_again_47 : decode cX6_again 47 = .ok (.iaload, 1) := by decide +kernel
theorem dX6_again_48 : decode cX6_again 48 = .ok (.iastore, 1) := by decide +kernel
theorem dX6_again_49 : decode cX6_again 49 = .ok (.iinc 2 1, 3) := by decide +kernel
theorem dX6_again_52 : decode cX6_again 52 = .ok (.goto (-26), 3) := by decide +kernel
theorem dX6_again_55 : decode cX6_again 55 = .ok (.aload_n 0, 1) := by decide +kernel
theorem dX6_again_56 : decode cX6_again 56 = .ok (.iconst 0, 1) := by decide +kernel
theorem dX6_again_57 : decode cX6_again 57 = .ok (.putfield 99, 3) := by decide +kernel
theorem dX6_again_60 : decode cX6_again 60 = .ok (.aload_n 0, 1) := by decide +kernel
theorem dX6_again_61 : decode cX6_again 61 = .ok (.getfield 22, 3) := by decide +kernel
theorem dX6_again_64 : decode cX6_again 64 = .ok (.bipush 15, 2) := by decide +kernel
theorem dX6_again_66 : decode cX6_again 66 = .ok (.iaload, 1) := by decide +kernel
theorem dX6_again_67 : decode cX6_again 67 = .ok (.ireturn, 1) := by decide +kernel
set_option maxRecDepth 20000 in
theorem ggX6_count_X6_dustOn : GoodIn wsX6_count wsX6_dustOn := goodIn_r _ [11, 4, 16, 17, 18, 19, 20, 21, 22, 23, 24, 25, 26, 27, 28, 29, 30, 31, 32, 33, 34, 35, 36, 37, 38, 39, 40, 41, 42] (by decide +kernel) (by decide +kernel)
set_option maxRecDepth 20000 in
theorem gX6_count_X6_dustOn : GoodIn wsX6_count (wsV RX6 146 RX6 yX6_dustOn wsX6_dustOn) := goodIn_app (goodIn_of _ (by decide +kernel)) ggX6_count_X6_dustOn
set_option maxRecDepth 20000 in
theorem ggX6_count_X6_kneesOn : GoodIn wsX6_count wsX6_kneesOn := goodIn_r _ [15, 4, 16, 17, 18, 19, 20, 21, 22, 23, 24, 25, 26, 27, 28, 29, 30, 31, 32, 33, 34, 35, 36, 37, 38, 39, 40, 41, 42] (by decide +kernel) (by decide +kernel)
set_option maxRecDepth 20000 in
theorem gX6_count_X6_kneesOn : GoodIn wsX6_count (wsV RX6 123 RX6 yX6_kneesOn wsX6_kneesOn) := goodIn_app (goodIn_of _ (by decide +kernel)) ggX6_count_X6_kneesOn
theorem dX6_count_0 : decode cX6_count 0 = .ok (.iload_n 1, 1) := by decide +kernel
theorem dX6_count_1 : decode cX6_count 1 = .ok (.tableswitch 116 0 9 #[55, 60, 65, 70, 78, 84, 90, 98, 106, 111], 55) := by decide +kernel
theorem dX6_count_56 : decode cX6_count 56 = .ok (.aload_n 0, 1) := by decide +kernel
theorem dX6_count_57 : decode cX6_count 57 = .ok (.getfield 66, 3) := by decide +kernel
theorem dX6_count_60 : decode cX6_count 60 = .ok (.ireturn, 1) := by decide +kernel
theorem dX6_count_61 : decode cX6_count 61 = .ok (.aload_n 0, 1) := by decide +kernel
theorem dX6_count_62 : decode cX6_count 62 = .ok (.getfield 93, 3) := by decide +kernel
theorem dX6_count_65 : decode cX6_count 65 = .ok (.ireturn, 1) := by decide +kernel
theorem dX6_count_66 : decode cX6_count 66 = .ok (.aload_n 0, 1) := by decide +kernel
theorem dX6_count_67 : decode cX6_count 67 = .ok (.getfield 96, 3) := by decide +kernel
theorem dX6_count_70 : decode cX6_count 70 = .ok (.ireturn, 1) := by decide +kernel
theorem dX6_count_71 : decode cX6_count 71 = .ok (.aload_n 0, 1) := by decide +kernel
theorem dX6_count_72 : decode cX6_count 72 = .ok (.getfield 22, 3) := by decide +kernel
theorem dX6_count_75 : decode cX6_count 75 = .ok (.bipush 15, 2) := by decide +kernel
theorem dX6_count_77 : decode cX6_count 77 = .ok (.iaload, 1) := by decide +kernel
theorem dX6_count_78 : decode cX6_count 78 = .ok (.ireturn, 1) := by decide +kernel
theorem dX6_count_79 : decode cX6_count 79 = .ok (.aload_n 0, 1) := by decide +kernel
theorem dX6_count_80 : decode cX6_count 80 = .ok (.iconst 0, 1) := by decide +kernel
theorem dX6_count_81 : decode cX6_count 81 = .ok (.invokevirtual 146, 3) := by decide +kernel
theorem dX6_count_84 : decode cX6_count 84 = .ok (.ireturn, 1) := by decide +kernel
theorem dX6_count_85 : decode cX6_count 85 = .ok (.aload_n 0, 1) := by decide +kernel
theorem dX6_count_86 : decode cX6_count 86 = .ok (.iconst 0, 1) := by decide +kernel
theorem dX6_count_87 : decode cX6_count 87 = .ok (.invokevirtual 123, 3) := by decide +kernel
theorem dX6_count_90 : decode cX6_count 90 = .ok (.ireturn, 1) := by decide +kernel
theorem dX6_count_91 : decode cX6_count 91 = .ok (.aload_n 0, 1) := by decide +kernel
theorem dX6_count_92 : decode cX6_count 92 = .ok (.getfield 22, 3) := by decide +kernel
theorem dX6_count_95 : decode cX6_count 95 = .ok (.bipush 13, 2) := by decide +kernel
theorem dX6_count_97 : decode cX6_count 97 = .ok (.iaload, 1) := by decide +kernel
theorem dX6_count_98 : decode cX6_count 98 = .ok (.ireturn, 1) := by decide +kernel
theorem dX6_count_99 : decode cX6_count 99 = .ok (.aload_n 0, 1) := by decide +kernel
theorem dX6_count_100 : decode cX6_count 100 = .ok (.getfield 22, 3) := by decide +kernel
theorem dX6_count_103 : decode cX6_count 103 = .ok (.bipush 14, 2) := by decide +kernel
theorem dX6_count_105 : decode cX6_count 105 = .ok (.iaload, 1) := by decide +kernel
theorem dX6_count_106 : decode cX6_count 106 = .ok (.ireturn, 1) := by decide +kernel
theorem dX6_count_107 : decode cX6_count 107 = .ok (.aload_n 0, 1) := by decide +kernel
theorem dX6_count_108 : decode cX6_count 108 = .ok (.getfield 99, 3) := by decide +kernel
theorem dX6_count_111 : decode cX6_count 111 = .ok (.ireturn, 1) := by decide +kernel
theorem dX6_count_112 : decode cX6_count 112 = .ok (.aload_n 0, 1) := by decide +kernel
theorem dX6_count_113 : decode cX6_count 113 = .ok (.getfield 185, 3) := by decide +kernel
theorem dX6_count_116 : decode cX6_count 116 = .ok (.ireturn, 1) := by decide +kernel
theorem dX6_count_117 : decode cX6_count 117 = .ok (.bipush (-2), 2) := by decide +kernel
theorem dX6_count_119 : decode cX6_count 119 = .ok (.ireturn, 1) := by decide +kernel
theorem dJ6_bitCount_0f7a4_0 : decode cJ6_bitCount_0f7a4 0 = .ok (.iload_n 0, 1) := by decide +kernel
theorem dJ6_bitCount_0f7a4_1 : decode cJ6_bitCount_0f7a4 1 = .ok (.iload_n 0, 1) := by decide +kernel
theorem dJ6_bitCount_0f7a4_2 : decode cJ6_bitCount_0f7a4 2 = .ok (.iconst 1, 1) := by decide +kernel
theorem dJ6_bitCount_0f7a4_3 : decode cJ6_bitCount_0f7a4 3 = .ok (.iushr, 1) := by decide +kernel
theorem dJ6_bitCount_0f7a4_4 : decode cJ6_bitCount_0f7a4 4 = .ok (.ldc_w 265, 3) := by decide +kernel
theorem dJ6_bitCount_0f7a4_7 : decode cJ6_bitCount_0f7a4 7 = .ok (.iand, 1) := by decide +kernel
theorem dJ6_bitCount_0f7a4_8 : decode cJ6_bitCount_0f7a4 8 = .ok (.isub, 1) := by decide +kernel
theorem dJ6_bitCount_0f7a4_9 : decode cJ6_bitCount_0f7a4 9 = .ok (.istore_n 0, 1) := by decide +kernel
theorem dJ6_bitCount_0f7a4_10 : decode cJ6_bitCount_0f7a4 10 = .ok (.iload_n 0, 1) := by decide +kernel
theorem dJ6_bitCount_0f7a4_11 : decode cJ6_bitCount_0f7a4 11 = .ok (.ldc_w 266, 3) := by decide +kernel
theorem dJ6_bitCount_0f7a4_14 : decode cJ6_bitCount_0f7a4 14 = .ok (.iand, 1) := by decide +kernel
theorem dJ6_bitCount_0f7a4_15 : decode cJ6_bitCount_0f7a4 15 = .ok (.iload_n 0, 1) := by decide +kernel
theorem dJ6_bitCount_0f7a4_16 : decode cJ6_bitCount_0f7a4 16 = .ok (.iconst 2, 1) := by decide +kernel
theorem dJ6_bitCount_0f7a4_17 : decode cJ6_bitCount_0f7a4 17 = .ok (.iushr, 1) := by decide +kernel
theorem dJ6_bitCount_0f7a4_18 : decode cJ6_bitCount_0f7a4 18 = .ok (.ldc_w 266, 3) := by decide +kernel
theorem dJ6_bitCount_0f7a4_21 : decode cJ6_bitCount_0f7a4 21 = .ok (.iand, 1) := by decide +kernel
theorem dJ6_bitCount_0f7a4_22 : decode cJ6_bitCount_0f7a4 22 = .ok (.iadd, 1) := by decide +kernel
theorem dJ6_bitCount_0f7a4_23 : decode cJ6_bitCount_0f7a4 23 = .ok (.istore_n 0, 1) := by decide +kernel
theorem dJ6_bitCount_0f7a4_24 : decode cJ6_bitCount_0f7a4 24 = .ok (.iload_n 0, 1) := by decide +kernel
theorem dJ6_bitCount_0f7a4_25 : decode cJ6_bitCount_0f7a4 25 = .ok (.iload_n 0, 1) := by decide +kernel
theorem dJ6_bitCount_0f7a4_26 : decode cJ6_bitCount_0f7a4 26 = .ok (.iconst 4, 1) := by decide +kernel
theorem dJ6_bitCount_0f7a4_27 : decode cJ6_bitCount_0f7a4 27 = .ok (.iushr, 1) := by decide +kernel
theorem dJ6_bitCount_0f7a4_28 : decode cJ6_bitCount_0f7a4 28 = .ok (.iadd, 1) := by decide +kernel
theorem dJ6_bitCount_0f7a4_29 : decode cJ6_bitCount_0f7a4 29 = .ok (.ldc_w 267, 3) := by decide +kernel
theorem dJ6_bitCount_0f7a4_32 : decode cJ6_bitCount_0f7a4 32 = .ok (.iand, 1) := by decide +kernel
theorem dJ6_bitCount_0f7a4_33 : decode cJ6_bitCount_0f7a4 33 = .ok (.istore_n 0, 1) := by decide +kernel
theorem dJ6_bitCount_0f7a4_34 : decode cJ6_bitCount_0f7a4 34 = .ok (.iload_n 0, 1) := by decide +kernel
theorem dJ6_bitCount_0f7a4_35 : decode cJ6_bitCount_0f7a4 35 = .ok (.iload_n 0, 1) := by decide +kernel
theorem dJ6_bitCount_0f7a4_36 : decode cJ6_bitCount_0f7a4 36 = .ok (.bipush 8, 2) := by decide +kernel
theorem dJ6_bitCount_0f7a4_38 : decode cJ6_bitCount_0f7a4 38 = .ok (.iushr, 1) := by decide +kernel
theorem dJ6_bitCount_0f7a4_39 : decode cJ6_bitCount_0f7a4 39 = .ok (.iadd, 1) := by decide +kernel
theorem dJ6_bitCount_0f7a4_40 : decode cJ6_bitCount_0f7a4 40 = .ok (.istore_n 0, 1) := by decide +kernel
theorem dJ6_bitCount_0f7a4_41 : decode cJ6_bitCount_0f7a4 41 = .ok (.iload_n 0, 1) := by decide +kernel
theorem dJ6_bitCount_0f7a4_42 : decode cJ6_bitCount_0f7a4 42 = .ok (.iload_n 0, 1) := by decide +kernel
theorem dJ6_bitCount_0f7a4_43 : decode cJ6_bitCount_0f7a4 43 = .ok (.bipush 16, 2) := by decide +kernel
theorem dJ6_bitCount_0f7a4_45 : decode cJ6_bitCount_0f7a4 45 = .ok (.iushr, 1) := by decide +kernel
theorem dJ6_bitCount_0f7a4_46 : decode cJ6_bitCount_0f7a4 46 = .ok (.iadd, 1) := by decide +kernel
theorem dJ6_bitCount_0f7a4_47 : decode cJ6_bitCount_0f7a4 47 = .ok (.istore_n 0, 1) := by decide +kernel
theorem dJ6_bitCount_0f7a4_48 : decode cJ6_bitCount_0f7a4 48 = .ok (.iload_n 0, 1) := by decide +kernel
theorem dJ6_bitCount_0f7a4_49 : decode cJ6_bitCount_0f7a4 49 = .ok (.bipush 63, 2) := by decide +kernel
theorem dJ6_bitCount_0f7a4_51 : decode cJ6_bitCount_0f7a4 51 = .ok (.iand, 1) := by decide +kernel
theorem dJ6_bitCount_0f7a4_52 : decode cJ6_bitCount_0f7a4 52 = .ok (.ireturn, 1) := by decide +kernel
theorem dJ9_abs_067f4_0 : decode cJ9_abs_067f4 0 = .ok (.lload_n 0, 1) := by decide +kernel
theorem dJ9_abs_067f4_1 : decode cJ9_abs_067f4 1 = .ok (.lconst 0, 1) := by decide +kernel
theorem dJ9_abs_067f4_2 : decode cJ9_abs_067f4 2 = .ok (.lcmp, 1) := by decide +kernel
theorem dJ9_abs_067f4_3 : decode cJ9_abs_067f4 3 = .ok (.ifCond .ge 8, 3) := by decide +kernel
theorem dJ9_abs_067f4_6 : decode cJ9_abs_067f4 6 = .ok (.lload_n 0, 1) := by decide +kernel
theorem dJ9_abs_067f4_7 : decode cJ9_abs_067f4 7 = .ok (.lneg, 1) := by decide +kernel
theorem dJ9_abs_067f4_8 : decode cJ9_abs_067f4 8 = .ok (.goto 4, 3) := by decide +kernel
theorem dJ9_abs_067f4_11 : decode cJ9_abs_067f4 11 = .ok (.lload_n 0, 1) := by decide +kernel
theorem dJ9_abs_067f4_12 : decode cJ9_abs_067f4 12 = .ok (.lreturn, 1) := by decide +kernel
theorem dJ9_max_f86c9_0 : decode cJ9_max_f86c9 0 = .ok (.lload_n 0, 1) := by decide +kernel
theorem dJ9_max_f86c9_1 : decode cJ9_max_f86c9 1 = .ok (.lload_n 2, 1) := by decide +kernel
theorem dJ9_max_f86c9_2 : decode cJ9_max_f86c9 2 = .ok (.lcmp, 1) := by decide +kernel
theorem dJ9_max_f86c9_3 : decode cJ9_max_f86c9 3 = .ok (.ifCond .lt 7, 3) := by decide +kernel
theorem dJ9_max_f86c9_6 : decode cJ9_max_f86c9 6 = .ok (.lload_n 0, 1) := by decide +kernel
theorem dJ9_max_f86c9_7 : decode cJ9_max_f86c9 7 = .ok (.goto 4, 3) := by decide +kernel
theorem dJ9_max_f86c9_10 : decode cJ9_max_f86c9 10 = .ok (.lload_n 2, 1) := by decide +kernel
theorem dJ9_max_f86c9_11 : decode cJ9_max_f86c9 11 = .ok (.lreturn, 1) := by decide +kernel
theorem dJ9_min_7cf53_0 : decode cJ9_min_7cf53 0 = .ok (.iload_n 0, 1) := by decide +kernel
theorem dJ9_min_7cf53_1 : decode cJ9_min_7cf53 1 = .ok (.iload_n 1, 1) := by decide +kernel
theorem dJ9_min_7cf53_2 : decode cJ9_min_7cf53 2 = .ok (.if_icmp .gt 7, 3) := by decide +kernel
theorem dJ9_min_7cf53_5 : decode cJ9_min_7cf53 5 = .ok (.iload_n 0, 1) := by decide +kernel
theorem dJ9_min_7cf53_6 : decode cJ9_min_7cf53 6 = .ok (.goto 4, 3) := by decide +kernel
theorem dJ9_min_7cf53_9 : decode cJ9_min_7cf53 9 = .ok (.iload_n 1, 1) := by decide +kernel
theorem dJ9_min_7cf53_10 : decode cJ9_min_7cf53 10 = .ok (.ireturn, 1) := by decide +kernel
abbrev vwCl : List vw_C := [(RX0, TX0, 3), (RX1, TX1, 4), (RX2, TX2, 7), (RX3, TX3, 2), (RX4, TX4, 8), (RX5, TX5, 9), (RX6, TX6, 27)]
end
section
/-! the shape of all contracts here: a world of known cells, a pure outcome -/
def nestF : List (String × Nat × String × String × String × String) := [("DustVote", 65, "DustVote$Script", "length", "I", "DustVote"), ("DustVote$Told", 43, "DustVote$Script", "length", "I", "DustVote"), ("DustVote$Moment", 37, "DustVote$Told", "firstDust", "[I", "DustVote"), ("DustVote$Moment", 48, "DustVote$Told", "firstPlace", "[I", "DustVote"), ("DustVote$Moment", 100, "DustVote$Told", "fallStreet", "[I", "DustVote"), ("DustVote$Moment", 103, "DustVote$Told", "fallDust", "[I", "DustVote"), ("DustVote", 87, "DustVote$Told", "brooms", "I", "DustVote"), ("DustVote$Moment", 65, "DustVote$Told", "brooms", "I", "DustVote"), ("DustVote", 90, "DustVote$Told", "falls", "I", "DustVote"), ("DustVote$Moment", 97, "DustVote$Told", "falls", "I", "DustVote"), ("DustVote", 142, "DustVote$Moment", "given", "Z", "DustVote"), ("DustVote", 149, "DustVote$Moment", "bent", "I", "DustVote"), ("DustVote", 241, "DustVote$Moment", "dawns", "I", "DustVote"), ("DustVote", 160, "DustVote$ActRow", "size", "I", "DustVote"), ("DustVote", 203, "DustVote$Heaps", "size", "I", "DustVote")]
def nestM : List (String × Nat × MethodName × String) := [("DustVote", 11, ⟨"DustVote$Script", "<init>", "()V"⟩, "DustVote"), ("DustVote", 18, ⟨"DustVote$Told", "<init>", "()V"⟩, "DustVote"), ("DustVote", 37, ⟨"DustVote$ActRow", "<init>", "()V"⟩, "DustVote"), ("DustVote", 44, ⟨"DustVote$Heaps", "<init>", "()V"⟩, "DustVote"), ("DustVote$Script", 26, ⟨"DustVote", "within", "(III)Z"⟩, "DustVote"), ("DustVote$Script", 40, ⟨"DustVote", "isStreet", "(I)Z"⟩, "DustVote"), ("DustVote$Moment", 51, ⟨"DustVote", "isStreet", "(I)Z"⟩, "DustVote")]
abbrev Gt : Type := va_G × ClassId × ClassId
def KG (G : Gt) (U : State) : Prop := va_K G.1 vwCl [(G.2.1, .int), (G.2.2, .boolean)] U ∧ (∀ q ∈ nestF, va_Nw (.fieldLinkNest q.1 q.2.1 q.2.2.1 q.2.2.2.1 q.2.2.2.2.1 q.2.2.2.2.2) U) ∧ (∀ q ∈ nestM, va_Nw (.methodLinkNest q.1 q.2.1 q.2.2.1 q.2.2.2) U)
theorem KG.moved {G : Gt} {s U : State} (hW : s.WarmedH U.vm) (h : KG G s) : KG G U := ⟨va_K.moved hW.alike h.1, fun q hq => va_Nw.warmF hW (h.2.1 q hq), fun q hq => va_Nw.warmM hW (h.2.2 q hq)⟩
theorem KG.same {G : Gt} {s U : State} (hv : s.vm = U.vm) (h : KG G s) : KG G U := ⟨va_K.moved (hv ▸ Vm.Alike.refl s.vm) h.1, fun q hq => va_Nw.same rfl hv (h.2.1 q hq), fun q hq => va_Nw.same rfl hv (h.2.2 q hq)⟩
theorem KG.f {G : Gt} {s : State} {args : Array Value} (h : KG G s) {a : String} {i : Nat} {b n d t : String} (hm : (a, i, b, n, d, t) ∈ nestF) : (Cond.fieldLinkNest a i b n d t).before args s = true := va_Nw.use rfl (h.2.1 _ hm)
theorem KG.m {G : Gt} {s : State} (h : KG G s) {a : String} {i : Nat} {y : MethodName} {t : String} (hm : (a, i, y, t) ∈ nestM) : va_Nw (.methodLinkNest a i y t) s := h.2.2 _ hm
def PR (G : Gt) (ws : va_W) (sz : Nat) (U : State) : Prop := U.heap.size = sz ∧ va_P G.1 vwCl ws U.heap ∧ KG G U ∧ va_D (fun _ => True) ws
theorem fb {G : Gt} {av : List Value} {ws : va_W} {sz : Nat} : FrameBlind (va_Pc av (PR G ws sz)) := fun a U g mk q => ⟨q.1, q.2.1, q.2.2.1, KG.same (s := U) (U := U.calling g mk a) rfl q.2.2.2.1, q.2.2.2.2⟩
abbrev QI (G : Gt) (r : Int32) (w1 : va_W) (A : Nat → Prop) : Array Value → State → Outcome → State → Prop := va_Qi (fun (r' : Int32) (_ : Unit) => r' = r) (fun _ t => va_P G.1 vwCl w1 t.heap) A
abbrev QL (G : Gt) (r : Int64) (w1 : va_W) (A : Nat → Prop) : Array Value → State → Outcome → State → Prop := va_Ql (fun (r' : Int64) (_ : Unit) => r' = r) (fun _ t => va_P G.1 vwCl w1 t.heap) A
abbrev QV (G : Gt) (w1 : va_W) (A : Nat → Prop) : Array Value → State → Outcome → State → Prop := va_Qv (fun (_ : Unit) => True) (fun _ t => va_P G.1 vwCl w1 t.heap) A
abbrev QR (G : Gt) (a : Nat) (w1 : va_W) (A : Nat → Prop) : Array Value → State → Outcome → State → Prop := va_Qr (fun (_ : Unit) => True) (fun _ a' t => a' = a ∧ va_P G.1 vwCl w1 t.heap) A
abbrev rmv (fr lo : Nat) : Room := { frames := fr, cells := 0, slots := 0, locals := lo }
def CT (l : Launch) (y : MethodName) (wy : List Cond) (fr lo : Nat) (G : Gt) (av : List Value) (w0 : va_W) (Qc : (Nat → Prop) → Array Value → State → Outcome → State → Prop) : Prop := ∀ sz : Nat, Met l y wy (rmv fr lo) (va_Pc av (PR G w0 sz)) (Qc (va_A w0 sz)) 0 0 (va_A w0 sz)
theorem met_of {l : Launch} {y : MethodName} {wy wy' : List Cond} {fr lo : Nat} {G : Gt} {av : List Value} {w0 : va_W} {Qc : (Nat → Prop) → Array Value → State → Outcome → State → Prop} (cc : ByteArray) (maxL : Nat) (ret : Option FieldType) (hy : plainName y.cls = true) (hw : wy = Cond.code y cc maxL ret :: wy') (hlen : (lg_sl av).length ≤ maxL)
    (body : ∀ (p : Program) (e : Env) (s : State) (m : MethodId) (below : List Frame) (meth : Method) (c : Code) (A : Nat → Prop) (ls : Array Slot), p.tables.exec = Jvm.exec → c.code = cc → meth.sig.returnType = ret → c.maxLocals = maxL → (∀ w ∈ wy, w.before av.toArray s = true) → s.vm.findClass y.cls = some m.cls → meth.locks = false → KG G s → (∀ q : Nat, s.heap.size ≤ q → A q) → va_D A w0 → va_P G.1 vwCl w0 s.heap → va_S A s.heap s.heap [] → lv_has ls maxL (lv_args 0 av) →
      W p l e (rmv fr lo) s m av.toArray below meth c s.heap [] 0 0 (MQ below (Qc A) av.toArray s 0 0 A) (F0 m 0 ls [])) : CT l y wy fr lo G av w0 Qc := by
  intro sz
  refine Met.ofW (cc := cc) (maxL := maxL) (ret := ret) hy hw ?_
  intro p e s m args below meth c s₁ B hml hv
  obtain ⟨rfl, hsz, hP, hK, hD0⟩ := hv
  subst hsz
  have hD := hD0.self (sz := s.heap.size)
  rw [lg_entry_eq]
  exact body p e s m below meth c _ _ B.exec B.bytes B.returns hml (atoms_spec (ws := wy) B.pre) (findClass_of_methodNamed B.named) B.notSynchronized hK (fun q h => Or.inr h) hD hP va_S.rf (lv_entry av hlen)
theorem va_D_same {A : Nat → Prop} {ws ws' : va_W} (h : va_D A ws) (e : ws.map Prod.fst = ws'.map Prod.fst) : va_D A ws' := by
  have at' : ∀ (k : Nat) (q : Nat × va_E), ws'[k]? = some q → ∃ p : Nat × va_E, ws[k]? = some p ∧ p.1 = q.1 := by
    intro k q hq
    have h1 : (ws'.map Prod.fst)[k]? = some q.1 := by rw [List.getElem?_map, hq]; rfl
    rw [← e, List.getElem?_map] at h1
    cases hk : ws[k]? with
    | none => rw [hk] at h1; cases h1
    | some p => rw [hk] at h1; exact ⟨p, rfl, Option.some.inj h1⟩
  refine ⟨fun i j p q hp hq hpq => ?_, fun k q hq => ?_⟩
  · obtain ⟨p', hp', ep⟩ := at' i p hp
    obtain ⟨q', hq', eq⟩ := at' j q hq
    exact h.1 i j p' q' hp' hq' (by rw [ep, eq, hpq])
  · obtain ⟨p', hp', ep⟩ := at' k q hq
    rw [← ep]
    exact h.2 k p' hp'
/-- the callee's cells laid back into their places -/
def mrg : va_W → List Nat → va_W → va_W
  | ws, i :: is, w :: w1 => mrg (ws.set i w) is w1
  | ws, _, _ => ws
theorem mrg_at : ∀ (is : List Nat) (w1 ws : va_W) (k : Nat) (q : Nat × va_E), is.length ≤ w1.length → (mrg ws is w1)[k]? = some q → (ws[k]? = some q ∧ k ∉ is) ∨ q ∈ w1
  | [], w1, ws, k, q, _, h => Or.inl ⟨by cases w1 <;> exact h, List.not_mem_nil⟩
  | i :: is, [], ws, k, q, hl, h => absurd hl (by simp)
  | i :: is, w :: w1, ws, k, q, hl, h => by
    have h' : (mrg (ws.set i w) is w1)[k]? = some q := h
    rcases mrg_at is w1 (ws.set i w) k q (by simpa using hl) h' with ⟨h1, h2⟩ | h1
    · by_cases hk : i = k
      · subst hk
        rw [List.getElem?_set] at h1
        simp only [if_true] at h1
        split at h1
        · exact Or.inr (by cases h1; exact List.mem_cons_self)
        · cases h1
      · rw [List.getElem?_set_ne hk] at h1
        exact Or.inl ⟨h1, fun hm => by
          rcases List.mem_cons.mp hm with e | e
          · exact hk e.symm
          · exact h2 e⟩
    · exact Or.inr (List.mem_cons_of_mem _ h1)
theorem pick_at {ws wc : va_W} {isC : List Nat} (hC : isC.map (fun i => ws[i]?) = wc.map some) {k : Nat} {q : Nat × va_E} (hq : wc[k]? = some q) : ∃ i, isC[k]? = some i ∧ ws[i]? = some q := by
  have h1 : (isC.map (fun i => ws[i]?))[k]? = some (some q) := by rw [hC, List.getElem?_map, hq]; rfl
  rw [List.getElem?_map] at h1
  cases hi : isC[k]? with
  | none => rw [hi] at h1; cases h1
  | some i => rw [hi] at h1; exact ⟨i, rfl, Option.some.inj h1⟩
theorem pick_P {D : va_G} {cl : List vw_C} {ws wc : va_W} {isC : List Nat} {H : Heap} (hP : va_P D cl ws H) (hC : isC.map (fun i => ws[i]?) = wc.map some) : va_P D cl wc H := by
  intro k q hq
  obtain ⟨i, -, h2⟩ := pick_at hC hq
  exact hP i q h2
theorem mrg_P {A : Nat → Prop} {D : va_G} {cl : List vw_C} {ws wc w1 : va_W} {H H1 : Heap} {isC : List Nat} (hP : va_P D cl ws H) (hD : va_D A ws) (hC : isC.map (fun i => ws[i]?) = wc.map some) (hl : isC.length ≤ w1.length) (hk : ∀ q : Nat, q < H.size → ¬ va_A wc H.size q → H1[q]? = H[q]?) (hP1 : va_P D cl w1 H1) : va_P D cl (mrg ws isC w1) H1 := by
  intro k q hq
  rcases mrg_at isC w1 ws k q hl hq with ⟨h1, h2⟩ | h
  · have hat := hP k q h1
    have hlt := hat.lt
    refine hat.kept (hk q.1 hlt ?_)
    intro hh
    rcases hh with ⟨j, e, hj⟩ | hj
    · obtain ⟨i, h3, h4⟩ := pick_at hC hj
      have hij := hD.1 k i q (q.1, e) h1 h4 rfl
      subst hij
      exact h2 (List.mem_of_getElem? h3)
    · omega
  · obtain ⟨j, hj⟩ := List.getElem?_of_mem h
    exact hP1 j q hj

section MYC
variable {p : Program} {l : Launch} {e : Env} {R : Room} {s : State} {m : MethodId} {args : Array Value} {below : List Frame} {meth : Method} {c : Code} {H : Heap} {locs : List Loc} {cells slots : Nat} {Q : State → Prop} {cc bytes : ByteArray} {nL maxL index n fr lo : Nat} {own C host : String} {y : MethodName} {ret : Option FieldType} {Ts wy : List Cond} {G : Gt} {A : Nat → Prop} {ws wc w1 : va_W} {b : Addr} {As rest st0 : List Value} {pc : Nat} {ls : Array Slot}
theorem cVi {r : Int32} (S : CallFix p m c cc nL s args Ts own) (hK : KG G s) (hA : ∀ q : Nat, s.heap.size ≤ q → A q) (hD : va_D A ws) (hP : va_P G.1 vwCl ws H) (hS : va_S A s.heap H locs) (isC : List Nat) (hM : CT l y wy fr lo G (.ref b :: As) wc (QI G r w1)) (cw : CallW R s args own C index y bytes maxL ret wy (rmv fr lo) 0 0 n) (hC : isC.map (fun i => ws[i]?) = wc.map some) (hnd : va_nd isC = true) (hl : isC.length ≤ w1.length) (ci q0 : Nat) {q : vw_C} {fs : List Value} (hc : vwCl[ci]? = some q) (hq : q.1 = C) (he : wc[q0]? = some (b, .inr (ci, fs))) (hn : As.length = n) (hsz : ls.size = nL) (hst : st0 = As.reverse ++ .ref b :: rest) (hW : (rest.map fun v => v.category).sum ≤ 8) (hdg : decode cc pc = .ok (.invokevirtual index, 3)) (hf : cells ≤ R.cells ∧ slots ≤ R.slots)
    (kk : ∀ (H1 : Heap) (locs1 : List Loc), va_P G.1 vwCl (mrg ws isC w1) H1 → va_S A s.heap H1 locs1 → W p l e R s m args below meth c H1 locs1 cells slots Q (F0 m (pc + 3) ls (.int r :: rest))) : W p l e R s m args below meth c H locs cells slots Q (F0 m pc ls st0) := by
  have hPc : va_P G.1 vwCl wc H := pick_P hP hC
  have hFc : ∀ q, va_A wc H.size q → A q := va_free hD hS hA isC hC
  have hDc : va_D (fun _ => True) wc := (hD.sub isC hnd hC).weaken (fun _ _ _ _ => trivial)
  refine va_calli (va_runV (As := As) (rest := rest) S (hM H.size) cw ⟨fb, by rw [← hq]; exact va_recv hK.1 hPc hc he, fun U hU hW => ⟨rfl, by rw [hU], by rw [hU]; exact hPc, KG.moved hW hK, hDc⟩⟩ rfl hn hsz hst (lv_room hW) hdg hf) hS (fun q _ h => hFc q h) hFc (fun r' u t H1 locs1 ht hvm hw hB hz1 hk1 hS1 => ?_)
  obtain rfl : r' = r := hw
  exact kk H1 locs1 (mrg_P hP hD hC hl hk1 (by rw [← ht]; exact hB)) hS1
theorem cVl {r : Int64} (S : CallFix p m c cc nL s args Ts own) (hK : KG G s) (hA : ∀ q : Nat, s.heap.size ≤ q → A q) (hD : va_D A ws) (hP : va_P G.1 vwCl ws H) (hS : va_S A s.heap H locs) (isC : List Nat) (hM : CT l y wy fr lo G (.ref b :: As) wc (QL G r w1)) (cw : CallW R s args own C index y bytes maxL ret wy (rmv fr lo) 0 0 n) (hC : isC.map (fun i => ws[i]?) = wc.map some) (hnd : va_nd isC = true) (hl : isC.length ≤ w1.length) (ci q0 : Nat) {q : vw_C} {fs : List Value} (hc : vwCl[ci]? = some q) (hq : q.1 = C) (he : wc[q0]? = some (b, .inr (ci, fs))) (hn : As.length = n) (hsz : ls.size = nL) (hst : st0 = As.reverse ++ .ref b :: rest) (hW : (rest.map fun v => v.category).sum ≤ 8) (hdg : decode cc pc = .ok (.invokevirtual index, 3)) (hf : cells ≤ R.cells ∧ slots ≤ R.slots)
    (kk : ∀ (H1 : Heap) (locs1 : List Loc), va_P G.1 vwCl (mrg ws isC w1) H1 → va_S A s.heap H1 locs1 → W p l e R s m args below meth c H1 locs1 cells slots Q (F0 m (pc + 3) ls (.long r :: rest))) : W p l e R s m args below meth c H locs cells slots Q (F0 m pc ls st0) := by
  have hPc : va_P G.1 vwCl wc H := pick_P hP hC
  have hFc : ∀ q, va_A wc H.size q → A q := va_free hD hS hA isC hC
  have hDc : va_D (fun _ => True) wc := (hD.sub isC hnd hC).weaken (fun _ _ _ _ => trivial)
  refine va_calll (va_runV (As := As) (rest := rest) S (hM H.size) cw ⟨fb, by rw [← hq]; exact va_recv hK.1 hPc hc he, fun U hU hW => ⟨rfl, by rw [hU], by rw [hU]; exact hPc, KG.moved hW hK, hDc⟩⟩ rfl hn hsz hst (lv_room hW) hdg hf) hS (fun q _ h => hFc q h) hFc (fun r' u t H1 locs1 ht hvm hw hB hz1 hk1 hS1 => ?_)
  obtain rfl : r' = r := hw
  exact kk H1 locs1 (mrg_P hP hD hC hl hk1 (by rw [← ht]; exact hB)) hS1
theorem cVv  (S : CallFix p m c cc nL s args Ts own) (hK : KG G s) (hA : ∀ q : Nat, s.heap.size ≤ q → A q) (hD : va_D A ws) (hP : va_P G.1 vwCl ws H) (hS : va_S A s.heap H locs) (isC : List Nat) (hM : CT l y wy fr lo G (.ref b :: As) wc (QV G  w1)) (cw : CallW R s args own C index y bytes maxL ret wy (rmv fr lo) 0 0 n) (hC : isC.map (fun i => ws[i]?) = wc.map some) (hnd : va_nd isC = true) (hl : isC.length ≤ w1.length) (ci q0 : Nat) {q : vw_C} {fs : List Value} (hc : vwCl[ci]? = some q) (hq : q.1 = C) (he : wc[q0]? = some (b, .inr (ci, fs))) (hn : As.length = n) (hsz : ls.size = nL) (hst : st0 = As.reverse ++ .ref b :: rest) (hW : (rest.map fun v => v.category).sum ≤ 8) (hdg : decode cc pc = .ok (.invokevirtual index, 3)) (hf : cells ≤ R.cells ∧ slots ≤ R.slots)
    (kk : ∀ (H1 : Heap) (locs1 : List Loc), va_P G.1 vwCl (mrg ws isC w1) H1 → va_S A s.heap H1 locs1 → W p l e R s m args below meth c H1 locs1 cells slots Q (F0 m (pc + 3) ls rest)) : W p l e R s m args below meth c H locs cells slots Q (F0 m pc ls st0) := by
  have hPc : va_P G.1 vwCl wc H := pick_P hP hC
  have hFc : ∀ q, va_A wc H.size q → A q := va_free hD hS hA isC hC
  have hDc : va_D (fun _ => True) wc := (hD.sub isC hnd hC).weaken (fun _ _ _ _ => trivial)
  refine va_callv (va_runV (As := As) (rest := rest) S (hM H.size) cw ⟨fb, by rw [← hq]; exact va_recv hK.1 hPc hc he, fun U hU hW => ⟨rfl, by rw [hU], by rw [hU]; exact hPc, KG.moved hW hK, hDc⟩⟩ rfl hn hsz hst (lv_room hW) hdg hf) hS (fun q _ h => hFc q h) hFc (fun u t H1 locs1 ht hvm hw hB hz1 hk1 hS1 => ?_)
  skip
  exact kk H1 locs1 (mrg_P hP hD hC hl hk1 (by rw [← ht]; exact hB)) hS1
theorem cVr {r : Nat} (S : CallFix p m c cc nL s args Ts own) (hK : KG G s) (hA : ∀ q : Nat, s.heap.size ≤ q → A q) (hD : va_D A ws) (hP : va_P G.1 vwCl ws H) (hS : va_S A s.heap H locs) (isC : List Nat) (hM : CT l y wy fr lo G (.ref b :: As) wc (QR G r w1)) (cw : CallW R s args own C index y bytes maxL ret wy (rmv fr lo) 0 0 n) (hC : isC.map (fun i => ws[i]?) = wc.map some) (hnd : va_nd isC = true) (hl : isC.length ≤ w1.length) (ci q0 : Nat) {q : vw_C} {fs : List Value} (hc : vwCl[ci]? = some q) (hq : q.1 = C) (he : wc[q0]? = some (b, .inr (ci, fs))) (hn : As.length = n) (hsz : ls.size = nL) (hst : st0 = As.reverse ++ .ref b :: rest) (hW : (rest.map fun v => v.category).sum ≤ 8) (hdg : decode cc pc = .ok (.invokevirtual index, 3)) (hf : cells ≤ R.cells ∧ slots ≤ R.slots)
    (kk : ∀ (H1 : Heap) (locs1 : List Loc), va_P G.1 vwCl (mrg ws isC w1) H1 → va_S A s.heap H1 locs1 → W p l e R s m args below meth c H1 locs1 cells slots Q (F0 m (pc + 3) ls (.ref r :: rest))) : W p l e R s m args below meth c H locs cells slots Q (F0 m pc ls st0) := by
  have hPc : va_P G.1 vwCl wc H := pick_P hP hC
  have hFc : ∀ q, va_A wc H.size q → A q := va_free hD hS hA isC hC
  have hDc : va_D (fun _ => True) wc := (hD.sub isC hnd hC).weaken (fun _ _ _ _ => trivial)
  refine va_callr (va_runV (As := As) (rest := rest) S (hM H.size) cw ⟨fb, by rw [← hq]; exact va_recv hK.1 hPc hc he, fun U hU hW => ⟨rfl, by rw [hU], by rw [hU]; exact hPc, KG.moved hW hK, hDc⟩⟩ rfl hn hsz hst (lv_room hW) hdg hf) hS (fun q _ h => hFc q h) hFc (fun u r' t H1 locs1 ht hvm hw hB hz1 hk1 hS1 => ?_)
  obtain ⟨rfl, hB⟩ := hB
  exact kk H1 locs1 (mrg_P hP hD hC hl hk1 (by rw [← ht]; exact hB)) hS1
theorem cSi {r : Int32} (S : CallFix p m c cc nL s args Ts own) (hK : KG G s) (hA : ∀ q : Nat, s.heap.size ≤ q → A q) (hD : va_D A ws) (hP : va_P G.1 vwCl ws H) (hS : va_S A s.heap H locs) (isC : List Nat) (hM : CT l y wy fr lo G As wc (QI G r w1)) (cw : CallB R s args own index y bytes maxL ret wy (rmv fr lo) 0 0 n ∧ (Cond.static y).before args s = true) (hC : isC.map (fun i => ws[i]?) = wc.map some) (hnd : va_nd isC = true) (hl : isC.length ≤ w1.length) (hn : As.length = n) (hsz : ls.size = nL) (hst : st0 = As.reverse ++ rest) (hW : (rest.map fun v => v.category).sum ≤ 8) (hdg : decode cc pc = .ok (.invokestatic index, 3)) (hf : cells ≤ R.cells ∧ slots ≤ R.slots)
    (kk : ∀ (H1 : Heap) (locs1 : List Loc), va_P G.1 vwCl (mrg ws isC w1) H1 → va_S A s.heap H1 locs1 → W p l e R s m args below meth c H1 locs1 cells slots Q (F0 m (pc + 3) ls (.int r :: rest))) : W p l e R s m args below meth c H locs cells slots Q (F0 m pc ls st0) := by
  have hPc : va_P G.1 vwCl wc H := pick_P hP hC
  have hFc : ∀ q, va_A wc H.size q → A q := va_free hD hS hA isC hC
  have hDc : va_D (fun _ => True) wc := (hD.sub isC hnd hC).weaken (fun _ _ _ _ => trivial)
  refine va_calli (va_runS (As := As) (rest := rest) S (hM H.size) cw ⟨fb, fun U hU hW => ⟨rfl, by rw [hU], by rw [hU]; exact hPc, KG.moved hW hK, hDc⟩⟩ rfl hn hsz hst (lv_room hW) hdg hf) hS (fun q _ h => hFc q h) hFc (fun r' u t H1 locs1 ht hvm hw hB hz1 hk1 hS1 => ?_)
  obtain rfl : r' = r := hw
  exact kk H1 locs1 (mrg_P hP hD hC hl hk1 (by rw [← ht]; exact hB)) hS1
theorem cSl {r : Int64} (S : CallFix p m c cc nL s args Ts own) (hK : KG G s) (hA : ∀ q : Nat, s.heap.size ≤ q → A q) (hD : va_D A ws) (hP : va_P G.1 vwCl ws H) (hS : va_S A s.heap H locs) (isC : List Nat) (hM : CT l y wy fr lo G As wc (QL G r w1)) (cw : CallB R s args own index y bytes maxL ret wy (rmv fr lo) 0 0 n ∧ (Cond.static y).before args s = true) (hC : isC.map (fun i => ws[i]?) = wc.map some) (hnd : va_nd isC = true) (hl : isC.length ≤ w1.length) (hn : As.length = n) (hsz : ls.size = nL) (hst : st0 = As.reverse ++ rest) (hW : (rest.map fun v => v.category).sum ≤ 8) (hdg : decode cc pc = .ok (.invokestatic index, 3)) (hf : cells ≤ R.cells ∧ slots ≤ R.slots)
    (kk : ∀ (H1 : Heap) (locs1 : List Loc), va_P G.1 vwCl (mrg ws isC w1) H1 → va_S A s.heap H1 locs1 → W p l e R s m args below meth c H1 locs1 cells slots Q (F0 m (pc + 3) ls (.long r :: rest))) : W p l e R s m args below meth c H locs cells slots Q (F0 m pc ls st0) := by
  have hPc : va_P G.1 vwCl wc H := pick_P hP hC
  have hFc : ∀ q, va_A wc H.size q → A q := va_free hD hS hA isC hC
  have hDc : va_D (fun _ => True) wc := (hD.sub isC hnd hC).weaken (fun _ _ _ _ => trivial)
  refine va_calll (va_runS (As := As) (rest := rest) S (hM H.size) cw ⟨fb, fun U hU hW => ⟨rfl, by rw [hU], by rw [hU]; exact hPc, KG.moved hW hK, hDc⟩⟩ rfl hn hsz hst (lv_room hW) hdg hf) hS (fun q _ h => hFc q h) hFc (fun r' u t H1 locs1 ht hvm hw hB hz1 hk1 hS1 => ?_)
  obtain rfl : r' = r := hw
  exact kk H1 locs1 (mrg_P hP hD hC hl hk1 (by rw [← ht]; exact hB)) hS1
theorem cSv  (S : CallFix p m c cc nL s args Ts own) (hK : KG G s) (hA : ∀ q : Nat, s.heap.size ≤ q → A q) (hD : va_D A ws) (hP : va_P G.1 vwCl ws H) (hS : va_S A s.heap H locs) (isC : List Nat) (hM : CT l y wy fr lo G As wc (QV G  w1)) (cw : CallB R s args own index y bytes maxL ret wy (rmv fr lo) 0 0 n ∧ (Cond.static y).before args s = true) (hC : isC.map (fun i => ws[i]?) = wc.map some) (hnd : va_nd isC = true) (hl : isC.length ≤ w1.length) (hn : As.length = n) (hsz : ls.size = nL) (hst : st0 = As.reverse ++ rest) (hW : (rest.map fun v => v.category).sum ≤ 8) (hdg : decode cc pc = .ok (.invokestatic index, 3)) (hf : cells ≤ R.cells ∧ slots ≤ R.slots)
    (kk : ∀ (H1 : Heap) (locs1 : List Loc), va_P G.1 vwCl (mrg ws isC w1) H1 → va_S A s.heap H1 locs1 → W p l e R s m args below meth c H1 locs1 cells slots Q (F0 m (pc + 3) ls rest)) : W p l e R s m args below meth c H locs cells slots Q (F0 m pc ls st0) := by
  have hPc : va_P G.1 vwCl wc H := pick_P hP hC
  have hFc : ∀ q, va_A wc H.size q → A q := va_free hD hS hA isC hC
  have hDc : va_D (fun _ => True) wc := (hD.sub isC hnd hC).weaken (fun _ _ _ _ => trivial)
  refine va_callv (va_runS (As := As) (rest := rest) S (hM H.size) cw ⟨fb, fun U hU hW => ⟨rfl, by rw [hU], by rw [hU]; exact hPc, KG.moved hW hK, hDc⟩⟩ rfl hn hsz hst (lv_room hW) hdg hf) hS (fun q _ h => hFc q h) hFc (fun u t H1 locs1 ht hvm hw hB hz1 hk1 hS1 => ?_)
  skip
  exact kk H1 locs1 (mrg_P hP hD hC hl hk1 (by rw [← ht]; exact hB)) hS1
theorem cSr {r : Nat} (S : CallFix p m c cc nL s args Ts own) (hK : KG G s) (hA : ∀ q : Nat, s.heap.size ≤ q → A q) (hD : va_D A ws) (hP : va_P G.1 vwCl ws H) (hS : va_S A s.heap H locs) (isC : List Nat) (hM : CT l y wy fr lo G As wc (QR G r w1)) (cw : CallB R s args own index y bytes maxL ret wy (rmv fr lo) 0 0 n ∧ (Cond.static y).before args s = true) (hC : isC.map (fun i => ws[i]?) = wc.map some) (hnd : va_nd isC = true) (hl : isC.length ≤ w1.length) (hn : As.length = n) (hsz : ls.size = nL) (hst : st0 = As.reverse ++ rest) (hW : (rest.map fun v => v.category).sum ≤ 8) (hdg : decode cc pc = .ok (.invokestatic index, 3)) (hf : cells ≤ R.cells ∧ slots ≤ R.slots)
    (kk : ∀ (H1 : Heap) (locs1 : List Loc), va_P G.1 vwCl (mrg ws isC w1) H1 → va_S A s.heap H1 locs1 → W p l e R s m args below meth c H1 locs1 cells slots Q (F0 m (pc + 3) ls (.ref r :: rest))) : W p l e R s m args below meth c H locs cells slots Q (F0 m pc ls st0) := by
  have hPc : va_P G.1 vwCl wc H := pick_P hP hC
  have hFc : ∀ q, va_A wc H.size q → A q := va_free hD hS hA isC hC
  have hDc : va_D (fun _ => True) wc := (hD.sub isC hnd hC).weaken (fun _ _ _ _ => trivial)
  refine va_callr (va_runS (As := As) (rest := rest) S (hM H.size) cw ⟨fb, fun U hU hW => ⟨rfl, by rw [hU], by rw [hU]; exact hPc, KG.moved hW hK, hDc⟩⟩ rfl hn hsz hst (lv_room hW) hdg hf) hS (fun q _ h => hFc q h) hFc (fun u r' t H1 locs1 ht hvm hw hB hz1 hk1 hS1 => ?_)
  obtain ⟨rfl, hB⟩ := hB
  exact kk H1 locs1 (mrg_P hP hD hC hl hk1 (by rw [← ht]; exact hB)) hS1
theorem cNi {r : Int32} (S : CallFix p m c cc nL s args Ts own) (hK : KG G s) (hA : ∀ q : Nat, s.heap.size ≤ q → A q) (hD : va_D A ws) (hP : va_P G.1 vwCl ws H) (hS : va_S A s.heap H locs) (isC : List Nat) (hM : CT l y wy fr lo G As wc (QI G r w1)) (cw : va_CN R s args own index y host bytes maxL ret wy (rmv fr lo) 0 0 n ∧ (Cond.static y).before args s = true ∧ True) (hC : isC.map (fun i => ws[i]?) = wc.map some) (hnd : va_nd isC = true) (hl : isC.length ≤ w1.length) (hn : As.length = n) (hsz : ls.size = nL) (hst : st0 = As.reverse ++ rest) (hW : (rest.map fun v => v.category).sum ≤ 8) (hdg : decode cc pc = .ok (.invokestatic index, 3)) (hf : cells ≤ R.cells ∧ slots ≤ R.slots)
    (kk : ∀ (H1 : Heap) (locs1 : List Loc), va_P G.1 vwCl (mrg ws isC w1) H1 → va_S A s.heap H1 locs1 → W p l e R s m args below meth c H1 locs1 cells slots Q (F0 m (pc + 3) ls (.int r :: rest))) : W p l e R s m args below meth c H locs cells slots Q (F0 m pc ls st0) := by
  have hPc : va_P G.1 vwCl wc H := pick_P hP hC
  have hFc : ∀ q, va_A wc H.size q → A q := va_free hD hS hA isC hC
  have hDc : va_D (fun _ => True) wc := (hD.sub isC hnd hC).weaken (fun _ _ _ _ => trivial)
  refine va_calli (va_runSN (As := As) (rest := rest) S (hM H.size) cw ⟨fb, fun U hU hW => ⟨rfl, by rw [hU], by rw [hU]; exact hPc, KG.moved hW hK, hDc⟩⟩ rfl hn hsz hst (lv_room hW) hdg hf) hS (fun q _ h => hFc q h) hFc (fun r' u t H1 locs1 ht hvm hw hB hz1 hk1 hS1 => ?_)
  obtain rfl : r' = r := hw
  exact kk H1 locs1 (mrg_P hP hD hC hl hk1 (by rw [← ht]; exact hB)) hS1
end MYC
/-! pure readers and writers: none where the machine would throw -/
def rd (f : Nat → Int32) (n : Nat) (i : Int32) : Option Int32 := if i < 0 ∨ n ≤ i.toNatClampNeg then none else some (f i.toNatClampNeg)
def wr (f : Nat → Int32) (n : Nat) (i x : Int32) : Option (Nat → Int32) := if i < 0 ∨ n ≤ i.toNatClampNeg then none else some (upd f i.toNatClampNeg x)
def cp (f : Nat → Int32) (n0 : Nat) (sp : Int32) (g : Nat → Int32) (n1 : Nat) (dp n : Int32) : Option (Nat → Int32) := if sp < 0 ∨ dp < 0 ∨ n < 0 ∨ n0 < sp.toNatClampNeg + n.toNatClampNeg ∨ n1 < dp.toNatClampNeg + n.toNatClampNeg then none else some (va_cpy f g sp.toNatClampNeg dp.toNatClampNeg n.toNatClampNeg)
def zr (v : Int32) : Option Int32 := if v = 0 ∨ v = 1 then some v else none
def nm {α β : Type} (a : α) (k : α → β) : β := k a
theorem nm_s {α β : Type} {a v : α} {k : α → Option β} {R : β} (ev : v = a) (h : nm a k = some R) : k v = some R := by subst ev; exact h
theorem if_t {β : Type} {c : Prop} [Decidable c] {a b : Option β} {R : β} (hc : c) (h : (if c then a else b) = some R) : a = some R := by rw [if_pos hc] at h; exact h
theorem if_f {β : Type} {c : Prop} [Decidable c] {a b : Option β} {R : β} (hc : ¬ c) (h : (if c then a else b) = some R) : b = some R := by rw [if_neg hc] at h; exact h
theorem rd_s {f : Nat → Int32} {n : Nat} {i v : Int32} (h : rd f n i = some v) : vp_in i n ∧ f i.toNatClampNeg = v := by
  unfold rd at h
  split at h
  · cases h
  · next hc => exact ⟨hc, Option.some.inj h⟩
theorem wr_s {f f' : Nat → Int32} {n : Nat} {i x : Int32} (h : wr f n i x = some f') : vp_in i n ∧ upd f i.toNatClampNeg x = f' := by
  unfold wr at h
  split at h
  · cases h
  · next hc => exact ⟨hc, Option.some.inj h⟩
theorem zr_s {v v' : Int32} (h : zr v = some v') : v = v' ∧ narrow .boolean (.int v) = .int v ∧ fits .boolean (.int v) = true := by
  unfold zr at h
  split at h
  · next hc =>
    refine ⟨Option.some.inj h, ?_⟩
    rcases hc with rfl | rfl <;> exact ⟨by decide, by decide⟩
  · cases h
theorem ne_toInt {x y : Int32} {k : Int} (h : ¬ x = y) (e : y.toInt = k) : x.toInt ≠ k := fun q => h (Int32.toInt_inj.mp (q.trans e.symm))
def bnd1 {α γ : Type} (o : Option α) (k : α → Option γ) : Option γ := match o with
  | some a => k a
  | none => none
theorem bnd1_s {α γ : Type} {o : Option α} {k : α → Option γ} {R : γ} (h : bnd1 o k = some R) : ∃ a, o = some a ∧ k a = some R := by
  cases o with
  | none => cases h
  | some a => exact ⟨a, rfl, h⟩
def bnd2 {A B γ : Type} (o : Option (A × B)) (k : A → B → Option γ) : Option γ := match o with
  | some (x0, x1) => k x0 x1
  | none => none
theorem bnd2_s {A B γ : Type} {o : Option (A × B)} {k : A → B → Option γ} {R : γ} (h : bnd2 o k = some R) : ∃ x0 x1, o = some (x0, x1) ∧ k x0 x1 = some R := by
  cases o with
  | none => cases h
  | some a => obtain ⟨x0, x1⟩ := a; exact ⟨x0, x1, rfl, h⟩
def bnd3 {A B C γ : Type} (o : Option (A × B × C)) (k : A → B → C → Option γ) : Option γ := match o with
  | some (x0, x1, x2) => k x0 x1 x2
  | none => none
theorem bnd3_s {A B C γ : Type} {o : Option (A × B × C)} {k : A → B → C → Option γ} {R : γ} (h : bnd3 o k = some R) : ∃ x0 x1 x2, o = some (x0, x1, x2) ∧ k x0 x1 x2 = some R := by
  cases o with
  | none => cases h
  | some a => obtain ⟨x0, x1, x2⟩ := a; exact ⟨x0, x1, x2, rfl, h⟩
def bnd4 {A B C D γ : Type} (o : Option (A × B × C × D)) (k : A → B → C → D → Option γ) : Option γ := match o with
  | some (x0, x1, x2, x3) => k x0 x1 x2 x3
  | none => none
theorem bnd4_s {A B C D γ : Type} {o : Option (A × B × C × D)} {k : A → B → C → D → Option γ} {R : γ} (h : bnd4 o k = some R) : ∃ x0 x1 x2 x3, o = some (x0, x1, x2, x3) ∧ k x0 x1 x2 x3 = some R := by
  cases o with
  | none => cases h
  | some a => obtain ⟨x0, x1, x2, x3⟩ := a; exact ⟨x0, x1, x2, x3, rfl, h⟩
def bnd5 {A B C D E γ : Type} (o : Option (A × B × C × D × E)) (k : A → B → C → D → E → Option γ) : Option γ := match o with
  | some (x0, x1, x2, x3, x4) => k x0 x1 x2 x3 x4
  | none => none
theorem bnd5_s {A B C D E γ : Type} {o : Option (A × B × C × D × E)} {k : A → B → C → D → E → Option γ} {R : γ} (h : bnd5 o k = some R) : ∃ x0 x1 x2 x3 x4, o = some (x0, x1, x2, x3, x4) ∧ k x0 x1 x2 x3 x4 = some R := by
  cases o with
  | none => cases h
  | some a => obtain ⟨x0, x1, x2, x3, x4⟩ := a; exact ⟨x0, x1, x2, x3, x4, rfl, h⟩
def bnd6 {A B C D E F γ : Type} (o : Option (A × B × C × D × E × F)) (k : A → B → C → D → E → F → Option γ) : Option γ := match o with
  | some (x0, x1, x2, x3, x4, x5) => k x0 x1 x2 x3 x4 x5
  | none => none
theorem bnd6_s {A B C D E F γ : Type} {o : Option (A × B × C × D × E × F)} {k : A → B → C → D → E → F → Option γ} {R : γ} (h : bnd6 o k = some R) : ∃ x0 x1 x2 x3 x4 x5, o = some (x0, x1, x2, x3, x4, x5) ∧ k x0 x1 x2 x3 x4 x5 = some R := by
  cases o with
  | none => cases h
  | some a => obtain ⟨x0, x1, x2, x3, x4, x5⟩ := a; exact ⟨x0, x1, x2, x3, x4, x5, rfl, h⟩
def bnd7 {A B C D E F G γ : Type} (o : Option (A × B × C × D × E × F × G)) (k : A → B → C → D → E → F → G → Option γ) : Option γ := match o with
  | some (x0, x1, x2, x3, x4, x5, x6) => k x0 x1 x2 x3 x4 x5 x6
  | none => none
theorem bnd7_s {A B C D E F G γ : Type} {o : Option (A × B × C × D × E × F × G)} {k : A → B → C → D → E → F → G → Option γ} {R : γ} (h : bnd7 o k = some R) : ∃ x0 x1 x2 x3 x4 x5 x6, o = some (x0, x1, x2, x3, x4, x5, x6) ∧ k x0 x1 x2 x3 x4 x5 x6 = some R := by
  cases o with
  | none => cases h
  | some a => obtain ⟨x0, x1, x2, x3, x4, x5, x6⟩ := a; exact ⟨x0, x1, x2, x3, x4, x5, x6, rfl, h⟩
def bnd8 {A B C D E F G H γ : Type} (o : Option (A × B × C × D × E × F × G × H)) (k : A → B → C → D → E → F → G → H → Option γ) : Option γ := match o with
  | some (x0, x1, x2, x3, x4, x5, x6, x7) => k x0 x1 x2 x3 x4 x5 x6 x7
  | none => none
theorem bnd8_s {A B C D E F G H γ : Type} {o : Option (A × B × C × D × E × F × G × H)} {k : A → B → C → D → E → F → G → H → Option γ} {R : γ} (h : bnd8 o k = some R) : ∃ x0 x1 x2 x3 x4 x5 x6 x7, o = some (x0, x1, x2, x3, x4, x5, x6, x7) ∧ k x0 x1 x2 x3 x4 x5 x6 x7 = some R := by
  cases o with
  | none => cases h
  | some a => obtain ⟨x0, x1, x2, x3, x4, x5, x6, x7⟩ := a; exact ⟨x0, x1, x2, x3, x4, x5, x6, x7, rfl, h⟩
def bnd9 {A B C D E F G H I γ : Type} (o : Option (A × B × C × D × E × F × G × H × I)) (k : A → B → C → D → E → F → G → H → I → Option γ) : Option γ := match o with
  | some (x0, x1, x2, x3, x4, x5, x6, x7, x8) => k x0 x1 x2 x3 x4 x5 x6 x7 x8
  | none => none
theorem bnd9_s {A B C D E F G H I γ : Type} {o : Option (A × B × C × D × E × F × G × H × I)} {k : A → B → C → D → E → F → G → H → I → Option γ} {R : γ} (h : bnd9 o k = some R) : ∃ x0 x1 x2 x3 x4 x5 x6 x7 x8, o = some (x0, x1, x2, x3, x4, x5, x6, x7, x8) ∧ k x0 x1 x2 x3 x4 x5 x6 x7 x8 = some R := by
  cases o with
  | none => cases h
  | some a => obtain ⟨x0, x1, x2, x3, x4, x5, x6, x7, x8⟩ := a; exact ⟨x0, x1, x2, x3, x4, x5, x6, x7, x8, rfl, h⟩
def bnd10 {A B C D E F G H I J γ : Type} (o : Option (A × B × C × D × E × F × G × H × I × J)) (k : A → B → C → D → E → F → G → H → I → J → Option γ) : Option γ := match o with
  | some (x0, x1, x2, x3, x4, x5, x6, x7, x8, x9) => k x0 x1 x2 x3 x4 x5 x6 x7 x8 x9
  | none => none
theorem bnd10_s {A B C D E F G H I J γ : Type} {o : Option (A × B × C × D × E × F × G × H × I × J)} {k : A → B → C → D → E → F → G → H → I → J → Option γ} {R : γ} (h : bnd10 o k = some R) : ∃ x0 x1 x2 x3 x4 x5 x6 x7 x8 x9, o = some (x0, x1, x2, x3, x4, x5, x6, x7, x8, x9) ∧ k x0 x1 x2 x3 x4 x5 x6 x7 x8 x9 = some R := by
  cases o with
  | none => cases h
  | some a => obtain ⟨x0, x1, x2, x3, x4, x5, x6, x7, x8, x9⟩ := a; exact ⟨x0, x1, x2, x3, x4, x5, x6, x7, x8, x9, rfl, h⟩
def bnd11 {A B C D E F G H I J K γ : Type} (o : Option (A × B × C × D × E × F × G × H × I × J × K)) (k : A → B → C → D → E → F → G → H → I → J → K → Option γ) : Option γ := match o with
  | some (x0, x1, x2, x3, x4, x5, x6, x7, x8, x9, x10) => k x0 x1 x2 x3 x4 x5 x6 x7 x8 x9 x10
  | none => none
theorem bnd11_s {A B C D E F G H I J K γ : Type} {o : Option (A × B × C × D × E × F × G × H × I × J × K)} {k : A → B → C → D → E → F → G → H → I → J → K → Option γ} {R : γ} (h : bnd11 o k = some R) : ∃ x0 x1 x2 x3 x4 x5 x6 x7 x8 x9 x10, o = some (x0, x1, x2, x3, x4, x5, x6, x7, x8, x9, x10) ∧ k x0 x1 x2 x3 x4 x5 x6 x7 x8 x9 x10 = some R := by
  cases o with
  | none => cases h
  | some a => obtain ⟨x0, x1, x2, x3, x4, x5, x6, x7, x8, x9, x10⟩ := a; exact ⟨x0, x1, x2, x3, x4, x5, x6, x7, x8, x9, x10, rfl, h⟩
def bnd12 {A B C D E F G H I J K L γ : Type} (o : Option (A × B × C × D × E × F × G × H × I × J × K × L)) (k : A → B → C → D → E → F → G → H → I → J → K → L → Option γ) : Option γ := match o with
  | some (x0, x1, x2, x3, x4, x5, x6, x7, x8, x9, x10, x11) => k x0 x1 x2 x3 x4 x5 x6 x7 x8 x9 x10 x11
  | none => none
theorem bnd12_s {A B C D E F G H I J K L γ : Type} {o : Option (A × B × C × D × E × F × G × H × I × J × K × L)} {k : A → B → C → D → E → F → G → H → I → J → K → L → Option γ} {R : γ} (h : bnd12 o k = some R) : ∃ x0 x1 x2 x3 x4 x5 x6 x7 x8 x9 x10 x11, o = some (x0, x1, x2, x3, x4, x5, x6, x7, x8, x9, x10, x11) ∧ k x0 x1 x2 x3 x4 x5 x6 x7 x8 x9 x10 x11 = some R := by
  cases o with
  | none => cases h
  | some a => obtain ⟨x0, x1, x2, x3, x4, x5, x6, x7, x8, x9, x10, x11⟩ := a; exact ⟨x0, x1, x2, x3, x4, x5, x6, x7, x8, x9, x10, x11, rfl, h⟩
def bnd13 {A B C D E F G H I J K L M γ : Type} (o : Option (A × B × C × D × E × F × G × H × I × J × K × L × M)) (k : A → B → C → D → E → F → G → H → I → J → K → L → M → Option γ) : Option γ := match o with
  | some (x0, x1, x2, x3, x4, x5, x6, x7, x8, x9, x10, x11, x12) => k x0 x1 x2 x3 x4 x5 x6 x7 x8 x9 x10 x11 x12
  | none => none
theorem bnd13_s {A B C D E F G H I J K L M γ : Type} {o : Option (A × B × C × D × E × F × G × H × I × J × K × L × M)} {k : A → B → C → D → E → F → G → H → I → J → K → L → M → Option γ} {R : γ} (h : bnd13 o k = some R) : ∃ x0 x1 x2 x3 x4 x5 x6 x7 x8 x9 x10 x11 x12, o = some (x0, x1, x2, x3, x4, x5, x6, x7, x8, x9, x10, x11, x12) ∧ k x0 x1 x2 x3 x4 x5 x6 x7 x8 x9 x10 x11 x12 = some R := by
  cases o with
  | none => cases h
  | some a => obtain ⟨x0, x1, x2, x3, x4, x5, x6, x7, x8, x9, x10, x11, x12⟩ := a; exact ⟨x0, x1, x2, x3, x4, x5, x6, x7, x8, x9, x10, x11, x12, rfl, h⟩
def bnd14 {A B C D E F G H I J K L M N γ : Type} (o : Option (A × B × C × D × E × F × G × H × I × J × K × L × M × N)) (k : A → B → C → D → E → F → G → H → I → J → K → L → M → N → Option γ) : Option γ := match o with
  | some (x0, x1, x2, x3, x4, x5, x6, x7, x8, x9, x10, x11, x12, x13) => k x0 x1 x2 x3 x4 x5 x6 x7 x8 x9 x10 x11 x12 x13
  | none => none
theorem bnd14_s {A B C D E F G H I J K L M N γ : Type} {o : Option (A × B × C × D × E × F × G × H × I × J × K × L × M × N)} {k : A → B → C → D → E → F → G → H → I → J → K → L → M → N → Option γ} {R : γ} (h : bnd14 o k = some R) : ∃ x0 x1 x2 x3 x4 x5 x6 x7 x8 x9 x10 x11 x12 x13, o = some (x0, x1, x2, x3, x4, x5, x6, x7, x8, x9, x10, x11, x12, x13) ∧ k x0 x1 x2 x3 x4 x5 x6 x7 x8 x9 x10 x11 x12 x13 = some R := by
  cases o with
  | none => cases h
  | some a => obtain ⟨x0, x1, x2, x3, x4, x5, x6, x7, x8, x9, x10, x11, x12, x13⟩ := a; exact ⟨x0, x1, x2, x3, x4, x5, x6, x7, x8, x9, x10, x11, x12, x13, rfl, h⟩
def bnd15 {A B C D E F G H I J K L M N O γ : Type} (o : Option (A × B × C × D × E × F × G × H × I × J × K × L × M × N × O)) (k : A → B → C → D → E → F → G → H → I → J → K → L → M → N → O → Option γ) : Option γ := match o with
  | some (x0, x1, x2, x3, x4, x5, x6, x7, x8, x9, x10, x11, x12, x13, x14) => k x0 x1 x2 x3 x4 x5 x6 x7 x8 x9 x10 x11 x12 x13 x14
  | none => none
theorem bnd15_s {A B C D E F G H I J K L M N O γ : Type} {o : Option (A × B × C × D × E × F × G × H × I × J × K × L × M × N × O)} {k : A → B → C → D → E → F → G → H → I → J → K → L → M → N → O → Option γ} {R : γ} (h : bnd15 o k = some R) : ∃ x0 x1 x2 x3 x4 x5 x6 x7 x8 x9 x10 x11 x12 x13 x14, o = some (x0, x1, x2, x3, x4, x5, x6, x7, x8, x9, x10, x11, x12, x13, x14) ∧ k x0 x1 x2 x3 x4 x5 x6 x7 x8 x9 x10 x11 x12 x13 x14 = some R := by
  cases o with
  | none => cases h
  | some a => obtain ⟨x0, x1, x2, x3, x4, x5, x6, x7, x8, x9, x10, x11, x12, x13, x14⟩ := a; exact ⟨x0, x1, x2, x3, x4, x5, x6, x7, x8, x9, x10, x11, x12, x13, x14, rfl, h⟩
section MYR
variable {p : Program} {l : Launch} {e : Env} {R : Room} {s : State} {m : MethodId} {args : Array Value} {below : List Frame} {meth : Method} {c : Code} {H : Heap} {locs : List Loc} {cells slots : Nat} {Q : State → Prop} {cc bytes : ByteArray} {nL maxL index n fr lo : Nat} {own C host : String} {y : MethodName} {ret : Option FieldType} {Ts wy : List Cond} {G : Gt} {A : Nat → Prop} {ws wc w1 : va_W} {b : Addr} {As rest st0 : List Value} {pc : Nat} {ls : Array Slot}
variable {a : Nat} {f f' : Nat → Int32} {i x v : Int32}
theorem wIald (hx : p.tables.exec = Jvm.exec) (hb : c.code = cc) (hK : KG G s) (hP : va_P G.1 vwCl ws H) (q0 : Nat) (ha : ws[q0]? = some (a, .inl (G.2.1, n, .inl f))) (hr : rd f n i = some v) (hdg : decode cc pc = .ok (.iaload, 1))
    (kk : W p l e R s m args below meth c H locs cells slots Q (F0 m (pc + 1) ls (.int v :: rest))) : W p l e R s m args below meth c H locs cells slots Q (F0 m pc ls (.int i :: .ref a :: rest)) := by
  obtain ⟨hin, rfl⟩ := rd_s hr
  exact va_iald hx hb hK.1 hP q0 0 ha rfl hin hdg kk
theorem wZald (hx : p.tables.exec = Jvm.exec) (hb : c.code = cc) (hK : KG G s) (hP : va_P G.1 vwCl ws H) (q0 : Nat) (ha : ws[q0]? = some (a, .inl (G.2.2, n, .inl f))) (hr : rd f n i = some v) (hdg : decode cc pc = .ok (.baload, 1))
    (kk : W p l e R s m args below meth c H locs cells slots Q (F0 m (pc + 1) ls (.int v :: rest))) : W p l e R s m args below meth c H locs cells slots Q (F0 m pc ls (.int i :: .ref a :: rest)) := by
  obtain ⟨hin, rfl⟩ := rd_s hr
  exact va_zald hx hb hK.1 hP q0 1 ha rfl hin hdg kk
theorem wIast (hx : p.tables.exec = Jvm.exec) (hb : c.code = cc) (hK : KG G s) (hP : va_P G.1 vwCl ws H) (hD : va_D A ws) (hS : va_S A s.heap H locs) (q0 : Nat) (ha : ws[q0]? = some (a, .inl (G.2.1, n, .inl f))) (hr : wr f n i x = some f') (hdg : decode cc pc = .ok (.iastore, 1))
    (kk : ∀ (H1 : Heap) (locs1 : List Loc), va_P G.1 vwCl (ws.set q0 (a, .inl (G.2.1, n, .inl f'))) H1 → va_S A s.heap H1 locs1 → W p l e R s m args below meth c H1 locs1 cells slots Q (F0 m (pc + 1) ls rest)) : W p l e R s m args below meth c H locs cells slots Q (F0 m pc ls (.int x :: .int i :: .ref a :: rest)) := by
  obtain ⟨hin, rfl⟩ := wr_s hr
  exact va_iast hx hb hK.1 hP hD hS q0 0 ha rfl hin hdg (fun H1 locs1 h1 _ h3 => kk H1 locs1 h1 h3)
theorem wZast (hx : p.tables.exec = Jvm.exec) (hb : c.code = cc) (hK : KG G s) (hP : va_P G.1 vwCl ws H) (hD : va_D A ws) (hS : va_S A s.heap H locs) (q0 : Nat) (ha : ws[q0]? = some (a, .inl (G.2.2, n, .inl f))) (hr : wr f n i (x &&& 1) = some f') (hdg : decode cc pc = .ok (.bastore, 1))
    (kk : ∀ (H1 : Heap) (locs1 : List Loc), va_P G.1 vwCl (ws.set q0 (a, .inl (G.2.2, n, .inl f'))) H1 → va_S A s.heap H1 locs1 → W p l e R s m args below meth c H1 locs1 cells slots Q (F0 m (pc + 1) ls rest)) : W p l e R s m args below meth c H locs cells slots Q (F0 m pc ls (.int x :: .int i :: .ref a :: rest)) := by
  obtain ⟨hin, rfl⟩ := wr_s hr
  exact va_zast hx hb hK.1 hP hD hS q0 1 ha rfl hin hdg (fun H1 locs1 h1 _ h3 => kk H1 locs1 h1 h3)
theorem wCopy (hx : p.tables.exec = Jvm.exec) (hb : c.code = cc) (hml : c.maxLocals = ls.size) (hown : s.vm.findClass own = some m.cls) (hlink : (Cond.methodLink own index arraycopyName).before args s = true) (hnat : (Cond.native arraycopyName).before args s = true) (hstat : (Cond.static arraycopyName).before args s = true) (hini : (Cond.initialized "java/lang/System").before args s = true)
    (hK : KG G s) (hP : va_P G.1 vwCl ws H) (hD : va_D A ws) (hS : va_S A s.heap H locs) (q0 q1 : Nat) {a0 n0 n1 : Nat} {g : Nat → Int32} {sp dp k : Int32} (ha0 : ws[q0]? = some (a0, .inl (G.2.1, n0, .inl f))) (ha1 : ws[q1]? = some (a, .inl (G.2.1, n1, .inl g))) (hr : cp f n0 sp g n1 dp k = some f')
    (hframes : 1 ≤ R.frames) (hlocals : (rest.map fun v => v.category).sum + (nativeFrameWords "java/lang/System" "arraycopy" 5 + 11) ≤ R.locals) (hdg : decode cc pc = .ok (.invokestatic index, 3))
    (kk : ∀ (H1 : Heap) (locs1 : List Loc), va_P G.1 vwCl (ws.set q1 (a, .inl (G.2.1, n1, .inl f'))) H1 → va_S A s.heap H1 locs1 → W p l e R s m args below meth c H1 locs1 cells slots Q (F0 m (pc + 3) ls rest)) : W p l e R s m args below meth c H locs cells slots Q (F0 m pc ls (.int k :: .int dp :: .ref a :: .int sp :: .ref a0 :: rest)) := by
  unfold cp at hr
  split at hr
  · cases hr
  · next hc =>
    have hr := Option.some.inj hr
    subst hr
    have c1 : ¬ sp < 0 := fun q => hc (Or.inl q)
    have c2 : ¬ dp < 0 := fun q => hc (Or.inr (Or.inl q))
    have c3 : ¬ k < 0 := fun q => hc (Or.inr (Or.inr (Or.inl q)))
    have c4 : ¬ n0 < sp.toNatClampNeg + k.toNatClampNeg := fun q => hc (Or.inr (Or.inr (Or.inr (Or.inl q))))
    have c5 : ¬ n1 < dp.toNatClampNeg + k.toNatClampNeg := fun q => hc (Or.inr (Or.inr (Or.inr (Or.inr q))))
    exact va_copyi hx hb hml hown hlink hnat hstat hini hK.1 hP hD hS q0 q1 0 0 ha0 ha1 rfl rfl rfl c1 c2 c3 (Nat.not_lt.mp c4) (Nat.not_lt.mp c5) (fun _ _ => rfl) hframes hlocals hdg (fun H1 locs1 h1 _ h3 => kk H1 locs1 h1 h3)
end MYR
end
section
def W_0 (G : Gt) : va_W := []
def W_S (G : Gt) (s0 s1 : Nat) (S_len : Int32) (S_let : Nat → Int32) : va_W := [(s0, .inr (3, [.ref s1, .int S_len])), (s1, .inl (G.2.1, 48, .inl S_let))]
def W_T (G : Gt) (t0 t1 t2 t3 t4 t5 t6 : Nat) (T_br : Int32) (T_fa : Int32) (T_fd : Nat → Int32) (T_fp : Nat → Int32) (T_st : Nat → Int32) (T_kd : Nat → Int32) (T_fs : Nat → Int32) (T_fl : Nat → Int32) : va_W := [(t0, .inr (4, [.ref t1, .ref t2, .ref t3, .ref t4, .ref t5, .ref t6, .int T_br, .int T_fa])), (t1, .inl (G.2.1, 8, .inl T_fd)), (t2, .inl (G.2.1, 5, .inl T_fp)), (t3, .inl (G.2.1, 5, .inl T_st)), (t4, .inl (G.2.1, 5, .inl T_kd)), (t5, .inl (G.2.1, 5, .inl T_fs)), (t6, .inl (G.2.1, 5, .inl T_fl))]
def W_TS (G : Gt) (t0 t1 t2 t3 t4 t5 t6 s0 s1 : Nat) (T_br : Int32) (T_fa : Int32) (T_fd : Nat → Int32) (T_fp : Nat → Int32) (T_st : Nat → Int32) (T_kd : Nat → Int32) (T_fs : Nat → Int32) (T_fl : Nat → Int32) (S_len : Int32) (S_let : Nat → Int32) : va_W := [(t0, .inr (4, [.ref t1, .ref t2, .ref t3, .ref t4, .ref t5, .ref t6, .int T_br, .int T_fa])), (t1, .inl (G.2.1, 8, .inl T_fd)), (t2, .inl (G.2.1, 5, .inl T_fp)), (t3, .inl (G.2.1, 5, .inl T_st)), (t4, .inl (G.2.1, 5, .inl T_kd)), (t5, .inl (G.2.1, 5, .inl T_fs)), (t6, .inl (G.2.1, 5, .inl T_fl)), (s0, .inr (3, [.ref s1, .int S_len])), (s1, .inl (G.2.1, 48, .inl S_let))]
def W_MT (G : Gt) (m0 m1 m2 m3 t0 t1 t2 t3 t4 t5 t6 : Nat) (M_gi : Int32) (M_be : Int32) (M_da : Int32) (M_du : Nat → Int32) (M_pl : Nat → Int32) (M_de : Nat → Int32) (T_br : Int32) (T_fa : Int32) (T_fd : Nat → Int32) (T_fp : Nat → Int32) (T_st : Nat → Int32) (T_kd : Nat → Int32) (T_fs : Nat → Int32) (T_fl : Nat → Int32) : va_W := [(m0, .inr (2, [.ref t0, .ref m1, .ref m2, .ref m3, .int M_gi, .int M_be, .int M_da])), (m1, .inl (G.2.1, 8, .inl M_du)), (m2, .inl (G.2.1, 5, .inl M_pl)), (m3, .inl (G.2.2, 8, .inl M_de)), (t0, .inr (4, [.ref t1, .ref t2, .ref t3, .ref t4, .ref t5, .ref t6, .int T_br, .int T_fa])), (t1, .inl (G.2.1, 8, .inl T_fd)), (t2, .inl (G.2.1, 5, .inl T_fp)), (t3, .inl (G.2.1, 5, .inl T_st)), (t4, .inl (G.2.1, 5, .inl T_kd)), (t5, .inl (G.2.1, 5, .inl T_fs)), (t6, .inl (G.2.1, 5, .inl T_fl))]
def W_MO (G : Gt) (m0 m1 m2 m3 o0 o1 o2 o3 t0 : Nat) (M_gi : Int32) (M_be : Int32) (M_da : Int32) (M_du : Nat → Int32) (M_pl : Nat → Int32) (M_de : Nat → Int32) (O_gi : Int32) (O_be : Int32) (O_da : Int32) (O_du : Nat → Int32) (O_pl : Nat → Int32) (O_de : Nat → Int32) : va_W := [(m0, .inr (2, [.ref t0, .ref m1, .ref m2, .ref m3, .int M_gi, .int M_be, .int M_da])), (m1, .inl (G.2.1, 8, .inl M_du)), (m2, .inl (G.2.1, 5, .inl M_pl)), (m3, .inl (G.2.2, 8, .inl M_de)), (o0, .inr (2, [.ref t0, .ref o1, .ref o2, .ref o3, .int O_gi, .int O_be, .int O_da])), (o1, .inl (G.2.1, 8, .inl O_du)), (o2, .inl (G.2.1, 5, .inl O_pl)), (o3, .inl (G.2.2, 8, .inl O_de))]
def W_MC (G : Gt) (m0 m1 m2 m3 c0 t0 : Nat) (cn : Nat) (M_gi : Int32) (M_be : Int32) (M_da : Int32) (M_du : Nat → Int32) (M_pl : Nat → Int32) (M_de : Nat → Int32) (C_ce : Nat → Int32) : va_W := [(m0, .inr (2, [.ref t0, .ref m1, .ref m2, .ref m3, .int M_gi, .int M_be, .int M_da])), (m1, .inl (G.2.1, 8, .inl M_du)), (m2, .inl (G.2.1, 5, .inl M_pl)), (m3, .inl (G.2.2, 8, .inl M_de)), (c0, .inl (G.2.1, cn, .inl C_ce))]
def W_M (G : Gt) (m0 m1 m2 m3 t0 : Nat) (M_gi : Int32) (M_be : Int32) (M_da : Int32) (M_du : Nat → Int32) (M_pl : Nat → Int32) (M_de : Nat → Int32) : va_W := [(m0, .inr (2, [.ref t0, .ref m1, .ref m2, .ref m3, .int M_gi, .int M_be, .int M_da])), (m1, .inl (G.2.1, 8, .inl M_du)), (m2, .inl (G.2.1, 5, .inl M_pl)), (m3, .inl (G.2.2, 8, .inl M_de))]
def W_A (G : Gt) (a0 a1 : Nat) (A_fi : Int32) (A_si : Int32) (A_ce : Nat → Int32) : va_W := [(a0, .inr (0, [.ref a1, .int A_fi, .int A_si])), (a1, .inl (G.2.1, 224, .inl A_ce))]
def W_AM (G : Gt) (a0 a1 m0 m1 m2 m3 t0 : Nat) (A_fi : Int32) (A_si : Int32) (A_ce : Nat → Int32) (M_gi : Int32) (M_be : Int32) (M_da : Int32) (M_du : Nat → Int32) (M_pl : Nat → Int32) (M_de : Nat → Int32) : va_W := [(a0, .inr (0, [.ref a1, .int A_fi, .int A_si])), (a1, .inl (G.2.1, 224, .inl A_ce)), (m0, .inr (2, [.ref t0, .ref m1, .ref m2, .ref m3, .int M_gi, .int M_be, .int M_da])), (m1, .inl (G.2.1, 8, .inl M_du)), (m2, .inl (G.2.1, 5, .inl M_pl)), (m3, .inl (G.2.2, 8, .inl M_de))]
def W_P (G : Gt) (p0 p1 p2 p3 : Nat) (P_si : Int32) (P_be : Nat → Int32) (P_le : Nat → Int32) (P_go : Nat → Int32) : va_W := [(p0, .inr (1, [.ref p1, .ref p2, .ref p3, .int P_si])), (p1, .inl (G.2.1, 6, .inl P_be)), (p2, .inl (G.2.1, 6, .inl P_le)), (p3, .inl (G.2.1, 6, .inl P_go))]
def W_F (G : Gt) (x0 s0 s1 t0 t1 t2 t3 t4 t5 t6 n0 n1 n2 n3 r0 r1 r2 r3 a0 a1 p0 p1 p2 p3 k0 j0 : Nat) (X_ch : Int64) (S_len : Int32) (S_let : Nat → Int32) (T_br : Int32) (T_fa : Int32) (T_fd : Nat → Int32) (T_fp : Nat → Int32) (T_st : Nat → Int32) (T_kd : Nat → Int32) (T_fs : Nat → Int32) (T_fl : Nat → Int32) (N_gi : Int32) (N_be : Int32) (N_da : Int32) (N_du : Nat → Int32) (N_pl : Nat → Int32) (N_de : Nat → Int32) (R_gi : Int32) (R_be : Int32) (R_da : Int32) (R_du : Nat → Int32) (R_pl : Nat → Int32) (R_de : Nat → Int32) (A_fi : Int32) (A_si : Int32) (A_ce : Nat → Int32) (P_si : Int32) (P_be : Nat → Int32) (P_le : Nat → Int32) (P_go : Nat → Int32) (K_sl : Nat → Int32) (J_fi : Nat → Int32) : va_W := [(x0, .inr (5, [.ref s0, .ref t0, .ref n0, .ref r0, .ref a0, .ref p0, .ref k0, .ref j0, .long X_ch])), (s0, .inr (3, [.ref s1, .int S_len])), (s1, .inl (G.2.1, 48, .inl S_let)), (t0, .inr (4, [.ref t1, .ref t2, .ref t3, .ref t4, .ref t5, .ref t6, .int T_br, .int T_fa])), (t1, .inl (G.2.1, 8, .inl T_fd)), (t2, .inl (G.2.1, 5, .inl T_fp)), (t3, .inl (G.2.1, 5, .inl T_st)), (t4, .inl (G.2.1, 5, .inl T_kd)), (t5, .inl (G.2.1, 5, .inl T_fs)), (t6, .inl (G.2.1, 5, .inl T_fl)), (n0, .inr (2, [.ref t0, .ref n1, .ref n2, .ref n3, .int N_gi, .int N_be, .int N_da])), (n1, .inl (G.2.1, 8, .inl N_du)), (n2, .inl (G.2.1, 5, .inl N_pl)), (n3, .inl (G.2.2, 8, .inl N_de)), (r0, .inr (2, [.ref t0, .ref r1, .ref r2, .ref r3, .int R_gi, .int R_be, .int R_da])), (r1, .inl (G.2.1, 8, .inl R_du)), (r2, .inl (G.2.1, 5, .inl R_pl)), (r3, .inl (G.2.2, 8, .inl R_de)), (a0, .inr (0, [.ref a1, .int A_fi, .int A_si])), (a1, .inl (G.2.1, 224, .inl A_ce)), (p0, .inr (1, [.ref p1, .ref p2, .ref p3, .int P_si])), (p1, .inl (G.2.1, 6, .inl P_be)), (p2, .inl (G.2.1, 6, .inl P_le)), (p3, .inl (G.2.1, 6, .inl P_go)), (k0, .inl (G.2.1, 32, .inl K_sl)), (j0, .inl (G.2.2, 2, .inl J_fi))]
def W_Y (G : Gt) (y0 y1 y2 y3 y4 y5 y6 y7 y8 y9 y10 y11 y12 y13 y14 y15 : Nat) (Y_br : Int32) (Y_fa : Int32) (Y_rbs : Int32) (Y_rfs : Int32) (Y_len : Int32) (Y_at : Int32) (Y_fau : Int32) (Y_wk : Int32) (Y_ac : Int32) (Y_nx : Int32) (Y_hs : Int32) (Y_sd : Int64) (Y_st : Nat → Int32) (Y_kd : Nat → Int32) (Y_fs : Nat → Int32) (Y_fl : Nat → Int32) (Y_now : Nat → Int32) (Y_rd : Nat → Int32) (Y_rb : Nat → Int32) (Y_rf : Nat → Int32) (Y_tx : Nat → Int32) (Y_row : Nat → Int32) (Y_hh : Nat → Int32) (Y_hl : Nat → Int32) (Y_hw : Nat → Int32) (Y_ik : Nat → Int32) (Y_kp : Nat → Int32) : va_W := [(y0, .inr (6, [.int Y_br, .int Y_fa, .ref y1, .ref y2, .ref y3, .ref y4, .ref y5, .ref y6, .ref y7, .ref y8, .int Y_rbs, .int Y_rfs, .ref y9, .int Y_len, .int Y_at, .int Y_fau, .int Y_wk, .int Y_ac, .int Y_nx, .ref y10, .int Y_hs, .ref y11, .ref y12, .ref y13, .long Y_sd, .ref y14, .ref y15])), (y1, .inl (G.2.1, 5, .inl Y_st)), (y2, .inl (G.2.1, 5, .inl Y_kd)), (y3, .inl (G.2.1, 5, .inl Y_fs)), (y4, .inl (G.2.1, 5, .inl Y_fl)), (y5, .inl (G.2.1, 32, .inl Y_now)), (y6, .inl (G.2.1, 8, .inl Y_rd)), (y7, .inl (G.2.1, 15, .inl Y_rb)), (y8, .inl (G.2.1, 10, .inl Y_rf)), (y9, .inl (G.2.1, 48, .inl Y_tx)), (y10, .inl (G.2.1, 224, .inl Y_row)), (y11, .inl (G.2.1, 6, .inl Y_hh)), (y12, .inl (G.2.1, 6, .inl Y_hl)), (y13, .inl (G.2.1, 6, .inl Y_hw)), (y14, .inl (G.2.2, 2, .inl Y_ik)), (y15, .inl (G.2.1, 32, .inl Y_kp))]
end
section
def f_X5_within (u1 : Int32) (u2 : Int32) (u3 : Int32) : Option (Int32) := if u1 < u2 then (some (0 : Int32)) else (if u3 < u1 then (some (0 : Int32)) else (some (1 : Int32)))
set_option maxRecDepth 100000 in
set_option maxHeartbeats 4000000 in
theorem k_X5_within (l : Launch) (G : Gt) (u1 : Int32) (u2 : Int32) (u3 : Int32) (r_ : Int32) (h : f_X5_within u1 u2 u3 = some r_) : CT l yX5_within wsX5_within 0 0 G [.int u1, .int u2, .int u3] (W_0 G) (QI G r_ (W_0 G)) := by
  refine met_of cX5_within 3 (some .boolean) (by decide) rfl (Nat.le_of_ble_eq_true rfl) ?_
  intro p e s m below meth c A ls hx hb hr hml hts hown hlocks hK hA hD hP hS hl
  replace hown : s.vm.findClass RX5 = some m.cls := hown
  replace hl : lv_has ls 3 [(0, .int u1), (1, .int u2), (2, .int u3)] := hl
  have S0 : CallFix p m c cX5_within 3 s _ wsX5_within RX5 := ⟨hx, hb, hml, hown, hts⟩
  unfold f_X5_within at h
  refine lv_iload_n hx hb dX5_within_0 rfl (lv_at hl 0 rfl) ?_
  refine lv_iload_n hx hb dX5_within_1 rfl (lv_at hl 1 rfl) ?_
  refine lv_icmp_lt (tgt := 14) hx hb dX5_within_2 (by decide) (fun cc_1 => ?_) (fun cc_1 => ?_)
  · replace h := if_t cc_1 h
    refine lv_iconst (v := 0) hx hb dX5_within_14 (by decide) ?_
    cases h
    exact W.zret (ty := .boolean) hx hb hr (by decide) (fun t ht _ => ⟨⟨_, (), rfl, rfl, by rw [ht]; exact hP⟩, hS.F ht⟩) hS.2.2 dX5_within_15
  · replace h := if_f cc_1 h
    refine lv_iload_n hx hb dX5_within_5 rfl (lv_at hl 0 rfl) ?_
    refine lv_iload_n hx hb dX5_within_6 rfl (lv_at hl 2 rfl) ?_
    refine lv_icmp_gt (tgt := 14) hx hb dX5_within_7 (by decide) (fun cc_2 => ?_) (fun cc_2 => ?_)
    · replace h := if_t cc_2 h
      refine lv_iconst (v := 0) hx hb dX5_within_14 (by decide) ?_
      cases h
      exact W.zret (ty := .boolean) hx hb hr (by decide) (fun t ht _ => ⟨⟨_, (), rfl, rfl, by rw [ht]; exact hP⟩, hS.F ht⟩) hS.2.2 dX5_within_15
    · replace h := if_f cc_2 h
      refine lv_iconst (v := 1) hx hb dX5_within_10 (by decide) ?_
      refine lv_goto (tgt := 15) hx hb dX5_within_11 (by decide) ?_
      cases h
      exact W.zret (ty := .boolean) hx hb hr (by decide) (fun t ht _ => ⟨⟨_, (), rfl, rfl, by rw [ht]; exact hP⟩, hS.F ht⟩) hS.2.2 dX5_within_15
def f_X3_add (S_len : Int32) (S_let : Nat → Int32) (u1 : Int32) : Option (Int32 × (Nat → Int32)) := if (48 : Int32) ≤ S_len then (some (S_len, S_let)) else (bnd1 (wr S_let 48 S_len u1) (fun dd_2 => some ((S_len + (1 : Int32)), dd_2)))
set_option maxRecDepth 100000 in
set_option maxHeartbeats 4000000 in
theorem k_X3_add (l : Launch) (G : Gt) (s0 s1 : Nat) (S_len : Int32) (S_let : Nat → Int32) (u1 : Int32) (o_S_len : Int32) (o_S_let : Nat → Int32) (h : f_X3_add S_len S_let u1 = some (o_S_len, o_S_let)) : CT l yX3_add wsX3_add 0 0 G [.ref s0, .int u1] (W_S G s0 s1 S_len S_let) (QV G (W_S G s0 s1 o_S_len o_S_let)) := by
  refine met_of cX3_add 2 none (by decide) rfl (Nat.le_of_ble_eq_true rfl) ?_
  intro p e s m below meth c A ls hx hb hr hml hts hown hlocks hK hA hD hP hS hl
  replace hown : s.vm.findClass RX3 = some m.cls := hown
  replace hl : lv_has ls 2 [(0, .ref s0), (1, .int u1)] := hl
  have S0 : CallFix p m c cX3_add 2 s _ wsX3_add RX3 := ⟨hx, hb, hml, hown, hts⟩
  have fl15 := hts (.fieldLink RX3 15 "DustVote$Script" "length" "I") (by decide +kernel)
  have inX3 := show ∀ w ∈ wsX30, w ∈ wsX3_add from by decide +kernel
  have fl9 := hts (.fieldLink RX3 9 "DustVote$Script" "letters" "[I") (by decide +kernel)
  unfold f_X3_add at h
  refine lv_aload_n hx hb dX3_add_0 rfl (lv_at hl 0 rfl) ?_
  refine va_get (ci := 3) (C := RX3) (T := TX3) (N := 2) hx hb hts inX3 hown hK.1 hP 0 rfl rfl 1 (by decide) fl15 (fun _ h9 => h9) rfl dX3_add_1 ?_
  refine lv_bipush (v := 48) hx hb dX3_add_4 (by decide) ?_
  refine lv_icmp_ge (tgt := 29) hx hb dX3_add_6 (by decide) (fun cc_1 => ?_) (fun cc_1 => ?_)
  · replace h := if_t cc_1 h
    cases h
    exact W.vret hx hb hr (fun t ht _ => ⟨⟨(), rfl, trivial, by rw [ht]; exact hP⟩, hS.F ht⟩) hS.2.2 dX3_add_29
  · replace h := if_f cc_1 h
    refine lv_aload_n hx hb dX3_add_9 rfl (lv_at hl 0 rfl) ?_
    refine va_get (ci := 3) (C := RX3) (T := TX3) (N := 2) hx hb hts inX3 hown hK.1 hP 0 rfl rfl 0 (by decide) fl9 (fun _ h9 => h9) rfl dX3_add_10 ?_
    refine lv_aload_n hx hb dX3_add_13 rfl (lv_at hl 0 rfl) ?_
    refine va_get (ci := 3) (C := RX3) (T := TX3) (N := 2) hx hb hts inX3 hown hK.1 hP 0 rfl rfl 1 (by decide) fl15 (fun _ h9 => h9) rfl dX3_add_14 ?_
    refine lv_iload_n hx hb dX3_add_17 rfl (lv_at hl 1 rfl) ?_
    obtain ⟨dd_2, ee_3, h⟩ := bnd1_s h
    refine wIast hx hb hK hP (va_D_same hD rfl) hS 1 rfl ee_3 dX3_add_18 (fun H locs hP hS => ?_)
    replace hP : va_P G.1 vwCl (W_S G s0 s1 S_len dd_2) H := hP
    refine lv_aload_n hx hb dX3_add_19 rfl (lv_at hl 0 rfl) ?_
    refine lv_dup hx hb dX3_add_20 rfl ?_
    refine va_get (ci := 3) (C := RX3) (T := TX3) (N := 2) hx hb hts inX3 hown hK.1 hP 0 rfl rfl 1 (by decide) fl15 (fun _ h9 => h9) rfl dX3_add_21 ?_
    refine lv_iconst (v := 1) hx hb dX3_add_24 (by decide) ?_
    refine lv_iadd hx hb dX3_add_25 ?_
    refine va_put (ci := 3) (ty := .int) (C := RX3) (T := TX3) (N := 2) hx hb hts inX3 tyX3 tyX3_ok nmX3 hown hK.1 hP (va_D_same hD rfl) hS 0 rfl rfl 1 (by decide) fl15 (fun _ h9 => h9) rfl (by decide +kernel) rfl rfl (Nat.le_of_ble_eq_true rfl) dX3_add_26 (fun H locs hP _ hS => ?_)
    replace hP : va_P G.1 vwCl (W_S G s0 s1 (S_len + (1 : Int32)) dd_2) H := hP
    cases h
    exact W.vret hx hb hr (fun t ht _ => ⟨⟨(), rfl, trivial, by rw [ht]; exact hP⟩, hS.F ht⟩) hS.2.2 dX3_add_29
def f_X5_write (S_len : Int32) (S_let : Nat → Int32) (u1 : Int32) : Option (Int32 × Int32 × (Nat → Int32)) := bnd1 (f_X5_within u1 (0 : Int32) (255 : Int32)) (fun rr_1 => if rr_1 = 0 then (some (((-2) : Int32), S_len, S_let)) else (if S_len < (48 : Int32) then (bnd2 (f_X3_add S_len S_let u1) (fun dd_5 dd_6 => some (dd_5, dd_5, dd_6))) else (some (((-4) : Int32), S_len, S_let))))
set_option maxRecDepth 100000 in
set_option maxHeartbeats 4000000 in
theorem k_X5_write (l : Launch) (G : Gt) (x0 s0 s1 t0 t1 t2 t3 t4 t5 t6 n0 n1 n2 n3 r0 r1 r2 r3 a0 a1 p0 p1 p2 p3 k0 j0 : Nat) (X_ch : Int64) (S_len : Int32) (S_let : Nat → Int32) (T_br : Int32) (T_fa : Int32) (T_fd : Nat → Int32) (T_fp : Nat → Int32) (T_st : Nat → Int32) (T_kd : Nat → Int32) (T_fs : Nat → Int32) (T_fl : Nat → Int32) (N_gi : Int32) (N_be : Int32) (N_da : Int32) (N_du : Nat → Int32) (N_pl : Nat → Int32) (N_de : Nat → Int32) (R_gi : Int32) (R_be : Int32) (R_da : Int32) (R_du : Nat → Int32) (R_pl : Nat → Int32) (R_de : Nat → Int32) (A_fi : Int32) (A_si : Int32) (A_ce : Nat → Int32) (P_si : Int32) (P_be : Nat → Int32) (P_le : Nat → Int32) (P_go : Nat → Int32) (K_sl : Nat → Int32) (J_fi : Nat → Int32) (u1 : Int32) (r_ : Int32) (o_S_len : Int32) (o_S_let : Nat → Int32) (h : f_X5_write S_len S_let u1 = some (r_, o_S_len, o_S_let)) : CT l yX5_write wsX5_write 1 22 G [.ref x0, .int u1] (W_F G x0 s0 s1 t0 t1 t2 t3 t4 t5 t6 n0 n1 n2 n3 r0 r1 r2 r3 a0 a1 p0 p1 p2 p3 k0 j0 X_ch S_len S_let T_br T_fa T_fd T_fp T_st T_kd T_fs T_fl N_gi N_be N_da N_du N_pl N_de R_gi R_be R_da R_du R_pl R_de A_fi A_si A_ce P_si P_be P_le P_go K_sl J_fi) (QI G r_ (W_F G x0 s0 s1 t0 t1 t2 t3 t4 t5 t6 n0 n1 n2 n3 r0 r1 r2 r3 a0 a1 p0 p1 p2 p3 k0 j0 X_ch o_S_len o_S_let T_br T_fa T_fd T_fp T_st T_kd T_fs T_fl N_gi N_be N_da N_du N_pl N_de R_gi R_be R_da R_du R_pl R_de A_fi A_si A_ce P_si P_be P_le P_go K_sl J_fi)) := by
  refine met_of cX5_write 2 (some .int) (by decide) rfl (Nat.le_of_ble_eq_true rfl) ?_
  intro p e s m below meth c A ls hx hb hr hml hts hown hlocks hK hA hD hP hS hl
  replace hown : s.vm.findClass RX5 = some m.cls := hown
  replace hl : lv_has ls 2 [(0, .ref x0), (1, .int u1)] := hl
  have S0 : CallFix p m c cX5_write 2 s _ wsX5_write RX5 := ⟨hx, hb, hml, hown, hts⟩
  have cw_X5_within := show CallB (rmv 1 22) s _ RX5 61 yX5_within cX5_within 3 (some .boolean) wsX5_within (rmv 0 0) 0 0 3 ∧ (Cond.static yX5_within).before _ s = true from va_cwS 3 hts gX5_write_X5_within rfl rfl rfl (by decide +kernel) ⟨Nat.le_of_ble_eq_true rfl, Nat.le_of_ble_eq_true rfl⟩
  have fl12 := hts (.fieldLink RX5 12 "DustVote" "script" "LDustVote$Script;") (by decide +kernel)
  have inX5 := show ∀ w ∈ wsX50, w ∈ wsX5_write from by decide +kernel
  have fl65 := hK.f (args := _) (show ("DustVote", 65, "DustVote$Script", "length", "I", "DustVote") ∈ nestF by decide)
  have inX3 := show ∀ w ∈ wsX30, w ∈ wsX5_write from by decide +kernel
  have cw_X3_add := show CallW (rmv 1 22) s _ RX5 RX3 69 yX3_add cX3_add 2 none wsX3_add (rmv 0 0) 0 0 1 from cwV 1 hts gX5_write_X3_add rfl rfl rfl (by decide +kernel) ⟨Nat.le_of_ble_eq_true rfl, Nat.le_of_ble_eq_true rfl⟩
  unfold f_X5_write at h
  refine lv_iload_n hx hb dX5_write_0 rfl (lv_at hl 1 rfl) ?_
  refine lv_iconst (v := 0) hx hb dX5_write_1 (by decide) ?_
  refine lv_sipush (v := 255) hx hb dX5_write_2 (by decide) ?_
  obtain ⟨rr_1, ee_2, h⟩ := bnd1_s h
  refine cSi (As := [.int u1, .int (0 : Int32), .int (255 : Int32)]) (rest := []) S0 hK hA (va_D_same hD rfl) hP hS [] (k_X5_within l G u1 (0 : Int32) (255 : Int32) rr_1 ee_2) cw_X5_within rfl rfl (Nat.le_of_ble_eq_true rfl) rfl hl.1 rfl (Nat.le_of_ble_eq_true rfl) dX5_write_5 ⟨Nat.zero_le _, Nat.zero_le _⟩ (fun H locs hP hS => ?_)
  replace hP : va_P G.1 vwCl (W_F G x0 s0 s1 t0 t1 t2 t3 t4 t5 t6 n0 n1 n2 n3 r0 r1 r2 r3 a0 a1 p0 p1 p2 p3 k0 j0 X_ch S_len S_let T_br T_fa T_fd T_fp T_st T_kd T_fs T_fl N_gi N_be N_da N_du N_pl N_de R_gi R_be R_da R_du R_pl R_de A_fi A_si A_ce P_si P_be P_le P_go K_sl J_fi) H := hP
  refine lv_if_ne (tgt := 14) hx hb dX5_write_8 (by decide) (fun cc_3 => ?_) (fun cc_3 => ?_)
  · replace h := if_f cc_3 h
    refine lv_aload_n hx hb dX5_write_14 rfl (lv_at hl 0 rfl) ?_
    refine va_get (ci := 5) (C := RX5) (T := TX5) (N := 9) hx hb hts inX5 hown hK.1 hP 0 rfl rfl 0 (by decide) fl12 (fun _ h9 => h9) rfl dX5_write_15 ?_
    refine va_getN (ci := 3) (C := RX3) (T := TX3) (N := 2) hx hb hts inX3 hown hK.1 hP 1 rfl rfl 1 (by decide) fl65 (fun _ h9 => h9) rfl dX5_write_18 ?_
    refine lv_bipush (v := 48) hx hb dX5_write_21 (by decide) ?_
    refine lv_icmp_lt (tgt := 29) hx hb dX5_write_23 (by decide) (fun cc_4 => ?_) (fun cc_4 => ?_)
    · replace h := if_t cc_4 h
      refine lv_aload_n hx hb dX5_write_29 rfl (lv_at hl 0 rfl) ?_
      refine va_get (ci := 5) (C := RX5) (T := TX5) (N := 9) hx hb hts inX5 hown hK.1 hP 0 rfl rfl 0 (by decide) fl12 (fun _ h9 => h9) rfl dX5_write_30 ?_
      refine lv_iload_n hx hb dX5_write_33 rfl (lv_at hl 1 rfl) ?_
      obtain ⟨dd_5, dd_6, ee_7, h⟩ := bnd2_s h
      refine cVv (As := [.int u1]) (rest := []) S0 hK hA (va_D_same hD rfl) hP hS [1, 2] (k_X3_add l G s0 s1 S_len S_let u1 dd_5 dd_6 ee_7) cw_X3_add rfl rfl (Nat.le_of_ble_eq_true rfl) 3 0 rfl rfl rfl rfl hl.1 rfl (Nat.le_of_ble_eq_true rfl) dX5_write_34 ⟨Nat.zero_le _, Nat.zero_le _⟩ (fun H locs hP hS => ?_)
      replace hP : va_P G.1 vwCl (W_F G x0 s0 s1 t0 t1 t2 t3 t4 t5 t6 n0 n1 n2 n3 r0 r1 r2 r3 a0 a1 p0 p1 p2 p3 k0 j0 X_ch dd_5 dd_6 T_br T_fa T_fd T_fp T_st T_kd T_fs T_fl N_gi N_be N_da N_du N_pl N_de R_gi R_be R_da R_du R_pl R_de A_fi A_si A_ce P_si P_be P_le P_go K_sl J_fi) H := hP
      refine lv_aload_n hx hb dX5_write_37 rfl (lv_at hl 0 rfl) ?_
      refine va_get (ci := 5) (C := RX5) (T := TX5) (N := 9) hx hb hts inX5 hown hK.1 hP 0 rfl rfl 0 (by decide) fl12 (fun _ h9 => h9) rfl dX5_write_38 ?_
      refine va_getN (ci := 3) (C := RX3) (T := TX3) (N := 2) hx hb hts inX3 hown hK.1 hP 1 rfl rfl 1 (by decide) fl65 (fun _ h9 => h9) rfl dX5_write_41 ?_
      cases h
      exact W.iret hx hb hr (fun t ht _ => ⟨⟨_, (), rfl, rfl, by rw [ht]; exact hP⟩, hS.F ht⟩) hS.2.2 dX5_write_44
    · replace h := if_f cc_4 h
      refine lv_bipush (v := (-4)) hx hb dX5_write_26 (by decide) ?_
      cases h
      exact W.iret hx hb hr (fun t ht _ => ⟨⟨_, (), rfl, rfl, by rw [ht]; exact hP⟩, hS.F ht⟩) hS.2.2 dX5_write_28
  · replace h := if_t cc_3 h
    refine lv_bipush (v := (-2)) hx hb dX5_write_11 (by decide) ?_
    cases h
    exact W.iret hx hb hr (fun t ht _ => ⟨⟨_, (), rfl, rfl, by rw [ht]; exact hP⟩, hS.F ht⟩) hS.2.2 dX5_write_13
def f_X5_wipe (S_len : Int32) : Option (Int32 × Int32) := some (S_len, (0 : Int32))
set_option maxRecDepth 100000 in
set_option maxHeartbeats 4000000 in
theorem k_X5_wipe (l : Launch) (G : Gt) (x0 s0 s1 t0 t1 t2 t3 t4 t5 t6 n0 n1 n2 n3 r0 r1 r2 r3 a0 a1 p0 p1 p2 p3 k0 j0 : Nat) (X_ch : Int64) (S_len : Int32) (S_let : Nat → Int32) (T_br : Int32) (T_fa : Int32) (T_fd : Nat → Int32) (T_fp : Nat → Int32) (T_st : Nat → Int32) (T_kd : Nat → Int32) (T_fs : Nat → Int32) (T_fl : Nat → Int32) (N_gi : Int32) (N_be : Int32) (N_da : Int32) (N_du : Nat → Int32) (N_pl : Nat → Int32) (N_de : Nat → Int32) (R_gi : Int32) (R_be : Int32) (R_da : Int32) (R_du : Nat → Int32) (R_pl : Nat → Int32) (R_de : Nat → Int32) (A_fi : Int32) (A_si : Int32) (A_ce : Nat → Int32) (P_si : Int32) (P_be : Nat → Int32) (P_le : Nat → Int32) (P_go : Nat → Int32) (K_sl : Nat → Int32) (J_fi : Nat → Int32) (r_ : Int32) (o_S_len : Int32) (h : f_X5_wipe S_len = some (r_, o_S_len)) : CT l yX5_wipe wsX5_wipe 0 0 G [.ref x0] (W_F G x0 s0 s1 t0 t1 t2 t3 t4 t5 t6 n0 n1 n2 n3 r0 r1 r2 r3 a0 a1 p0 p1 p2 p3 k0 j0 X_ch S_len S_let T_br T_fa T_fd T_fp T_st T_kd T_fs T_fl N_gi N_be N_da N_du N_pl N_de R_gi R_be R_da R_du R_pl R_de A_fi A_si A_ce P_si P_be P_le P_go K_sl J_fi) (QI G r_ (W_F G x0 s0 s1 t0 t1 t2 t3 t4 t5 t6 n0 n1 n2 n3 r0 r1 r2 r3 a0 a1 p0 p1 p2 p3 k0 j0 X_ch o_S_len S_let T_br T_fa T_fd T_fp T_st T_kd T_fs T_fl N_gi N_be N_da N_du N_pl N_de R_gi R_be R_da R_du R_pl R_de A_fi A_si A_ce P_si P_be P_le P_go K_sl J_fi)) := by
  refine met_of cX5_wipe 2 (some .int) (by decide) rfl (Nat.le_of_ble_eq_true rfl) ?_
  intro p e s m below meth c A ls hx hb hr hml hts hown hlocks hK hA hD hP hS hl
  replace hown : s.vm.findClass RX5 = some m.cls := hown
  replace hl : lv_has ls 2 [(0, .ref x0)] := hl
  have S0 : CallFix p m c cX5_wipe 2 s _ wsX5_wipe RX5 := ⟨hx, hb, hml, hown, hts⟩
  have fl12 := hts (.fieldLink RX5 12 "DustVote" "script" "LDustVote$Script;") (by decide +kernel)
  have inX5 := show ∀ w ∈ wsX50, w ∈ wsX5_wipe from by decide +kernel
  have fl65 := hK.f (args := _) (show ("DustVote", 65, "DustVote$Script", "length", "I", "DustVote") ∈ nestF by decide)
  have inX3 := show ∀ w ∈ wsX30, w ∈ wsX5_wipe from by decide +kernel
  unfold f_X5_wipe at h
  refine lv_aload_n hx hb dX5_wipe_0 rfl (lv_at hl 0 rfl) ?_
  refine va_get (ci := 5) (C := RX5) (T := TX5) (N := 9) hx hb hts inX5 hown hK.1 hP 0 rfl rfl 0 (by decide) fl12 (fun _ h9 => h9) rfl dX5_wipe_1 ?_
  refine va_getN (ci := 3) (C := RX3) (T := TX3) (N := 2) hx hb hts inX3 hown hK.1 hP 1 rfl rfl 1 (by decide) fl65 (fun _ h9 => h9) rfl dX5_wipe_4 ?_
  refine lv_istore_n (lv' := [(1, .int S_len), (0, .ref x0)]) hx hb dX5_wipe_7 rfl hl (by decide) rfl (fun ls hl => ?_)
  refine lv_aload_n hx hb dX5_wipe_8 rfl (lv_at hl 1 rfl) ?_
  refine va_get (ci := 5) (C := RX5) (T := TX5) (N := 9) hx hb hts inX5 hown hK.1 hP 0 rfl rfl 0 (by decide) fl12 (fun _ h9 => h9) rfl dX5_wipe_9 ?_
  refine lv_iconst (v := 0) hx hb dX5_wipe_12 (by decide) ?_
  refine va_putN (ci := 3) (ty := .int) (C := RX3) (T := TX3) (N := 2) hx hb hts inX3 tyX3 tyX3_ok nmX3 hown hK.1 hP (va_D_same hD rfl) hS 1 rfl rfl 1 (by decide) fl65 (fun _ h9 => h9) rfl (by decide +kernel) rfl rfl (Nat.le_of_ble_eq_true rfl) dX5_wipe_13 (fun H locs hP _ hS => ?_)
  replace hP : va_P G.1 vwCl (W_F G x0 s0 s1 t0 t1 t2 t3 t4 t5 t6 n0 n1 n2 n3 r0 r1 r2 r3 a0 a1 p0 p1 p2 p3 k0 j0 X_ch (0 : Int32) S_let T_br T_fa T_fd T_fp T_st T_kd T_fs T_fl N_gi N_be N_da N_du N_pl N_de R_gi R_be R_da R_du R_pl R_de A_fi A_si A_ce P_si P_be P_le P_go K_sl J_fi) H := hP
  refine lv_iload_n hx hb dX5_wipe_16 rfl (lv_at hl 0 rfl) ?_
  cases h
  exact W.iret hx hb hr (fun t ht _ => ⟨⟨_, (), rfl, rfl, by rw [ht]; exact hP⟩, hS.F ht⟩) hS.2.2 dX5_wipe_17
def f_X3_letterAt (S_len : Int32) (S_let : Nat → Int32) (u1 : Int32) : Option (Int32) := if u1 < 0 then (some ((-9) : Int32)) else (if S_len ≤ u1 then (some ((-9) : Int32)) else (if (48 : Int32) ≤ u1 then (some ((-9) : Int32)) else (bnd1 (rd S_let 48 u1) (fun zz_4 => some zz_4))))
set_option maxRecDepth 100000 in
set_option maxHeartbeats 4000000 in
theorem k_X3_letterAt (l : Launch) (G : Gt) (s0 s1 : Nat) (S_len : Int32) (S_let : Nat → Int32) (u1 : Int32) (r_ : Int32) (h : f_X3_letterAt S_len S_let u1 = some r_) : CT l yX3_letterAt wsX3_letterAt 0 0 G [.ref s0, .int u1] (W_S G s0 s1 S_len S_let) (QI G r_ (W_S G s0 s1 S_len S_let)) := by
  refine met_of cX3_letterAt 2 (some .int) (by decide) rfl (Nat.le_of_ble_eq_true rfl) ?_
  intro p e s m below meth c A ls hx hb hr hml hts hown hlocks hK hA hD hP hS hl
  replace hown : s.vm.findClass RX3 = some m.cls := hown
  replace hl : lv_has ls 2 [(0, .ref s0), (1, .int u1)] := hl
  have S0 : CallFix p m c cX3_letterAt 2 s _ wsX3_letterAt RX3 := ⟨hx, hb, hml, hown, hts⟩
  have fl15 := hts (.fieldLink RX3 15 "DustVote$Script" "length" "I") (by decide +kernel)
  have inX3 := show ∀ w ∈ wsX30, w ∈ wsX3_letterAt from by decide +kernel
  have fl9 := hts (.fieldLink RX3 9 "DustVote$Script" "letters" "[I") (by decide +kernel)
  unfold f_X3_letterAt at h
  refine lv_iload_n hx hb dX3_letterAt_0 rfl (lv_at hl 1 rfl) ?_
  refine lv_if_lt (tgt := 27) hx hb dX3_letterAt_1 (by decide) (fun cc_1 => ?_) (fun cc_1 => ?_)
  · replace h := if_t cc_1 h
    refine lv_bipush (v := (-9)) hx hb dX3_letterAt_27 (by decide) ?_
    cases h
    exact W.iret hx hb hr (fun t ht _ => ⟨⟨_, (), rfl, rfl, by rw [ht]; exact hP⟩, hS.F ht⟩) hS.2.2 dX3_letterAt_29
  · replace h := if_f cc_1 h
    refine lv_iload_n hx hb dX3_letterAt_4 rfl (lv_at hl 1 rfl) ?_
    refine lv_aload_n hx hb dX3_letterAt_5 rfl (lv_at hl 0 rfl) ?_
    refine va_get (ci := 3) (C := RX3) (T := TX3) (N := 2) hx hb hts inX3 hown hK.1 hP 0 rfl rfl 1 (by decide) fl15 (fun _ h9 => h9) rfl dX3_letterAt_6 ?_
    refine lv_icmp_ge (tgt := 27) hx hb dX3_letterAt_9 (by decide) (fun cc_2 => ?_) (fun cc_2 => ?_)
    · replace h := if_t cc_2 h
      refine lv_bipush (v := (-9)) hx hb dX3_letterAt_27 (by decide) ?_
      cases h
      exact W.iret hx hb hr (fun t ht _ => ⟨⟨_, (), rfl, rfl, by rw [ht]; exact hP⟩, hS.F ht⟩) hS.2.2 dX3_letterAt_29
    · replace h := if_f cc_2 h
      refine lv_iload_n hx hb dX3_letterAt_12 rfl (lv_at hl 1 rfl) ?_
      refine lv_bipush (v := 48) hx hb dX3_letterAt_13 (by decide) ?_
      refine lv_icmp_ge (tgt := 27) hx hb dX3_letterAt_15 (by decide) (fun cc_3 => ?_) (fun cc_3 => ?_)
      · replace h := if_t cc_3 h
        refine lv_bipush (v := (-9)) hx hb dX3_letterAt_27 (by decide) ?_
        cases h
        exact W.iret hx hb hr (fun t ht _ => ⟨⟨_, (), rfl, rfl, by rw [ht]; exact hP⟩, hS.F ht⟩) hS.2.2 dX3_letterAt_29
      · replace h := if_f cc_3 h
        refine lv_aload_n hx hb dX3_letterAt_18 rfl (lv_at hl 0 rfl) ?_
        refine va_get (ci := 3) (C := RX3) (T := TX3) (N := 2) hx hb hts inX3 hown hK.1 hP 0 rfl rfl 0 (by decide) fl9 (fun _ h9 => h9) rfl dX3_letterAt_19 ?_
        refine lv_iload_n hx hb dX3_letterAt_22 rfl (lv_at hl 1 rfl) ?_
        obtain ⟨zz_4, ee_5, h⟩ := bnd1_s h
        refine wIald hx hb hK hP 1 rfl ee_5 dX3_letterAt_23 ?_
        refine lv_goto (tgt := 29) hx hb dX3_letterAt_24 (by decide) ?_
        cases h
        exact W.iret hx hb hr (fun t ht _ => ⟨⟨_, (), rfl, rfl, by rw [ht]; exact hP⟩, hS.F ht⟩) hS.2.2 dX3_letterAt_29
def f_X3_figureAt (S_len : Int32) (S_let : Nat → Int32) (u1 : Int32) : Option (Int32) := bnd1 (f_X3_letterAt S_len S_let u1) (fun rr_1 => some (rr_1 - (48 : Int32)))
set_option maxRecDepth 100000 in
set_option maxHeartbeats 4000000 in
theorem k_X3_figureAt (l : Launch) (G : Gt) (s0 s1 : Nat) (S_len : Int32) (S_let : Nat → Int32) (u1 : Int32) (r_ : Int32) (h : f_X3_figureAt S_len S_let u1 = some r_) : CT l yX3_figureAt wsX3_figureAt 1 21 G [.ref s0, .int u1] (W_S G s0 s1 S_len S_let) (QI G r_ (W_S G s0 s1 S_len S_let)) := by
  refine met_of cX3_figureAt 2 (some .int) (by decide) rfl (Nat.le_of_ble_eq_true rfl) ?_
  intro p e s m below meth c A ls hx hb hr hml hts hown hlocks hK hA hD hP hS hl
  replace hown : s.vm.findClass RX3 = some m.cls := hown
  replace hl : lv_has ls 2 [(0, .ref s0), (1, .int u1)] := hl
  have S0 : CallFix p m c cX3_figureAt 2 s _ wsX3_figureAt RX3 := ⟨hx, hb, hml, hown, hts⟩
  have cw_X3_letterAt := show CallW (rmv 1 21) s _ RX3 RX3 19 yX3_letterAt cX3_letterAt 2 (some .int) wsX3_letterAt (rmv 0 0) 0 0 1 from cwV 1 hts gX3_figureAt_X3_letterAt rfl rfl rfl (by decide +kernel) ⟨Nat.le_of_ble_eq_true rfl, Nat.le_of_ble_eq_true rfl⟩
  unfold f_X3_figureAt at h
  refine lv_aload_n hx hb dX3_figureAt_0 rfl (lv_at hl 0 rfl) ?_
  refine lv_iload_n hx hb dX3_figureAt_1 rfl (lv_at hl 1 rfl) ?_
  obtain ⟨rr_1, ee_2, h⟩ := bnd1_s h
  refine cVi (As := [.int u1]) (rest := []) S0 hK hA (va_D_same hD rfl) hP hS [0, 1] (k_X3_letterAt l G s0 s1 S_len S_let u1 rr_1 ee_2) cw_X3_letterAt rfl rfl (Nat.le_of_ble_eq_true rfl) 3 0 rfl rfl rfl rfl hl.1 rfl (Nat.le_of_ble_eq_true rfl) dX3_figureAt_2 ⟨Nat.zero_le _, Nat.zero_le _⟩ (fun H locs hP hS => ?_)
  replace hP : va_P G.1 vwCl (W_S G s0 s1 S_len S_let) H := hP
  refine lv_bipush (v := 48) hx hb dX3_figureAt_5 (by decide) ?_
  refine lv_isub hx hb dX3_figureAt_7 ?_
  cases h
  exact W.iret hx hb hr (fun t ht _ => ⟨⟨_, (), rfl, rfl, by rw [ht]; exact hP⟩, hS.F ht⟩) hS.2.2 dX3_figureAt_8
def f_X5_isStreet (u1 : Int32) : Option (Int32) := if u1 < 0 then (some (0 : Int32)) else (if (8 : Int32) ≤ u1 then (some (0 : Int32)) else (some (1 : Int32)))
set_option maxRecDepth 100000 in
set_option maxHeartbeats 4000000 in
theorem k_X5_isStreet (l : Launch) (G : Gt) (u1 : Int32) (r_ : Int32) (h : f_X5_isStreet u1 = some r_) : CT l yX5_isStreet wsX5_isStreet 0 0 G [.int u1] (W_0 G) (QI G r_ (W_0 G)) := by
  refine met_of cX5_isStreet 1 (some .boolean) (by decide) rfl (Nat.le_of_ble_eq_true rfl) ?_
  intro p e s m below meth c A ls hx hb hr hml hts hown hlocks hK hA hD hP hS hl
  replace hown : s.vm.findClass RX5 = some m.cls := hown
  replace hl : lv_has ls 1 [(0, .int u1)] := hl
  have S0 : CallFix p m c cX5_isStreet 1 s _ wsX5_isStreet RX5 := ⟨hx, hb, hml, hown, hts⟩
  unfold f_X5_isStreet at h
  refine lv_iload_n hx hb dX5_isStreet_0 rfl (lv_at hl 0 rfl) ?_
  refine lv_if_lt (tgt := 14) hx hb dX5_isStreet_1 (by decide) (fun cc_1 => ?_) (fun cc_1 => ?_)
  · replace h := if_t cc_1 h
    refine lv_iconst (v := 0) hx hb dX5_isStreet_14 (by decide) ?_
    cases h
    exact W.zret (ty := .boolean) hx hb hr (by decide) (fun t ht _ => ⟨⟨_, (), rfl, rfl, by rw [ht]; exact hP⟩, hS.F ht⟩) hS.2.2 dX5_isStreet_15
  · replace h := if_f cc_1 h
    refine lv_iload_n hx hb dX5_isStreet_4 rfl (lv_at hl 0 rfl) ?_
    refine lv_bipush (v := 8) hx hb dX5_isStreet_5 (by decide) ?_
    refine lv_icmp_ge (tgt := 14) hx hb dX5_isStreet_7 (by decide) (fun cc_2 => ?_) (fun cc_2 => ?_)
    · replace h := if_t cc_2 h
      refine lv_iconst (v := 0) hx hb dX5_isStreet_14 (by decide) ?_
      cases h
      exact W.zret (ty := .boolean) hx hb hr (by decide) (fun t ht _ => ⟨⟨_, (), rfl, rfl, by rw [ht]; exact hP⟩, hS.F ht⟩) hS.2.2 dX5_isStreet_15
    · replace h := if_f cc_2 h
      refine lv_iconst (v := 1) hx hb dX5_isStreet_10 (by decide) ?_
      refine lv_goto (tgt := 15) hx hb dX5_isStreet_11 (by decide) ?_
      cases h
      exact W.zret (ty := .boolean) hx hb hr (by decide) (fun t ht _ => ⟨⟨_, (), rfl, rfl, by rw [ht]; exact hP⟩, hS.F ht⟩) hS.2.2 dX5_isStreet_15
def f_X3_faultOfBroom (S_len : Int32) (S_let : Nat → Int32) (u1 : Int32) : Option (Int32) := bnd1 (f_X3_figureAt S_len S_let (u1 + (1 : Int32))) (fun rr_1 => bnd1 (f_X5_isStreet rr_1) (fun rr_3 => if rr_3 = 0 then (some (u1 + (1 : Int32))) else (bnd1 (f_X3_figureAt S_len S_let (u1 + (2 : Int32))) (fun rr_6 => bnd1 (f_X5_within rr_6 (1 : Int32) (9 : Int32)) (fun rr_8 => if rr_8 = 0 then (some (u1 + (2 : Int32))) else (bnd1 (f_X3_figureAt S_len S_let (u1 + (3 : Int32))) (fun rr_11 => bnd1 (f_X5_within rr_11 (0 : Int32) (3 : Int32)) (fun rr_13 => if rr_13 = 0 then (some (u1 + (3 : Int32))) else (some ((-9) : Int32))))))))))
set_option maxRecDepth 100000 in
set_option maxHeartbeats 4000000 in
theorem k_X3_faultOfBroom (l : Launch) (G : Gt) (s0 s1 : Nat) (S_len : Int32) (S_let : Nat → Int32) (u1 : Int32) (r_ : Int32) (h : f_X3_faultOfBroom S_len S_let u1 = some r_) : CT l yX3_faultOfBroom wsX3_faultOfBroom 2 42 G [.ref s0, .int u1] (W_S G s0 s1 S_len S_let) (QI G r_ (W_S G s0 s1 S_len S_let)) := by
  refine met_of cX3_faultOfBroom 2 (some .int) (by decide) rfl (Nat.le_of_ble_eq_true rfl) ?_
  intro p e s m below meth c A ls hx hb hr hml hts hown hlocks hK hA hD hP hS hl
  replace hown : s.vm.findClass RX3 = some m.cls := hown
  replace hl : lv_has ls 2 [(0, .ref s0), (1, .int u1)] := hl
  have S0 : CallFix p m c cX3_faultOfBroom 2 s _ wsX3_faultOfBroom RX3 := ⟨hx, hb, hml, hown, hts⟩
  have cw_X3_figureAt := show CallW (rmv 2 42) s _ RX3 RX3 23 yX3_figureAt cX3_figureAt 2 (some .int) wsX3_figureAt (rmv 1 21) 0 0 1 from cwV 1 hts gX3_faultOfBroom_X3_figureAt rfl rfl rfl (by decide +kernel) ⟨Nat.le_of_ble_eq_true rfl, Nat.le_of_ble_eq_true rfl⟩
  have cw_X5_isStreet := show va_CN (rmv 2 42) s _ RX3 40 yX5_isStreet "DustVote" cX5_isStreet 1 (some .boolean) wsX5_isStreet (rmv 0 0) 0 0 1 ∧ (Cond.static yX5_isStreet).before _ s = true ∧ True from ⟨va_cnB 1 hts gX3_faultOfBroom_X5_isStreet_n40 rfl rfl rfl (hK.m (by decide)) (hts (.initialized RX5) (by decide +kernel)) (by decide +kernel) ⟨Nat.le_of_ble_eq_true rfl, Nat.le_of_ble_eq_true rfl⟩, hts (.static yX5_isStreet) (by decide +kernel), trivial⟩
  have cw_X5_within := show va_CN (rmv 2 42) s _ RX3 26 yX5_within "DustVote" cX5_within 3 (some .boolean) wsX5_within (rmv 0 0) 0 0 3 ∧ (Cond.static yX5_within).before _ s = true ∧ True from ⟨va_cnB 3 hts gX3_faultOfBroom_X5_within_n26 rfl rfl rfl (hK.m (by decide)) (hts (.initialized RX5) (by decide +kernel)) (by decide +kernel) ⟨Nat.le_of_ble_eq_true rfl, Nat.le_of_ble_eq_true rfl⟩, hts (.static yX5_within) (by decide +kernel), trivial⟩
  unfold f_X3_faultOfBroom at h
  refine lv_aload_n hx hb dX3_faultOfBroom_0 rfl (lv_at hl 0 rfl) ?_
  refine lv_iload_n hx hb dX3_faultOfBroom_1 rfl (lv_at hl 1 rfl) ?_
  refine lv_iconst (v := 1) hx hb dX3_faultOfBroom_2 (by decide) ?_
  refine lv_iadd hx hb dX3_faultOfBroom_3 ?_
  obtain ⟨rr_1, ee_2, h⟩ := bnd1_s h
  refine cVi (As := [.int (u1 + (1 : Int32))]) (rest := []) S0 hK hA (va_D_same hD rfl) hP hS [0, 1] (k_X3_figureAt l G s0 s1 S_len S_let (u1 + (1 : Int32)) rr_1 ee_2) cw_X3_figureAt rfl rfl (Nat.le_of_ble_eq_true rfl) 3 0 rfl rfl rfl rfl hl.1 rfl (Nat.le_of_ble_eq_true rfl) dX3_faultOfBroom_4 ⟨Nat.zero_le _, Nat.zero_le _⟩ (fun H locs hP hS => ?_)
  replace hP : va_P G.1 vwCl (W_S G s0 s1 S_len S_let) H := hP
  obtain ⟨rr_3, ee_4, h⟩ := bnd1_s h
  refine cNi (As := [.int rr_1]) (rest := []) S0 hK hA (va_D_same hD rfl) hP hS [] (k_X5_isStreet l G rr_1 rr_3 ee_4) cw_X5_isStreet rfl rfl (Nat.le_of_ble_eq_true rfl) rfl hl.1 rfl (Nat.le_of_ble_eq_true rfl) dX3_faultOfBroom_7 ⟨Nat.zero_le _, Nat.zero_le _⟩ (fun H locs hP hS => ?_)
  replace hP : va_P G.1 vwCl (W_S G s0 s1 S_len S_let) H := hP
  refine lv_if_ne (tgt := 17) hx hb dX3_faultOfBroom_10 (by decide) (fun cc_5 => ?_) (fun cc_5 => ?_)
  · replace h := if_f cc_5 h
    refine lv_aload_n hx hb dX3_faultOfBroom_17 rfl (lv_at hl 0 rfl) ?_
    refine lv_iload_n hx hb dX3_faultOfBroom_18 rfl (lv_at hl 1 rfl) ?_
    refine lv_iconst (v := 2) hx hb dX3_faultOfBroom_19 (by decide) ?_
    refine lv_iadd hx hb dX3_faultOfBroom_20 ?_
    obtain ⟨rr_6, ee_7, h⟩ := bnd1_s h
    refine cVi (As := [.int (u1 + (2 : Int32))]) (rest := []) S0 hK hA (va_D_same hD rfl) hP hS [0, 1] (k_X3_figureAt l G s0 s1 S_len S_let (u1 + (2 : Int32)) rr_6 ee_7) cw_X3_figureAt rfl rfl (Nat.le_of_ble_eq_true rfl) 3 0 rfl rfl rfl rfl hl.1 rfl (Nat.le_of_ble_eq_true rfl) dX3_faultOfBroom_21 ⟨Nat.zero_le _, Nat.zero_le _⟩ (fun H locs hP hS => ?_)
    replace hP : va_P G.1 vwCl (W_S G s0 s1 S_len S_let) H := hP
    refine lv_iconst (v := 1) hx hb dX3_faultOfBroom_24 (by decide) ?_
    refine lv_bipush (v := 9) hx hb dX3_faultOfBroom_25 (by decide) ?_
    obtain ⟨rr_8, ee_9, h⟩ := bnd1_s h
    refine cNi (As := [.int rr_6, .int (1 : Int32), .int (9 : Int32)]) (rest := []) S0 hK hA (va_D_same hD rfl) hP hS [] (k_X5_within l G rr_6 (1 : Int32) (9 : Int32) rr_8 ee_9) cw_X5_within rfl rfl (Nat.le_of_ble_eq_true rfl) rfl hl.1 rfl (Nat.le_of_ble_eq_true rfl) dX3_faultOfBroom_27 ⟨Nat.zero_le _, Nat.zero_le _⟩ (fun H locs hP hS => ?_)
    replace hP : va_P G.1 vwCl (W_S G s0 s1 S_len S_let) H := hP
    refine lv_if_ne (tgt := 37) hx hb dX3_faultOfBroom_30 (by decide) (fun cc_10 => ?_) (fun cc_10 => ?_)
    · replace h := if_f cc_10 h
      refine lv_aload_n hx hb dX3_faultOfBroom_37 rfl (lv_at hl 0 rfl) ?_
      refine lv_iload_n hx hb dX3_faultOfBroom_38 rfl (lv_at hl 1 rfl) ?_
      refine lv_iconst (v := 3) hx hb dX3_faultOfBroom_39 (by decide) ?_
      refine lv_iadd hx hb dX3_faultOfBroom_40 ?_
      obtain ⟨rr_11, ee_12, h⟩ := bnd1_s h
      refine cVi (As := [.int (u1 + (3 : Int32))]) (rest := []) S0 hK hA (va_D_same hD rfl) hP hS [0, 1] (k_X3_figureAt l G s0 s1 S_len S_let (u1 + (3 : Int32)) rr_11 ee_12) cw_X3_figureAt rfl rfl (Nat.le_of_ble_eq_true rfl) 3 0 rfl rfl rfl rfl hl.1 rfl (Nat.le_of_ble_eq_true rfl) dX3_faultOfBroom_41 ⟨Nat.zero_le _, Nat.zero_le _⟩ (fun H locs hP hS => ?_)
      replace hP : va_P G.1 vwCl (W_S G s0 s1 S_len S_let) H := hP
      refine lv_iconst (v := 0) hx hb dX3_faultOfBroom_44 (by decide) ?_
      refine lv_iconst (v := 3) hx hb dX3_faultOfBroom_45 (by decide) ?_
      obtain ⟨rr_13, ee_14, h⟩ := bnd1_s h
      refine cNi (As := [.int rr_11, .int (0 : Int32), .int (3 : Int32)]) (rest := []) S0 hK hA (va_D_same hD rfl) hP hS [] (k_X5_within l G rr_11 (0 : Int32) (3 : Int32) rr_13 ee_14) cw_X5_within rfl rfl (Nat.le_of_ble_eq_true rfl) rfl hl.1 rfl (Nat.le_of_ble_eq_true rfl) dX3_faultOfBroom_46 ⟨Nat.zero_le _, Nat.zero_le _⟩ (fun H locs hP hS => ?_)
      replace hP : va_P G.1 vwCl (W_S G s0 s1 S_len S_let) H := hP
      refine lv_if_eq (tgt := 57) hx hb dX3_faultOfBroom_49 (by decide) (fun cc_15 => ?_) (fun cc_15 => ?_)
      · replace h := if_t cc_15 h
        refine lv_iload_n hx hb dX3_faultOfBroom_57 rfl (lv_at hl 1 rfl) ?_
        refine lv_iconst (v := 3) hx hb dX3_faultOfBroom_58 (by decide) ?_
        refine lv_iadd hx hb dX3_faultOfBroom_59 ?_
        cases h
        exact W.iret hx hb hr (fun t ht _ => ⟨⟨_, (), rfl, rfl, by rw [ht]; exact hP⟩, hS.F ht⟩) hS.2.2 dX3_faultOfBroom_60
      · replace h := if_f cc_15 h
        refine lv_bipush (v := (-9)) hx hb dX3_faultOfBroom_52 (by decide) ?_
        refine lv_goto (tgt := 60) hx hb dX3_faultOfBroom_54 (by decide) ?_
        cases h
        exact W.iret hx hb hr (fun t ht _ => ⟨⟨_, (), rfl, rfl, by rw [ht]; exact hP⟩, hS.F ht⟩) hS.2.2 dX3_faultOfBroom_60
    · replace h := if_t cc_10 h
      refine lv_iload_n hx hb dX3_faultOfBroom_33 rfl (lv_at hl 1 rfl) ?_
      refine lv_iconst (v := 2) hx hb dX3_faultOfBroom_34 (by decide) ?_
      refine lv_iadd hx hb dX3_faultOfBroom_35 ?_
      cases h
      exact W.iret hx hb hr (fun t ht _ => ⟨⟨_, (), rfl, rfl, by rw [ht]; exact hP⟩, hS.F ht⟩) hS.2.2 dX3_faultOfBroom_36
  · replace h := if_t cc_5 h
    refine lv_iload_n hx hb dX3_faultOfBroom_13 rfl (lv_at hl 1 rfl) ?_
    refine lv_iconst (v := 1) hx hb dX3_faultOfBroom_14 (by decide) ?_
    refine lv_iadd hx hb dX3_faultOfBroom_15 ?_
    cases h
    exact W.iret hx hb hr (fun t ht _ => ⟨⟨_, (), rfl, rfl, by rw [ht]; exact hP⟩, hS.F ht⟩) hS.2.2 dX3_faultOfBroom_16
def f_X3_faultOfFall (S_len : Int32) (S_let : Nat → Int32) (u1 : Int32) : Option (Int32) := bnd1 (f_X3_figureAt S_len S_let (u1 + (1 : Int32))) (fun rr_1 => bnd1 (f_X5_isStreet rr_1) (fun rr_3 => if rr_3 = 0 then (some (u1 + (1 : Int32))) else (bnd1 (f_X3_figureAt S_len S_let (u1 + (2 : Int32))) (fun rr_6 => bnd1 (f_X5_within rr_6 (0 : Int32) (9 : Int32)) (fun rr_8 => if rr_8 = 0 then (some (u1 + (2 : Int32))) else (some ((-9) : Int32)))))))
set_option maxRecDepth 100000 in
set_option maxHeartbeats 4000000 in
theorem k_X3_faultOfFall (l : Launch) (G : Gt) (s0 s1 : Nat) (S_len : Int32) (S_let : Nat → Int32) (u1 : Int32) (r_ : Int32) (h : f_X3_faultOfFall S_len S_let u1 = some r_) : CT l yX3_faultOfFall wsX3_faultOfFall 2 42 G [.ref s0, .int u1] (W_S G s0 s1 S_len S_let) (QI G r_ (W_S G s0 s1 S_len S_let)) := by
  refine met_of cX3_faultOfFall 2 (some .int) (by decide) rfl (Nat.le_of_ble_eq_true rfl) ?_
  intro p e s m below meth c A ls hx hb hr hml hts hown hlocks hK hA hD hP hS hl
  replace hown : s.vm.findClass RX3 = some m.cls := hown
  replace hl : lv_has ls 2 [(0, .ref s0), (1, .int u1)] := hl
  have S0 : CallFix p m c cX3_faultOfFall 2 s _ wsX3_faultOfFall RX3 := ⟨hx, hb, hml, hown, hts⟩
  have cw_X3_figureAt := show CallW (rmv 2 42) s _ RX3 RX3 23 yX3_figureAt cX3_figureAt 2 (some .int) wsX3_figureAt (rmv 1 21) 0 0 1 from cwV 1 hts gX3_faultOfFall_X3_figureAt rfl rfl rfl (by decide +kernel) ⟨Nat.le_of_ble_eq_true rfl, Nat.le_of_ble_eq_true rfl⟩
  have cw_X5_isStreet := show va_CN (rmv 2 42) s _ RX3 40 yX5_isStreet "DustVote" cX5_isStreet 1 (some .boolean) wsX5_isStreet (rmv 0 0) 0 0 1 ∧ (Cond.static yX5_isStreet).before _ s = true ∧ True from ⟨va_cnB 1 hts gX3_faultOfFall_X5_isStreet_n40 rfl rfl rfl (hK.m (by decide)) (hts (.initialized RX5) (by decide +kernel)) (by decide +kernel) ⟨Nat.le_of_ble_eq_true rfl, Nat.le_of_ble_eq_true rfl⟩, hts (.static yX5_isStreet) (by decide +kernel), trivial⟩
  have cw_X5_within := show va_CN (rmv 2 42) s _ RX3 26 yX5_within "DustVote" cX5_within 3 (some .boolean) wsX5_within (rmv 0 0) 0 0 3 ∧ (Cond.static yX5_within).before _ s = true ∧ True from ⟨va_cnB 3 hts gX3_faultOfFall_X5_within_n26 rfl rfl rfl (hK.m (by decide)) (hts (.initialized RX5) (by decide +kernel)) (by decide +kernel) ⟨Nat.le_of_ble_eq_true rfl, Nat.le_of_ble_eq_true rfl⟩, hts (.static yX5_within) (by decide +kernel), trivial⟩
  unfold f_X3_faultOfFall at h
  refine lv_aload_n hx hb dX3_faultOfFall_0 rfl (lv_at hl 0 rfl) ?_
  refine lv_iload_n hx hb dX3_faultOfFall_1 rfl (lv_at hl 1 rfl) ?_
  refine lv_iconst (v := 1) hx hb dX3_faultOfFall_2 (by decide) ?_
  refine lv_iadd hx hb dX3_faultOfFall_3 ?_
  obtain ⟨rr_1, ee_2, h⟩ := bnd1_s h
  refine cVi (As := [.int (u1 + (1 : Int32))]) (rest := []) S0 hK hA (va_D_same hD rfl) hP hS [0, 1] (k_X3_figureAt l G s0 s1 S_len S_let (u1 + (1 : Int32)) rr_1 ee_2) cw_X3_figureAt rfl rfl (Nat.le_of_ble_eq_true rfl) 3 0 rfl rfl rfl rfl hl.1 rfl (Nat.le_of_ble_eq_true rfl) dX3_faultOfFall_4 ⟨Nat.zero_le _, Nat.zero_le _⟩ (fun H locs hP hS => ?_)
  replace hP : va_P G.1 vwCl (W_S G s0 s1 S_len S_let) H := hP
  obtain ⟨rr_3, ee_4, h⟩ := bnd1_s h
  refine cNi (As := [.int rr_1]) (rest := []) S0 hK hA (va_D_same hD rfl) hP hS [] (k_X5_isStreet l G rr_1 rr_3 ee_4) cw_X5_isStreet rfl rfl (Nat.le_of_ble_eq_true rfl) rfl hl.1 rfl (Nat.le_of_ble_eq_true rfl) dX3_faultOfFall_7 ⟨Nat.zero_le _, Nat.zero_le _⟩ (fun H locs hP hS => ?_)
  replace hP : va_P G.1 vwCl (W_S G s0 s1 S_len S_let) H := hP
  refine lv_if_ne (tgt := 17) hx hb dX3_faultOfFall_10 (by decide) (fun cc_5 => ?_) (fun cc_5 => ?_)
  · replace h := if_f cc_5 h
    refine lv_aload_n hx hb dX3_faultOfFall_17 rfl (lv_at hl 0 rfl) ?_
    refine lv_iload_n hx hb dX3_faultOfFall_18 rfl (lv_at hl 1 rfl) ?_
    refine lv_iconst (v := 2) hx hb dX3_faultOfFall_19 (by decide) ?_
    refine lv_iadd hx hb dX3_faultOfFall_20 ?_
    obtain ⟨rr_6, ee_7, h⟩ := bnd1_s h
    refine cVi (As := [.int (u1 + (2 : Int32))]) (rest := []) S0 hK hA (va_D_same hD rfl) hP hS [0, 1] (k_X3_figureAt l G s0 s1 S_len S_let (u1 + (2 : Int32)) rr_6 ee_7) cw_X3_figureAt rfl rfl (Nat.le_of_ble_eq_true rfl) 3 0 rfl rfl rfl rfl hl.1 rfl (Nat.le_of_ble_eq_true rfl) dX3_faultOfFall_21 ⟨Nat.zero_le _, Nat.zero_le _⟩ (fun H locs hP hS => ?_)
    replace hP : va_P G.1 vwCl (W_S G s0 s1 S_len S_let) H := hP
    refine lv_iconst (v := 0) hx hb dX3_faultOfFall_24 (by decide) ?_
    refine lv_bipush (v := 9) hx hb dX3_faultOfFall_25 (by decide) ?_
    obtain ⟨rr_8, ee_9, h⟩ := bnd1_s h
    refine cNi (As := [.int rr_6, .int (0 : Int32), .int (9 : Int32)]) (rest := []) S0 hK hA (va_D_same hD rfl) hP hS [] (k_X5_within l G rr_6 (0 : Int32) (9 : Int32) rr_8 ee_9) cw_X5_within rfl rfl (Nat.le_of_ble_eq_true rfl) rfl hl.1 rfl (Nat.le_of_ble_eq_true rfl) dX3_faultOfFall_27 ⟨Nat.zero_le _, Nat.zero_le _⟩ (fun H locs hP hS => ?_)
    replace hP : va_P G.1 vwCl (W_S G s0 s1 S_len S_let) H := hP
    refine lv_if_eq (tgt := 38) hx hb dX3_faultOfFall_30 (by decide) (fun cc_10 => ?_) (fun cc_10 => ?_)
    · replace h := if_t cc_10 h
      refine lv_iload_n hx hb dX3_faultOfFall_38 rfl (lv_at hl 1 rfl) ?_
      refine lv_iconst (v := 2) hx hb dX3_faultOfFall_39 (by decide) ?_
      refine lv_iadd hx hb dX3_faultOfFall_40 ?_
      cases h
      exact W.iret hx hb hr (fun t ht _ => ⟨⟨_, (), rfl, rfl, by rw [ht]; exact hP⟩, hS.F ht⟩) hS.2.2 dX3_faultOfFall_41
    · replace h := if_f cc_10 h
      refine lv_bipush (v := (-9)) hx hb dX3_faultOfFall_33 (by decide) ?_
      refine lv_goto (tgt := 41) hx hb dX3_faultOfFall_35 (by decide) ?_
      cases h
      exact W.iret hx hb hr (fun t ht _ => ⟨⟨_, (), rfl, rfl, by rw [ht]; exact hP⟩, hS.F ht⟩) hS.2.2 dX3_faultOfFall_41
  · replace h := if_t cc_5 h
    refine lv_iload_n hx hb dX3_faultOfFall_13 rfl (lv_at hl 1 rfl) ?_
    refine lv_iconst (v := 1) hx hb dX3_faultOfFall_14 (by decide) ?_
    refine lv_iadd hx hb dX3_faultOfFall_15 ?_
    cases h
    exact W.iret hx hb hr (fun t ht _ => ⟨⟨_, (), rfl, rfl, by rw [ht]; exact hP⟩, hS.F ht⟩) hS.2.2 dX3_faultOfFall_16
def f_X3_firstFaultOfParts_146 (S_len : Int32) (S_let : Nat → Int32) (kk10 : Int32 → Int32 → Int32 → Option (Int32)) (v1 : Int32) (v2 : Int32) (v4 : Int32) (q0 : Int32) : Option (Int32) := kk10 v1 v2 (v4 + q0)
def f_X3_firstFaultOfParts_134 (S_len : Int32) (S_let : Nat → Int32) (kk10 : Int32 → Int32 → Int32 → Option (Int32)) (v1 : Int32) (v4 : Int32) (v5 : Int32) (q0 : Int32) (q1 : Int32) : Option (Int32) := if v5 = 0 then (f_X3_firstFaultOfParts_146 S_len S_let kk10 v1 (q0 + q1) v4 (3 : Int32)) else (f_X3_firstFaultOfParts_146 S_len S_let kk10 v1 (q0 + q1) v4 (4 : Int32))
def f_X3_firstFaultOfParts_121 (S_len : Int32) (S_let : Nat → Int32) (kk10 : Int32 → Int32 → Int32 → Option (Int32)) (v2 : Int32) (v4 : Int32) (v5 : Int32) (v6 : Int32) (q0 : Int32) (q1 : Int32) : Option (Int32) := if v6 = 0 then (f_X3_firstFaultOfParts_134 S_len S_let kk10 (q0 + q1) v4 v5 v2 (0 : Int32)) else (f_X3_firstFaultOfParts_134 S_len S_let kk10 (q0 + q1) v4 v5 v2 (1 : Int32))
def f_X3_firstFaultOfParts_98 (S_len : Int32) (S_let : Nat → Int32) (kk10 : Int32 → Int32 → Int32 → Option (Int32)) (v1 : Int32) (v2 : Int32) (v4 : Int32) (v5 : Int32) (v6 : Int32) (q0 : Int32) : Option (Int32) := if q0 = ((-9) : Int32) then (if v5 = 0 then (f_X3_firstFaultOfParts_121 S_len S_let kk10 v2 v4 v5 v6 v1 (0 : Int32)) else (f_X3_firstFaultOfParts_121 S_len S_let kk10 v2 v4 v5 v6 v1 (1 : Int32))) else (some q0)
def f_X3_firstFaultOfParts_78 (S_len : Int32) (S_let : Nat → Int32) (kk10 : Int32 → Int32 → Int32 → Option (Int32)) (v1 : Int32) (v2 : Int32) (v4 : Int32) (v5 : Int32) (v6 : Int32) : Option (Int32) := if v5 = 0 then (bnd1 (f_X3_faultOfFall S_len S_let v4) (fun rr_6 => f_X3_firstFaultOfParts_98 S_len S_let kk10 v1 v2 v4 v5 v6 rr_6)) else (bnd1 (f_X3_faultOfBroom S_len S_let v4) (fun rr_8 => f_X3_firstFaultOfParts_98 S_len S_let kk10 v1 v2 v4 v5 v6 rr_8))
def f_X3_firstFaultOfParts_63 (S_len : Int32) (S_let : Nat → Int32) (kk10 : Int32 → Int32 → Int32 → Option (Int32)) (v1 : Int32) (v2 : Int32) (v4 : Int32) (v5 : Int32) (q0 : Int32) : Option (Int32) := if v5 = 0 then (if q0 = 0 then (some v4) else (f_X3_firstFaultOfParts_78 S_len S_let kk10 v1 v2 v4 v5 q0)) else (f_X3_firstFaultOfParts_78 S_len S_let kk10 v1 v2 v4 v5 q0)
def f_X3_firstFaultOfParts_62 (S_len : Int32) (S_let : Nat → Int32) (kk10 : Int32 → Int32 → Int32 → Option (Int32)) (v1 : Int32) (v2 : Int32) (v4 : Int32) (v5 : Int32) : Option (Int32) := f_X3_firstFaultOfParts_63 S_len S_let kk10 v1 v2 v4 v5 (0 : Int32)
def f_X3_firstFaultOfParts_40 (S_len : Int32) (S_let : Nat → Int32) (kk10 : Int32 → Int32 → Int32 → Option (Int32)) (v1 : Int32) (v2 : Int32) (v4 : Int32) (q0 : Int32) : Option (Int32) := bnd1 (f_X3_letterAt S_len S_let v4) (fun rr_12 => if rr_12 = (70 : Int32) then (if (5 : Int32) ≤ v2 then (f_X3_firstFaultOfParts_62 S_len S_let kk10 v1 v2 v4 q0) else (f_X3_firstFaultOfParts_63 S_len S_let kk10 v1 v2 v4 q0 (1 : Int32))) else (f_X3_firstFaultOfParts_62 S_len S_let kk10 v1 v2 v4 q0))
def f_X3_firstFaultOfParts_39 (S_len : Int32) (S_let : Nat → Int32) (kk10 : Int32 → Int32 → Int32 → Option (Int32)) (v1 : Int32) (v2 : Int32) (v4 : Int32) : Option (Int32) := f_X3_firstFaultOfParts_40 S_len S_let kk10 v1 v2 v4 (0 : Int32)
def f_X3_firstFaultOfParts_10 (S_len : Int32) (S_let : Nat → Int32) : Nat → Int32 → Int32 → Int32 → Option (Int32)
  | 0, _, _, _ => none
  | fu + 1, v1, v2, v4 => if S_len ≤ v4 then (some ((-9) : Int32)) else (bnd1 (f_X3_letterAt S_len S_let v4) (fun rr_17 => if rr_17 = (78 : Int32) then (if (5 : Int32) ≤ v1 then (f_X3_firstFaultOfParts_39 S_len S_let (f_X3_firstFaultOfParts_10 S_len S_let fu) v1 v2 v4) else (f_X3_firstFaultOfParts_40 S_len S_let (f_X3_firstFaultOfParts_10 S_len S_let fu) v1 v2 v4 (1 : Int32))) else (f_X3_firstFaultOfParts_39 S_len S_let (f_X3_firstFaultOfParts_10 S_len S_let fu) v1 v2 v4)))
def f_X3_firstFaultOfParts (S_len : Int32) (S_let : Nat → Int32) : Option (Int32) := f_X3_firstFaultOfParts_10 S_len S_let  130 (0 : Int32) (0 : Int32) (9 : Int32)
set_option maxRecDepth 100000 in
set_option maxHeartbeats 4000000 in
theorem k_X3_firstFaultOfParts (l : Launch) (G : Gt) (s0 s1 : Nat) (S_len : Int32) (S_let : Nat → Int32) (r_ : Int32) (h : f_X3_firstFaultOfParts S_len S_let = some r_) : CT l yX3_firstFaultOfParts wsX3_firstFaultOfParts 3 63 G [.ref s0] (W_S G s0 s1 S_len S_let) (QI G r_ (W_S G s0 s1 S_len S_let)) := by
  refine met_of cX3_firstFaultOfParts 8 (some .int) (by decide) rfl (Nat.le_of_ble_eq_true rfl) ?_
  intro p e s m below meth c A ls hx hb hr hml hts hown hlocks hK hA hD hP hS hl
  replace hown : s.vm.findClass RX3 = some m.cls := hown
  replace hl : lv_has ls 8 [(0, .ref s0)] := hl
  have S0 : CallFix p m c cX3_firstFaultOfParts 8 s _ wsX3_firstFaultOfParts RX3 := ⟨hx, hb, hml, hown, hts⟩
  have cw_X3_faultOfFall := show CallW (rmv 3 63) s _ RX3 RX3 37 yX3_faultOfFall cX3_faultOfFall 2 (some .int) wsX3_faultOfFall (rmv 2 42) 0 0 1 from cwV 1 hts gX3_firstFaultOfParts_X3_faultOfFall rfl rfl rfl (by decide +kernel) ⟨Nat.le_of_ble_eq_true rfl, Nat.le_of_ble_eq_true rfl⟩
  have cw_X3_faultOfBroom := show CallW (rmv 3 63) s _ RX3 RX3 34 yX3_faultOfBroom cX3_faultOfBroom 2 (some .int) wsX3_faultOfBroom (rmv 2 42) 0 0 1 from cwV 1 hts gX3_firstFaultOfParts_X3_faultOfBroom rfl rfl rfl (by decide +kernel) ⟨Nat.le_of_ble_eq_true rfl, Nat.le_of_ble_eq_true rfl⟩
  have cw_X3_letterAt := show CallW (rmv 3 63) s _ RX3 RX3 19 yX3_letterAt cX3_letterAt 2 (some .int) wsX3_letterAt (rmv 0 0) 0 0 1 from cwV 1 hts gX3_firstFaultOfParts_X3_letterAt rfl rfl rfl (by decide +kernel) ⟨Nat.le_of_ble_eq_true rfl, Nat.le_of_ble_eq_true rfl⟩
  have fl15 := hts (.fieldLink RX3 15 "DustVote$Script" "length" "I") (by decide +kernel)
  have inX3 := show ∀ w ∈ wsX30, w ∈ wsX3_firstFaultOfParts from by decide +kernel
  have J_146 : ∀ (kk10 : Int32 → Int32 → Int32 → Option (Int32)) (hk10 : ∀ (v1 : Int32) (v2 : Int32) (v4 : Int32) (H : Heap) (locs : List Loc) (ls : Array Slot), kk10 v1 v2 v4 = some r_ → va_P G.1 vwCl (W_S G s0 s1 S_len S_let) H → va_S A s.heap H locs → lv_has ls 8 [(0, .ref s0), (1, .int v1), (2, .int v2), (4, .int v4)] → W p l e (rmv 3 63) s m (List.toArray [.ref s0]) below meth c H locs 0 0 (MQ below ((QI G r_ (W_S G s0 s1 S_len S_let)) A) (List.toArray [.ref s0]) s 0 0 A) (F0 m 10 ls [])), ∀ (v1 : Int32) (v2 : Int32) (v4 : Int32) (q0 : Int32) (H : Heap) (locs : List Loc) (ls : Array Slot), f_X3_firstFaultOfParts_146 S_len S_let kk10 v1 v2 v4 q0 = some r_ → va_P G.1 vwCl (W_S G s0 s1 S_len S_let) H → va_S A s.heap H locs → lv_has ls 8 [(0, .ref s0), (1, .int v1), (2, .int v2), (4, .int v4)] → W p l e (rmv 3 63) s m (List.toArray [.ref s0]) below meth c H locs 0 0 (MQ below ((QI G r_ (W_S G s0 s1 S_len S_let)) A) (List.toArray [.ref s0]) s 0 0 A) (F0 m 146 ls [.int q0]) := by
    intro kk10 hk10 v1 v2 v4 q0 H locs ls h hP hS hl
    unfold f_X3_firstFaultOfParts_146 at h
    refine lv_istore_n (lv' := [(3, .int q0), (0, .ref s0), (1, .int v1), (2, .int v2), (4, .int v4)]) hx hb dX3_firstFaultOfParts_146 rfl hl (by decide) rfl (fun ls hl => ?_)
    refine lv_iload hx hb dX3_firstFaultOfParts_147 (lv_at hl 4 rfl) ?_
    refine lv_iload_n hx hb dX3_firstFaultOfParts_149 rfl (lv_at hl 0 rfl) ?_
    refine lv_iadd hx hb dX3_firstFaultOfParts_150 ?_
    refine lv_istore (lv' := [(4, .int (v4 + q0)), (3, .int q0), (0, .ref s0), (1, .int v1), (2, .int v2)]) hx hb dX3_firstFaultOfParts_151 hl (by decide) rfl (fun ls hl => ?_)
    refine lv_goto (tgt := 10) hx hb dX3_firstFaultOfParts_153 (by decide) ?_
    exact hk10 v1 v2 (v4 + q0) _ _ _ h hP hS (lv_sub hl [2, 3, 4, 0] rfl)
  have J_134 : ∀ (kk10 : Int32 → Int32 → Int32 → Option (Int32)) (hk10 : ∀ (v1 : Int32) (v2 : Int32) (v4 : Int32) (H : Heap) (locs : List Loc) (ls : Array Slot), kk10 v1 v2 v4 = some r_ → va_P G.1 vwCl (W_S G s0 s1 S_len S_let) H → va_S A s.heap H locs → lv_has ls 8 [(0, .ref s0), (1, .int v1), (2, .int v2), (4, .int v4)] → W p l e (rmv 3 63) s m (List.toArray [.ref s0]) below meth c H locs 0 0 (MQ below ((QI G r_ (W_S G s0 s1 S_len S_let)) A) (List.toArray [.ref s0]) s 0 0 A) (F0 m 10 ls [])), ∀ (v1 : Int32) (v4 : Int32) (v5 : Int32) (q0 : Int32) (q1 : Int32) (H : Heap) (locs : List Loc) (ls : Array Slot), f_X3_firstFaultOfParts_134 S_len S_let kk10 v1 v4 v5 q0 q1 = some r_ → va_P G.1 vwCl (W_S G s0 s1 S_len S_let) H → va_S A s.heap H locs → lv_has ls 8 [(0, .ref s0), (1, .int v1), (4, .int v4), (5, .int v5)] → W p l e (rmv 3 63) s m (List.toArray [.ref s0]) below meth c H locs 0 0 (MQ below ((QI G r_ (W_S G s0 s1 S_len S_let)) A) (List.toArray [.ref s0]) s 0 0 A) (F0 m 134 ls [.int q1, .int q0]) := by
    intro kk10 hk10 v1 v4 v5 q0 q1 H locs ls h hP hS hl
    unfold f_X3_firstFaultOfParts_134 at h
    refine lv_iadd hx hb dX3_firstFaultOfParts_134 ?_
    refine lv_istore_n (lv' := [(2, .int (q0 + q1)), (0, .ref s0), (1, .int v1), (4, .int v4), (5, .int v5)]) hx hb dX3_firstFaultOfParts_135 rfl hl (by decide) rfl (fun ls hl => ?_)
    refine lv_iload hx hb dX3_firstFaultOfParts_136 (lv_at hl 4 rfl) ?_
    refine lv_if_eq (tgt := 145) hx hb dX3_firstFaultOfParts_138 (by decide) (fun cc_1 => ?_) (fun cc_1 => ?_)
    · replace h := if_t cc_1 h
      refine lv_iconst (v := 3) hx hb dX3_firstFaultOfParts_145 (by decide) ?_
      exact J_146 kk10 hk10 v1 (q0 + q1) v4 (3 : Int32) _ _ _ h hP hS (lv_sub hl [1, 2, 0, 3] rfl)
    · replace h := if_f cc_1 h
      refine lv_iconst (v := 4) hx hb dX3_firstFaultOfParts_141 (by decide) ?_
      refine lv_goto (tgt := 146) hx hb dX3_firstFaultOfParts_142 (by decide) ?_
      exact J_146 kk10 hk10 v1 (q0 + q1) v4 (4 : Int32) _ _ _ h hP hS (lv_sub hl [1, 2, 0, 3] rfl)
  have J_121 : ∀ (kk10 : Int32 → Int32 → Int32 → Option (Int32)) (hk10 : ∀ (v1 : Int32) (v2 : Int32) (v4 : Int32) (H : Heap) (locs : List Loc) (ls : Array Slot), kk10 v1 v2 v4 = some r_ → va_P G.1 vwCl (W_S G s0 s1 S_len S_let) H → va_S A s.heap H locs → lv_has ls 8 [(0, .ref s0), (1, .int v1), (2, .int v2), (4, .int v4)] → W p l e (rmv 3 63) s m (List.toArray [.ref s0]) below meth c H locs 0 0 (MQ below ((QI G r_ (W_S G s0 s1 S_len S_let)) A) (List.toArray [.ref s0]) s 0 0 A) (F0 m 10 ls [])), ∀ (v2 : Int32) (v4 : Int32) (v5 : Int32) (v6 : Int32) (q0 : Int32) (q1 : Int32) (H : Heap) (locs : List Loc) (ls : Array Slot), f_X3_firstFaultOfParts_121 S_len S_let kk10 v2 v4 v5 v6 q0 q1 = some r_ → va_P G.1 vwCl (W_S G s0 s1 S_len S_let) H → va_S A s.heap H locs → lv_has ls 8 [(0, .ref s0), (2, .int v2), (4, .int v4), (5, .int v5), (6, .int v6)] → W p l e (rmv 3 63) s m (List.toArray [.ref s0]) below meth c H locs 0 0 (MQ below ((QI G r_ (W_S G s0 s1 S_len S_let)) A) (List.toArray [.ref s0]) s 0 0 A) (F0 m 121 ls [.int q1, .int q0]) := by
    intro kk10 hk10 v2 v4 v5 v6 q0 q1 H locs ls h hP hS hl
    unfold f_X3_firstFaultOfParts_121 at h
    refine lv_iadd hx hb dX3_firstFaultOfParts_121 ?_
    refine lv_istore_n (lv' := [(1, .int (q0 + q1)), (0, .ref s0), (2, .int v2), (4, .int v4), (5, .int v5), (6, .int v6)]) hx hb dX3_firstFaultOfParts_122 rfl hl (by decide) rfl (fun ls hl => ?_)
    refine lv_iload_n hx hb dX3_firstFaultOfParts_123 rfl (lv_at hl 2 rfl) ?_
    refine lv_iload hx hb dX3_firstFaultOfParts_124 (lv_at hl 5 rfl) ?_
    refine lv_if_eq (tgt := 133) hx hb dX3_firstFaultOfParts_126 (by decide) (fun cc_2 => ?_) (fun cc_2 => ?_)
    · replace h := if_t cc_2 h
      refine lv_iconst (v := 0) hx hb dX3_firstFaultOfParts_133 (by decide) ?_
      exact J_134 kk10 hk10 (q0 + q1) v4 v5 v2 (0 : Int32) _ _ _ h hP hS (lv_sub hl [1, 0, 3, 4] rfl)
    · replace h := if_f cc_2 h
      refine lv_iconst (v := 1) hx hb dX3_firstFaultOfParts_129 (by decide) ?_
      refine lv_goto (tgt := 134) hx hb dX3_firstFaultOfParts_130 (by decide) ?_
      exact J_134 kk10 hk10 (q0 + q1) v4 v5 v2 (1 : Int32) _ _ _ h hP hS (lv_sub hl [1, 0, 3, 4] rfl)
  have J_98 : ∀ (kk10 : Int32 → Int32 → Int32 → Option (Int32)) (hk10 : ∀ (v1 : Int32) (v2 : Int32) (v4 : Int32) (H : Heap) (locs : List Loc) (ls : Array Slot), kk10 v1 v2 v4 = some r_ → va_P G.1 vwCl (W_S G s0 s1 S_len S_let) H → va_S A s.heap H locs → lv_has ls 8 [(0, .ref s0), (1, .int v1), (2, .int v2), (4, .int v4)] → W p l e (rmv 3 63) s m (List.toArray [.ref s0]) below meth c H locs 0 0 (MQ below ((QI G r_ (W_S G s0 s1 S_len S_let)) A) (List.toArray [.ref s0]) s 0 0 A) (F0 m 10 ls [])), ∀ (v1 : Int32) (v2 : Int32) (v4 : Int32) (v5 : Int32) (v6 : Int32) (q0 : Int32) (H : Heap) (locs : List Loc) (ls : Array Slot), f_X3_firstFaultOfParts_98 S_len S_let kk10 v1 v2 v4 v5 v6 q0 = some r_ → va_P G.1 vwCl (W_S G s0 s1 S_len S_let) H → va_S A s.heap H locs → lv_has ls 8 [(0, .ref s0), (1, .int v1), (2, .int v2), (4, .int v4), (5, .int v5), (6, .int v6)] → W p l e (rmv 3 63) s m (List.toArray [.ref s0]) below meth c H locs 0 0 (MQ below ((QI G r_ (W_S G s0 s1 S_len S_let)) A) (List.toArray [.ref s0]) s 0 0 A) (F0 m 98 ls [.int q0]) := by
    intro kk10 hk10 v1 v2 v4 v5 v6 q0 H locs ls h hP hS hl
    unfold f_X3_firstFaultOfParts_98 at h
    refine lv_istore (lv' := [(7, .int q0), (0, .ref s0), (1, .int v1), (2, .int v2), (4, .int v4), (5, .int v5), (6, .int v6)]) hx hb dX3_firstFaultOfParts_98 hl (by decide) rfl (fun ls hl => ?_)
    refine lv_iload hx hb dX3_firstFaultOfParts_100 (lv_at hl 0 rfl) ?_
    refine lv_bipush (v := (-9)) hx hb dX3_firstFaultOfParts_102 (by decide) ?_
    refine lv_icmp_eq (tgt := 110) hx hb dX3_firstFaultOfParts_104 (by decide) (fun cc_3 => ?_) (fun cc_3 => ?_)
    · replace h := if_t cc_3 h
      refine lv_iload_n hx hb dX3_firstFaultOfParts_110 rfl (lv_at hl 2 rfl) ?_
      refine lv_iload hx hb dX3_firstFaultOfParts_111 (lv_at hl 5 rfl) ?_
      refine lv_if_eq (tgt := 120) hx hb dX3_firstFaultOfParts_113 (by decide) (fun cc_4 => ?_) (fun cc_4 => ?_)
      · replace h := if_t cc_4 h
        refine lv_iconst (v := 0) hx hb dX3_firstFaultOfParts_120 (by decide) ?_
        exact J_121 kk10 hk10 v2 v4 v5 v6 v1 (0 : Int32) _ _ _ h hP hS (lv_sub hl [1, 3, 4, 5, 6] rfl)
      · replace h := if_f cc_4 h
        refine lv_iconst (v := 1) hx hb dX3_firstFaultOfParts_116 (by decide) ?_
        refine lv_goto (tgt := 121) hx hb dX3_firstFaultOfParts_117 (by decide) ?_
        exact J_121 kk10 hk10 v2 v4 v5 v6 v1 (1 : Int32) _ _ _ h hP hS (lv_sub hl [1, 3, 4, 5, 6] rfl)
    · replace h := if_f cc_3 h
      refine lv_iload hx hb dX3_firstFaultOfParts_107 (lv_at hl 0 rfl) ?_
      cases h
      exact W.iret hx hb hr (fun t ht _ => ⟨⟨_, (), rfl, rfl, by rw [ht]; exact hP⟩, hS.F ht⟩) hS.2.2 dX3_firstFaultOfParts_109
  have J_78 : ∀ (kk10 : Int32 → Int32 → Int32 → Option (Int32)) (hk10 : ∀ (v1 : Int32) (v2 : Int32) (v4 : Int32) (H : Heap) (locs : List Loc) (ls : Array Slot), kk10 v1 v2 v4 = some r_ → va_P G.1 vwCl (W_S G s0 s1 S_len S_let) H → va_S A s.heap H locs → lv_has ls 8 [(0, .ref s0), (1, .int v1), (2, .int v2), (4, .int v4)] → W p l e (rmv 3 63) s m (List.toArray [.ref s0]) below meth c H locs 0 0 (MQ below ((QI G r_ (W_S G s0 s1 S_len S_let)) A) (List.toArray [.ref s0]) s 0 0 A) (F0 m 10 ls [])), ∀ (v1 : Int32) (v2 : Int32) (v4 : Int32) (v5 : Int32) (v6 : Int32) (H : Heap) (locs : List Loc) (ls : Array Slot), f_X3_firstFaultOfParts_78 S_len S_let kk10 v1 v2 v4 v5 v6 = some r_ → va_P G.1 vwCl (W_S G s0 s1 S_len S_let) H → va_S A s.heap H locs → lv_has ls 8 [(0, .ref s0), (1, .int v1), (2, .int v2), (4, .int v4), (5, .int v5), (6, .int v6)] → W p l e (rmv 3 63) s m (List.toArray [.ref s0]) below meth c H locs 0 0 (MQ below ((QI G r_ (W_S G s0 s1 S_len S_let)) A) (List.toArray [.ref s0]) s 0 0 A) (F0 m 78 ls []) := by
    intro kk10 hk10 v1 v2 v4 v5 v6 H locs ls h hP hS hl
    unfold f_X3_firstFaultOfParts_78 at h
    refine lv_iload hx hb dX3_firstFaultOfParts_78 (lv_at hl 4 rfl) ?_
    refine lv_if_eq (tgt := 92) hx hb dX3_firstFaultOfParts_80 (by decide) (fun cc_5 => ?_) (fun cc_5 => ?_)
    · replace h := if_t cc_5 h
      refine lv_aload_n hx hb dX3_firstFaultOfParts_92 rfl (lv_at hl 0 rfl) ?_
      refine lv_iload hx hb dX3_firstFaultOfParts_93 (lv_at hl 3 rfl) ?_
      obtain ⟨rr_6, ee_7, h⟩ := bnd1_s h
      refine cVi (As := [.int v4]) (rest := []) S0 hK hA (va_D_same hD rfl) hP hS [0, 1] (k_X3_faultOfFall l G s0 s1 S_len S_let v4 rr_6 ee_7) cw_X3_faultOfFall rfl rfl (Nat.le_of_ble_eq_true rfl) 3 0 rfl rfl rfl rfl hl.1 rfl (Nat.le_of_ble_eq_true rfl) dX3_firstFaultOfParts_95 ⟨Nat.zero_le _, Nat.zero_le _⟩ (fun H locs hP hS => ?_)
      replace hP : va_P G.1 vwCl (W_S G s0 s1 S_len S_let) H := hP
      exact J_98 kk10 hk10 v1 v2 v4 v5 v6 rr_6 _ _ _ h hP hS (lv_sub hl [0, 1, 2, 3, 4, 5] rfl)
    · replace h := if_f cc_5 h
      refine lv_aload_n hx hb dX3_firstFaultOfParts_83 rfl (lv_at hl 0 rfl) ?_
      refine lv_iload hx hb dX3_firstFaultOfParts_84 (lv_at hl 3 rfl) ?_
      obtain ⟨rr_8, ee_9, h⟩ := bnd1_s h
      refine cVi (As := [.int v4]) (rest := []) S0 hK hA (va_D_same hD rfl) hP hS [0, 1] (k_X3_faultOfBroom l G s0 s1 S_len S_let v4 rr_8 ee_9) cw_X3_faultOfBroom rfl rfl (Nat.le_of_ble_eq_true rfl) 3 0 rfl rfl rfl rfl hl.1 rfl (Nat.le_of_ble_eq_true rfl) dX3_firstFaultOfParts_86 ⟨Nat.zero_le _, Nat.zero_le _⟩ (fun H locs hP hS => ?_)
      replace hP : va_P G.1 vwCl (W_S G s0 s1 S_len S_let) H := hP
      refine lv_goto (tgt := 98) hx hb dX3_firstFaultOfParts_89 (by decide) ?_
      exact J_98 kk10 hk10 v1 v2 v4 v5 v6 rr_8 _ _ _ h hP hS (lv_sub hl [0, 1, 2, 3, 4, 5] rfl)
  have J_63 : ∀ (kk10 : Int32 → Int32 → Int32 → Option (Int32)) (hk10 : ∀ (v1 : Int32) (v2 : Int32) (v4 : Int32) (H : Heap) (locs : List Loc) (ls : Array Slot), kk10 v1 v2 v4 = some r_ → va_P G.1 vwCl (W_S G s0 s1 S_len S_let) H → va_S A s.heap H locs → lv_has ls 8 [(0, .ref s0), (1, .int v1), (2, .int v2), (4, .int v4)] → W p l e (rmv 3 63) s m (List.toArray [.ref s0]) below meth c H locs 0 0 (MQ below ((QI G r_ (W_S G s0 s1 S_len S_let)) A) (List.toArray [.ref s0]) s 0 0 A) (F0 m 10 ls [])), ∀ (v1 : Int32) (v2 : Int32) (v4 : Int32) (v5 : Int32) (q0 : Int32) (H : Heap) (locs : List Loc) (ls : Array Slot), f_X3_firstFaultOfParts_63 S_len S_let kk10 v1 v2 v4 v5 q0 = some r_ → va_P G.1 vwCl (W_S G s0 s1 S_len S_let) H → va_S A s.heap H locs → lv_has ls 8 [(0, .ref s0), (1, .int v1), (2, .int v2), (4, .int v4), (5, .int v5)] → W p l e (rmv 3 63) s m (List.toArray [.ref s0]) below meth c H locs 0 0 (MQ below ((QI G r_ (W_S G s0 s1 S_len S_let)) A) (List.toArray [.ref s0]) s 0 0 A) (F0 m 63 ls [.int q0]) := by
    intro kk10 hk10 v1 v2 v4 v5 q0 H locs ls h hP hS hl
    unfold f_X3_firstFaultOfParts_63 at h
    refine lv_istore (lv' := [(6, .int q0), (0, .ref s0), (1, .int v1), (2, .int v2), (4, .int v4), (5, .int v5)]) hx hb dX3_firstFaultOfParts_63 hl (by decide) rfl (fun ls hl => ?_)
    refine lv_iload hx hb dX3_firstFaultOfParts_65 (lv_at hl 5 rfl) ?_
    refine lv_if_ne (tgt := 78) hx hb dX3_firstFaultOfParts_67 (by decide) (fun cc_10 => ?_) (fun cc_10 => ?_)
    · replace h := if_f cc_10 h
      exact J_78 kk10 hk10 v1 v2 v4 v5 q0 _ _ _ h hP hS (lv_sub hl [1, 2, 3, 4, 5, 0] rfl)
    · replace h := if_t cc_10 h
      refine lv_iload hx hb dX3_firstFaultOfParts_70 (lv_at hl 0 rfl) ?_
      refine lv_if_ne (tgt := 78) hx hb dX3_firstFaultOfParts_72 (by decide) (fun cc_11 => ?_) (fun cc_11 => ?_)
      · replace h := if_f cc_11 h
        exact J_78 kk10 hk10 v1 v2 v4 v5 q0 _ _ _ h hP hS (lv_sub hl [1, 2, 3, 4, 5, 0] rfl)
      · replace h := if_t cc_11 h
        refine lv_iload hx hb dX3_firstFaultOfParts_75 (lv_at hl 4 rfl) ?_
        cases h
        exact W.iret hx hb hr (fun t ht _ => ⟨⟨_, (), rfl, rfl, by rw [ht]; exact hP⟩, hS.F ht⟩) hS.2.2 dX3_firstFaultOfParts_77
  have J_62 : ∀ (kk10 : Int32 → Int32 → Int32 → Option (Int32)) (hk10 : ∀ (v1 : Int32) (v2 : Int32) (v4 : Int32) (H : Heap) (locs : List Loc) (ls : Array Slot), kk10 v1 v2 v4 = some r_ → va_P G.1 vwCl (W_S G s0 s1 S_len S_let) H → va_S A s.heap H locs → lv_has ls 8 [(0, .ref s0), (1, .int v1), (2, .int v2), (4, .int v4)] → W p l e (rmv 3 63) s m (List.toArray [.ref s0]) below meth c H locs 0 0 (MQ below ((QI G r_ (W_S G s0 s1 S_len S_let)) A) (List.toArray [.ref s0]) s 0 0 A) (F0 m 10 ls [])), ∀ (v1 : Int32) (v2 : Int32) (v4 : Int32) (v5 : Int32) (H : Heap) (locs : List Loc) (ls : Array Slot), f_X3_firstFaultOfParts_62 S_len S_let kk10 v1 v2 v4 v5 = some r_ → va_P G.1 vwCl (W_S G s0 s1 S_len S_let) H → va_S A s.heap H locs → lv_has ls 8 [(0, .ref s0), (1, .int v1), (2, .int v2), (4, .int v4), (5, .int v5)] → W p l e (rmv 3 63) s m (List.toArray [.ref s0]) below meth c H locs 0 0 (MQ below ((QI G r_ (W_S G s0 s1 S_len S_let)) A) (List.toArray [.ref s0]) s 0 0 A) (F0 m 62 ls []) := by
    intro kk10 hk10 v1 v2 v4 v5 H locs ls h hP hS hl
    unfold f_X3_firstFaultOfParts_62 at h
    refine lv_iconst (v := 0) hx hb dX3_firstFaultOfParts_62 (by decide) ?_
    exact J_63 kk10 hk10 v1 v2 v4 v5 (0 : Int32) _ _ _ h hP hS (lv_sub hl [0, 1, 2, 3, 4] rfl)
  have J_40 : ∀ (kk10 : Int32 → Int32 → Int32 → Option (Int32)) (hk10 : ∀ (v1 : Int32) (v2 : Int32) (v4 : Int32) (H : Heap) (locs : List Loc) (ls : Array Slot), kk10 v1 v2 v4 = some r_ → va_P G.1 vwCl (W_S G s0 s1 S_len S_let) H → va_S A s.heap H locs → lv_has ls 8 [(0, .ref s0), (1, .int v1), (2, .int v2), (4, .int v4)] → W p l e (rmv 3 63) s m (List.toArray [.ref s0]) below meth c H locs 0 0 (MQ below ((QI G r_ (W_S G s0 s1 S_len S_let)) A) (List.toArray [.ref s0]) s 0 0 A) (F0 m 10 ls [])), ∀ (v1 : Int32) (v2 : Int32) (v4 : Int32) (q0 : Int32) (H : Heap) (locs : List Loc) (ls : Array Slot), f_X3_firstFaultOfParts_40 S_len S_let kk10 v1 v2 v4 q0 = some r_ → va_P G.1 vwCl (W_S G s0 s1 S_len S_let) H → va_S A s.heap H locs → lv_has ls 8 [(0, .ref s0), (1, .int v1), (2, .int v2), (4, .int v4)] → W p l e (rmv 3 63) s m (List.toArray [.ref s0]) below meth c H locs 0 0 (MQ below ((QI G r_ (W_S G s0 s1 S_len S_let)) A) (List.toArray [.ref s0]) s 0 0 A) (F0 m 40 ls [.int q0]) := by
    intro kk10 hk10 v1 v2 v4 q0 H locs ls h hP hS hl
    unfold f_X3_firstFaultOfParts_40 at h
    refine lv_istore (lv' := [(5, .int q0), (0, .ref s0), (1, .int v1), (2, .int v2), (4, .int v4)]) hx hb dX3_firstFaultOfParts_40 hl (by decide) rfl (fun ls hl => ?_)
    refine lv_aload_n hx hb dX3_firstFaultOfParts_42 rfl (lv_at hl 1 rfl) ?_
    refine lv_iload hx hb dX3_firstFaultOfParts_43 (lv_at hl 4 rfl) ?_
    obtain ⟨rr_12, ee_13, h⟩ := bnd1_s h
    refine cVi (As := [.int v4]) (rest := []) S0 hK hA (va_D_same hD rfl) hP hS [0, 1] (k_X3_letterAt l G s0 s1 S_len S_let v4 rr_12 ee_13) cw_X3_letterAt rfl rfl (Nat.le_of_ble_eq_true rfl) 3 0 rfl rfl rfl rfl hl.1 rfl (Nat.le_of_ble_eq_true rfl) dX3_firstFaultOfParts_45 ⟨Nat.zero_le _, Nat.zero_le _⟩ (fun H locs hP hS => ?_)
    replace hP : va_P G.1 vwCl (W_S G s0 s1 S_len S_let) H := hP
    refine lv_bipush (v := 70) hx hb dX3_firstFaultOfParts_48 (by decide) ?_
    refine lv_icmp_ne (tgt := 62) hx hb dX3_firstFaultOfParts_50 (by decide) (fun cc_14 => ?_) (fun cc_14 => ?_)
    · replace h := if_f cc_14 h
      exact J_62 kk10 hk10 v1 v2 v4 q0 _ _ _ h hP hS (lv_sub hl [1, 2, 3, 4, 0] rfl)
    · replace h := if_t cc_14 h
      refine lv_iload_n hx hb dX3_firstFaultOfParts_53 rfl (lv_at hl 3 rfl) ?_
      refine lv_iconst (v := 5) hx hb dX3_firstFaultOfParts_54 (by decide) ?_
      refine lv_icmp_ge (tgt := 62) hx hb dX3_firstFaultOfParts_55 (by decide) (fun cc_15 => ?_) (fun cc_15 => ?_)
      · replace h := if_t cc_15 h
        exact J_62 kk10 hk10 v1 v2 v4 q0 _ _ _ h hP hS (lv_sub hl [1, 2, 3, 4, 0] rfl)
      · replace h := if_f cc_15 h
        refine lv_iconst (v := 1) hx hb dX3_firstFaultOfParts_58 (by decide) ?_
        refine lv_goto (tgt := 63) hx hb dX3_firstFaultOfParts_59 (by decide) ?_
        exact J_63 kk10 hk10 v1 v2 v4 q0 (1 : Int32) _ _ _ h hP hS (lv_sub hl [1, 2, 3, 4, 0] rfl)
  have J_39 : ∀ (kk10 : Int32 → Int32 → Int32 → Option (Int32)) (hk10 : ∀ (v1 : Int32) (v2 : Int32) (v4 : Int32) (H : Heap) (locs : List Loc) (ls : Array Slot), kk10 v1 v2 v4 = some r_ → va_P G.1 vwCl (W_S G s0 s1 S_len S_let) H → va_S A s.heap H locs → lv_has ls 8 [(0, .ref s0), (1, .int v1), (2, .int v2), (4, .int v4)] → W p l e (rmv 3 63) s m (List.toArray [.ref s0]) below meth c H locs 0 0 (MQ below ((QI G r_ (W_S G s0 s1 S_len S_let)) A) (List.toArray [.ref s0]) s 0 0 A) (F0 m 10 ls [])), ∀ (v1 : Int32) (v2 : Int32) (v4 : Int32) (H : Heap) (locs : List Loc) (ls : Array Slot), f_X3_firstFaultOfParts_39 S_len S_let kk10 v1 v2 v4 = some r_ → va_P G.1 vwCl (W_S G s0 s1 S_len S_let) H → va_S A s.heap H locs → lv_has ls 8 [(0, .ref s0), (1, .int v1), (2, .int v2), (4, .int v4)] → W p l e (rmv 3 63) s m (List.toArray [.ref s0]) below meth c H locs 0 0 (MQ below ((QI G r_ (W_S G s0 s1 S_len S_let)) A) (List.toArray [.ref s0]) s 0 0 A) (F0 m 39 ls []) := by
    intro kk10 hk10 v1 v2 v4 H locs ls h hP hS hl
    unfold f_X3_firstFaultOfParts_39 at h
    refine lv_iconst (v := 0) hx hb dX3_firstFaultOfParts_39 (by decide) ?_
    exact J_40 kk10 hk10 v1 v2 v4 (0 : Int32) _ _ _ h hP hS (lv_sub hl [0, 1, 2, 3] rfl)
  have J_10 : ∀ (fu : Nat), ∀ (v1 : Int32) (v2 : Int32) (v4 : Int32) (H : Heap) (locs : List Loc) (ls : Array Slot), f_X3_firstFaultOfParts_10 S_len S_let fu v1 v2 v4 = some r_ → va_P G.1 vwCl (W_S G s0 s1 S_len S_let) H → va_S A s.heap H locs → lv_has ls 8 [(0, .ref s0), (1, .int v1), (2, .int v2), (4, .int v4)] → W p l e (rmv 3 63) s m (List.toArray [.ref s0]) below meth c H locs 0 0 (MQ below ((QI G r_ (W_S G s0 s1 S_len S_let)) A) (List.toArray [.ref s0]) s 0 0 A) (F0 m 10 ls []) := by
    intro  fu
    induction fu with
    | zero =>
      intro v1 v2 v4 H locs ls h
      cases h
    | succ fu ih =>
      intro v1 v2 v4 H locs ls h hP hS hl
      rw [f_X3_firstFaultOfParts_10] at h
      refine lv_iload hx hb dX3_firstFaultOfParts_10 (lv_at hl 3 rfl) ?_
      refine lv_aload_n hx hb dX3_firstFaultOfParts_12 rfl (lv_at hl 0 rfl) ?_
      refine va_get (ci := 3) (C := RX3) (T := TX3) (N := 2) hx hb hts inX3 hown hK.1 hP 0 rfl rfl 1 (by decide) fl15 (fun _ h9 => h9) rfl dX3_firstFaultOfParts_13 ?_
      refine lv_icmp_ge (tgt := 156) hx hb dX3_firstFaultOfParts_16 (by decide) (fun cc_16 => ?_) (fun cc_16 => ?_)
      · replace h := if_t cc_16 h
        refine lv_bipush (v := (-9)) hx hb dX3_firstFaultOfParts_156 (by decide) ?_
        cases h
        exact W.iret hx hb hr (fun t ht _ => ⟨⟨_, (), rfl, rfl, by rw [ht]; exact hP⟩, hS.F ht⟩) hS.2.2 dX3_firstFaultOfParts_158
      · replace h := if_f cc_16 h
        refine lv_aload_n hx hb dX3_firstFaultOfParts_19 rfl (lv_at hl 0 rfl) ?_
        refine lv_iload hx hb dX3_firstFaultOfParts_20 (lv_at hl 3 rfl) ?_
        obtain ⟨rr_17, ee_18, h⟩ := bnd1_s h
        refine cVi (As := [.int v4]) (rest := []) S0 hK hA (va_D_same hD rfl) hP hS [0, 1] (k_X3_letterAt l G s0 s1 S_len S_let v4 rr_17 ee_18) cw_X3_letterAt rfl rfl (Nat.le_of_ble_eq_true rfl) 3 0 rfl rfl rfl rfl hl.1 rfl (Nat.le_of_ble_eq_true rfl) dX3_firstFaultOfParts_22 ⟨Nat.zero_le _, Nat.zero_le _⟩ (fun H locs hP hS => ?_)
        replace hP : va_P G.1 vwCl (W_S G s0 s1 S_len S_let) H := hP
        refine lv_bipush (v := 78) hx hb dX3_firstFaultOfParts_25 (by decide) ?_
        refine lv_icmp_ne (tgt := 39) hx hb dX3_firstFaultOfParts_27 (by decide) (fun cc_19 => ?_) (fun cc_19 => ?_)
        · replace h := if_f cc_19 h
          exact J_39 (f_X3_firstFaultOfParts_10 S_len S_let fu) ih v1 v2 v4 _ _ _ h hP hS (lv_sub hl [0, 1, 2, 3] rfl)
        · replace h := if_t cc_19 h
          refine lv_iload_n hx hb dX3_firstFaultOfParts_30 rfl (lv_at hl 1 rfl) ?_
          refine lv_iconst (v := 5) hx hb dX3_firstFaultOfParts_31 (by decide) ?_
          refine lv_icmp_ge (tgt := 39) hx hb dX3_firstFaultOfParts_32 (by decide) (fun cc_20 => ?_) (fun cc_20 => ?_)
          · replace h := if_t cc_20 h
            exact J_39 (f_X3_firstFaultOfParts_10 S_len S_let fu) ih v1 v2 v4 _ _ _ h hP hS (lv_sub hl [0, 1, 2, 3] rfl)
          · replace h := if_f cc_20 h
            refine lv_iconst (v := 1) hx hb dX3_firstFaultOfParts_35 (by decide) ?_
            refine lv_goto (tgt := 40) hx hb dX3_firstFaultOfParts_36 (by decide) ?_
            exact J_40 (f_X3_firstFaultOfParts_10 S_len S_let fu) ih v1 v2 v4 (1 : Int32) _ _ _ h hP hS (lv_sub hl [0, 1, 2, 3] rfl)
  unfold f_X3_firstFaultOfParts at h
  refine lv_iconst (v := 0) hx hb dX3_firstFaultOfParts_0 (by decide) ?_
  refine lv_istore_n (lv' := [(1, .int (0 : Int32)), (0, .ref s0)]) hx hb dX3_firstFaultOfParts_1 rfl hl (by decide) rfl (fun ls hl => ?_)
  refine lv_iconst (v := 0) hx hb dX3_firstFaultOfParts_2 (by decide) ?_
  refine lv_istore_n (lv' := [(2, .int (0 : Int32)), (1, .int (0 : Int32)), (0, .ref s0)]) hx hb dX3_firstFaultOfParts_3 rfl hl (by decide) rfl (fun ls hl => ?_)
  refine lv_iconst (v := 0) hx hb dX3_firstFaultOfParts_4 (by decide) ?_
  refine lv_istore_n (lv' := [(3, .int (0 : Int32)), (2, .int (0 : Int32)), (1, .int (0 : Int32)), (0, .ref s0)]) hx hb dX3_firstFaultOfParts_5 rfl hl (by decide) rfl (fun ls hl => ?_)
  refine lv_bipush (v := 9) hx hb dX3_firstFaultOfParts_6 (by decide) ?_
  refine lv_istore (lv' := [(4, .int (9 : Int32)), (3, .int (0 : Int32)), (2, .int (0 : Int32)), (1, .int (0 : Int32)), (0, .ref s0)]) hx hb dX3_firstFaultOfParts_8 hl (by decide) rfl (fun ls hl => ?_)
  exact J_10  130 (0 : Int32) (0 : Int32) (9 : Int32) _ _ _ h hP hS (lv_sub hl [4, 3, 2, 0] rfl)
def f_X3_firstFault_14 (S_len : Int32) (S_let : Nat → Int32) : Nat → Int32 → Option (Int32)
  | 0, _ => none
  | fu + 1, v1 => if (9 : Int32) ≤ v1 then (bnd1 (f_X3_firstFaultOfParts S_len S_let) (fun rr_2 => some rr_2)) else (bnd1 (f_X3_figureAt S_len S_let v1) (fun rr_4 => bnd1 (f_X5_within rr_4 (0 : Int32) (9 : Int32)) (fun rr_6 => if rr_6 = 0 then (some v1) else (f_X3_firstFault_14 S_len S_let fu (v1 + 1)))))
def f_X3_firstFault (S_len : Int32) (S_let : Nat → Int32) : Option (Int32) := bnd1 (f_X3_letterAt S_len S_let (0 : Int32)) (fun rr_9 => if rr_9 = (66 : Int32) then (f_X3_firstFault_14 S_len S_let  130 (1 : Int32)) else (some (0 : Int32)))
set_option maxRecDepth 100000 in
set_option maxHeartbeats 4000000 in
theorem k_X3_firstFault (l : Launch) (G : Gt) (s0 s1 : Nat) (S_len : Int32) (S_let : Nat → Int32) (r_ : Int32) (h : f_X3_firstFault S_len S_let = some r_) : CT l yX3_firstFault wsX3_firstFault 4 90 G [.ref s0] (W_S G s0 s1 S_len S_let) (QI G r_ (W_S G s0 s1 S_len S_let)) := by
  refine met_of cX3_firstFault 2 (some .int) (by decide) rfl (Nat.le_of_ble_eq_true rfl) ?_
  intro p e s m below meth c A ls hx hb hr hml hts hown hlocks hK hA hD hP hS hl
  replace hown : s.vm.findClass RX3 = some m.cls := hown
  replace hl : lv_has ls 2 [(0, .ref s0)] := hl
  have S0 : CallFix p m c cX3_firstFault 2 s _ wsX3_firstFault RX3 := ⟨hx, hb, hml, hown, hts⟩
  have cw_X3_firstFaultOfParts := show CallW (rmv 4 90) s _ RX3 RX3 30 yX3_firstFaultOfParts cX3_firstFaultOfParts 8 (some .int) wsX3_firstFaultOfParts (rmv 3 63) 0 0 0 from cwV 0 hts gX3_firstFault_X3_firstFaultOfParts rfl rfl rfl (by decide +kernel) ⟨Nat.le_of_ble_eq_true rfl, Nat.le_of_ble_eq_true rfl⟩
  have cw_X3_figureAt := show CallW (rmv 4 90) s _ RX3 RX3 23 yX3_figureAt cX3_figureAt 2 (some .int) wsX3_figureAt (rmv 1 21) 0 0 1 from cwV 1 hts gX3_firstFault_X3_figureAt rfl rfl rfl (by decide +kernel) ⟨Nat.le_of_ble_eq_true rfl, Nat.le_of_ble_eq_true rfl⟩
  have cw_X5_within := show va_CN (rmv 4 90) s _ RX3 26 yX5_within "DustVote" cX5_within 3 (some .boolean) wsX5_within (rmv 0 0) 0 0 3 ∧ (Cond.static yX5_within).before _ s = true ∧ True from ⟨va_cnB 3 hts gX3_firstFault_X5_within_n26 rfl rfl rfl (hK.m (by decide)) (hts (.initialized RX5) (by decide +kernel)) (by decide +kernel) ⟨Nat.le_of_ble_eq_true rfl, Nat.le_of_ble_eq_true rfl⟩, hts (.static yX5_within) (by decide +kernel), trivial⟩
  have cw_X3_letterAt := show CallW (rmv 4 90) s _ RX3 RX3 19 yX3_letterAt cX3_letterAt 2 (some .int) wsX3_letterAt (rmv 0 0) 0 0 1 from cwV 1 hts gX3_firstFault_X3_letterAt rfl rfl rfl (by decide +kernel) ⟨Nat.le_of_ble_eq_true rfl, Nat.le_of_ble_eq_true rfl⟩
  have J_14 : ∀ (fu : Nat), ∀ (v1 : Int32) (H : Heap) (locs : List Loc) (ls : Array Slot), f_X3_firstFault_14 S_len S_let fu v1 = some r_ → va_P G.1 vwCl (W_S G s0 s1 S_len S_let) H → va_S A s.heap H locs → lv_has ls 2 [(0, .ref s0), (1, .int v1)] → W p l e (rmv 4 90) s m (List.toArray [.ref s0]) below meth c H locs 0 0 (MQ below ((QI G r_ (W_S G s0 s1 S_len S_let)) A) (List.toArray [.ref s0]) s 0 0 A) (F0 m 14 ls []) := by
    intro  fu
    induction fu with
    | zero =>
      intro v1 H locs ls h
      cases h
    | succ fu ih =>
      intro v1 H locs ls h hP hS hl
      rw [f_X3_firstFault_14] at h
      refine lv_iload_n hx hb dX3_firstFault_14 rfl (lv_at hl 1 rfl) ?_
      refine lv_bipush (v := 9) hx hb dX3_firstFault_15 (by decide) ?_
      refine lv_icmp_ge (tgt := 42) hx hb dX3_firstFault_17 (by decide) (fun cc_1 => ?_) (fun cc_1 => ?_)
      · replace h := if_t cc_1 h
        refine lv_aload_n hx hb dX3_firstFault_42 rfl (lv_at hl 0 rfl) ?_
        obtain ⟨rr_2, ee_3, h⟩ := bnd1_s h
        refine cVi (As := []) (rest := []) S0 hK hA (va_D_same hD rfl) hP hS [0, 1] (k_X3_firstFaultOfParts l G s0 s1 S_len S_let rr_2 ee_3) cw_X3_firstFaultOfParts rfl rfl (Nat.le_of_ble_eq_true rfl) 3 0 rfl rfl rfl rfl hl.1 rfl (Nat.le_of_ble_eq_true rfl) dX3_firstFault_43 ⟨Nat.zero_le _, Nat.zero_le _⟩ (fun H locs hP hS => ?_)
        replace hP : va_P G.1 vwCl (W_S G s0 s1 S_len S_let) H := hP
        cases h
        exact W.iret hx hb hr (fun t ht _ => ⟨⟨_, (), rfl, rfl, by rw [ht]; exact hP⟩, hS.F ht⟩) hS.2.2 dX3_firstFault_46
      · replace h := if_f cc_1 h
        refine lv_aload_n hx hb dX3_firstFault_20 rfl (lv_at hl 0 rfl) ?_
        refine lv_iload_n hx hb dX3_firstFault_21 rfl (lv_at hl 1 rfl) ?_
        obtain ⟨rr_4, ee_5, h⟩ := bnd1_s h
        refine cVi (As := [.int v1]) (rest := []) S0 hK hA (va_D_same hD rfl) hP hS [0, 1] (k_X3_figureAt l G s0 s1 S_len S_let v1 rr_4 ee_5) cw_X3_figureAt rfl rfl (Nat.le_of_ble_eq_true rfl) 3 0 rfl rfl rfl rfl hl.1 rfl (Nat.le_of_ble_eq_true rfl) dX3_firstFault_22 ⟨Nat.zero_le _, Nat.zero_le _⟩ (fun H locs hP hS => ?_)
        replace hP : va_P G.1 vwCl (W_S G s0 s1 S_len S_let) H := hP
        refine lv_iconst (v := 0) hx hb dX3_firstFault_25 (by decide) ?_
        refine lv_bipush (v := 9) hx hb dX3_firstFault_26 (by decide) ?_
        obtain ⟨rr_6, ee_7, h⟩ := bnd1_s h
        refine cNi (As := [.int rr_4, .int (0 : Int32), .int (9 : Int32)]) (rest := []) S0 hK hA (va_D_same hD rfl) hP hS [] (k_X5_within l G rr_4 (0 : Int32) (9 : Int32) rr_6 ee_7) cw_X5_within rfl rfl (Nat.le_of_ble_eq_true rfl) rfl hl.1 rfl (Nat.le_of_ble_eq_true rfl) dX3_firstFault_28 ⟨Nat.zero_le _, Nat.zero_le _⟩ (fun H locs hP hS => ?_)
        replace hP : va_P G.1 vwCl (W_S G s0 s1 S_len S_let) H := hP
        refine lv_if_ne (tgt := 36) hx hb dX3_firstFault_31 (by decide) (fun cc_8 => ?_) (fun cc_8 => ?_)
        · replace h := if_f cc_8 h
          refine lv_iinc (v := (v1 + 1)) (lv' := [(1, .int (v1 + 1)), (0, .ref s0)]) hx hb dX3_firstFault_36 hl (k := 1) rfl rfl (by decide) rfl (fun ls hl => ?_)
          refine lv_goto (tgt := 14) hx hb dX3_firstFault_39 (by decide) ?_
          exact ih (v1 + 1) _ _ _ h hP hS (lv_sub hl [1, 0] rfl)
        · replace h := if_t cc_8 h
          refine lv_iload_n hx hb dX3_firstFault_34 rfl (lv_at hl 1 rfl) ?_
          cases h
          exact W.iret hx hb hr (fun t ht _ => ⟨⟨_, (), rfl, rfl, by rw [ht]; exact hP⟩, hS.F ht⟩) hS.2.2 dX3_firstFault_35
  unfold f_X3_firstFault at h
  refine lv_aload_n hx hb dX3_firstFault_0 rfl (lv_at hl 0 rfl) ?_
  refine lv_iconst (v := 0) hx hb dX3_firstFault_1 (by decide) ?_
  obtain ⟨rr_9, ee_10, h⟩ := bnd1_s h
  refine cVi (As := [.int (0 : Int32)]) (rest := []) S0 hK hA (va_D_same hD rfl) hP hS [0, 1] (k_X3_letterAt l G s0 s1 S_len S_let (0 : Int32) rr_9 ee_10) cw_X3_letterAt rfl rfl (Nat.le_of_ble_eq_true rfl) 3 0 rfl rfl rfl rfl hl.1 rfl (Nat.le_of_ble_eq_true rfl) dX3_firstFault_2 ⟨Nat.zero_le _, Nat.zero_le _⟩ (fun H locs hP hS => ?_)
  replace hP : va_P G.1 vwCl (W_S G s0 s1 S_len S_let) H := hP
  refine lv_bipush (v := 66) hx hb dX3_firstFault_5 (by decide) ?_
  refine lv_icmp_eq (tgt := 12) hx hb dX3_firstFault_7 (by decide) (fun cc_11 => ?_) (fun cc_11 => ?_)
  · replace h := if_t cc_11 h
    refine lv_iconst (v := 1) hx hb dX3_firstFault_12 (by decide) ?_
    refine lv_istore_n (lv' := [(1, .int (1 : Int32)), (0, .ref s0)]) hx hb dX3_firstFault_13 rfl hl (by decide) rfl (fun ls hl => ?_)
    exact J_14  130 (1 : Int32) _ _ _ h hP hS (lv_sub hl [1, 0] rfl)
  · replace h := if_f cc_11 h
    refine lv_iconst (v := 0) hx hb dX3_firstFault_10 (by decide) ?_
    cases h
    exact W.iret hx hb hr (fun t ht _ => ⟨⟨_, (), rfl, rfl, by rw [ht]; exact hP⟩, hS.F ht⟩) hS.2.2 dX3_firstFault_11
def f_X5_fault (S_len : Int32) (S_let : Nat → Int32) : Option (Int32) := bnd1 (f_X3_firstFault S_len S_let) (fun rr_1 => some rr_1)
set_option maxRecDepth 100000 in
set_option maxHeartbeats 4000000 in
theorem k_X5_fault (l : Launch) (G : Gt) (x0 s0 s1 t0 t1 t2 t3 t4 t5 t6 n0 n1 n2 n3 r0 r1 r2 r3 a0 a1 p0 p1 p2 p3 k0 j0 : Nat) (X_ch : Int64) (S_len : Int32) (S_let : Nat → Int32) (T_br : Int32) (T_fa : Int32) (T_fd : Nat → Int32) (T_fp : Nat → Int32) (T_st : Nat → Int32) (T_kd : Nat → Int32) (T_fs : Nat → Int32) (T_fl : Nat → Int32) (N_gi : Int32) (N_be : Int32) (N_da : Int32) (N_du : Nat → Int32) (N_pl : Nat → Int32) (N_de : Nat → Int32) (R_gi : Int32) (R_be : Int32) (R_da : Int32) (R_du : Nat → Int32) (R_pl : Nat → Int32) (R_de : Nat → Int32) (A_fi : Int32) (A_si : Int32) (A_ce : Nat → Int32) (P_si : Int32) (P_be : Nat → Int32) (P_le : Nat → Int32) (P_go : Nat → Int32) (K_sl : Nat → Int32) (J_fi : Nat → Int32) (r_ : Int32) (h : f_X5_fault S_len S_let = some r_) : CT l yX5_fault wsX5_fault 5 111 G [.ref x0] (W_F G x0 s0 s1 t0 t1 t2 t3 t4 t5 t6 n0 n1 n2 n3 r0 r1 r2 r3 a0 a1 p0 p1 p2 p3 k0 j0 X_ch S_len S_let T_br T_fa T_fd T_fp T_st T_kd T_fs T_fl N_gi N_be N_da N_du N_pl N_de R_gi R_be R_da R_du R_pl R_de A_fi A_si A_ce P_si P_be P_le P_go K_sl J_fi) (QI G r_ (W_F G x0 s0 s1 t0 t1 t2 t3 t4 t5 t6 n0 n1 n2 n3 r0 r1 r2 r3 a0 a1 p0 p1 p2 p3 k0 j0 X_ch S_len S_let T_br T_fa T_fd T_fp T_st T_kd T_fs T_fl N_gi N_be N_da N_du N_pl N_de R_gi R_be R_da R_du R_pl R_de A_fi A_si A_ce P_si P_be P_le P_go K_sl J_fi)) := by
  refine met_of cX5_fault 1 (some .int) (by decide) rfl (Nat.le_of_ble_eq_true rfl) ?_
  intro p e s m below meth c A ls hx hb hr hml hts hown hlocks hK hA hD hP hS hl
  replace hown : s.vm.findClass RX5 = some m.cls := hown
  replace hl : lv_has ls 1 [(0, .ref x0)] := hl
  have S0 : CallFix p m c cX5_fault 1 s _ wsX5_fault RX5 := ⟨hx, hb, hml, hown, hts⟩
  have fl12 := hts (.fieldLink RX5 12 "DustVote" "script" "LDustVote$Script;") (by decide +kernel)
  have inX5 := show ∀ w ∈ wsX50, w ∈ wsX5_fault from by decide +kernel
  have cw_X3_firstFault := show CallW (rmv 5 111) s _ RX5 RX3 73 yX3_firstFault cX3_firstFault 2 (some .int) wsX3_firstFault (rmv 4 90) 0 0 0 from cwV 0 hts gX5_fault_X3_firstFault rfl rfl rfl (by decide +kernel) ⟨Nat.le_of_ble_eq_true rfl, Nat.le_of_ble_eq_true rfl⟩
  unfold f_X5_fault at h
  refine lv_aload_n hx hb dX5_fault_0 rfl (lv_at hl 0 rfl) ?_
  refine va_get (ci := 5) (C := RX5) (T := TX5) (N := 9) hx hb hts inX5 hown hK.1 hP 0 rfl rfl 0 (by decide) fl12 (fun _ h9 => h9) rfl dX5_fault_1 ?_
  obtain ⟨rr_1, ee_2, h⟩ := bnd1_s h
  refine cVi (As := []) (rest := []) S0 hK hA (va_D_same hD rfl) hP hS [1, 2] (k_X3_firstFault l G s0 s1 S_len S_let rr_1 ee_2) cw_X3_firstFault rfl rfl (Nat.le_of_ble_eq_true rfl) 3 0 rfl rfl rfl rfl hl.1 rfl (Nat.le_of_ble_eq_true rfl) dX5_fault_4 ⟨Nat.zero_le _, Nat.zero_le _⟩ (fun H locs hP hS => ?_)
  replace hP : va_P G.1 vwCl (W_F G x0 s0 s1 t0 t1 t2 t3 t4 t5 t6 n0 n1 n2 n3 r0 r1 r2 r3 a0 a1 p0 p1 p2 p3 k0 j0 X_ch S_len S_let T_br T_fa T_fd T_fp T_st T_kd T_fs T_fl N_gi N_be N_da N_du N_pl N_de R_gi R_be R_da R_du R_pl R_de A_fi A_si A_ce P_si P_be P_le P_go K_sl J_fi) H := hP
  cases h
  exact W.iret hx hb hr (fun t ht _ => ⟨⟨_, (), rfl, rfl, by rw [ht]; exact hP⟩, hS.F ht⟩) hS.2.2 dX5_fault_7
def f_X4_addBroom (T_br : Int32) (T_fp : Nat → Int32) (T_st : Nat → Int32) (T_kd : Nat → Int32) (S_len : Int32) (S_let : Nat → Int32) (u2 : Int32) : Option (Int32 × (Nat → Int32) × (Nat → Int32) × (Nat → Int32)) := if (5 : Int32) ≤ T_br then (some (T_br, T_fp, T_st, T_kd)) else (bnd1 (f_X3_figureAt S_len S_let (u2 + (1 : Int32))) (fun rr_2 => bnd1 (wr T_fp 5 T_br rr_2) (fun dd_4 => bnd1 (f_X3_figureAt S_len S_let (u2 + (2 : Int32))) (fun rr_6 => bnd1 (wr T_st 5 T_br rr_6) (fun dd_8 => bnd1 (f_X3_figureAt S_len S_let (u2 + (3 : Int32))) (fun rr_10 => bnd1 (wr T_kd 5 T_br rr_10) (fun dd_12 => some ((T_br + (1 : Int32)), dd_4, dd_8, dd_12))))))))
set_option maxRecDepth 100000 in
set_option maxHeartbeats 4000000 in
theorem k_X4_addBroom (l : Launch) (G : Gt) (t0 t1 t2 t3 t4 t5 t6 s0 s1 : Nat) (T_br : Int32) (T_fa : Int32) (T_fd : Nat → Int32) (T_fp : Nat → Int32) (T_st : Nat → Int32) (T_kd : Nat → Int32) (T_fs : Nat → Int32) (T_fl : Nat → Int32) (S_len : Int32) (S_let : Nat → Int32) (u2 : Int32) (o_T_br : Int32) (o_T_fp : Nat → Int32) (o_T_st : Nat → Int32) (o_T_kd : Nat → Int32) (h : f_X4_addBroom T_br T_fp T_st T_kd S_len S_let u2 = some (o_T_br, o_T_fp, o_T_st, o_T_kd)) : CT l yX4_addBroom wsX4_addBroom 2 42 G [.ref t0, .ref s0, .int u2] (W_TS G t0 t1 t2 t3 t4 t5 t6 s0 s1 T_br T_fa T_fd T_fp T_st T_kd T_fs T_fl S_len S_let) (QV G (W_TS G t0 t1 t2 t3 t4 t5 t6 s0 s1 o_T_br T_fa T_fd o_T_fp o_T_st o_T_kd T_fs T_fl S_len S_let)) := by
  refine met_of cX4_addBroom 3 none (by decide) rfl (Nat.le_of_ble_eq_true rfl) ?_
  intro p e s m below meth c A ls hx hb hr hml hts hown hlocks hK hA hD hP hS hl
  replace hown : s.vm.findClass RX4 = some m.cls := hown
  replace hl : lv_has ls 3 [(0, .ref t0), (1, .ref s0), (2, .int u2)] := hl
  have S0 : CallFix p m c cX4_addBroom 3 s _ wsX4_addBroom RX4 := ⟨hx, hb, hml, hown, hts⟩
  have fl30 := hts (.fieldLink RX4 30 "DustVote$Told" "brooms" "I") (by decide +kernel)
  have inX4 := show ∀ w ∈ wsX40, w ∈ wsX4_addBroom from by decide +kernel
  have fl15 := hts (.fieldLink RX4 15 "DustVote$Told" "firstPlace" "[I") (by decide +kernel)
  have cw_X3_figureAt := show CallW (rmv 2 42) s _ RX4 RX3 37 yX3_figureAt cX3_figureAt 2 (some .int) wsX3_figureAt (rmv 1 21) 0 0 1 from cwV 1 hts gX4_addBroom_X3_figureAt rfl rfl rfl (by decide +kernel) ⟨Nat.le_of_ble_eq_true rfl, Nat.le_of_ble_eq_true rfl⟩
  have fl18 := hts (.fieldLink RX4 18 "DustVote$Told" "strength" "[I") (by decide +kernel)
  have fl21 := hts (.fieldLink RX4 21 "DustVote$Told" "kind" "[I") (by decide +kernel)
  unfold f_X4_addBroom at h
  refine lv_aload_n hx hb dX4_addBroom_0 rfl (lv_at hl 0 rfl) ?_
  refine va_get (ci := 4) (C := RX4) (T := TX4) (N := 8) hx hb hts inX4 hown hK.1 hP 0 rfl rfl 6 (by decide) fl30 (fun _ h9 => h9) rfl dX4_addBroom_1 ?_
  refine lv_iconst (v := 5) hx hb dX4_addBroom_4 (by decide) ?_
  refine lv_icmp_ge (tgt := 66) hx hb dX4_addBroom_5 (by decide) (fun cc_1 => ?_) (fun cc_1 => ?_)
  · replace h := if_t cc_1 h
    cases h
    exact W.vret hx hb hr (fun t ht _ => ⟨⟨(), rfl, trivial, by rw [ht]; exact hP⟩, hS.F ht⟩) hS.2.2 dX4_addBroom_66
  · replace h := if_f cc_1 h
    refine lv_aload_n hx hb dX4_addBroom_8 rfl (lv_at hl 0 rfl) ?_
    refine va_get (ci := 4) (C := RX4) (T := TX4) (N := 8) hx hb hts inX4 hown hK.1 hP 0 rfl rfl 1 (by decide) fl15 (fun _ h9 => h9) rfl dX4_addBroom_9 ?_
    refine lv_aload_n hx hb dX4_addBroom_12 rfl (lv_at hl 0 rfl) ?_
    refine va_get (ci := 4) (C := RX4) (T := TX4) (N := 8) hx hb hts inX4 hown hK.1 hP 0 rfl rfl 6 (by decide) fl30 (fun _ h9 => h9) rfl dX4_addBroom_13 ?_
    refine lv_aload_n hx hb dX4_addBroom_16 rfl (lv_at hl 1 rfl) ?_
    refine lv_iload_n hx hb dX4_addBroom_17 rfl (lv_at hl 2 rfl) ?_
    refine lv_iconst (v := 1) hx hb dX4_addBroom_18 (by decide) ?_
    refine lv_iadd hx hb dX4_addBroom_19 ?_
    obtain ⟨rr_2, ee_3, h⟩ := bnd1_s h
    refine cVi (As := [.int (u2 + (1 : Int32))]) (rest := [.int T_br, .ref t2]) S0 hK hA (va_D_same hD rfl) hP hS [7, 8] (k_X3_figureAt l G s0 s1 S_len S_let (u2 + (1 : Int32)) rr_2 ee_3) cw_X3_figureAt rfl rfl (Nat.le_of_ble_eq_true rfl) 3 0 rfl rfl rfl rfl hl.1 rfl (Nat.le_of_ble_eq_true rfl) dX4_addBroom_20 ⟨Nat.zero_le _, Nat.zero_le _⟩ (fun H locs hP hS => ?_)
    replace hP : va_P G.1 vwCl (W_TS G t0 t1 t2 t3 t4 t5 t6 s0 s1 T_br T_fa T_fd T_fp T_st T_kd T_fs T_fl S_len S_let) H := hP
    obtain ⟨dd_4, ee_5, h⟩ := bnd1_s h
    refine wIast hx hb hK hP (va_D_same hD rfl) hS 2 rfl ee_5 dX4_addBroom_23 (fun H locs hP hS => ?_)
    replace hP : va_P G.1 vwCl (W_TS G t0 t1 t2 t3 t4 t5 t6 s0 s1 T_br T_fa T_fd dd_4 T_st T_kd T_fs T_fl S_len S_let) H := hP
    refine lv_aload_n hx hb dX4_addBroom_24 rfl (lv_at hl 0 rfl) ?_
    refine va_get (ci := 4) (C := RX4) (T := TX4) (N := 8) hx hb hts inX4 hown hK.1 hP 0 rfl rfl 2 (by decide) fl18 (fun _ h9 => h9) rfl dX4_addBroom_25 ?_
    refine lv_aload_n hx hb dX4_addBroom_28 rfl (lv_at hl 0 rfl) ?_
    refine va_get (ci := 4) (C := RX4) (T := TX4) (N := 8) hx hb hts inX4 hown hK.1 hP 0 rfl rfl 6 (by decide) fl30 (fun _ h9 => h9) rfl dX4_addBroom_29 ?_
    refine lv_aload_n hx hb dX4_addBroom_32 rfl (lv_at hl 1 rfl) ?_
    refine lv_iload_n hx hb dX4_addBroom_33 rfl (lv_at hl 2 rfl) ?_
    refine lv_iconst (v := 2) hx hb dX4_addBroom_34 (by decide) ?_
    refine lv_iadd hx hb dX4_addBroom_35 ?_
    obtain ⟨rr_6, ee_7, h⟩ := bnd1_s h
    refine cVi (As := [.int (u2 + (2 : Int32))]) (rest := [.int T_br, .ref t3]) S0 hK hA (va_D_same hD rfl) hP hS [7, 8] (k_X3_figureAt l G s0 s1 S_len S_let (u2 + (2 : Int32)) rr_6 ee_7) cw_X3_figureAt rfl rfl (Nat.le_of_ble_eq_true rfl) 3 0 rfl rfl rfl rfl hl.1 rfl (Nat.le_of_ble_eq_true rfl) dX4_addBroom_36 ⟨Nat.zero_le _, Nat.zero_le _⟩ (fun H locs hP hS => ?_)
    replace hP : va_P G.1 vwCl (W_TS G t0 t1 t2 t3 t4 t5 t6 s0 s1 T_br T_fa T_fd dd_4 T_st T_kd T_fs T_fl S_len S_let) H := hP
    obtain ⟨dd_8, ee_9, h⟩ := bnd1_s h
    refine wIast hx hb hK hP (va_D_same hD rfl) hS 3 rfl ee_9 dX4_addBroom_39 (fun H locs hP hS => ?_)
    replace hP : va_P G.1 vwCl (W_TS G t0 t1 t2 t3 t4 t5 t6 s0 s1 T_br T_fa T_fd dd_4 dd_8 T_kd T_fs T_fl S_len S_let) H := hP
    refine lv_aload_n hx hb dX4_addBroom_40 rfl (lv_at hl 0 rfl) ?_
    refine va_get (ci := 4) (C := RX4) (T := TX4) (N := 8) hx hb hts inX4 hown hK.1 hP 0 rfl rfl 3 (by decide) fl21 (fun _ h9 => h9) rfl dX4_addBroom_41 ?_
    refine lv_aload_n hx hb dX4_addBroom_44 rfl (lv_at hl 0 rfl) ?_
    refine va_get (ci := 4) (C := RX4) (T := TX4) (N := 8) hx hb hts inX4 hown hK.1 hP 0 rfl rfl 6 (by decide) fl30 (fun _ h9 => h9) rfl dX4_addBroom_45 ?_
    refine lv_aload_n hx hb dX4_addBroom_48 rfl (lv_at hl 1 rfl) ?_
    refine lv_iload_n hx hb dX4_addBroom_49 rfl (lv_at hl 2 rfl) ?_
    refine lv_iconst (v := 3) hx hb dX4_addBroom_50 (by decide) ?_
    refine lv_iadd hx hb dX4_addBroom_51 ?_
    obtain ⟨rr_10, ee_11, h⟩ := bnd1_s h
    refine cVi (As := [.int (u2 + (3 : Int32))]) (rest := [.int T_br, .ref t4]) S0 hK hA (va_D_same hD rfl) hP hS [7, 8] (k_X3_figureAt l G s0 s1 S_len S_let (u2 + (3 : Int32)) rr_10 ee_11) cw_X3_figureAt rfl rfl (Nat.le_of_ble_eq_true rfl) 3 0 rfl rfl rfl rfl hl.1 rfl (Nat.le_of_ble_eq_true rfl) dX4_addBroom_52 ⟨Nat.zero_le _, Nat.zero_le _⟩ (fun H locs hP hS => ?_)
    replace hP : va_P G.1 vwCl (W_TS G t0 t1 t2 t3 t4 t5 t6 s0 s1 T_br T_fa T_fd dd_4 dd_8 T_kd T_fs T_fl S_len S_let) H := hP
    obtain ⟨dd_12, ee_13, h⟩ := bnd1_s h
    refine wIast hx hb hK hP (va_D_same hD rfl) hS 4 rfl ee_13 dX4_addBroom_55 (fun H locs hP hS => ?_)
    replace hP : va_P G.1 vwCl (W_TS G t0 t1 t2 t3 t4 t5 t6 s0 s1 T_br T_fa T_fd dd_4 dd_8 dd_12 T_fs T_fl S_len S_let) H := hP
    refine lv_aload_n hx hb dX4_addBroom_56 rfl (lv_at hl 0 rfl) ?_
    refine lv_dup hx hb dX4_addBroom_57 rfl ?_
    refine va_get (ci := 4) (C := RX4) (T := TX4) (N := 8) hx hb hts inX4 hown hK.1 hP 0 rfl rfl 6 (by decide) fl30 (fun _ h9 => h9) rfl dX4_addBroom_58 ?_
    refine lv_iconst (v := 1) hx hb dX4_addBroom_61 (by decide) ?_
    refine lv_iadd hx hb dX4_addBroom_62 ?_
    refine va_put (ci := 4) (ty := .int) (C := RX4) (T := TX4) (N := 8) hx hb hts inX4 tyX4 tyX4_ok nmX4 hown hK.1 hP (va_D_same hD rfl) hS 0 rfl rfl 6 (by decide) fl30 (fun _ h9 => h9) rfl (by decide +kernel) rfl rfl (Nat.le_of_ble_eq_true rfl) dX4_addBroom_63 (fun H locs hP _ hS => ?_)
    replace hP : va_P G.1 vwCl (W_TS G t0 t1 t2 t3 t4 t5 t6 s0 s1 (T_br + (1 : Int32)) T_fa T_fd dd_4 dd_8 dd_12 T_fs T_fl S_len S_let) H := hP
    cases h
    exact W.vret hx hb hr (fun t ht _ => ⟨⟨(), rfl, trivial, by rw [ht]; exact hP⟩, hS.F ht⟩) hS.2.2 dX4_addBroom_66
def f_X4_addFall (T_fa : Int32) (T_fs : Nat → Int32) (T_fl : Nat → Int32) (S_len : Int32) (S_let : Nat → Int32) (u2 : Int32) : Option (Int32 × (Nat → Int32) × (Nat → Int32)) := if (5 : Int32) ≤ T_fa then (some (T_fa, T_fs, T_fl)) else (bnd1 (f_X3_figureAt S_len S_let (u2 + (1 : Int32))) (fun rr_2 => bnd1 (wr T_fs 5 T_fa rr_2) (fun dd_4 => bnd1 (f_X3_figureAt S_len S_let (u2 + (2 : Int32))) (fun rr_6 => bnd1 (wr T_fl 5 T_fa rr_6) (fun dd_8 => some ((T_fa + (1 : Int32)), dd_4, dd_8))))))
set_option maxRecDepth 100000 in
set_option maxHeartbeats 4000000 in
theorem k_X4_addFall (l : Launch) (G : Gt) (t0 t1 t2 t3 t4 t5 t6 s0 s1 : Nat) (T_br : Int32) (T_fa : Int32) (T_fd : Nat → Int32) (T_fp : Nat → Int32) (T_st : Nat → Int32) (T_kd : Nat → Int32) (T_fs : Nat → Int32) (T_fl : Nat → Int32) (S_len : Int32) (S_let : Nat → Int32) (u2 : Int32) (o_T_fa : Int32) (o_T_fs : Nat → Int32) (o_T_fl : Nat → Int32) (h : f_X4_addFall T_fa T_fs T_fl S_len S_let u2 = some (o_T_fa, o_T_fs, o_T_fl)) : CT l yX4_addFall wsX4_addFall 2 42 G [.ref t0, .ref s0, .int u2] (W_TS G t0 t1 t2 t3 t4 t5 t6 s0 s1 T_br T_fa T_fd T_fp T_st T_kd T_fs T_fl S_len S_let) (QV G (W_TS G t0 t1 t2 t3 t4 t5 t6 s0 s1 T_br o_T_fa T_fd T_fp T_st T_kd o_T_fs o_T_fl S_len S_let)) := by
  refine met_of cX4_addFall 3 none (by decide) rfl (Nat.le_of_ble_eq_true rfl) ?_
  intro p e s m below meth c A ls hx hb hr hml hts hown hlocks hK hA hD hP hS hl
  replace hown : s.vm.findClass RX4 = some m.cls := hown
  replace hl : lv_has ls 3 [(0, .ref t0), (1, .ref s0), (2, .int u2)] := hl
  have S0 : CallFix p m c cX4_addFall 3 s _ wsX4_addFall RX4 := ⟨hx, hb, hml, hown, hts⟩
  have fl34 := hts (.fieldLink RX4 34 "DustVote$Told" "falls" "I") (by decide +kernel)
  have inX4 := show ∀ w ∈ wsX40, w ∈ wsX4_addFall from by decide +kernel
  have fl24 := hts (.fieldLink RX4 24 "DustVote$Told" "fallStreet" "[I") (by decide +kernel)
  have cw_X3_figureAt := show CallW (rmv 2 42) s _ RX4 RX3 37 yX3_figureAt cX3_figureAt 2 (some .int) wsX3_figureAt (rmv 1 21) 0 0 1 from cwV 1 hts gX4_addFall_X3_figureAt rfl rfl rfl (by decide +kernel) ⟨Nat.le_of_ble_eq_true rfl, Nat.le_of_ble_eq_true rfl⟩
  have fl27 := hts (.fieldLink RX4 27 "DustVote$Told" "fallDust" "[I") (by decide +kernel)
  unfold f_X4_addFall at h
  refine lv_aload_n hx hb dX4_addFall_0 rfl (lv_at hl 0 rfl) ?_
  refine va_get (ci := 4) (C := RX4) (T := TX4) (N := 8) hx hb hts inX4 hown hK.1 hP 0 rfl rfl 7 (by decide) fl34 (fun _ h9 => h9) rfl dX4_addFall_1 ?_
  refine lv_iconst (v := 5) hx hb dX4_addFall_4 (by decide) ?_
  refine lv_icmp_ge (tgt := 50) hx hb dX4_addFall_5 (by decide) (fun cc_1 => ?_) (fun cc_1 => ?_)
  · replace h := if_t cc_1 h
    cases h
    exact W.vret hx hb hr (fun t ht _ => ⟨⟨(), rfl, trivial, by rw [ht]; exact hP⟩, hS.F ht⟩) hS.2.2 dX4_addFall_50
  · replace h := if_f cc_1 h
    refine lv_aload_n hx hb dX4_addFall_8 rfl (lv_at hl 0 rfl) ?_
    refine va_get (ci := 4) (C := RX4) (T := TX4) (N := 8) hx hb hts inX4 hown hK.1 hP 0 rfl rfl 4 (by decide) fl24 (fun _ h9 => h9) rfl dX4_addFall_9 ?_
    refine lv_aload_n hx hb dX4_addFall_12 rfl (lv_at hl 0 rfl) ?_
    refine va_get (ci := 4) (C := RX4) (T := TX4) (N := 8) hx hb hts inX4 hown hK.1 hP 0 rfl rfl 7 (by decide) fl34 (fun _ h9 => h9) rfl dX4_addFall_13 ?_
    refine lv_aload_n hx hb dX4_addFall_16 rfl (lv_at hl 1 rfl) ?_
    refine lv_iload_n hx hb dX4_addFall_17 rfl (lv_at hl 2 rfl) ?_
    refine lv_iconst (v := 1) hx hb dX4_addFall_18 (by decide) ?_
    refine lv_iadd hx hb dX4_addFall_19 ?_
    obtain ⟨rr_2, ee_3, h⟩ := bnd1_s h
    refine cVi (As := [.int (u2 + (1 : Int32))]) (rest := [.int T_fa, .ref t5]) S0 hK hA (va_D_same hD rfl) hP hS [7, 8] (k_X3_figureAt l G s0 s1 S_len S_let (u2 + (1 : Int32)) rr_2 ee_3) cw_X3_figureAt rfl rfl (Nat.le_of_ble_eq_true rfl) 3 0 rfl rfl rfl rfl hl.1 rfl (Nat.le_of_ble_eq_true rfl) dX4_addFall_20 ⟨Nat.zero_le _, Nat.zero_le _⟩ (fun H locs hP hS => ?_)
    replace hP : va_P G.1 vwCl (W_TS G t0 t1 t2 t3 t4 t5 t6 s0 s1 T_br T_fa T_fd T_fp T_st T_kd T_fs T_fl S_len S_let) H := hP
    obtain ⟨dd_4, ee_5, h⟩ := bnd1_s h
    refine wIast hx hb hK hP (va_D_same hD rfl) hS 5 rfl ee_5 dX4_addFall_23 (fun H locs hP hS => ?_)
    replace hP : va_P G.1 vwCl (W_TS G t0 t1 t2 t3 t4 t5 t6 s0 s1 T_br T_fa T_fd T_fp T_st T_kd dd_4 T_fl S_len S_let) H := hP
    refine lv_aload_n hx hb dX4_addFall_24 rfl (lv_at hl 0 rfl) ?_
    refine va_get (ci := 4) (C := RX4) (T := TX4) (N := 8) hx hb hts inX4 hown hK.1 hP 0 rfl rfl 5 (by decide) fl27 (fun _ h9 => h9) rfl dX4_addFall_25 ?_
    refine lv_aload_n hx hb dX4_addFall_28 rfl (lv_at hl 0 rfl) ?_
    refine va_get (ci := 4) (C := RX4) (T := TX4) (N := 8) hx hb hts inX4 hown hK.1 hP 0 rfl rfl 7 (by decide) fl34 (fun _ h9 => h9) rfl dX4_addFall_29 ?_
    refine lv_aload_n hx hb dX4_addFall_32 rfl (lv_at hl 1 rfl) ?_
    refine lv_iload_n hx hb dX4_addFall_33 rfl (lv_at hl 2 rfl) ?_
    refine lv_iconst (v := 2) hx hb dX4_addFall_34 (by decide) ?_
    refine lv_iadd hx hb dX4_addFall_35 ?_
    obtain ⟨rr_6, ee_7, h⟩ := bnd1_s h
    refine cVi (As := [.int (u2 + (2 : Int32))]) (rest := [.int T_fa, .ref t6]) S0 hK hA (va_D_same hD rfl) hP hS [7, 8] (k_X3_figureAt l G s0 s1 S_len S_let (u2 + (2 : Int32)) rr_6 ee_7) cw_X3_figureAt rfl rfl (Nat.le_of_ble_eq_true rfl) 3 0 rfl rfl rfl rfl hl.1 rfl (Nat.le_of_ble_eq_true rfl) dX4_addFall_36 ⟨Nat.zero_le _, Nat.zero_le _⟩ (fun H locs hP hS => ?_)
    replace hP : va_P G.1 vwCl (W_TS G t0 t1 t2 t3 t4 t5 t6 s0 s1 T_br T_fa T_fd T_fp T_st T_kd dd_4 T_fl S_len S_let) H := hP
    obtain ⟨dd_8, ee_9, h⟩ := bnd1_s h
    refine wIast hx hb hK hP (va_D_same hD rfl) hS 6 rfl ee_9 dX4_addFall_39 (fun H locs hP hS => ?_)
    replace hP : va_P G.1 vwCl (W_TS G t0 t1 t2 t3 t4 t5 t6 s0 s1 T_br T_fa T_fd T_fp T_st T_kd dd_4 dd_8 S_len S_let) H := hP
    refine lv_aload_n hx hb dX4_addFall_40 rfl (lv_at hl 0 rfl) ?_
    refine lv_dup hx hb dX4_addFall_41 rfl ?_
    refine va_get (ci := 4) (C := RX4) (T := TX4) (N := 8) hx hb hts inX4 hown hK.1 hP 0 rfl rfl 7 (by decide) fl34 (fun _ h9 => h9) rfl dX4_addFall_42 ?_
    refine lv_iconst (v := 1) hx hb dX4_addFall_45 (by decide) ?_
    refine lv_iadd hx hb dX4_addFall_46 ?_
    refine va_put (ci := 4) (ty := .int) (C := RX4) (T := TX4) (N := 8) hx hb hts inX4 tyX4 tyX4_ok nmX4 hown hK.1 hP (va_D_same hD rfl) hS 0 rfl rfl 7 (by decide) fl34 (fun _ h9 => h9) rfl (by decide +kernel) rfl rfl (Nat.le_of_ble_eq_true rfl) dX4_addFall_47 (fun H locs hP _ hS => ?_)
    replace hP : va_P G.1 vwCl (W_TS G t0 t1 t2 t3 t4 t5 t6 s0 s1 T_br (T_fa + (1 : Int32)) T_fd T_fp T_st T_kd dd_4 dd_8 S_len S_let) H := hP
    cases h
    exact W.vret hx hb hr (fun t ht _ => ⟨⟨(), rfl, trivial, by rw [ht]; exact hP⟩, hS.F ht⟩) hS.2.2 dX4_addFall_50
end
