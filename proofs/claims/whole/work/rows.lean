section
-- ===== PART A: goes FIRST, ahead of the names: the tables' words, and 'selects' of the private methods out of them =====
/-- a private method of a class that the tables say can be made, by its rows of tables_1 -/
def lw_okq (q : MethodName × Nat) : Prop := (q.1.cls ≠ "java/lang/invoke/MethodHandle" ∧ q.1.cls ≠ "java/lang/invoke/VarHandle") ∧ Cond.instantiable q.1.cls q.2 ∈ tables_1 ∧ Cond.privateMethod q.1 ∈ tables_1 ∧ Cond.instanceMethod q.1 ∈ tables_1
theorem lw_p0 : lw_okq (⟨"java/lang/Throwable", "fillInStackTrace", "(I)Ljava/lang/Throwable;"⟩, 6) := ⟨⟨by decide +kernel, by decide +kernel⟩, List.mem_of_getElem? (i := 268) (by decide +kernel), List.mem_of_getElem? (i := 266) (by decide +kernel), List.mem_of_getElem? (i := 267) (by decide +kernel)⟩
theorem lw_p1 : lw_okq (⟨"RuleSteps$Trees", "slotOf", "(III)I"⟩, 11) := ⟨⟨by decide +kernel, by decide +kernel⟩, List.mem_of_getElem? (i := 24) (by decide +kernel), List.mem_of_getElem? (i := 302) (by decide +kernel), List.mem_of_getElem? (i := 303) (by decide +kernel)⟩
theorem lw_p2 : lw_okq (⟨"RuleSteps$Trees", "enter", "(III)I"⟩, 11) := ⟨⟨by decide +kernel, by decide +kernel⟩, List.mem_of_getElem? (i := 24) (by decide +kernel), List.mem_of_getElem? (i := 306) (by decide +kernel), List.mem_of_getElem? (i := 307) (by decide +kernel)⟩
theorem lw_p3 : lw_okq (⟨"RuleSteps$Trees", "ownWeight", "(I)I"⟩, 11) := ⟨⟨by decide +kernel, by decide +kernel⟩, List.mem_of_getElem? (i := 24) (by decide +kernel), List.mem_of_getElem? (i := 310) (by decide +kernel), List.mem_of_getElem? (i := 311) (by decide +kernel)⟩
theorem lw_p4 : lw_okq (⟨"RuleSteps$Trees", "valueOf", "([III)I"⟩, 11) := ⟨⟨by decide +kernel, by decide +kernel⟩, List.mem_of_getElem? (i := 24) (by decide +kernel), List.mem_of_getElem? (i := 314) (by decide +kernel), List.mem_of_getElem? (i := 315) (by decide +kernel)⟩
theorem lw_p5 : lw_okq (⟨"RuleSteps$Trees", "noteHoles", "(I)V"⟩, 11) := ⟨⟨by decide +kernel, by decide +kernel⟩, List.mem_of_getElem? (i := 24) (by decide +kernel), List.mem_of_getElem? (i := 321) (by decide +kernel), List.mem_of_getElem? (i := 322) (by decide +kernel)⟩
theorem lw_p6 : lw_okq (⟨"RuleSteps$Trees", "holeCount", "(II)I"⟩, 11) := ⟨⟨by decide +kernel, by decide +kernel⟩, List.mem_of_getElem? (i := 24) (by decide +kernel), List.mem_of_getElem? (i := 325) (by decide +kernel), List.mem_of_getElem? (i := 326) (by decide +kernel)⟩
theorem lw_p7 : lw_okq (⟨"RuleSteps", "needTree", "(I)V"⟩, 7) := ⟨⟨by decide +kernel, by decide +kernel⟩, List.mem_of_getElem? (i := 16) (by decide +kernel), List.mem_of_getElem? (i := 364) (by decide +kernel), List.mem_of_getElem? (i := 365) (by decide +kernel)⟩
theorem lw_p8 : lw_okq (⟨"RuleSteps$Trees", "hasHolesOf", "(II)Z"⟩, 11) := ⟨⟨by decide +kernel, by decide +kernel⟩, List.mem_of_getElem? (i := 24) (by decide +kernel), List.mem_of_getElem? (i := 402) (by decide +kernel), List.mem_of_getElem? (i := 403) (by decide +kernel)⟩
theorem lw_p9 : lw_okq (⟨"RuleSteps", "needRule", "(I)V"⟩, 7) := ⟨⟨by decide +kernel, by decide +kernel⟩, List.mem_of_getElem? (i := 16) (by decide +kernel), List.mem_of_getElem? (i := 430) (by decide +kernel), List.mem_of_getElem? (i := 431) (by decide +kernel)⟩
theorem lw_p10 : lw_okq (⟨"RuleSteps", "needPlain", "(I)V"⟩, 7) := ⟨⟨by decide +kernel, by decide +kernel⟩, List.mem_of_getElem? (i := 16) (by decide +kernel), List.mem_of_getElem? (i := 442) (by decide +kernel), List.mem_of_getElem? (i := 443) (by decide +kernel)⟩
theorem lw_p11 : lw_okq (⟨"RuleSteps$Runner", "begin", "(Z)V"⟩, 12) := ⟨⟨by decide +kernel, by decide +kernel⟩, List.mem_of_getElem? (i := 119) (by decide +kernel), List.mem_of_getElem? (i := 452) (by decide +kernel), List.mem_of_getElem? (i := 453) (by decide +kernel)⟩
theorem lw_p12 : lw_okq (⟨"RuleSteps$Runner", "canStep", "(I)Z"⟩, 12) := ⟨⟨by decide +kernel, by decide +kernel⟩, List.mem_of_getElem? (i := 119) (by decide +kernel), List.mem_of_getElem? (i := 461) (by decide +kernel), List.mem_of_getElem? (i := 462) (by decide +kernel)⟩
theorem lw_p13 : lw_okq (⟨"RuleSteps$Runner", "lowestRule", "(I)I"⟩, 12) := ⟨⟨by decide +kernel, by decide +kernel⟩, List.mem_of_getElem? (i := 119) (by decide +kernel), List.mem_of_getElem? (i := 465) (by decide +kernel), List.mem_of_getElem? (i := 466) (by decide +kernel)⟩
theorem lw_p14 : lw_okq (⟨"RuleSteps$Runner", "matches", "(II)Z"⟩, 12) := ⟨⟨by decide +kernel, by decide +kernel⟩, List.mem_of_getElem? (i := 119) (by decide +kernel), List.mem_of_getElem? (i := 469) (by decide +kernel), List.mem_of_getElem? (i := 470) (by decide +kernel)⟩
theorem lw_p15 : lw_okq (⟨"RuleSteps$Runner", "fits", "(II)Z"⟩, 12) := ⟨⟨by decide +kernel, by decide +kernel⟩, List.mem_of_getElem? (i := 119) (by decide +kernel), List.mem_of_getElem? (i := 473) (by decide +kernel), List.mem_of_getElem? (i := 474) (by decide +kernel)⟩
def lw_privs_1 : List (MethodName × Nat) := [(⟨"java/lang/Throwable", "fillInStackTrace", "(I)Ljava/lang/Throwable;"⟩, 6), (⟨"RuleSteps$Trees", "slotOf", "(III)I"⟩, 11), (⟨"RuleSteps$Trees", "enter", "(III)I"⟩, 11), (⟨"RuleSteps$Trees", "ownWeight", "(I)I"⟩, 11), (⟨"RuleSteps$Trees", "valueOf", "([III)I"⟩, 11), (⟨"RuleSteps$Trees", "noteHoles", "(I)V"⟩, 11), (⟨"RuleSteps$Trees", "holeCount", "(II)I"⟩, 11), (⟨"RuleSteps", "needTree", "(I)V"⟩, 7), (⟨"RuleSteps$Trees", "hasHolesOf", "(II)Z"⟩, 11), (⟨"RuleSteps", "needRule", "(I)V"⟩, 7), (⟨"RuleSteps", "needPlain", "(I)V"⟩, 7), (⟨"RuleSteps$Runner", "begin", "(Z)V"⟩, 12), (⟨"RuleSteps$Runner", "canStep", "(I)Z"⟩, 12), (⟨"RuleSteps$Runner", "lowestRule", "(I)I"⟩, 12), (⟨"RuleSteps$Runner", "matches", "(II)Z"⟩, 12), (⟨"RuleSteps$Runner", "fits", "(II)Z"⟩, 12)]
theorem lw_r1 : ∀ q ∈ lw_privs_1, lw_okq q := List.forall_mem_cons.mpr ⟨lw_p0, List.forall_mem_cons.mpr ⟨lw_p1, List.forall_mem_cons.mpr ⟨lw_p2, List.forall_mem_cons.mpr ⟨lw_p3, List.forall_mem_cons.mpr ⟨lw_p4, List.forall_mem_cons.mpr ⟨lw_p5, List.forall_mem_cons.mpr ⟨lw_p6, List.forall_mem_cons.mpr ⟨lw_p7, List.forall_mem_cons.mpr ⟨lw_p8, List.forall_mem_cons.mpr ⟨lw_p9, List.forall_mem_cons.mpr ⟨lw_p10, List.forall_mem_cons.mpr ⟨lw_p11, List.forall_mem_cons.mpr ⟨lw_p12, List.forall_mem_cons.mpr ⟨lw_p13, List.forall_mem_cons.mpr ⟨lw_p14, List.forall_mem_cons.mpr ⟨lw_p15, fun _ h => absurd h List.not_mem_nil⟩⟩⟩⟩⟩⟩⟩⟩⟩⟩⟩⟩⟩⟩⟩⟩
theorem lw_p16 : lw_okq (⟨"RuleSteps$Runner", "bind", "(II)Z"⟩, 12) := ⟨⟨by decide +kernel, by decide +kernel⟩, List.mem_of_getElem? (i := 119) (by decide +kernel), List.mem_of_getElem? (i := 477) (by decide +kernel), List.mem_of_getElem? (i := 478) (by decide +kernel)⟩
theorem lw_p17 : lw_okq (⟨"RuleSteps$Runner", "step", "(I)I"⟩, 12) := ⟨⟨by decide +kernel, by decide +kernel⟩, List.mem_of_getElem? (i := 119) (by decide +kernel), List.mem_of_getElem? (i := 481) (by decide +kernel), List.mem_of_getElem? (i := 482) (by decide +kernel)⟩
theorem lw_p18 : lw_okq (⟨"RuleSteps$Runner", "seek", "(I)V"⟩, 12) := ⟨⟨by decide +kernel, by decide +kernel⟩, List.mem_of_getElem? (i := 119) (by decide +kernel), List.mem_of_getElem? (i := 485) (by decide +kernel), List.mem_of_getElem? (i := 486) (by decide +kernel)⟩
theorem lw_p19 : lw_okq (⟨"RuleSteps$Runner", "filled", "(I)I"⟩, 12) := ⟨⟨by decide +kernel, by decide +kernel⟩, List.mem_of_getElem? (i := 119) (by decide +kernel), List.mem_of_getElem? (i := 489) (by decide +kernel), List.mem_of_getElem? (i := 490) (by decide +kernel)⟩
theorem lw_p20 : lw_okq (⟨"RuleSteps", "needRun", "(II)I"⟩, 7) := ⟨⟨by decide +kernel, by decide +kernel⟩, List.mem_of_getElem? (i := 16) (by decide +kernel), List.mem_of_getElem? (i := 498) (by decide +kernel), List.mem_of_getElem? (i := 499) (by decide +kernel)⟩
theorem lw_p21 : lw_okq (⟨"RuleSteps", "keepRun", "()V"⟩, 7) := ⟨⟨by decide +kernel, by decide +kernel⟩, List.mem_of_getElem? (i := 16) (by decide +kernel), List.mem_of_getElem? (i := 506) (by decide +kernel), List.mem_of_getElem? (i := 507) (by decide +kernel)⟩
theorem lw_p22 : lw_okq (⟨"RuleStepsModel", "ask", "(IIII)I"⟩, 35) := ⟨⟨by decide +kernel, by decide +kernel⟩, List.mem_of_getElem? (i := 581) (by decide +kernel), List.mem_of_getElem? (i := 701) (by decide +kernel), List.mem_of_getElem? (i := 702) (by decide +kernel)⟩
theorem lw_p23 : lw_okq (⟨"RuleStepsModel", "tree", "(III)I"⟩, 35) := ⟨⟨by decide +kernel, by decide +kernel⟩, List.mem_of_getElem? (i := 581) (by decide +kernel), List.mem_of_getElem? (i := 705) (by decide +kernel), List.mem_of_getElem? (i := 706) (by decide +kernel)⟩
theorem lw_p24 : lw_okq (⟨"RuleStepsModel", "isTree", "(I)Z"⟩, 35) := ⟨⟨by decide +kernel, by decide +kernel⟩, List.mem_of_getElem? (i := 581) (by decide +kernel), List.mem_of_getElem? (i := 720) (by decide +kernel), List.mem_of_getElem? (i := 721) (by decide +kernel)⟩
theorem lw_p25 : lw_okq (⟨"RuleStepsModel", "isRule", "(I)Z"⟩, 35) := ⟨⟨by decide +kernel, by decide +kernel⟩, List.mem_of_getElem? (i := 581) (by decide +kernel), List.mem_of_getElem? (i := 736) (by decide +kernel), List.mem_of_getElem? (i := 737) (by decide +kernel)⟩
theorem lw_p26 : lw_okq (⟨"RuleStepsModel", "may", "(I)Z"⟩, 35) := ⟨⟨by decide +kernel, by decide +kernel⟩, List.mem_of_getElem? (i := 581) (by decide +kernel), List.mem_of_getElem? (i := 744) (by decide +kernel), List.mem_of_getElem? (i := 745) (by decide +kernel)⟩
theorem lw_p27 : lw_okq (⟨"RuleStepsModel", "isAbove", "(II)Z"⟩, 35) := ⟨⟨by decide +kernel, by decide +kernel⟩, List.mem_of_getElem? (i := 581) (by decide +kernel), List.mem_of_getElem? (i := 752) (by decide +kernel), List.mem_of_getElem? (i := 753) (by decide +kernel)⟩
theorem lw_p28 : lw_okq (⟨"RuleStepsModel", "holesAllow", "(II)Z"⟩, 35) := ⟨⟨by decide +kernel, by decide +kernel⟩, List.mem_of_getElem? (i := 581) (by decide +kernel), List.mem_of_getElem? (i := 756) (by decide +kernel), List.mem_of_getElem? (i := 757) (by decide +kernel)⟩
theorem lw_p29 : lw_okq (⟨"RuleStepsModel", "countHoles", "(I[I)V"⟩, 35) := ⟨⟨by decide +kernel, by decide +kernel⟩, List.mem_of_getElem? (i := 581) (by decide +kernel), List.mem_of_getElem? (i := 760) (by decide +kernel), List.mem_of_getElem? (i := 761) (by decide +kernel)⟩
theorem lw_p30 : lw_okq (⟨"RuleStepsModel", "lay", "(I[IZ)I"⟩, 35) := ⟨⟨by decide +kernel, by decide +kernel⟩, List.mem_of_getElem? (i := 581) (by decide +kernel), List.mem_of_getElem? (i := 764) (by decide +kernel), List.mem_of_getElem? (i := 765) (by decide +kernel)⟩
theorem lw_p31 : lw_okq (⟨"RuleStepsModel", "findAround", "(I)V"⟩, 35) := ⟨⟨by decide +kernel, by decide +kernel⟩, List.mem_of_getElem? (i := 581) (by decide +kernel), List.mem_of_getElem? (i := 768) (by decide +kernel), List.mem_of_getElem? (i := 769) (by decide +kernel)⟩
def lw_privs_2 : List (MethodName × Nat) := [(⟨"RuleSteps$Runner", "bind", "(II)Z"⟩, 12), (⟨"RuleSteps$Runner", "step", "(I)I"⟩, 12), (⟨"RuleSteps$Runner", "seek", "(I)V"⟩, 12), (⟨"RuleSteps$Runner", "filled", "(I)I"⟩, 12), (⟨"RuleSteps", "needRun", "(II)I"⟩, 7), (⟨"RuleSteps", "keepRun", "()V"⟩, 7), (⟨"RuleStepsModel", "ask", "(IIII)I"⟩, 35), (⟨"RuleStepsModel", "tree", "(III)I"⟩, 35), (⟨"RuleStepsModel", "isTree", "(I)Z"⟩, 35), (⟨"RuleStepsModel", "isRule", "(I)Z"⟩, 35), (⟨"RuleStepsModel", "may", "(I)Z"⟩, 35), (⟨"RuleStepsModel", "isAbove", "(II)Z"⟩, 35), (⟨"RuleStepsModel", "holesAllow", "(II)Z"⟩, 35), (⟨"RuleStepsModel", "countHoles", "(I[I)V"⟩, 35), (⟨"RuleStepsModel", "lay", "(I[IZ)I"⟩, 35), (⟨"RuleStepsModel", "findAround", "(I)V"⟩, 35)]
theorem lw_r2 : ∀ q ∈ lw_privs_2, lw_okq q := List.forall_mem_cons.mpr ⟨lw_p16, List.forall_mem_cons.mpr ⟨lw_p17, List.forall_mem_cons.mpr ⟨lw_p18, List.forall_mem_cons.mpr ⟨lw_p19, List.forall_mem_cons.mpr ⟨lw_p20, List.forall_mem_cons.mpr ⟨lw_p21, List.forall_mem_cons.mpr ⟨lw_p22, List.forall_mem_cons.mpr ⟨lw_p23, List.forall_mem_cons.mpr ⟨lw_p24, List.forall_mem_cons.mpr ⟨lw_p25, List.forall_mem_cons.mpr ⟨lw_p26, List.forall_mem_cons.mpr ⟨lw_p27, List.forall_mem_cons.mpr ⟨lw_p28, List.forall_mem_cons.mpr ⟨lw_p29, List.forall_mem_cons.mpr ⟨lw_p30, List.forall_mem_cons.mpr ⟨lw_p31, fun _ h => absurd h List.not_mem_nil⟩⟩⟩⟩⟩⟩⟩⟩⟩⟩⟩⟩⟩⟩⟩⟩
theorem lw_p32 : lw_okq (⟨"RuleStepsModel", "lookForRules", "(Z)V"⟩, 35) := ⟨⟨by decide +kernel, by decide +kernel⟩, List.mem_of_getElem? (i := 581) (by decide +kernel), List.mem_of_getElem? (i := 776) (by decide +kernel), List.mem_of_getElem? (i := 777) (by decide +kernel)⟩
theorem lw_p33 : lw_okq (⟨"RuleStepsModel", "go", "(II)I"⟩, 35) := ⟨⟨by decide +kernel, by decide +kernel⟩, List.mem_of_getElem? (i := 581) (by decide +kernel), List.mem_of_getElem? (i := 780) (by decide +kernel), List.mem_of_getElem? (i := 781) (by decide +kernel)⟩
theorem lw_p34 : lw_okq (⟨"RuleStepsModel", "placeOf", "(I)I"⟩, 35) := ⟨⟨by decide +kernel, by decide +kernel⟩, List.mem_of_getElem? (i := 581) (by decide +kernel), List.mem_of_getElem? (i := 784) (by decide +kernel), List.mem_of_getElem? (i := 785) (by decide +kernel)⟩
theorem lw_p35 : lw_okq (⟨"RuleStepsModel", "ruleAt", "(I)I"⟩, 35) := ⟨⟨by decide +kernel, by decide +kernel⟩, List.mem_of_getElem? (i := 581) (by decide +kernel), List.mem_of_getElem? (i := 788) (by decide +kernel), List.mem_of_getElem? (i := 789) (by decide +kernel)⟩
theorem lw_p36 : lw_okq (⟨"RuleStepsModel", "matches", "(II)Z"⟩, 35) := ⟨⟨by decide +kernel, by decide +kernel⟩, List.mem_of_getElem? (i := 581) (by decide +kernel), List.mem_of_getElem? (i := 792) (by decide +kernel), List.mem_of_getElem? (i := 793) (by decide +kernel)⟩
theorem lw_p37 : lw_okq (⟨"RuleStepsModel", "build", "(I)I"⟩, 35) := ⟨⟨by decide +kernel, by decide +kernel⟩, List.mem_of_getElem? (i := 581) (by decide +kernel), List.mem_of_getElem? (i := 796) (by decide +kernel), List.mem_of_getElem? (i := 797) (by decide +kernel)⟩
theorem lw_p38 : lw_okq (⟨"RuleStepsModel", "replace", "(II)I"⟩, 35) := ⟨⟨by decide +kernel, by decide +kernel⟩, List.mem_of_getElem? (i := 581) (by decide +kernel), List.mem_of_getElem? (i := 800) (by decide +kernel), List.mem_of_getElem? (i := 801) (by decide +kernel)⟩
theorem lw_p39 : lw_okq (⟨"RuleStepsModel", "keep", "(IIII)V"⟩, 35) := ⟨⟨by decide +kernel, by decide +kernel⟩, List.mem_of_getElem? (i := 581) (by decide +kernel), List.mem_of_getElem? (i := 804) (by decide +kernel), List.mem_of_getElem? (i := 805) (by decide +kernel)⟩
theorem lw_p40 : lw_okq (⟨"RuleStepsModel", "take", "()V"⟩, 35) := ⟨⟨by decide +kernel, by decide +kernel⟩, List.mem_of_getElem? (i := 581) (by decide +kernel), List.mem_of_getElem? (i := 808) (by decide +kernel), List.mem_of_getElem? (i := 809) (by decide +kernel)⟩
def lw_privs_3 : List (MethodName × Nat) := [(⟨"RuleStepsModel", "lookForRules", "(Z)V"⟩, 35), (⟨"RuleStepsModel", "go", "(II)I"⟩, 35), (⟨"RuleStepsModel", "placeOf", "(I)I"⟩, 35), (⟨"RuleStepsModel", "ruleAt", "(I)I"⟩, 35), (⟨"RuleStepsModel", "matches", "(II)Z"⟩, 35), (⟨"RuleStepsModel", "build", "(I)I"⟩, 35), (⟨"RuleStepsModel", "replace", "(II)I"⟩, 35), (⟨"RuleStepsModel", "keep", "(IIII)V"⟩, 35), (⟨"RuleStepsModel", "take", "()V"⟩, 35)]
theorem lw_r3 : ∀ q ∈ lw_privs_3, lw_okq q := List.forall_mem_cons.mpr ⟨lw_p32, List.forall_mem_cons.mpr ⟨lw_p33, List.forall_mem_cons.mpr ⟨lw_p34, List.forall_mem_cons.mpr ⟨lw_p35, List.forall_mem_cons.mpr ⟨lw_p36, List.forall_mem_cons.mpr ⟨lw_p37, List.forall_mem_cons.mpr ⟨lw_p38, List.forall_mem_cons.mpr ⟨lw_p39, List.forall_mem_cons.mpr ⟨lw_p40, fun _ h => absurd h List.not_mem_nil⟩⟩⟩⟩⟩⟩⟩⟩⟩
def lw_privs : List (MethodName × Nat) := lw_privs_1 ++ (lw_privs_2 ++ (lw_privs_3))
def lw_tbl : List Cond := k2_sels lw_privs ++ tables_1
theorem lw_privs_ok : ∀ q ∈ lw_privs, lw_okq q := by
  show ∀ q ∈ lw_privs_1 ++ (lw_privs_2 ++ (lw_privs_3)), lw_okq q
  exact List.forall_mem_append.mpr ⟨lw_r1, List.forall_mem_append.mpr ⟨lw_r2, lw_r3⟩⟩
-- ===== end of PART A; then your names; then what follows =====
/-! ===== BEGIN words of one list among another's, by their places ===== -/
theorem goodIn_r {big : List Cond} (ws : List Cond) (ps : List Nat) (hp : ws = ps.filterMap (fun i => big[i]?)) (h : ws.all goodWord = true) : GoodIn big ws := by
  intro w hw
  have h1 := List.all_eq_true.mp h w hw
  rw [hp] at hw
  obtain ⟨i, -, hi⟩ := List.mem_filterMap.mp hw
  have hm : w ∈ big := by first | exact List.mem_of_getElem? hi | exact List.getElem?_mem hi
  exact ⟨hm, good_of_word h1⟩
theorem goodIn_app {big a b : List Cond} (ha : GoodIn big a) (hb : GoodIn big b) : GoodIn big (a ++ b) := fun w h => (List.mem_append.mp h).elim (ha w) (hb w)
theorem goodIn_ca {big a b : List Cond} {c : Cond} (ha : GoodIn big (c :: a)) (hb : GoodIn big b) : GoodIn big (c :: (a ++ b)) := fun w h => (List.mem_cons.mp h).elim (fun e => ha w (List.mem_cons.mpr (Or.inl e))) (fun h => (List.mem_append.mp h).elim (fun h => ha w (List.mem_cons.mpr (Or.inr h))) (hb w))
theorem goodIn_sub {big ws : List Cond} (hm : ∀ w ∈ ws, w ∈ big) (h : ws.all goodWord = true) : GoodIn big ws := fun w hw => ⟨hm w hw, good_of_word (List.all_eq_true.mp h w hw)⟩
/-! ===== END ===== -/

/-! ===== BEGIN exceptions that leave a method, and their catching by the caller (launches without stack traces) ===== -/
section VXA
/-! The laws vx_back, vx_callV, vx_callS, vx_callSW, vx_throw0, vx_throwS follow proofs of the library, with one case more: JvmDerived/Free/Laws.lean (Back.of_free), Shelf42/LK1.lean (callV, callS), Shelf/KitTraced.lean (throwNew0V, throwNewS). -/
/-- where a method has thrown q: the class by its name, the cell, what was written, the world -/
def vx_T (XC : String → State → State → Prop) (st : State) (q : Addr) (t : State) (mc ms : Nat) (free : Addr → Prop) : Prop :=
  ∃ (E : String) (ce : Cell) (L : List Loc), XC E st t ∧ t.heap[q]? = some ce ∧ ce.vm = .none ∧ st.vm.findClass E = some ce.cls ∧ st.WarmedH t.vm ∧ st.sameButNew ({ t with vm := st.vm } : State) L mc ms ∧ ∀ z ∈ L, free z.base
def vx_Q (Qc : Array Value → State → Outcome → State → Prop) (XC : String → State → State → Prop) (mc ms : Nat) (free : Addr → Prop) : Array Value → State → Outcome → State → Prop := fun a st o t =>
  (Qc a st o t ∧ ∃ L, FrameEnd st o t L mc ms ∧ ∀ q ∈ L, free q.base) ∨ ∃ q, o = .threw q ∧ vx_T XC st q t mc ms free
/-- a callee that returns or throws -/
def vx_Met (l : Launch) (y : MethodName) (ws : List Cond) (rm : Room) (Pc : Array Value → State → Prop) (Qc : Array Value → State → Outcome → State → Prop) (XC : String → State → State → Prop) (mc ms : Nat) (free : Addr → Prop) : Prop :=
  MetFree l y (headSpec ws rm) Pc (fun _ _ _ _ _ => True) (vx_Q Qc XC mc ms free)
def vx_Post (XC : String → State → State → Prop) (mc ms : Nat) (free : Addr → Prop) : Pt → Array Value → Addr → Pt → Prop := fun A a q B =>
  ∃ (g : JFrame) (mk : MethodId) (t : State) (L : List Loc) (E : String) (ce : Cell), B.U.heap = t.heap ∧ B.U.vm = t.vm ∧ XC E (A.U.calling g mk a) t ∧ t.heap[q]? = some ce ∧ ce.vm = .none ∧ A.U.vm.findClass E = some ce.cls ∧ B.locs = A.locs ++ L ∧ (∀ z ∈ L, free z.base) ∧ B.cells = A.cells + mc ∧ B.slots = A.slots + ms
def vx_Back (l : Launch) (R : Room) (p : Program) (e : Env) (below : List Frame) (s : State) (sargs : Array Value) (y : MethodName) (len W9 : Nat)
    (Pre : Pt → Array Value → Prop) (Post : Pt → Array Value → Option Value → Pt → Prop) (PostX : Pt → Array Value → Addr → Pt → Prop) : Prop :=
  ∀ (m : MethodId) (meth : Method) (c : Code) (A : Pt) (g : JFrame) (ig : Instr) (mk : MethodId) (a : Array Value),
    Stand p l e R s m sargs below meth c A.U A.locs A.cells A.slots → g.method = m → g.locals.size = c.maxLocals → decode c.code g.pc = .ok (ig, len) →
    2 * g.monitorRoom + (g.stack.map fun v => v.category).sum ≤ W9 → A.U.methodNamed? y = some mk → Pre A a →
    (∃ (v : Option Value) (B : Pt), Stand p l e R s m sargs below meth c B.U B.locs B.cells B.slots ∧ Post A a v B ∧
      Steps p.tables e below (doInvoke e (A.U.setTop g) [] mk a).1 (B.U.setTop { g with pc := g.pc + len, stack := v.toList ++ g.stack })) ∨
    (∃ (q : Addr) (B : Pt), Stand p l e R s m sargs below meth c B.U B.locs B.cells B.slots ∧ PostX A a q B ∧
      Steps p.tables e below (doInvoke e (A.U.setTop g) [] mk a).1 ((B.U.setTop g).pushFrame (.throwing q)))
section Payer
variable {l : Launch} {R : Room} {p : Program} {e : Env} {below : List Frame} {s : State} {sargs : Array Value} {y : MethodName} {len W9 : Nat}
theorem vx_back {ws : List Cond} {rm : Room} {Pc : Array Value → State → Prop} {Qc : Array Value → State → Outcome → State → Prop} {XC : String → State → State → Prop} {mc ms : Nat} {free : Addr → Prop} {bytes : ByteArray} {maxL : Nat} {ret : Option FieldType}
    (hM : vx_Met l y ws rm Pc Qc XC mc ms free) (hblind : FrameBlind Pc) (hrc : rm.cells = mc) (hrs : rm.slots = ms)
    (hframes : rm.frames + 1 ≤ R.frames) (hlocals : W9 + (maxL + 11) + rm.locals ≤ R.locals)
    (hws : ∀ w ∈ ws, ∀ a' U, s.WarmedH U.vm → w.before a' U = true) (hcode : Cond.code y bytes maxL ret ∈ ws) (hinit : ∀ a' U, s.WarmedH U.vm → (Cond.initialized y.cls).before a' U = true) :
    vx_Back l R p e below s sargs y len W9 (PreOf R mc ms Pc) (PostOf Qc mc ms free) (vx_Post XC mc ms free) := by
  intro m meth c A g ig mk a X hg hsize hdg hW hn hp
  have h1 : (headSpec ws rm).pre.before a A.U = true := atoms_intro fun w hw => hws w hw _ _ X.warmed
  have h2 : (Cond.code y bytes maxL ret).before a A.U = true := hws _ hcode _ _ X.warmed
  have h3 : (Cond.initialized y.cls).before a A.U = true := hinit _ _ X.warmed
  have h4 : A.cells + (headSpec ws rm).room.cells ≤ R.cells := by rw [show (headSpec ws rm).room.cells = mc from hrc]; exact hp.1
  have h5 : A.slots + (headSpec ws rm).room.slots ≤ R.slots := by rw [show (headSpec ws rm).room.slots = ms from hrs]; exact hp.2.1
  have hPc : Pc a (A.U.calling g mk a) := hblind _ _ _ _ hp.2.2
  obtain ⟨U, Ls, c0, s0⟩ := A
  dsimp only [Pt.U, Pt.locs, Pt.cells, Pt.slots] at h1 h2 h3 h4 h5 X hn hPc ⊢
  obtain ⟨methY, cY, hmY, hcY, -, hlY, -, -, -, -⟩ := Cond.code_spec hn h2
  obtain ⟨kY, hkY, -⟩ := className_of_methodNamed hn
  have hinitY : kY.init = .initialized := Cond.initialized_spec (findClass_of_methodNamed hn) hkY h3
  have h : At U g.method c below := by rw [hg]; exact X.here
  have hlocals9 : W9 + (maxL + 11) + (headSpec ws rm).room.locals ≤ R.locals := hlocals
  have happ : (headSpec ws rm).appliesLoose y e.platform (U.calling g mk a) = true :=
    Spec.appliesLoose_calling (g := g) h hdg hn hkY hinitY
      (X.room_calling (g := g) (R' := (headSpec ws rm).room) hsize hmY hcY hframes (by rw [hlY]; omega) h4 h5) h1
  obtain ⟨mid, hmid⟩ := h.above
  have hfr : (U.setTop g).frames = (.java g :: mid) ++ below := by rw [State.frames_setTop' g h.top, hmid]; rfl
  obtain ⟨o, s₂, hsteps, -, hend, hq⟩ := Steps.callFree hM p X.admits X.cas X.clock (acts := []) hfr happ hPc trivial
  have hq' : vx_Q Qc XC mc ms free a (U.calling g mk a) o s₂ := hq
  rw [State.frames_setTop' g h.top] at hend
  obtain ⟨g₀, hg0⟩ := Option.isSome_iff_exists.mp h.top
  obtain ⟨r, hr⟩ := State.topJava?_eq_some.mp hg0
  have hr' : (({ U with heap := s₂.heap, slotsUsed := s₂.slotsUsed } : State).setVm s₂.vm).frames = .java g₀ :: r := hr
  rcases hq' with ⟨hqc, L, hfe, hL⟩ | ⟨q, rfl, E, ce, L, hx, hce, hcv, hcl, hW₂, hsm, hL⟩
  · obtain ⟨⟨v, rfl⟩, hW₂, e2, q2, q3, q4, q5, q6⟩ := id hfe
    have e3 : s₂ = ({ (U.calling g mk a).setFrames s₂.frames with heap := s₂.heap, slotsUsed := s₂.slotsUsed } : State).setVm s₂.vm := by
      have : s₂ = ({ s₂ with vm := (U.calling g mk a).vm } : State).setVm s₂.vm := rfl
      rw [e2] at this
      exact this
    obtain ⟨c₂, i₂, len₂, hc₂, hd₂, hf₂⟩ := hend
    have hW' : U.WarmedH s₂.vm := hW₂
    have hcc : c₂ = c := by
      have h1 : s₂.code? g.method = U.code? g.method := by
        rw [State.code?_eq, State.code?_eq, hW'.alike.method?]
      exact Option.some.inj (hc₂.symm.trans (h1.trans h.code))
    subst hcc
    have hlen : len₂ = len := by rw [hdg] at hd₂; cases hd₂; rfl
    subst hlen
    have hs₂ : s₂ = (({ U with heap := s₂.heap, slotsUsed := s₂.slotsUsed } : State).setVm s₂.vm).setTop { g with pc := g.pc + len₂, stack := v.toList ++ g.stack } := by
      refine e3.trans ?_
      rw [hf₂, State.calling_eq h.top, State.setFrames_setFrames, State.setTop_of_frames _ hr', hr]
      rfl
    have hsame : U.sameButNew ({ U with heap := s₂.heap, slotsUsed := s₂.slotsUsed } : State) L mc ms := by
      refine ⟨?_, q2, q3, q4, q5, q6⟩
      obtain ⟨t, ht, -⟩ := State.frames_cons hr
      show ({ U with heap := s₂.heap, slotsUsed := s₂.slotsUsed } : State) = { U.setFrames U.frames with heap := s₂.heap, slotsUsed := s₂.slotsUsed }
      rw [State.setFrames_self ht]
    subst hg
    refine Or.inl ⟨v, ⟨(({ U with heap := s₂.heap, slotsUsed := s₂.slotsUsed } : State).setVm s₂.vm), Ls ++ L, c0 + mc, s0 + ms⟩,
      ⟨X.admits, X.cas, X.clock, X.frames, X.room, X.hears, X.method, X.code, (X.here.setHeapUsed s₂.heap s₂.slotsUsed).setVm hW'.alike, X.tail, State.WarmedH.trans X.warmed hW', X.limits, X.bytes, X.same.trans (hsame.setVm s.vm)⟩,
      ⟨g, mk, s₂, L, rfl, rfl, hqc, rfl, hL, rfl, rfl⟩, ?_⟩
    show Steps p.tables e below _ ((({ U with heap := s₂.heap, slotsUsed := s₂.slotsUsed } : State).setVm s₂.vm).setTop { g with pc := g.pc + len₂, stack := v.toList ++ g.stack })
    rw [← hs₂]
    exact hsteps
  · obtain ⟨e2, q2, q3, q4, q5, q6⟩ := id hsm
    have e3 : s₂ = ({ (U.calling g mk a).setFrames s₂.frames with heap := s₂.heap, slotsUsed := s₂.slotsUsed } : State).setVm s₂.vm := by
      have : s₂ = ({ s₂ with vm := (U.calling g mk a).vm } : State).setVm s₂.vm := rfl
      rw [e2] at this
      exact this
    have hf₂ : s₂.frames = .throwing q :: .java g :: U.frames.tail := hend
    have hW' : U.WarmedH s₂.vm := hW₂
    have hs₂ : s₂ = ((({ U with heap := s₂.heap, slotsUsed := s₂.slotsUsed } : State).setVm s₂.vm).setTop g).pushFrame (.throwing q) := by
      refine e3.trans ?_
      rw [hf₂, State.calling_eq h.top, State.setFrames_setFrames, State.pushFrame, State.frames_setTop _ hr', State.setTop_of_frames _ hr', State.setFrames_setFrames, hr]
      rfl
    have hsame : U.sameButNew ({ U with heap := s₂.heap, slotsUsed := s₂.slotsUsed } : State) L mc ms := by
      refine ⟨?_, q2, q3, q4, q5, q6⟩
      obtain ⟨t, ht, -⟩ := State.frames_cons hr
      show ({ U with heap := s₂.heap, slotsUsed := s₂.slotsUsed } : State) = { U.setFrames U.frames with heap := s₂.heap, slotsUsed := s₂.slotsUsed }
      rw [State.setFrames_self ht]
    subst hg
    refine Or.inr ⟨q, ⟨(({ U with heap := s₂.heap, slotsUsed := s₂.slotsUsed } : State).setVm s₂.vm), Ls ++ L, c0 + mc, s0 + ms⟩,
      ⟨X.admits, X.cas, X.clock, X.frames, X.room, X.hears, X.method, X.code, (X.here.setHeapUsed s₂.heap s₂.slotsUsed).setVm hW'.alike, X.tail, State.WarmedH.trans X.warmed hW', X.limits, X.bytes, X.same.trans (hsame.setVm s.vm)⟩,
      ⟨g, mk, s₂, L, E, ce, rfl, rfl, hx, hce, hcv, hcl, rfl, hL, rfl, rfl⟩, ?_⟩
    show Steps p.tables e below _ (((({ U with heap := s₂.heap, slotsUsed := s₂.slotsUsed } : State).setVm s₂.vm).setTop g).pushFrame (.throwing q))
    rw [← hs₂]
    exact hsteps
end Payer
section Calls
variable {p : Program} {l : Launch} {e : Env} {R : Room} {s : State} {m : MethodId} {args : Array Value} {below : List Frame} {meth : Method} {c : Code} {T : State} {locs : List Loc} {cells slots : Nat}
theorem vx_callV (X : Stand p l e R s m args below meth c T locs cells slots) (hexec : p.tables.exec = Jvm.exec) {own C : String} {index : Nat} {y : MethodName} {bytes : ByteArray} {maxL : Nat} {ret : Option FieldType}
    (hown : s.vm.findClass own = some m.cls) (hlink : (Cond.methodLink own index y).before args s = true) (hinst : (Cond.instanceMethod y).before args s = true) (hsel : (Cond.selects C y y).before args s = true)
    (hcode : (Cond.code y bytes maxL ret).before args s = true) (hy : y.cls ≠ "java/lang/invoke/MethodHandle" ∧ y.cls ≠ "java/lang/invoke/VarHandle")
    {W9 : Nat} {Pre : Pt → Array Value → Prop} {Post : Pt → Array Value → Option Value → Pt → Prop} {PostX : Pt → Array Value → Addr → Pt → Prop} (hK : vx_Back l R p e below s args y 3 W9 Pre Post PostX)
    {b : Addr} {cellB : Cell} (hcell : T.heap[b]? = some cellB) (hobj : cellB.vm.isStatics = false) (hcls : s.vm.findClass C = some cellB.cls)
    {g : JFrame} (hg : g.method = m) (hsize : g.locals.size = c.maxLocals) {argsL rest : List Value} (hlen : ∀ sig, parseMethodDescriptor y.desc = some sig → argsL.length = sig.parameters.length)
    (hstack : g.stack = argsL.reverse ++ .ref b :: rest) (hW : 2 * g.monitorRoom + (rest.map fun v => v.category).sum ≤ W9) (hdg : decode c.code g.pc = .ok (.invokevirtual index, 3))
    (hpre : ∀ vm₁, s.WarmedH vm₁ → Pre ⟨T.setVm vm₁, locs, cells, slots⟩ (Value.ref b :: argsL).toArray) :
    (∃ (v : Option Value) (vm₁ : Vm) (B : Pt), s.WarmedH vm₁ ∧ Stand p l e R s m args below meth c B.U B.locs B.cells B.slots ∧ Post ⟨T.setVm vm₁, locs, cells, slots⟩ (Value.ref b :: argsL).toArray v B ∧
      ∀ target, Steps p.tables e below (B.U.setTop { g with pc := g.pc + 3, stack := v.toList ++ rest }) target → Steps p.tables e below (T.setTop g) target) ∨
    (∃ (q : Addr) (vm₁ : Vm) (B : Pt), s.WarmedH vm₁ ∧ Stand p l e R s m args below meth c B.U B.locs B.cells B.slots ∧ PostX ⟨T.setVm vm₁, locs, cells, slots⟩ (Value.ref b :: argsL).toArray q B ∧
      Steps p.tables e below (T.setTop g) ((B.U.setTop { g with stack := rest }).pushFrame (.throwing q))) := by
  obtain ⟨mk, methM, hnamed, hmethM, hstM, habM⟩ := Cond.instanceMethod_spec hinst
  obtain ⟨methM', cM, hmethM', -, -, -, -, -, -, hsigM⟩ := Cond.code_spec hnamed hcode
  cases hmethM.symm.trans hmethM'
  obtain ⟨c2, r2, m2, q1, q2, q3, q4, kP, hkP, hkPi⟩ := Cond.selects_spec hsel
  cases hcls.symm.trans q1
  cases (State.methodFound?_of_named hnamed hy).symm.trans q2
  cases hnamed.symm.trans q3
  have hselP : selectMethod e.platform s.vm cellB.cls mk = .method mk := by rw [Launch.admits_selectMethod X.admits]; exact q4
  obtain ⟨vm₁, X₁, hstep₁⟩ := X.invokevirtual hexec hown hlink hnamed hmethM hstM hkP hkPi hy (a := b) (cell := cellB) hcell
    (fun z h => by rw [h] at hobj; cases hobj) hselP hmethM habM hkP hkPi (g := g) hg (argsL := argsL) (rest := rest) (hlen _ hsigM) hstack hdg
  rcases hK m meth c ⟨T.setVm vm₁, locs, cells, slots⟩ { g with stack := rest } (.invokevirtual index) mk (Value.ref b :: argsL).toArray X₁ hg hsize hdg hW (X₁.named hnamed) (hpre vm₁ X₁.warmed) with ⟨v, B, X', hpost, hsteps⟩ | ⟨q, B, X', hpost, hsteps⟩
  · exact Or.inl ⟨v, vm₁, B, X₁.warmed, X', hpost, fun target h => hstep₁ _ fun acts => by rw [doInvoke_state]; exact hsteps.trans h⟩
  · exact Or.inr ⟨q, vm₁, B, X₁.warmed, X', hpost, hstep₁ _ fun acts => by rw [doInvoke_state]; exact hsteps⟩
theorem vx_callS (X : Stand p l e R s m args below meth c T locs cells slots) (hexec : p.tables.exec = Jvm.exec) {own : String} {index : Nat} {y : MethodName} {bytes : ByteArray} {maxL : Nat} {ret : Option FieldType}
    (hown : s.vm.findClass own = some m.cls) (hlink : (Cond.methodLink own index y).before args s = true) (hstat : (Cond.static y).before args s = true) (hinit : (Cond.initialized y.cls).before args s = true)
    (hcode : (Cond.code y bytes maxL ret).before args s = true) (hy : y.cls ≠ "java/lang/invoke/MethodHandle" ∧ y.cls ≠ "java/lang/invoke/VarHandle")
    {W9 : Nat} {Pre : Pt → Array Value → Prop} {Post : Pt → Array Value → Option Value → Pt → Prop} {PostX : Pt → Array Value → Addr → Pt → Prop} (hK : vx_Back l R p e below s args y 3 W9 Pre Post PostX)
    {g : JFrame} (hg : g.method = m) (hsize : g.locals.size = c.maxLocals) {argsL rest : List Value} (hlen : ∀ sig, parseMethodDescriptor y.desc = some sig → argsL.length = sig.parameters.length)
    (hstack : g.stack = argsL.reverse ++ rest) (hW : 2 * g.monitorRoom + (rest.map fun v => v.category).sum ≤ W9) (hdg : decode c.code g.pc = .ok (.invokestatic index, 3))
    (hpre : ∀ vm₁, s.WarmedH vm₁ → Pre ⟨T.setVm vm₁, locs, cells, slots⟩ argsL.toArray) :
    (∃ (v : Option Value) (vm₁ : Vm) (B : Pt), s.WarmedH vm₁ ∧ Stand p l e R s m args below meth c B.U B.locs B.cells B.slots ∧ Post ⟨T.setVm vm₁, locs, cells, slots⟩ argsL.toArray v B ∧
      ∀ target, Steps p.tables e below (B.U.setTop { g with pc := g.pc + 3, stack := v.toList ++ rest }) target → Steps p.tables e below (T.setTop g) target) ∨
    (∃ (q : Addr) (vm₁ : Vm) (B : Pt), s.WarmedH vm₁ ∧ Stand p l e R s m args below meth c B.U B.locs B.cells B.slots ∧ PostX ⟨T.setVm vm₁, locs, cells, slots⟩ argsL.toArray q B ∧
      Steps p.tables e below (T.setTop g) ((B.U.setTop { g with stack := rest }).pushFrame (.throwing q))) := by
  obtain ⟨mk, hnamed⟩ := Cond.code_named hcode
  obtain ⟨methM, cM, hmethM, -, -, -, -, -, -, hsigM⟩ := Cond.code_spec hnamed hcode
  have hstatic : methM.isStatic = true := Cond.static_spec hnamed hmethM hstat
  obtain ⟨kP, hkP, -⟩ := className_of_methodNamed hnamed
  have hinitP : kP.init = .initialized := Cond.initialized_spec (findClass_of_methodNamed hnamed) hkP hinit
  obtain ⟨vm₁, X₁, hstep₁⟩ := X.invokestatic hexec hown hlink hnamed hmethM hstatic hkP hinitP hy (g := g) hg (argsL := argsL) (rest := rest) (hlen _ hsigM) hstack hdg
  rcases hK m meth c ⟨T.setVm vm₁, locs, cells, slots⟩ { g with stack := rest } (.invokestatic index) mk argsL.toArray X₁ hg hsize hdg hW (X₁.named hnamed) (hpre vm₁ X₁.warmed) with ⟨v, B, X', hpost, hsteps⟩ | ⟨q, B, X', hpost, hsteps⟩
  · exact Or.inl ⟨v, vm₁, B, X₁.warmed, X', hpost, fun target h => hstep₁ _ fun acts => by rw [doInvoke_state]; exact hsteps.trans h⟩
  · exact Or.inr ⟨q, vm₁, B, X₁.warmed, X', hpost, hstep₁ _ fun acts => by rw [doInvoke_state]; exact hsteps⟩
end Calls
theorem vx_cls {s : State} {T : State} {vm₁ : Vm} {E : String} {k : ClassId} (hW : s.WarmedH vm₁) (h : (T.setVm vm₁).vm.findClass E = some k) : s.vm.findClass E = some k := by
  have h1 : vm₁.findClass E = some k := h
  rw [hW.alike.findClass] at h1
  exact h1
/-- the method's frame g, with q thrown over it -/
def vx_W (p : Program) (l : Launch) (e : Env) (R : Room) (s : State) (m : MethodId) (args : Array Value) (below : List Frame) (meth : Method) (c : Code) (H : Heap) (locs : List Loc) (cells slots : Nat) (Q : State → Prop) (g : JFrame) (q : Addr) : Prop :=
  ∀ T : State, T.heap = H → Stand p l e R s m args below meth c T locs cells slots → ∃ t, Steps p.tables e below ((T.setTop g).pushFrame (.throwing q)) t ∧ Q t
def vx_Run (p : Program) (l : Launch) (e : Env) (R : Room) (s : State) (m : MethodId) (args : Array Value) (below : List Frame) (meth : Method) (c : Code) (H : Heap) (locs : List Loc) (cells slots mc ms : Nat) (g : JFrame) (rest : List Value) (Qa : State → Outcome → State → Prop) (XC : String → State → State → Prop) (free : Addr → Prop) : Prop :=
  ∀ T : State, T.heap = H → Stand p l e R s m args below meth c T locs cells slots →
    (∃ (v : Option Value) (st₀ t T' : State) (L : List Loc), st₀.heap = H ∧ Stand p l e R s m args below meth c T' (locs ++ L) (cells + mc) (slots + ms) ∧ (∀ q ∈ L, free q.base) ∧ T'.heap = t.heap ∧ T'.vm = t.vm ∧ Qa st₀ (.returned v) t ∧
      Goes p e below T g T' { g with pc := g.pc + 3, stack := v.toList ++ rest }) ∨
    (∃ (q : Addr) (st₀ t T' : State) (L : List Loc) (E : String) (ce : Cell), st₀.heap = H ∧ Stand p l e R s m args below meth c T' (locs ++ L) (cells + mc) (slots + ms) ∧ (∀ z ∈ L, free z.base) ∧ T'.heap = t.heap ∧ T'.vm = t.vm ∧ XC E st₀ t ∧ t.heap[q]? = some ce ∧ ce.vm = .none ∧ s.vm.findClass E = some ce.cls ∧
      Steps p.tables e below (T.setTop g) ((T'.setTop { g with stack := rest }).pushFrame (.throwing q)))
def vx_X {S : Type} (px : S → Prop) (B : String → S → State → Prop) (A : Nat → Prop) : String → State → State → Prop := fun E st t => ∃ u : S, px u ∧ B E u t ∧ va_F A st t
section Runs
variable {p : Program} {l : Launch} {e : Env} {R : Room} {s : State} {m : MethodId} {args : Array Value} {below : List Frame} {meth : Method} {c : Code} {H : Heap} {locs : List Loc} {cells slots : Nat}
variable {y : MethodName} {bytes cc : ByteArray} {maxL nL mc ms n index : Nat} {ret : Option FieldType} {ws : List Cond} {rm : Room} {Pc : Array Value → State → Prop} {Qc : Array Value → State → Outcome → State → Prop} {XC : String → State → State → Prop} {free : Addr → Prop} {Ts : List Cond} {own C : String} {b : Addr} {As rest : List Value} {g : JFrame}
theorem vx_callBack (cb : CallB R s args own index y bytes maxL ret ws rm mc ms n) (hM : vx_Met l y ws rm Pc Qc XC mc ms free) (hbl : FrameBlind Pc) : vx_Back l R p e below s args y 3 8 (PreOf R mc ms Pc) (PostOf Qc mc ms free) (vx_Post XC mc ms free) := by
  obtain ⟨hrc, hrs, hfr, hlo, hws, hcw, -, hini, -⟩ := cb
  exact vx_back (bytes := bytes) (maxL := maxL) (ret := ret) hM hbl hrc hrs hfr hlo hws hcw (fun a' U hW => word_at hW (Or.inl (by first | rfl | simp [Cond.onTables, Cond.keeps, Cond.steady])) hini)
theorem vx_runV (S : CallFix p m c cc nL s args Ts own) (hM : vx_Met l y ws rm Pc Qc XC mc ms free) (cw : CallW R s args own C index y bytes maxL ret ws rm mc ms n) (hp : PreV s H C b Pc As)
    (hg : g.method = m) (hn : As.length = n) (hsize : g.locals.size = nL) (hstack : g.stack = As.reverse ++ .ref b :: rest) (hW : 2 * g.monitorRoom + (rest.map fun v => v.category).sum ≤ 8) (hdg : decode cc g.pc = .ok (.invokevirtual index, 3)) (hf : cells + mc ≤ R.cells ∧ slots + ms ≤ R.slots) :
    vx_Run p l e R s m args below meth c H locs cells slots mc ms g rest (Qc (Value.ref b :: As).toArray) XC free := by
  have hK : vx_Back l R p e below s args y 3 8 (PreOf R mc ms Pc) (PostOf Qc mc ms free) (vx_Post XC mc ms free) := vx_callBack cw.1 hM hp.1
  obtain ⟨⟨-, -, -, -, -, -, hcode, -, hy, hlen, hl⟩, hin, hse⟩ := cw
  obtain ⟨hx, hb, hml, ho, -⟩ := S
  obtain ⟨-, ⟨cellB, hcB, hoB, hclB⟩, hPc⟩ := hp
  intro T hT X
  rcases vx_callV X hx (C := C) (bytes := bytes) (maxL := maxL) (ret := ret) ho hl hin hse hcode hy hK (by rw [hT]; exact hcB) hoB hclB hg (hsize.trans hml.symm) (argsL := As) (rest := rest) (fun sig h => hn.trans (hlen sig h)) hstack hW (by rw [hb]; exact hdg)
    (fun vm₁ hW₁ => ⟨hf.1, hf.2, hPc (T.setVm vm₁) hT hW₁⟩) with ⟨v, vm₁, ⟨U', l2, c2, s2⟩, hW₁, X', ⟨g', mk, t, L, e1, e2, hq, h1, hL, h2, h3⟩, st⟩ | ⟨q, vm₁, ⟨U', l2, c2, s2⟩, hW₁, X', ⟨g', mk, t, L, E, ce, e1, e2, hq, hce, hcv, hcl, h1, hL, h2, h3⟩, st⟩
  · dsimp only [Pt.U, Pt.locs, Pt.cells, Pt.slots] at X' e1 e2 h1 h2 h3 st
    subst h1; subst h2; subst h3
    exact Or.inl ⟨v, (T.setVm vm₁).calling g' mk (Value.ref b :: As).toArray, t, U', L, hT, X', hL, e1, e2, hq, st⟩
  · dsimp only [Pt.U, Pt.locs, Pt.cells, Pt.slots] at X' e1 e2 h1 h2 h3 st hcl
    subst h1; subst h2; subst h3
    exact Or.inr ⟨q, (T.setVm vm₁).calling g' mk (Value.ref b :: As).toArray, t, U', L, E, ce, hT, X', hL, e1, e2, hq, hce, hcv, vx_cls hW₁ hcl, st⟩
theorem vx_runS (S : CallFix p m c cc nL s args Ts own) (hM : vx_Met l y ws rm Pc Qc XC mc ms free) (cw : CallB R s args own index y bytes maxL ret ws rm mc ms n ∧ (Cond.static y).before args s = true) (hp : PreS s H Pc As)
    (hg : g.method = m) (hn : As.length = n) (hsize : g.locals.size = nL) (hstack : g.stack = As.reverse ++ rest) (hW : 2 * g.monitorRoom + (rest.map fun v => v.category).sum ≤ 8) (hdg : decode cc g.pc = .ok (.invokestatic index, 3)) (hf : cells + mc ≤ R.cells ∧ slots + ms ≤ R.slots) :
    vx_Run p l e R s m args below meth c H locs cells slots mc ms g rest (Qc As.toArray) XC free := by
  have hK : vx_Back l R p e below s args y 3 8 (PreOf R mc ms Pc) (PostOf Qc mc ms free) (vx_Post XC mc ms free) := vx_callBack cw.1 hM hp.1
  obtain ⟨⟨-, -, -, -, -, -, hcode, hini, hy, hlen, hl⟩, hstt⟩ := cw
  obtain ⟨hx, hb, hml, ho, -⟩ := S
  intro T hT X
  rcases vx_callS X hx (bytes := bytes) (maxL := maxL) (ret := ret) ho hl hstt hini hcode hy hK hg (hsize.trans hml.symm) (argsL := As) (rest := rest) (fun sig h => hn.trans (hlen sig h)) hstack hW (by rw [hb]; exact hdg)
    (fun vm₁ hW₁ => ⟨hf.1, hf.2, hp.2 (T.setVm vm₁) hT hW₁⟩) with ⟨v, vm₁, ⟨U', l2, c2, s2⟩, hW₁, X', ⟨g', mk, t, L, e1, e2, hq, h1, hL, h2, h3⟩, st⟩ | ⟨q, vm₁, ⟨U', l2, c2, s2⟩, hW₁, X', ⟨g', mk, t, L, E, ce, e1, e2, hq, hce, hcv, hcl, h1, hL, h2, h3⟩, st⟩
  · dsimp only [Pt.U, Pt.locs, Pt.cells, Pt.slots] at X' e1 e2 h1 h2 h3 st
    subst h1; subst h2; subst h3
    exact Or.inl ⟨v, (T.setVm vm₁).calling g' mk As.toArray, t, U', L, hT, X', hL, e1, e2, hq, st⟩
  · dsimp only [Pt.U, Pt.locs, Pt.cells, Pt.slots] at X' e1 e2 h1 h2 h3 st hcl
    subst h1; subst h2; subst h3
    exact Or.inr ⟨q, (T.setVm vm₁).calling g' mk As.toArray, t, U', L, E, ce, hT, X', hL, e1, e2, hq, hce, hcv, vx_cls hW₁ hcl, st⟩
end Runs
section Rows
variable {p : Program} {l : Launch} {e : Env} {R : Room} {s : State} {m : MethodId} {args : Array Value} {below : List Frame} {meth : Method} {c : Code} {H : Heap} {locs : List Loc} {cells slots : Nat} {Q : State → Prop}
variable {mc ms : Nat} {free : Addr → Prop} {A0 A1 : Nat → Prop} {H0 : Heap} {a : Array Value} {pc : Nat} {ls : Array Slot} {st0 rest : List Value}
theorem vx_keep {st₀ t T' : State} {L : List Loc} (h0 : st₀.heap = H) (e1 : T'.heap = t.heap) (hS : va_S A0 H0 H locs) (hA : ∀ q, q < H.size → A1 q → A0 q) (hf : ∀ q, free q → A0 q) (hL : ∀ q ∈ L, free q.base) (hF : va_F A1 st₀ t) :
    H.size ≤ T'.heap.size ∧ (∀ q : Nat, q < H.size → ¬ A1 q → T'.heap[q]? = H[q]?) ∧ va_S A0 H0 T'.heap (locs ++ L) := by
  obtain ⟨hz, hk⟩ := hF
  rw [h0] at hz hk
  exact ⟨by rw [e1]; exact hz, fun q h1 h2 => by rw [e1]; exact hk q h1 h2,
    ⟨Nat.le_trans hS.1 (by rw [e1]; exact hz), fun q h1 h2 => by rw [e1, hk q (Nat.lt_of_lt_of_le h1 hS.1) (fun z => h2 (hA q (Nat.lt_of_lt_of_le h1 hS.1) z))]; exact hS.2.1 q h1 h2, fun q hq => by
      rcases List.mem_append.mp hq with h | h
      · exact hS.2.2 q h
      · exact hf _ (hL q h)⟩⟩
theorem vx_calli {S SX : Type} {post : Int32 → S → Prop} {px : SX → Prop} {B : S → State → Prop} {BX : String → SX → State → Prop} {AX : Nat → Prop} (hr : vx_Run p l e R s m args below meth c H locs cells slots mc ms (F0 m pc ls st0) rest (va_Qi post B A1 a) (vx_X px BX AX) free) (hS : va_S A0 H0 H locs) (hA : ∀ q, q < H.size → A1 q → A0 q) (hf : ∀ q, free q → A0 q) (hAX : ∀ q, q < H.size → AX q → A0 q)
    (kx : ∀ (E : String) (ce : Cell) (q9 : Addr) (u : SX) (t : State) (H1 : Heap) (locs1 : List Loc), t.heap = H1 → s.vm.Alike t.vm → px u → BX E u t → H.size ≤ H1.size → (∀ q : Nat, q < H.size → ¬ AX q → H1[q]? = H[q]?) → va_S A0 H0 H1 locs1 → H1[q9]? = some ce → ce.vm = .none → s.vm.findClass E = some ce.cls → vx_W p l e R s m args below meth c H1 locs1 (cells + mc) (slots + ms) Q (F0 m pc ls rest) q9)
    (kk : ∀ (r : Int32) (u : S) (t : State) (H1 : Heap) (locs1 : List Loc), t.heap = H1 → s.vm.Alike t.vm → post r u → B u t → H.size ≤ H1.size → (∀ q : Nat, q < H.size → ¬ A1 q → H1[q]? = H[q]?) → va_S A0 H0 H1 locs1 → W p l e R s m args below meth c H1 locs1 (cells + mc) (slots + ms) Q (F0 m (pc + 3) ls (.int r :: rest))) : W p l e R s m args below meth c H locs cells slots Q (F0 m pc ls st0) := by
  intro T hT X
  rcases hr T hT X with ⟨v, st₀, t, T', L, h0, X', hL, e1, e2, ⟨⟨r, u, hv, hp, hb⟩, hF⟩, st⟩ | ⟨q, st₀, t, T', L, E, ce, h0, X', hL, e1, e2, ⟨u, hp, hb, hF⟩, hce, hcv, hcl, st⟩
  · cases hv
    obtain ⟨k1, k2, k3⟩ := vx_keep h0 e1 hS hA hf hL hF
    obtain ⟨t2, a1, b1⟩ := kk r u t T'.heap (locs ++ L) e1.symm (by rw [← e2]; exact X'.warmed.alike) hp hb k1 k2 k3 T' rfl X'
    exact ⟨t2, st t2 a1, b1⟩
  · obtain ⟨k1, k2, k3⟩ := vx_keep h0 e1 hS hAX hf hL hF
    obtain ⟨t2, a1, b1⟩ := kx E ce q u t T'.heap (locs ++ L) e1.symm (by rw [← e2]; exact X'.warmed.alike) hp hb k1 k2 k3 (by rw [e1]; exact hce) hcv hcl T' rfl X'
    exact ⟨t2, st.trans a1, b1⟩
theorem vx_calll {S SX : Type} {post : Int64 → S → Prop} {px : SX → Prop} {B : S → State → Prop} {BX : String → SX → State → Prop} {AX : Nat → Prop} (hr : vx_Run p l e R s m args below meth c H locs cells slots mc ms (F0 m pc ls st0) rest (va_Ql post B A1 a) (vx_X px BX AX) free) (hS : va_S A0 H0 H locs) (hA : ∀ q, q < H.size → A1 q → A0 q) (hf : ∀ q, free q → A0 q) (hAX : ∀ q, q < H.size → AX q → A0 q)
    (kx : ∀ (E : String) (ce : Cell) (q9 : Addr) (u : SX) (t : State) (H1 : Heap) (locs1 : List Loc), t.heap = H1 → s.vm.Alike t.vm → px u → BX E u t → H.size ≤ H1.size → (∀ q : Nat, q < H.size → ¬ AX q → H1[q]? = H[q]?) → va_S A0 H0 H1 locs1 → H1[q9]? = some ce → ce.vm = .none → s.vm.findClass E = some ce.cls → vx_W p l e R s m args below meth c H1 locs1 (cells + mc) (slots + ms) Q (F0 m pc ls rest) q9)
    (kk : ∀ (r : Int64) (u : S) (t : State) (H1 : Heap) (locs1 : List Loc), t.heap = H1 → s.vm.Alike t.vm → post r u → B u t → H.size ≤ H1.size → (∀ q : Nat, q < H.size → ¬ A1 q → H1[q]? = H[q]?) → va_S A0 H0 H1 locs1 → W p l e R s m args below meth c H1 locs1 (cells + mc) (slots + ms) Q (F0 m (pc + 3) ls (.long r :: rest))) : W p l e R s m args below meth c H locs cells slots Q (F0 m pc ls st0) := by
  intro T hT X
  rcases hr T hT X with ⟨v, st₀, t, T', L, h0, X', hL, e1, e2, ⟨⟨r, u, hv, hp, hb⟩, hF⟩, st⟩ | ⟨q, st₀, t, T', L, E, ce, h0, X', hL, e1, e2, ⟨u, hp, hb, hF⟩, hce, hcv, hcl, st⟩
  · cases hv
    obtain ⟨k1, k2, k3⟩ := vx_keep h0 e1 hS hA hf hL hF
    obtain ⟨t2, a1, b1⟩ := kk r u t T'.heap (locs ++ L) e1.symm (by rw [← e2]; exact X'.warmed.alike) hp hb k1 k2 k3 T' rfl X'
    exact ⟨t2, st t2 a1, b1⟩
  · obtain ⟨k1, k2, k3⟩ := vx_keep h0 e1 hS hAX hf hL hF
    obtain ⟨t2, a1, b1⟩ := kx E ce q u t T'.heap (locs ++ L) e1.symm (by rw [← e2]; exact X'.warmed.alike) hp hb k1 k2 k3 (by rw [e1]; exact hce) hcv hcl T' rfl X'
    exact ⟨t2, st.trans a1, b1⟩
theorem vx_callf {S SX : Type} {post : UInt32 → S → Prop} {px : SX → Prop} {B : S → State → Prop} {BX : String → SX → State → Prop} {AX : Nat → Prop} (hr : vx_Run p l e R s m args below meth c H locs cells slots mc ms (F0 m pc ls st0) rest (va_Qf post B A1 a) (vx_X px BX AX) free) (hS : va_S A0 H0 H locs) (hA : ∀ q, q < H.size → A1 q → A0 q) (hf : ∀ q, free q → A0 q) (hAX : ∀ q, q < H.size → AX q → A0 q)
    (kx : ∀ (E : String) (ce : Cell) (q9 : Addr) (u : SX) (t : State) (H1 : Heap) (locs1 : List Loc), t.heap = H1 → s.vm.Alike t.vm → px u → BX E u t → H.size ≤ H1.size → (∀ q : Nat, q < H.size → ¬ AX q → H1[q]? = H[q]?) → va_S A0 H0 H1 locs1 → H1[q9]? = some ce → ce.vm = .none → s.vm.findClass E = some ce.cls → vx_W p l e R s m args below meth c H1 locs1 (cells + mc) (slots + ms) Q (F0 m pc ls rest) q9)
    (kk : ∀ (r : UInt32) (u : S) (t : State) (H1 : Heap) (locs1 : List Loc), t.heap = H1 → s.vm.Alike t.vm → post r u → B u t → H.size ≤ H1.size → (∀ q : Nat, q < H.size → ¬ A1 q → H1[q]? = H[q]?) → va_S A0 H0 H1 locs1 → W p l e R s m args below meth c H1 locs1 (cells + mc) (slots + ms) Q (F0 m (pc + 3) ls (.float r :: rest))) : W p l e R s m args below meth c H locs cells slots Q (F0 m pc ls st0) := by
  intro T hT X
  rcases hr T hT X with ⟨v, st₀, t, T', L, h0, X', hL, e1, e2, ⟨⟨r, u, hv, hp, hb⟩, hF⟩, st⟩ | ⟨q, st₀, t, T', L, E, ce, h0, X', hL, e1, e2, ⟨u, hp, hb, hF⟩, hce, hcv, hcl, st⟩
  · cases hv
    obtain ⟨k1, k2, k3⟩ := vx_keep h0 e1 hS hA hf hL hF
    obtain ⟨t2, a1, b1⟩ := kk r u t T'.heap (locs ++ L) e1.symm (by rw [← e2]; exact X'.warmed.alike) hp hb k1 k2 k3 T' rfl X'
    exact ⟨t2, st t2 a1, b1⟩
  · obtain ⟨k1, k2, k3⟩ := vx_keep h0 e1 hS hAX hf hL hF
    obtain ⟨t2, a1, b1⟩ := kx E ce q u t T'.heap (locs ++ L) e1.symm (by rw [← e2]; exact X'.warmed.alike) hp hb k1 k2 k3 (by rw [e1]; exact hce) hcv hcl T' rfl X'
    exact ⟨t2, st.trans a1, b1⟩
theorem vx_calld {S SX : Type} {post : UInt64 → S → Prop} {px : SX → Prop} {B : S → State → Prop} {BX : String → SX → State → Prop} {AX : Nat → Prop} (hr : vx_Run p l e R s m args below meth c H locs cells slots mc ms (F0 m pc ls st0) rest (va_Qd post B A1 a) (vx_X px BX AX) free) (hS : va_S A0 H0 H locs) (hA : ∀ q, q < H.size → A1 q → A0 q) (hf : ∀ q, free q → A0 q) (hAX : ∀ q, q < H.size → AX q → A0 q)
    (kx : ∀ (E : String) (ce : Cell) (q9 : Addr) (u : SX) (t : State) (H1 : Heap) (locs1 : List Loc), t.heap = H1 → s.vm.Alike t.vm → px u → BX E u t → H.size ≤ H1.size → (∀ q : Nat, q < H.size → ¬ AX q → H1[q]? = H[q]?) → va_S A0 H0 H1 locs1 → H1[q9]? = some ce → ce.vm = .none → s.vm.findClass E = some ce.cls → vx_W p l e R s m args below meth c H1 locs1 (cells + mc) (slots + ms) Q (F0 m pc ls rest) q9)
    (kk : ∀ (r : UInt64) (u : S) (t : State) (H1 : Heap) (locs1 : List Loc), t.heap = H1 → s.vm.Alike t.vm → post r u → B u t → H.size ≤ H1.size → (∀ q : Nat, q < H.size → ¬ A1 q → H1[q]? = H[q]?) → va_S A0 H0 H1 locs1 → W p l e R s m args below meth c H1 locs1 (cells + mc) (slots + ms) Q (F0 m (pc + 3) ls (.double r :: rest))) : W p l e R s m args below meth c H locs cells slots Q (F0 m pc ls st0) := by
  intro T hT X
  rcases hr T hT X with ⟨v, st₀, t, T', L, h0, X', hL, e1, e2, ⟨⟨r, u, hv, hp, hb⟩, hF⟩, st⟩ | ⟨q, st₀, t, T', L, E, ce, h0, X', hL, e1, e2, ⟨u, hp, hb, hF⟩, hce, hcv, hcl, st⟩
  · cases hv
    obtain ⟨k1, k2, k3⟩ := vx_keep h0 e1 hS hA hf hL hF
    obtain ⟨t2, a1, b1⟩ := kk r u t T'.heap (locs ++ L) e1.symm (by rw [← e2]; exact X'.warmed.alike) hp hb k1 k2 k3 T' rfl X'
    exact ⟨t2, st t2 a1, b1⟩
  · obtain ⟨k1, k2, k3⟩ := vx_keep h0 e1 hS hAX hf hL hF
    obtain ⟨t2, a1, b1⟩ := kx E ce q u t T'.heap (locs ++ L) e1.symm (by rw [← e2]; exact X'.warmed.alike) hp hb k1 k2 k3 (by rw [e1]; exact hce) hcv hcl T' rfl X'
    exact ⟨t2, st.trans a1, b1⟩
theorem vx_callv {S SX : Type} {post : S → Prop} {px : SX → Prop} {B : S → State → Prop} {BX : String → SX → State → Prop} {AX : Nat → Prop} (hr : vx_Run p l e R s m args below meth c H locs cells slots mc ms (F0 m pc ls st0) rest (va_Qv post B A1 a) (vx_X px BX AX) free) (hS : va_S A0 H0 H locs) (hA : ∀ q, q < H.size → A1 q → A0 q) (hf : ∀ q, free q → A0 q) (hAX : ∀ q, q < H.size → AX q → A0 q)
    (kx : ∀ (E : String) (ce : Cell) (q9 : Addr) (u : SX) (t : State) (H1 : Heap) (locs1 : List Loc), t.heap = H1 → s.vm.Alike t.vm → px u → BX E u t → H.size ≤ H1.size → (∀ q : Nat, q < H.size → ¬ AX q → H1[q]? = H[q]?) → va_S A0 H0 H1 locs1 → H1[q9]? = some ce → ce.vm = .none → s.vm.findClass E = some ce.cls → vx_W p l e R s m args below meth c H1 locs1 (cells + mc) (slots + ms) Q (F0 m pc ls rest) q9)
    (kk : ∀ (u : S) (t : State) (H1 : Heap) (locs1 : List Loc), t.heap = H1 → s.vm.Alike t.vm → post u → B u t → H.size ≤ H1.size → (∀ q : Nat, q < H.size → ¬ A1 q → H1[q]? = H[q]?) → va_S A0 H0 H1 locs1 → W p l e R s m args below meth c H1 locs1 (cells + mc) (slots + ms) Q (F0 m (pc + 3) ls (rest))) : W p l e R s m args below meth c H locs cells slots Q (F0 m pc ls st0) := by
  intro T hT X
  rcases hr T hT X with ⟨v, st₀, t, T', L, h0, X', hL, e1, e2, ⟨⟨u, hv, hp, hb⟩, hF⟩, st⟩ | ⟨q, st₀, t, T', L, E, ce, h0, X', hL, e1, e2, ⟨u, hp, hb, hF⟩, hce, hcv, hcl, st⟩
  · cases hv
    obtain ⟨k1, k2, k3⟩ := vx_keep h0 e1 hS hA hf hL hF
    obtain ⟨t2, a1, b1⟩ := kk u t T'.heap (locs ++ L) e1.symm (by rw [← e2]; exact X'.warmed.alike) hp hb k1 k2 k3 T' rfl X'
    exact ⟨t2, st t2 a1, b1⟩
  · obtain ⟨k1, k2, k3⟩ := vx_keep h0 e1 hS hAX hf hL hF
    obtain ⟨t2, a1, b1⟩ := kx E ce q u t T'.heap (locs ++ L) e1.symm (by rw [← e2]; exact X'.warmed.alike) hp hb k1 k2 k3 (by rw [e1]; exact hce) hcv hcl T' rfl X'
    exact ⟨t2, st.trans a1, b1⟩
/-- caught by the row x of this method's table; the rows ahead don't take it -/
theorem vx_catch {own name : String} {E : String} {ce : Cell} {q : Addr} (hown : s.vm.findClass own = some m.cls) (pre : List ExceptionTableEntry) (x : ExceptionTableEntry) (suf : List ExceptionTableEntry) (hsplit : c.exceptionTable.toList = pre ++ x :: suf)
    (hpass : ∀ z ∈ pre, covers z pc = false ∨ (z.catchType ≠ 0 ∧ ∃ nm : String, (Cond.classLink own z.catchType nm).before args s = true ∧ va_Nc E nm s)) (hx : covers x pc = true) (h0 : x.catchType ≠ 0)
    (hlink : (Cond.classLink own x.catchType name).before args s = true) (hcast : (Cond.castable E name).before args s = true) (hcell : H[q]? = some ce) (hv : ce.vm = .none) (hcl : s.vm.findClass E = some ce.cls)
    (kk : W p l e R s m args below meth c H locs cells slots Q (F0 m x.handlerPc ls [.ref q])) : vx_W p l e R s m args below meth c H locs cells slots Q (F0 m pc ls rest) q := by
  intro T hT X
  have hpl : e.platform.magicAccessors = ({} : Platform).magicAccessors := by rw [X.admits.platform]
  obtain ⟨c3, c4, hc3, hc4, hasg⟩ := Cond.castable_spec hcast
  cases Option.some.inj (hc3.symm.trans hcl)
  obtain ⟨c5, hc5, hcl5⟩ := Cond.classLink_spec hown hlink e.platform hpl
  cases Option.some.inj (hc4.symm.trans hc5)
  obtain ⟨vm', X', st⟩ := X.thenCaughtThrough q (g := F0 m pc ls rest) rfl (Steps.refl _) (by rw [hT]; exact hcell) (by rw [hv]; rfl) (by obtain ⟨k9, h9, -⟩ := Vm.findClass_spec hcl; exact ⟨k9, h9⟩) pre x suf hsplit
    (fun z hz => by
      rcases hpass z hz with h | ⟨hz0, nm, hl1, hn1⟩
      · exact Or.inl h
      · obtain ⟨c6, hc6, hcl6⟩ := Cond.classLink_spec hown hl1 e.platform hpl
        obtain ⟨a8, b8, h1, h2, h3⟩ := hn1
        cases Option.some.inj (h1.symm.trans hcl)
        cases Option.some.inj (h2.symm.trans hc6)
        exact Or.inr ⟨hz0, _, hcl6, h3⟩) hx (Or.inr ⟨h0, c4, hcl5, hasg⟩)
  obtain ⟨t, a1, b1⟩ := kk (T.setVm vm') hT X'
  exact ⟨t, st.trans a1, b1⟩
end Rows
section Ends
variable {p : Program} {l : Launch} {e : Env} {R : Room} {s : State} {m : MethodId} {args : Array Value} {below : List Frame} {meth : Method} {c : Code} {H : Heap} {locs : List Loc} {cells slots : Nat} {Q : State → Prop}
variable {mc ms : Nat} {free : Addr → Prop} {A0 A1 : Nat → Prop} {H0 : Heap} {a : Array Value} {ls : Array Slot} {st0 rest : List Value}
variable {Qc : Array Value → State → Outcome → State → Prop} {XC : String → State → State → Prop}
/-- what a body that may throw owes at its end -/
def vx_MQ (below : List Frame) (Qc : Array Value → State → Outcome → State → Prop) (XC : String → State → State → Prop) (a : Array Value) (s : State) (mc ms : Nat) (free : Addr → Prop) : State → Prop := fun t =>
  ∃ o, t.status = .running ∧ Ended t below o ∧ vx_Q Qc XC mc ms free a s o t
theorem vx_ret {g : JFrame} {mc ms : Nat} (k : W p l e R s m args below meth c H locs cells slots (MQ below Qc args s mc ms free) g) : W p l e R s m args below meth c H locs cells slots (vx_MQ below Qc XC args s mc ms free) g := by
  intro T hT X
  obtain ⟨t, a1, o, b1, b2, b3, b4⟩ := k T hT X
  exact ⟨t, a1, o, b1, b2, Or.inl ⟨b3, b4⟩⟩
/-- not caught here: it goes on to the caller -/
theorem vx_widen {g : JFrame} {q : Addr} {k n : Nat} (h1 : cells ≤ k) (h2 : slots ≤ n) (kk : vx_W p l e R s m args below meth c H locs k n Q g q) : vx_W p l e R s m args below meth c H locs cells slots Q g q := fun T hT X => kk T hT (stand_widen X h1 h2)
theorem vx_out {pc : Nat} {E : String} {ce : Cell} {q : Addr} {mc ms : Nat} (hout : ∀ x ∈ c.exceptionTable.toList, covers x pc = false) (hlocks : meth.locks = false) (hcell : H[q]? = some ce) (hv : ce.vm = .none) (hcl : s.vm.findClass E = some ce.cls)
    (hx : ∀ t : State, t.heap = H → s.vm.Alike t.vm → XC E s t) (hf : ∀ z ∈ locs, free z.base) (hc : cells ≤ mc) (hs : slots ≤ ms) :
    vx_W p l e R s m args below meth c H locs cells slots (vx_MQ below Qc XC args s mc ms free) (F0 m pc ls rest) q := by
  intro T hT X
  obtain ⟨st1, hrun, hend, hW, hsm⟩ := X.leaveThrown q (g := F0 m pc ls rest) rfl rfl rfl hout hlocks
  have hcell9 : (T.setFrames (.throwing q :: below)).heap[q]? = some ce := by
    show T.heap[q]? = some ce
    rw [hT]; exact hcell
  exact ⟨_, st1, .threw q, hrun, hend, Or.inr ⟨q, rfl, E, ce, locs, hx _ hT hW.alike, hcell9, hv, hcl, hW, hsm.mono hc hs, hf⟩⟩
theorem vx_frame {U : State} {k n : Nat} (h : s.sameButNew ({ U with vm := s.vm } : State) locs k n) : s.heap.size ≤ U.heap.size ∧ ∀ q : Nat, q < s.heap.size → (∀ z ∈ locs, z.base ≠ q) → U.heap[q]? = s.heap[q]? := by
  obtain ⟨-, h2, -, -, -, h6⟩ := h
  refine ⟨h2, fun q hq hz => ?_⟩
  obtain ⟨c9, e1, e2, e3, e4⟩ := h6 q _ (Array.getElem?_eq_getElem hq)
  have hs : c9.slots = (s.heap[q]).slots := Array.ext_getElem? fun i => e4 i fun hm => hz _ hm rfl
  have h9 : c9 = s.heap[q] := by
    rw [hs] at e2
    exact e2
  have e5 : U.heap[q]? = some c9 := e1
  rw [e5, h9, Array.getElem?_eq_getElem hq]
/-- the words of a throw but the four that speak of the heap -/
def vx_no (w : Cond) : Bool := decide (w ≠ .isRef (.static Bundle.tN "UNASSIGNED_STACK" Bundle.steD)) && decide (w ≠ .isRef (.static Bundle.tN "SUPPRESSED_SENTINEL" Bundle.listD)) && decide (w ≠ .laysStatic Bundle.tN "UNASSIGNED_STACK" Bundle.steD) && decide (w ≠ .laysStatic Bundle.tN "SUPPRESSED_SENTINEL" Bundle.listD)
def vx_at0 (own : String) (ic : Nat) (X : String) (names : List String) : List Cond := (Bundle.ownAtoms0 own ic X names).filter vx_no
def vx_atS (own : String) (ic : Nat) (X : String) (names : List String) : List Cond := (Bundle.ownAtoms own ic X names).filter vx_no
/-- a word that the tables alone decide, or a good one -/
def vx_ot (w : Cond) : Bool := w.onTables || goodWord w
theorem vx_ot_at {args a' : Array Value} {s U : State} {w : Cond} (hW : s.WarmedH U.vm) (hvm : s.vm = U.vm) (hg : vx_ot w = true) (h : w.before args s = true) : w.before a' U = true := by
  simp only [vx_ot, Bool.or_eq_true] at hg
  rcases hg with hg | hg
  · exact va_tabs hg hvm h
  · exact word_at hW (good_of_word hg) h
/-- a list's words: the good ones out of the method's own list, the others by premises of their own -/
theorem vx_hat {args : Array Value} {s : State} {L B : List Cond} (h1 : ∀ w ∈ L.filter goodWord, w.before args s = true) (h2 : ∀ w ∈ L.filter (fun w => !goodWord w), w ∈ B) (h3 : ∀ w ∈ B, w.before args s = true) : ∀ w ∈ L, w.before args s = true := by
  intro w hw
  by_cases g : goodWord w = true
  · exact h1 w (List.mem_filter.mpr ⟨hw, g⟩)
  · refine h3 w (h2 w (List.mem_filter.mpr ⟨hw, ?_⟩))
    show (!goodWord w) = true
    cases hgw : goodWord w
    · rfl
    · exact absurd hgw g
theorem vx_c {args : Array Value} {s : State} {w : Cond} {B : List Cond} (h : w.before args s = true) (t : ∀ w ∈ B, w.before args s = true) : ∀ w' ∈ w :: B, w'.before args s = true := fun w' h' => (List.mem_cons.mp h').elim (fun e => by rw [e]; exact h) (t w')
theorem vx_n {args : Array Value} {s : State} : ∀ w ∈ ([] : List Cond), w.before args s = true := fun _ h => nomatch h
theorem vx_own {args : Array Value} {s : State} {L : List Cond} (h1 : ∀ w ∈ L.filter vx_no, w.before args s = true)
    (hU : (Cond.isRef (.static Bundle.tN "UNASSIGNED_STACK" Bundle.steD)).before args s = true) (hN : (Cond.isRef (.static Bundle.tN "SUPPRESSED_SENTINEL" Bundle.listD)).before args s = true)
    (lU : (Cond.laysStatic Bundle.tN "UNASSIGNED_STACK" Bundle.steD).before args s = true) (lN : (Cond.laysStatic Bundle.tN "SUPPRESSED_SENTINEL" Bundle.listD).before args s = true) : ∀ w ∈ L, w.before args s = true := by
  intro w hw
  by_cases e1 : w = .isRef (.static Bundle.tN "UNASSIGNED_STACK" Bundle.steD)
  · rw [e1]; exact hU
  · by_cases e2 : w = .isRef (.static Bundle.tN "SUPPRESSED_SENTINEL" Bundle.listD)
    · rw [e2]; exact hN
    · by_cases e3 : w = .laysStatic Bundle.tN "UNASSIGNED_STACK" Bundle.steD
      · rw [e3]; exact lU
      · by_cases e4 : w = .laysStatic Bundle.tN "SUPPRESSED_SENTINEL" Bundle.listD
        · rw [e4]; exact lN
        · exact h1 w (List.mem_filter.mpr ⟨hw, by unfold vx_no; rw [decide_eq_true e1, decide_eq_true e2, decide_eq_true e3, decide_eq_true e4]; rfl⟩)
/-- where a static field lies, its class's statics cell in H -/
def vx_L (C n d : String) (A : Nat → Prop) (U : State) (H : Heap) : Prop := ∃ (c : ClassId) (k : Class) (i : Nat) (f : Field) (a : Nat) (cell : Cell), U.vm.findClass C = some c ∧ U.fieldFound? C n d = some (c, k, i, f) ∧ f.isStatic = true ∧ k.statics = some a ∧ H[a]? = some cell ∧ cell.vm.isStatics = true ∧ cell.cls = c ∧ f.slot < cell.slots.size ∧ k.staticTypes[f.slot]? = some f.type ∧ ¬ A a
theorem vx_L.moved {C n d : String} {A : Nat → Prop} {u U : State} {H : Heap} (hvm : u.vm.Alike U.vm) (h : vx_L C n d A u H) : vx_L C n d A U H := by
  obtain ⟨c, k, i, f, a, cell, h1, h2, h3, h4, h5, h6, h7, h8, h9, h10⟩ := h
  obtain ⟨k', hi', he⟩ := State.fieldFound?_setVm hvm h2
  exact ⟨c, k', i, f, a, cell, by rw [hvm.findClass]; exact h1, hi', h3, by rw [he]; exact h4, h5, h6, h7, h8, by rw [he]; exact h9, h10⟩
theorem vx_L.kept {C n d : String} {A : Nat → Prop} {U : State} {H H1 : Heap} (h : vx_L C n d A U H) (hq : ∀ a : Nat, a < H.size → ¬ A a → H1[a]? = H[a]?) : vx_L C n d A U H1 := by
  obtain ⟨c, k, i, f, a, cell, h1, h2, h3, h4, h5, h6, h7, h8, h9, h10⟩ := h
  exact ⟨c, k, i, f, a, cell, h1, h2, h3, h4, by rw [hq a (Array.getElem?_eq_some_iff.mp h5).1 h10]; exact h5, h6, h7, h8, h9, h10⟩
theorem vx_L.narrow {C n d : String} {A B : Nat → Prop} {U : State} {H : Heap} (h : vx_L C n d A U H) (hAB : ∀ q, B q → A q) : vx_L C n d B U H := by
  obtain ⟨c, k, i, f, a, cell, h1, h2, h3, h4, h5, h6, h7, h8, h9, h10⟩ := h
  exact ⟨c, k, i, f, a, cell, h1, h2, h3, h4, h5, h6, h7, h8, h9, fun z => h10 (hAB _ z)⟩
theorem vx_L.word {C n d : String} {A : Nat → Prop} {s : State} {args : Array Value} (h : vx_L C n d A s s.heap) : (Cond.laysStatic C n d).before args s = true := by
  obtain ⟨c, k, i, f, a, cell, h1, h2, h3, h4, h5, h6, h7, h8, h9, -⟩ := h
  show (Cond.laysStatic C n d).holds args s none s [] = true
  exact Cond.laysStatic_of h1 h2 h3 h4 h5 h6 h7 h8 h9
/-- .. and what it holds: null or some reference -/
def vx_Zq (C n d : String) (A : Nat → Prop) (U : State) (H : Heap) : Prop := va_Zq C n d A U H ∧ vx_L C n d A U H
theorem vx_Zq.moved {C n d : String} {A : Nat → Prop} {u U : State} {H : Heap} (hvm : u.vm.Alike U.vm) (h : vx_Zq C n d A u H) : vx_Zq C n d A U H := ⟨va_Zq.moved hvm h.1, vx_L.moved hvm h.2⟩
theorem vx_Zq.kept {C n d : String} {A : Nat → Prop} {U : State} {H H1 : Heap} (h : vx_Zq C n d A U H) (hq : ∀ a : Nat, a < H.size → ¬ A a → H1[a]? = H[a]?) : vx_Zq C n d A U H1 := ⟨va_Zq.kept h.1 hq, vx_L.kept h.2 hq⟩
theorem vx_Zq.narrow {C n d : String} {A B : Nat → Prop} {U : State} {H : Heap} (h : vx_Zq C n d A U H) (hAB : ∀ q, B q → A q) : vx_Zq C n d B U H := ⟨va_Zq.narrow h.1 hAB, vx_L.narrow h.2 hAB⟩
theorem vx_Zqof {args : Array Value} {s : State} {C n d : String} {A : Nat → Prop} (hl : (Cond.laysStatic C n d).before args s = true) (hini : (Cond.initialized C).before args s = true) (h : (Cond.isRef (.static C n d)).before args s = true) (hA : ∀ a : Nat, a < s.heap.size → ¬ A a) : vx_Zq C n d A s s.heap := by
  refine ⟨va_Zqof hl hini h hA, ?_⟩
  obtain ⟨c, k, i, f, a, cell, h1, h2, h3, h4, h5, h6, h7, h8, h9⟩ := Cond.laysStatic_spec hl
  exact ⟨c, k, i, f, a, cell, h1, h2, h3, h4, h5, h6, h7, h8, h9, hA a (Array.getElem?_eq_some_iff.mp h5).1⟩
theorem vx_isRef {C n d : String} {v : Value} {A : Nat → Prop} {s : State} {args : Array Value} (h : va_Z C n d v A s s.heap) (hv : v.isRef = true) : (Cond.isRef (.static C n d)).before args s = true := by
  obtain ⟨cf, kf, fi, f, a, cell, h1, h2, h3, h4, h5, h6, h7, -⟩ := h
  have he : (Term.static C n d).eval args s none [] s = some v := by
    simp [Term.eval, State.fieldNamed?, h1, h2, h4, h5, h6, h7]
  simp only [Cond.before, Cond.holds, Cond.value, he]
  cases v <;> simp_all [Value.isRef]
theorem vx_isRefq {C n d : String} {A : Nat → Prop} {s : State} {args : Array Value} (h : va_Zq C n d A s s.heap) : (Cond.isRef (.static C n d)).before args s = true := by
  rcases h with h | ⟨t, h⟩
  · exact vx_isRef h rfl
  · exact vx_isRef h rfl
/-- the same frame, seen from here: as if the method were called anew in this heap -/
theorem vx_rebase {T : State} (X : Stand p l e R s m args below meth c T locs cells slots) {R' : Room} (hf : R'.frames ≤ R.frames) (hl : R'.locals ≤ R.locals) (hc : cells + R'.cells ≤ R.cells) (hs : slots + R'.slots ≤ R.slots) :
    Stand p l e R' ((T.setVm s.vm).setFrames (.invoking m args :: below)) m args below meth c T [] 0 0 := by
  have htop : (T.setVm s.vm).topJava?.isSome := X.here.top
  have hF : ((T.setVm s.vm).setFrames (.invoking m args :: below)).frames = .invoking m args :: below := State.frames_setFrames _ (State.cur_lt_of_top htop)
  obtain ⟨g₀, hg0⟩ := Option.isSome_iff_exists.mp htop
  obtain ⟨r, hr⟩ := State.topJava?_eq_some.mp hg0
  have hl9 : e.platform.stackLimits (T.setVm s.vm).me = e.platform.stackLimits s.me := X.limits
  have hb9 : (T.setVm s.vm).me.stackBytes = s.me.stackBytes := X.bytes
  refine ⟨X.admits, X.cas, X.clock, hF, ?_, X.hears, X.method, X.code, X.here, X.tail, X.warmed, ?_, ?_, ?_⟩
  · have h := X.room
    have hU : ((T.setVm s.vm).setFrames (.invoking m args :: below)).localsInUse = s.localsInUse := by
      rw [State.localsInUse_invoking hF (meth := meth) (c := c) X.method X.code, State.localsInUse_invoking X.frames X.method X.code]
    simp only [State.hasRoom, Bool.and_eq_true, decide_eq_true_eq] at h ⊢
    obtain ⟨⟨⟨⟨h1, h2, h3, h4, h5, h6⟩, h7⟩, h8⟩, h9⟩ := h
    rw [X.frames, List.length_cons] at h2 h3
    have q1 := X.heapSize
    have q2 := X.used
    simp only [hF, hU, List.length_cons, State.stackLimits_setFrames, State.stackBytes_setFrames, hl9, hb9]
    refine ⟨⟨⟨⟨by omega, by omega, by omega, by omega, by omega, h6⟩, ?_⟩, ?_⟩, X.book⟩
    · show T.heap.size + R'.cells ≤ e.platform.maxCells
      omega
    · show T.slotsUsed + R'.slots ≤ e.platform.maxSlots
      omega
  · rw [State.stackLimits_setFrames]; rfl
  · rw [State.stackBytes_setFrames]; rfl
  · refine ⟨?_, Nat.le_refl _, Nat.le_refl _, ?_, ?_, fun a c9 h9 => ⟨c9, h9, rfl, rfl, fun _ _ => rfl⟩⟩
    · obtain ⟨t, ht, -⟩ := State.frames_cons hr
      show T.setVm s.vm = { ((T.setVm s.vm).setFrames (.invoking m args :: below)).setFrames (T.setVm s.vm).frames with heap := T.heap, slotsUsed := T.slotsUsed }
      rw [State.setFrames_setFrames, State.setFrames_self ht]
      rfl
    · show T.slotsUsed = T.slotsUsed + ((T.heap.toList.drop T.heap.size).map (·.slots.size)).sum
      rw [List.drop_eq_nil_of_le (Nat.le_of_eq Array.length_toList)]
      rfl
    · show ((T.heap.toList.drop T.heap.size).map (·.slots.size)).sum ≤ 0
      rw [List.drop_eq_nil_of_le (Nat.le_of_eq Array.length_toList)]
      exact Nat.le_refl _
/-- 'throw new E()': new; dup; invokespecial; athrow -/
theorem vx_throw0 {cc : ByteArray} {pc : Nat} (hexec : p.tables.exec = Jvm.exec) (hb : c.code = cc) (hl : l.stackTraces = false) {own cls : String} {names : List String} {ik ic mc ms : Nat} {A : Nat → Prop}
    (hown : s.vm.findClass own = some m.cls) (hcls : Bundle.fit cls = true) (hnames : ∀ n ∈ names, Bundle.fit n = true)
    (hk : (Cond.classLink own ik cls).before args s = true) (hini : (Cond.initialized cls).before args s = true) (hat : ∀ w ∈ vx_at0 own ic cls names, w.before args s = true)
    (hgood : ∀ w ∈ Cond.classLink own ik cls :: Cond.initialized cls :: vx_at0 own ic cls names, vx_ot w = true)
    (hU : vx_Zq Bundle.tN "UNASSIGNED_STACK" Bundle.steD A s s.heap) (hN : vx_Zq Bundle.tN "SUPPRESSED_SENTINEL" Bundle.listD A s s.heap) (hS : va_S A s.heap H locs) (hsize : ls.size = c.maxLocals)
    (d0 : decode cc pc = .ok (.new ik, 3)) (d3 : decode cc (pc + 3) = .ok (.dup, 1)) (d4 : decode cc (pc + 4) = .ok (.invokespecial ic, 3)) (d7 : decode cc (pc + 7) = .ok (.athrow, 1))
    (hout : ∀ x ∈ c.exceptionTable.toList, covers x (pc + 7) = false)
    (hRframes : names.length + 3 < R.frames) (hRlocals : (rest.map fun v => v.category).sum + (13 * (names.length + 1) + 42) ≤ R.locals) (hRcells : cells + 1 ≤ R.cells) (hRslots : slots + 6 ≤ R.slots) (hlocks : meth.locks = false)
    (hx : ∀ t : State, s.vm.Alike t.vm → H.size ≤ t.heap.size → (∀ q : Nat, q < H.size → t.heap[q]? = H[q]?) → XC cls s t)
    (hf : ∀ z ∈ locs, free z.base) (hc : cells + 1 ≤ mc) (hs : slots + 6 ≤ ms) :
    W p l e R s m args below meth c H locs cells slots (vx_MQ below Qc XC args s mc ms free) (F0 m pc ls rest) := by
  intro T hT X
  have htr : e.platform.stackTraces = false := (show e.platform.stackTraces = l.stackTraces by rw [X.admits.platform]).trans hl
  have Y := vx_rebase X (R' := { frames := R.frames, locals := R.locals, cells := 1, slots := 6 }) (Nat.le_refl _) (Nat.le_refl _) hRcells hRslots
  obtain ⟨s', hA⟩ : ∃ z, z = (T.setVm s.vm).setFrames (.invoking m args :: below) := ⟨_, rfl⟩
  rw [← hA] at Y
  have hvm : s'.vm = s.vm := by rw [hA]; rfl
  have hhp : s'.heap = H := by rw [hA]; exact hT
  have hW0 : s.WarmedH s'.vm := by rw [hvm]; exact State.WarmedH.refl s
  have hat' : ∀ w ∈ vx_at0 own ic cls names, w.before args s' = true := fun w hw => vx_ot_at hW0 hvm.symm (hgood w (List.mem_cons_of_mem _ (List.mem_cons_of_mem _ hw))) (hat w hw)
  have hk' : (Cond.classLink own ik cls).before args s' = true := vx_ot_at hW0 hvm.symm (hgood _ List.mem_cons_self) hk
  have hini' : (Cond.initialized cls).before args s' = true := vx_ot_at hW0 hvm.symm (hgood _ (List.mem_cons_of_mem _ List.mem_cons_self)) hini
  have hU' : vx_Zq Bundle.tN "UNASSIGNED_STACK" Bundle.steD A s' s'.heap := by rw [hhp]; exact vx_Zq.moved hW0.alike (hU.kept hS.2.1)
  have hN' : vx_Zq Bundle.tN "SUPPRESSED_SENTINEL" Bundle.listD A s' s'.heap := by rw [hhp]; exact vx_Zq.moved hW0.alike (hN.kept hS.2.1)
  have h : ∀ w ∈ Bundle.ownAtoms0 own ic cls names, w.before args s' = true := vx_own hat' (vx_isRefq hU'.1) (vx_isRefq hN'.1) hU'.2.word hN'.2.word
  have hown' : s'.vm.findClass own = some m.cls := by rw [hvm]; exact hown
  have hins : (Cond.instantiable cls 6).before args s' = true := h _ (by simp [Bundle.ownAtoms0])
  obtain ⟨vm₁, cX, kX, hfX, hkX, -, -, X₁, st1⟩ := Y.newCold hexec (own := own) (C := cls) (index := ik) (n := 6) hown' hk' hins hini'
    (g := F0 m pc ls rest) rfl (by rw [hb]; exact d0) (Nat.le_refl _) (Nat.le_refl _)
  generalize hT1 : (T.setVm vm₁).pushCell { cls := cX, slots := kX.instanceTypes.map defaultValue, vm := .none } = T1 at X₁ st1
  have hcat : (Value.ref T.heap.size).category = 1 := rfl
  have hcellA : T1.heap[T.heap.size]? = some (freshCell cX kX) := by rw [← hT1]; exact State.heap_pushCell_size _ _
  have d3' : decode c.code (pc + 3) = .ok (.dup, 1) := by rw [hb]; exact d3
  obtain ⟨U, hsteps, hrun, hend, hW, hsame, ce, hce, hO⟩ := X₁.ctorThrow0 hexec htr (own := own) (cls := cls) (names := names) (ic := ic) hown' hcls hnames h (fun x hx => nomatch hx) hfX hkX hcellA (by rw [hhp, hT]; exact Nat.le_refl _)
    (g := { method := m, pc := pc + 4, locals := ls, stack := .ref T.heap.size :: .ref T.heap.size :: rest, locked := none }) rfl hsize rfl rfl (rest := rest) rfl
    (by rw [hb]; exact d4) (by rw [hb]; exact d7) hout hRframes (by simp only [List.map_cons, List.sum_cons, hcat]; omega) hlocks
  obtain ⟨f1, f2⟩ := vx_frame hsame
  rw [hhp] at f1 f2
  have hWs : s.WarmedH U.vm := State.WarmedH.trans hW0 hW
  have hcl : s.vm.findClass cls = some ce.cls := by
    have h9 := hO.cls
    rw [hvm] at h9
    exact h9
  have hall : s.sameButNew ({ U with vm := s.vm } : State) locs mc ms := by
    subst hA
    obtain ⟨e1, e2⟩ := hsame
    rw [State.setFrames_setFrames] at e1
    have h2 : (T.setVm s.vm).sameButNew ({ U with vm := s.vm } : State) [] (0 + 1) (0 + 6) := ⟨e1, e2⟩
    have h3 := X.same.trans h2
    rw [List.append_nil] at h3
    exact h3.mono hc hs
  refine ⟨U, ?_, .threw T.heap.size, hrun, hend, Or.inr ⟨T.heap.size, rfl, cls, ce, locs, hx U hWs.alike f1 (fun q hq => f2 q hq (fun z hz => nomatch hz)), hce, hO.vm, hcl, hWs, hall, hf⟩⟩
  refine st1 _ ?_
  show Steps p.tables e below (T1.setTop { method := m, pc := pc + 3, locals := ls, stack := .ref T.heap.size :: rest, locked := none }) _
  jvm_step X₁.here [X₁.here.top, hexec, d3', Value.category]
  exact hsteps
/-- 'throw new E("text")': new; dup; ldc; invokespecial; athrow -/
theorem vx_throwS {cc : ByteArray} {pc : Nat} (hexec : p.tables.exec = Jvm.exec) (hb : c.code = cc) (hl : l.stackTraces = false) {own cls text : String} {names : List String} {ik is ic mc ms sa : Nat} {A : Nat → Prop}
    (hown : s.vm.findClass own = some m.cls) (hcls : Bundle.fit cls = true) (hnames : ∀ n ∈ names, Bundle.fit n = true)
    (hk : (Cond.classLink own ik cls).before args s = true) (hini : (Cond.initialized cls).before args s = true) (hstr : vk_R own is text sa s) (hat : ∀ w ∈ vx_atS own ic cls names, w.before args s = true)
    (hgood : ∀ w ∈ Cond.classLink own ik cls :: Cond.initialized cls :: vx_atS own ic cls names, vx_ot w = true)
    (hU : vx_Zq Bundle.tN "UNASSIGNED_STACK" Bundle.steD A s s.heap) (hN : vx_Zq Bundle.tN "SUPPRESSED_SENTINEL" Bundle.listD A s s.heap) (hS : va_S A s.heap H locs) (hsize : ls.size = c.maxLocals)
    (d0 : decode cc pc = .ok (.new ik, 3)) (d3 : decode cc (pc + 3) = .ok (.dup, 1)) (d4 : decode cc (pc + 4) = .ok (.ldc is, 2)) (d6 : decode cc (pc + 6) = .ok (.invokespecial ic, 3)) (d9 : decode cc (pc + 9) = .ok (.athrow, 1))
    (hout : ∀ x ∈ c.exceptionTable.toList, covers x (pc + 9) = false)
    (hRframes : names.length + 3 < R.frames) (hRlocals : (rest.map fun v => v.category).sum + (13 * (names.length + 1) + 43) ≤ R.locals) (hRcells : cells + 1 ≤ R.cells) (hRslots : slots + 6 ≤ R.slots) (hlocks : meth.locks = false)
    (hx : ∀ t : State, s.vm.Alike t.vm → H.size ≤ t.heap.size → (∀ q : Nat, q < H.size → t.heap[q]? = H[q]?) → XC cls s t)
    (hf : ∀ z ∈ locs, free z.base) (hc : cells + 1 ≤ mc) (hs : slots + 6 ≤ ms) :
    W p l e R s m args below meth c H locs cells slots (vx_MQ below Qc XC args s mc ms free) (F0 m pc ls rest) := by
  intro T hT X
  have htr : e.platform.stackTraces = false := (show e.platform.stackTraces = l.stackTraces by rw [X.admits.platform]).trans hl
  have Y := vx_rebase X (R' := { frames := R.frames, locals := R.locals, cells := 1, slots := 6 }) (Nat.le_refl _) (Nat.le_refl _) hRcells hRslots
  obtain ⟨s', hA⟩ : ∃ z, z = (T.setVm s.vm).setFrames (.invoking m args :: below) := ⟨_, rfl⟩
  rw [← hA] at Y
  have hvm : s'.vm = s.vm := by rw [hA]; rfl
  have hhp : s'.heap = H := by rw [hA]; exact hT
  have hW0 : s.WarmedH s'.vm := by rw [hvm]; exact State.WarmedH.refl s
  have hat' : ∀ w ∈ vx_atS own ic cls names, w.before args s' = true := fun w hw => vx_ot_at hW0 hvm.symm (hgood w (List.mem_cons_of_mem _ (List.mem_cons_of_mem _ hw))) (hat w hw)
  have hk' : (Cond.classLink own ik cls).before args s' = true := vx_ot_at hW0 hvm.symm (hgood _ List.mem_cons_self) hk
  have hini' : (Cond.initialized cls).before args s' = true := vx_ot_at hW0 hvm.symm (hgood _ (List.mem_cons_of_mem _ List.mem_cons_self)) hini
  have hU' : vx_Zq Bundle.tN "UNASSIGNED_STACK" Bundle.steD A s' s'.heap := by rw [hhp]; exact vx_Zq.moved hW0.alike (hU.kept hS.2.1)
  have hN' : vx_Zq Bundle.tN "SUPPRESSED_SENTINEL" Bundle.listD A s' s'.heap := by rw [hhp]; exact vx_Zq.moved hW0.alike (hN.kept hS.2.1)
  have h : ∀ w ∈ Bundle.ownAtoms own ic cls names, w.before args s' = true := vx_own hat' (vx_isRefq hU'.1) (vx_isRefq hN'.1) hU'.2.word hN'.2.word
  have hown' : s'.vm.findClass own = some m.cls := by rw [hvm]; exact hown
  have hins : (Cond.instantiable cls 6).before args s' = true := h _ (by simp [Bundle.ownAtoms])
  obtain ⟨vm₁, cX, kX, hfX, hkX, -, -, X₁, st1⟩ := Y.newCold hexec (own := own) (C := cls) (index := ik) (n := 6) hown' hk' hins hini'
    (g := F0 m pc ls rest) rfl (by rw [hb]; exact d0) (Nat.le_refl _) (Nat.le_refl _)
  generalize hT1 : (T.setVm vm₁).pushCell { cls := cX, slots := kX.instanceTypes.map defaultValue, vm := .none } = T1 at X₁ st1
  have hcat : (Value.ref T.heap.size).category = 1 := rfl
  have hcellA : T1.heap[T.heap.size]? = some (freshCell cX kX) := by rw [← hT1]; exact State.heap_pushCell_size _ _
  have d3' : decode c.code (pc + 3) = .ok (.dup, 1) := by rw [hb]; exact d3
  have d4' : decode c.code (pc + 4) = .ok (.ldc is, 2) := by rw [hb]; exact d4
  have hstr' : vk_R own is text sa s' := vk_R.warm hW0 hstr
  obtain ⟨U, hsteps, hrun, hend, hW, hsame, ce, hce, hO⟩ := X₁.ctorThrowS hexec htr (own := own) (cls := cls) (names := names) (ic := ic) hown' hcls hnames h (fun x hx => nomatch hx) hfX hkX hcellA (by rw [hhp, hT]; exact Nat.le_refl _) (msg := .ref sa) rfl
    (g := { method := m, pc := pc + 6, locals := ls, stack := .ref sa :: .ref T.heap.size :: .ref T.heap.size :: rest, locked := none }) rfl hsize rfl rfl (rest := rest) rfl
    (by rw [hb]; exact d6) (by rw [hb]; exact d9) hout hRframes (by simp only [List.map_cons, List.sum_cons, hcat]; omega) hlocks
  obtain ⟨f1, f2⟩ := vx_frame hsame
  rw [hhp] at f1 f2
  have hWs : s.WarmedH U.vm := State.WarmedH.trans hW0 hW
  have hcl : s.vm.findClass cls = some ce.cls := by
    have h9 := hO.cls
    rw [hvm] at h9
    exact h9
  have hall : s.sameButNew ({ U with vm := s.vm } : State) locs mc ms := by
    subst hA
    obtain ⟨e1, e2⟩ := hsame
    rw [State.setFrames_setFrames] at e1
    have h2 : (T.setVm s.vm).sameButNew ({ U with vm := s.vm } : State) [] (0 + 1) (0 + 6) := ⟨e1, e2⟩
    have h3 := X.same.trans h2
    rw [List.append_nil] at h3
    exact h3.mono hc hs
  refine ⟨U, ?_, .threw T.heap.size, hrun, hend, Or.inr ⟨T.heap.size, rfl, cls, ce, locs, hx U hWs.alike f1 (fun q hq => f2 q hq (fun z hz => nomatch hz)), hce, hO.vm, hcl, hWs, hall, hf⟩⟩
  refine st1 _ ?_
  show Steps p.tables e below (T1.setTop { method := m, pc := pc + 3, locals := ls, stack := .ref T.heap.size :: rest, locked := none }) _
  jvm_step X₁.here [X₁.here.top, hexec, d3', Value.category]
  exact X₁.ldcString hexec (own := own) (text := text) (index := is) (a := sa) hown' hstr'.1 hstr'.2
    (g := { method := m, pc := pc + 4, locals := ls, stack := .ref T.heap.size :: .ref T.heap.size :: rest, locked := none }) rfl d4' _ hsteps
/-- 'throw new E("text")', the text by a wide index -/
theorem vx_throwSW {cc : ByteArray} {pc : Nat} (hexec : p.tables.exec = Jvm.exec) (hb : c.code = cc) (hl : l.stackTraces = false) {own cls text : String} {names : List String} {ik is ic mc ms sa : Nat} {A : Nat → Prop}
    (hown : s.vm.findClass own = some m.cls) (hcls : Bundle.fit cls = true) (hnames : ∀ n ∈ names, Bundle.fit n = true)
    (hk : (Cond.classLink own ik cls).before args s = true) (hini : (Cond.initialized cls).before args s = true) (hstr : vk_R own is text sa s) (hat : ∀ w ∈ vx_atS own ic cls names, w.before args s = true)
    (hgood : ∀ w ∈ Cond.classLink own ik cls :: Cond.initialized cls :: vx_atS own ic cls names, vx_ot w = true)
    (hU : vx_Zq Bundle.tN "UNASSIGNED_STACK" Bundle.steD A s s.heap) (hN : vx_Zq Bundle.tN "SUPPRESSED_SENTINEL" Bundle.listD A s s.heap) (hS : va_S A s.heap H locs) (hsize : ls.size = c.maxLocals)
    (d0 : decode cc pc = .ok (.new ik, 3)) (d3 : decode cc (pc + 3) = .ok (.dup, 1)) (d4 : decode cc (pc + 4) = .ok (.ldc_w is, 3)) (d7 : decode cc (pc + 7) = .ok (.invokespecial ic, 3)) (d10 : decode cc (pc + 10) = .ok (.athrow, 1))
    (hout : ∀ x ∈ c.exceptionTable.toList, covers x (pc + 10) = false)
    (hRframes : names.length + 3 < R.frames) (hRlocals : (rest.map fun v => v.category).sum + (13 * (names.length + 1) + 43) ≤ R.locals) (hRcells : cells + 1 ≤ R.cells) (hRslots : slots + 6 ≤ R.slots) (hlocks : meth.locks = false)
    (hx : ∀ t : State, s.vm.Alike t.vm → H.size ≤ t.heap.size → (∀ q : Nat, q < H.size → t.heap[q]? = H[q]?) → XC cls s t)
    (hf : ∀ z ∈ locs, free z.base) (hc : cells + 1 ≤ mc) (hs : slots + 6 ≤ ms) :
    W p l e R s m args below meth c H locs cells slots (vx_MQ below Qc XC args s mc ms free) (F0 m pc ls rest) := by
  intro T hT X
  have htr : e.platform.stackTraces = false := (show e.platform.stackTraces = l.stackTraces by rw [X.admits.platform]).trans hl
  have Y := vx_rebase X (R' := { frames := R.frames, locals := R.locals, cells := 1, slots := 6 }) (Nat.le_refl _) (Nat.le_refl _) hRcells hRslots
  obtain ⟨s', hA⟩ : ∃ z, z = (T.setVm s.vm).setFrames (.invoking m args :: below) := ⟨_, rfl⟩
  rw [← hA] at Y
  have hvm : s'.vm = s.vm := by rw [hA]; rfl
  have hhp : s'.heap = H := by rw [hA]; exact hT
  have hW0 : s.WarmedH s'.vm := by rw [hvm]; exact State.WarmedH.refl s
  have hat' : ∀ w ∈ vx_atS own ic cls names, w.before args s' = true := fun w hw => vx_ot_at hW0 hvm.symm (hgood w (List.mem_cons_of_mem _ (List.mem_cons_of_mem _ hw))) (hat w hw)
  have hk' : (Cond.classLink own ik cls).before args s' = true := vx_ot_at hW0 hvm.symm (hgood _ List.mem_cons_self) hk
  have hini' : (Cond.initialized cls).before args s' = true := vx_ot_at hW0 hvm.symm (hgood _ (List.mem_cons_of_mem _ List.mem_cons_self)) hini
  have hU' : vx_Zq Bundle.tN "UNASSIGNED_STACK" Bundle.steD A s' s'.heap := by rw [hhp]; exact vx_Zq.moved hW0.alike (hU.kept hS.2.1)
  have hN' : vx_Zq Bundle.tN "SUPPRESSED_SENTINEL" Bundle.listD A s' s'.heap := by rw [hhp]; exact vx_Zq.moved hW0.alike (hN.kept hS.2.1)
  have h : ∀ w ∈ Bundle.ownAtoms own ic cls names, w.before args s' = true := vx_own hat' (vx_isRefq hU'.1) (vx_isRefq hN'.1) hU'.2.word hN'.2.word
  have hown' : s'.vm.findClass own = some m.cls := by rw [hvm]; exact hown
  have hins : (Cond.instantiable cls 6).before args s' = true := h _ (by simp [Bundle.ownAtoms])
  obtain ⟨vm₁, cX, kX, hfX, hkX, -, -, X₁, st1⟩ := Y.newCold hexec (own := own) (C := cls) (index := ik) (n := 6) hown' hk' hins hini'
    (g := F0 m pc ls rest) rfl (by rw [hb]; exact d0) (Nat.le_refl _) (Nat.le_refl _)
  generalize hT1 : (T.setVm vm₁).pushCell { cls := cX, slots := kX.instanceTypes.map defaultValue, vm := .none } = T1 at X₁ st1
  have hcat : (Value.ref T.heap.size).category = 1 := rfl
  have hcellA : T1.heap[T.heap.size]? = some (freshCell cX kX) := by rw [← hT1]; exact State.heap_pushCell_size _ _
  have d3' : decode c.code (pc + 3) = .ok (.dup, 1) := by rw [hb]; exact d3
  have d4' : decode c.code (pc + 4) = .ok (.ldc_w is, 3) := by rw [hb]; exact d4
  have hstr' : vk_R own is text sa s' := vk_R.warm hW0 hstr
  obtain ⟨U, hsteps, hrun, hend, hW, hsame, ce, hce, hO⟩ := X₁.ctorThrowS hexec htr (own := own) (cls := cls) (names := names) (ic := ic) hown' hcls hnames h (fun x hx => nomatch hx) hfX hkX hcellA (by rw [hhp, hT]; exact Nat.le_refl _) (msg := .ref sa) rfl
    (g := { method := m, pc := pc + 7, locals := ls, stack := .ref sa :: .ref T.heap.size :: .ref T.heap.size :: rest, locked := none }) rfl hsize rfl rfl (rest := rest) rfl
    (by rw [hb]; exact d7) (by rw [hb]; exact d10) hout hRframes (by simp only [List.map_cons, List.sum_cons, hcat]; omega) hlocks
  obtain ⟨f1, f2⟩ := vx_frame hsame
  rw [hhp] at f1 f2
  have hWs : s.WarmedH U.vm := State.WarmedH.trans hW0 hW
  have hcl : s.vm.findClass cls = some ce.cls := by
    have h9 := hO.cls
    rw [hvm] at h9
    exact h9
  have hall : s.sameButNew ({ U with vm := s.vm } : State) locs mc ms := by
    subst hA
    obtain ⟨e1, e2⟩ := hsame
    rw [State.setFrames_setFrames] at e1
    have h2 : (T.setVm s.vm).sameButNew ({ U with vm := s.vm } : State) [] (0 + 1) (0 + 6) := ⟨e1, e2⟩
    have h3 := X.same.trans h2
    rw [List.append_nil] at h3
    exact h3.mono hc hs
  refine ⟨U, ?_, .threw T.heap.size, hrun, hend, Or.inr ⟨T.heap.size, rfl, cls, ce, locs, hx U hWs.alike f1 (fun q hq => f2 q hq (fun z hz => nomatch hz)), hce, hO.vm, hcl, hWs, hall, hf⟩⟩
  refine st1 _ ?_
  show Steps p.tables e below (T1.setTop { method := m, pc := pc + 3, locals := ls, stack := .ref T.heap.size :: rest, locked := none }) _
  jvm_step X₁.here [X₁.here.top, hexec, d3', Value.category]
  exact X₁.ldcStringW hexec (own := own) (text := text) (index := is) (a := sa) hown' hstr'.1 hstr'.2
    (g := { method := m, pc := pc + 4, locals := ls, stack := .ref T.heap.size :: .ref T.heap.size :: rest, locked := none }) rfl d4' _ hsteps
end Ends
section Bodies
variable {l : Launch}
theorem vx_ofW {y : MethodName} {ws ws' : List Cond} {rm : Room} {Pc : Array Value → State → Prop} {Qc : Array Value → State → Outcome → State → Prop} {XC : String → State → State → Prop} {mc ms : Nat} {free : Addr → Prop} {cc : ByteArray} {maxL : Nat} {ret : Option FieldType}
    (hy : plainName y.cls = true) (hw : ws = Cond.code y cc maxL ret :: ws')
    (body : ∀ p e s m args below meth c s₁, BodyLoose p l y (headSpec ws rm) cc maxL ret e s m args below meth c s₁ → c.maxLocals = maxL → (∀ x ∈ c.exceptionTable.toList, False) → Pc args s →
      W p l e (headSpec ws rm).room s m args below meth c s.heap [] 0 0 (vx_MQ below Qc XC args s mc ms free) (entryFrame m args maxL)) : vx_Met l y ws rm Pc Qc XC mc ms free := by
  refine MetFree.of_bodyS (code := cc) (maxLocals := maxL) (ret := ret) hy ?_ ?_
  · intro args s m h hn
    obtain ⟨meth, c, h1, h2, h3, h4, h5, h6, -, -⟩ := Cond.code_spec hn (atoms_spec (ws := ws) h _ (by rw [hw]; exact List.mem_cons_self))
    exact ⟨meth, c, h1, h2, h3, h4, h5, h6⟩
  · intro p e s m args below meth c s₁ B hml hP _
    have hh0 : s₁.heap = s.heap := by rw [B.state]; rfl
    have ht : ∀ x ∈ c.exceptionTable.toList, False := by
      obtain ⟨meth9, c9, h1, h2, -, -, -, -, h7, -⟩ := Cond.code_spec B.named (atoms_spec (ws := ws) B.pre _ (by rw [hw]; exact List.mem_cons_self))
      cases Option.some.inj (h1.symm.trans B.method)
      cases Option.some.inj (h2.symm.trans (Stand.of_body B).code)
      intro x hx
      rw [Array.isEmpty_iff.mp h7] at hx
      cases hx
    obtain ⟨t, a1, o, b1, b2, b3⟩ := body p e s m args below meth c s₁ B hml ht hP s₁ hh0 (Stand.of_body B)
    exact ⟨t, o, a1, b1, b2, b3⟩
/-- the table of a body with handlers -/
theorem vx_table {p : Program} {x y : MethodName} {S : Spec} {cc bytes : ByteArray} {maxL maxL' : Nat} {ret ret' : Option FieldType} {e : Env} {s s₁ : State} {m : MethodId} {args : Array Value} {below : List Frame} {meth : Method} {c : Code} {hh : List (Nat × Nat × Nat × Nat)}
    (B : BodyLoose p l y S cc maxL ret e s m args below meth c s₁) (h : (Cond.codeWith y bytes maxL' ret' hh).before args s = true) : c.exceptionTable.toList = tableOf hh := by
  obtain ⟨m9, meth9, c9, hn9, h1, h2, -, -, h6, -⟩ := Cond.codeWith_spec h
  cases Option.some.inj (hn9.symm.trans B.named)
  cases Option.some.inj (h1.symm.trans B.method)
  cases Option.some.inj (h2.symm.trans (Stand.of_body B).code)
  rw [← h6, table_eq]
end Bodies
end VXA
/-! ===== END ===== -/
/-! ===== BEGIN a static call of a method with an exception table ===== -/
section VXS
variable {p : Program} {l : Launch} {e : Env} {R : Room} {s : State} {m : MethodId} {args : Array Value} {below : List Frame} {meth : Method} {c : Code} {T : State} {H : Heap} {locs : List Loc} {cells slots : Nat}
abbrev vx_CSW (R : Room) (s : State) (args : Array Value) (own : String) (index : Nat) (y : MethodName) (bytes : ByteArray) (maxL : Nat) (ret : Option FieldType) (hh : List (Nat × Nat × Nat × Nat)) (ws : List Cond) (rm : Room) (mc ms n : Nat) : Prop :=
  (rm.cells = mc ∧ rm.slots = ms ∧ rm.frames + 1 ≤ R.frames ∧ 8 + (maxL + 11) + rm.locals ≤ R.locals ∧ (∀ w ∈ ws, ∀ (a' : Array Value) (U : State), s.WarmedH U.vm → w.before a' U = true) ∧ Cond.codeWith y bytes maxL ret hh ∈ ws) ∧
  (Cond.codeWith y bytes maxL ret hh).before args s = true ∧ (Cond.initialized y.cls).before args s = true ∧ (y.cls ≠ "java/lang/invoke/MethodHandle" ∧ y.cls ≠ "java/lang/invoke/VarHandle") ∧
  (∀ sig, parseMethodDescriptor y.desc = some sig → n = sig.parameters.length) ∧ (Cond.methodLink own index y).before args s = true ∧ (Cond.static y).before args s = true
theorem vx_cwSW {own : String} {index maxL mc ms : Nat} {y : MethodName} {bytes : ByteArray} {ret : Option FieldType} {hh : List (Nat × Nat × Nat × Nat)} {Ts ws ws' : List Cond} {rm : Room} (n : Nat) (ht : ∀ w ∈ Ts, w.before args s = true) (hT : GoodIn Ts (va_wsS own index y ws)) (hw : ws = Cond.codeWith y bytes maxL ret hh :: ws') (hrc : rm.cells = mc) (hrs : rm.slots = ms)
    (hd : y.cls ≠ "java/lang/invoke/MethodHandle" ∧ y.cls ≠ "java/lang/invoke/VarHandle" ∧ (parseMethodDescriptor y.desc).map (fun d => d.parameters.length) = some n) (hR : rm.frames + 1 ≤ R.frames ∧ 8 + (maxL + 11) + rm.locals ≤ R.locals) :
    vx_CSW R s args own index y bytes maxL ret hh ws rm mc ms n := by
  have ok : ∀ w ∈ va_wsS own index y ws, w.before args s = true := fun w h => ht w (hT w h).1
  have hG : GoodIn Ts ws := fun w h => hT w (by unfold va_wsS; exact List.mem_append_right _ h)
  have hc : Cond.codeWith y bytes maxL ret hh ∈ ws := by rw [hw]; exact List.mem_cons_self
  refine ⟨⟨hrc, hrs, hR.1, hR.2, pay_in ht hG, hc⟩, ht _ (hG _ hc).1, ok _ (by simp [va_wsS]), ⟨hd.1, hd.2.1⟩, fun sig h => ?_, ok _ (by simp [va_wsS]), ok _ (by simp [va_wsS])⟩
  have h2 := hd.2.2
  rw [h] at h2
  exact (Option.some.inj h2).symm
theorem vx_callSW (X : Stand p l e R s m args below meth c T locs cells slots) (hexec : p.tables.exec = Jvm.exec) {own : String} {index : Nat} {y : MethodName} {bytes : ByteArray} {maxL : Nat} {ret : Option FieldType} {hh : List (Nat × Nat × Nat × Nat)}
    (hown : s.vm.findClass own = some m.cls) (hlink : (Cond.methodLink own index y).before args s = true) (hstat : (Cond.static y).before args s = true) (hinit : (Cond.initialized y.cls).before args s = true)
    (hcode : (Cond.codeWith y bytes maxL ret hh).before args s = true) (hy : y.cls ≠ "java/lang/invoke/MethodHandle" ∧ y.cls ≠ "java/lang/invoke/VarHandle")
    {W9 : Nat} {Pre : Pt → Array Value → Prop} {Post : Pt → Array Value → Option Value → Pt → Prop} (hK : Back l R p e below s args y 3 W9 Pre Post)
    {g : JFrame} (hg : g.method = m) (hsize : g.locals.size = c.maxLocals) {argsL rest : List Value} (hlen : ∀ sig, parseMethodDescriptor y.desc = some sig → argsL.length = sig.parameters.length)
    (hstack : g.stack = argsL.reverse ++ rest) (hW : 2 * g.monitorRoom + (rest.map fun v => v.category).sum ≤ W9) (hdg : decode c.code g.pc = .ok (.invokestatic index, 3))
    (hpre : ∀ vm₁, s.WarmedH vm₁ → Pre ⟨T.setVm vm₁, locs, cells, slots⟩ argsL.toArray) :
    ∃ (v : Option Value) (vm₁ : Vm) (B : Pt), s.WarmedH vm₁ ∧ Stand p l e R s m args below meth c B.U B.locs B.cells B.slots ∧ Post ⟨T.setVm vm₁, locs, cells, slots⟩ argsL.toArray v B ∧
      ∀ target, Steps p.tables e below (B.U.setTop { g with pc := g.pc + 3, stack := v.toList ++ rest }) target → Steps p.tables e below (T.setTop g) target := by
  obtain ⟨mk, methM, cM, hnamed, hmethM, -, -, -, -, -, -, hsigM⟩ := Cond.codeWith_spec hcode
  have hstatic : methM.isStatic = true := Cond.static_spec hnamed hmethM hstat
  obtain ⟨kP, hkP, -⟩ := className_of_methodNamed hnamed
  have hinitP : kP.init = .initialized := Cond.initialized_spec (findClass_of_methodNamed hnamed) hkP hinit
  obtain ⟨vm₁, X₁, hstep₁⟩ := X.invokestatic hexec hown hlink hnamed hmethM hstatic hkP hinitP hy (g := g) hg (argsL := argsL) (rest := rest) (hlen _ hsigM) hstack hdg
  obtain ⟨v, B, X', hpost, hsteps⟩ := hK m meth c ⟨T.setVm vm₁, locs, cells, slots⟩ { g with stack := rest } (.invokestatic index) mk argsL.toArray X₁ hg hsize hdg hW (X₁.named hnamed) (hpre vm₁ X₁.warmed)
  exact ⟨v, vm₁, B, X₁.warmed, X', hpost, fun target h => hstep₁ _ fun acts => by rw [doInvoke_state]; exact hsteps.trans h⟩
theorem vx_runSW {y : MethodName} {bytes cc : ByteArray} {maxL nL mc ms n index : Nat} {ret : Option FieldType} {hh : List (Nat × Nat × Nat × Nat)} {ws : List Cond} {rm : Room} {Pc : Array Value → State → Prop} {Qc : Array Value → State → Outcome → State → Prop} {free : Addr → Prop} {Ts : List Cond} {own : String} {As rest : List Value} {g : JFrame}
    (S : CallFix p m c cc nL s args Ts own) (hM : Met l y ws rm Pc Qc mc ms free) (cw : vx_CSW R s args own index y bytes maxL ret hh ws rm mc ms n) (hp : PreS s H Pc As)
    (hg : g.method = m) (hn : As.length = n) (hsize : g.locals.size = nL) (hstack : g.stack = As.reverse ++ rest) (hW : 2 * g.monitorRoom + (rest.map fun v => v.category).sum ≤ 8) (hdg : decode cc g.pc = .ok (.invokestatic index, 3)) (hf : cells + mc ≤ R.cells ∧ slots + ms ≤ R.slots) :
    va_Run p l e R s m args below meth c H locs cells slots mc ms g rest (Qc As.toArray) (free) := by
  obtain ⟨⟨hrc, hrs, hfr, hlo, hws, hcw⟩, hcode, hini, hy, hlen, hl, hstt⟩ := cw
  have hK : Back l R p e below s args y 3 8 (PreOf R mc ms Pc) (PostOf Qc mc ms free) := va_backW (hh := hh) (bytes := bytes) (maxL := maxL) (ret := ret) hM hp.1 hrc hrs hfr hlo hws hcw (fun a' U hW => word_at hW (Or.inl (by first | rfl | simp [Cond.onTables, Cond.keeps, Cond.steady])) hini)
  obtain ⟨hx, hb, hml, ho, -⟩ := S
  intro T hT X
  obtain ⟨v, vm₁, ⟨U', l2, c2, s2⟩, hW₁, X', ⟨g', mk, t, L, e1, e2, hq, h1, hL, h2, h3⟩, st⟩ := vx_callSW X hx (hh := hh) (bytes := bytes) (maxL := maxL) (ret := ret) ho hl hstt hini hcode hy hK hg (hsize.trans hml.symm) (argsL := As) (rest := rest) (fun sig h => hn.trans (hlen sig h)) hstack hW (by rw [hb]; exact hdg)
    (fun vm₁ hW₁ => ⟨hf.1, hf.2, hp.2 (T.setVm vm₁) hT hW₁⟩)
  dsimp only [Pt.U, Pt.locs, Pt.cells, Pt.slots] at X' e1 e2 h1 h2 h3 st
  subst h1; subst h2; subst h3
  exact ⟨v, (T.setVm vm₁).calling g' mk As.toArray, t, U', L, hT, X', hL, e1, e2, hq, st⟩
/-- not caught here, past rows that name other classes: it goes on to the caller -/
theorem vx_outP {p : Program} {l : Launch} {e : Env} {R : Room} {s : State} {m : MethodId} {args : Array Value} {below : List Frame} {meth : Method} {c : Code} {H : Heap} {locs : List Loc} {cells slots : Nat} {free : Addr → Prop} {ls : Array Slot} {rest : List Value} {Qc : Array Value → State → Outcome → State → Prop} {XC : String → State → State → Prop}
    {pc : Nat} {own E : String} {ce : Cell} {q : Addr} {mc ms : Nat} (hown : s.vm.findClass own = some m.cls) (hlocks : meth.locks = false)
    (hpass : ∀ z ∈ c.exceptionTable.toList, covers z pc = false ∨ (z.catchType ≠ 0 ∧ ∃ nm : String, (Cond.classLink own z.catchType nm).before args s = true ∧ va_Nc E nm s)) (hcell : H[q]? = some ce) (hv : ce.vm = .none) (hcl : s.vm.findClass E = some ce.cls)
    (hx : ∀ t : State, t.heap = H → s.vm.Alike t.vm → XC E s t) (hf : ∀ z ∈ locs, free z.base) (hc : cells ≤ mc) (hs : slots ≤ ms) :
    vx_W p l e R s m args below meth c H locs cells slots (vx_MQ below Qc XC args s mc ms free) (F0 m pc ls rest) q := by
  intro T hT X
  have hpl : e.platform.magicAccessors = ({} : Platform).magicAccessors := by rw [X.admits.platform]
  obtain ⟨vm', hW', X', st⟩ := X.outThrough hlocks q (g := F0 m pc ls rest) rfl rfl rfl (cell := ce) (by rw [hT]; exact hcell) (by rw [hv]; rfl)
    (by obtain ⟨k9, h9, -⟩ := Vm.findClass_spec hcl; exact ⟨k9, h9⟩) (fun z hz => by
      rcases hpass z hz with h | ⟨hz0, nm, hl1, hn1⟩
      · exact Or.inl h
      · obtain ⟨c6, hc6, hcl6⟩ := Cond.classLink_spec hown hl1 e.platform hpl
        obtain ⟨a8, b8, h1, h2, h3⟩ := hn1
        cases Option.some.inj (h1.symm.trans hcl)
        cases Option.some.inj (h2.symm.trans hc6)
        exact Or.inr ⟨hz0, _, hcl6, h3⟩)
  obtain ⟨g₀, hfr⟩ := X'.frames_eq
  have hcell9 : ((T.setVm vm').setFrames (.throwing q :: below)).heap[q]? = some ce := by
    show T.heap[q]? = some ce
    rw [hT]; exact hcell
  have hend : Ended ((T.setVm vm').setFrames (.throwing q :: below)) below (.threw q) := State.frames_setFrames _ (State.cur_lt_of_frames hfr)
  refine ⟨(T.setVm vm').setFrames (.throwing q :: below), ?_, .threw q, X'.here.running, hend, Or.inr ⟨q, rfl, E, ce, locs, hx _ hT (X'.ends _).1.alike, hcell9, hv, hcl, (X'.ends _).1, (X'.ends _).2.mono hc hs, hf⟩⟩
  rw [X.pushThrowing_eq]
  exact st
/-- a thing of a world lies in the heap -/
theorem vx_lt {D : va_G} {cl : List vw_C} {ws : va_W} {H1 : Heap} (h : va_P D cl ws H1) {k : Nat} {q : Nat × va_E} (hk : ws[k]? = some q) : q.1 < H1.size := (h k q hk).lt
end VXS
/-! ===== END ===== -/
/-! ===== BEGIN methods with a table of their own: called by a name, returning or throwing ===== -/
section VXH
/-! vx_backW, vx_callVX, vx_callSX, vx_callVW, vx_runVW, vx_runVX, vx_runSX, vx_ofWH follow the same proofs as their sisters above (Free/Laws.lean, Shelf42/LK1.lean); vx_outP calls Shelf42/NT130.lean (outThrough). -/
section
variable {l : Launch} {R : Room} {p : Program} {e : Env} {below : List Frame} {s : State} {sargs : Array Value} {y : MethodName} {len W9 : Nat}
theorem vx_backW {ws : List Cond} {rm : Room} {Pc : Array Value → State → Prop} {Qc : Array Value → State → Outcome → State → Prop} {XC : String → State → State → Prop} {mc ms : Nat} {free : Addr → Prop} {bytes : ByteArray} {maxL : Nat} {ret : Option FieldType} {hh : List (Nat × Nat × Nat × Nat)}
    (hM : vx_Met l y ws rm Pc Qc XC mc ms free) (hblind : FrameBlind Pc) (hrc : rm.cells = mc) (hrs : rm.slots = ms)
    (hframes : rm.frames + 1 ≤ R.frames) (hlocals : W9 + (maxL + 11) + rm.locals ≤ R.locals)
    (hws : ∀ w ∈ ws, ∀ a' U, s.WarmedH U.vm → w.before a' U = true) (hcode : Cond.codeWith y bytes maxL ret hh ∈ ws) (hinit : ∀ a' U, s.WarmedH U.vm → (Cond.initialized y.cls).before a' U = true) :
    vx_Back l R p e below s sargs y len W9 (PreOf R mc ms Pc) (PostOf Qc mc ms free) (vx_Post XC mc ms free) := by
  intro m meth c A g ig mk a X hg hsize hdg hW hn hp
  have h1 : (headSpec ws rm).pre.before a A.U = true := atoms_intro fun w hw => hws w hw _ _ X.warmed
  have h2 : (Cond.codeWith y bytes maxL ret hh).before a A.U = true := hws _ hcode _ _ X.warmed
  have h3 : (Cond.initialized y.cls).before a A.U = true := hinit _ _ X.warmed
  have h4 : A.cells + (headSpec ws rm).room.cells ≤ R.cells := by rw [show (headSpec ws rm).room.cells = mc from hrc]; exact hp.1
  have h5 : A.slots + (headSpec ws rm).room.slots ≤ R.slots := by rw [show (headSpec ws rm).room.slots = ms from hrs]; exact hp.2.1
  have hPc : Pc a (A.U.calling g mk a) := hblind _ _ _ _ hp.2.2
  obtain ⟨U, Ls, c0, s0⟩ := A
  dsimp only [Pt.U, Pt.locs, Pt.cells, Pt.slots] at h1 h2 h3 h4 h5 X hn hPc ⊢
  obtain ⟨m9, methY, cY, hn9, hmY, hcY, -, hlY, -⟩ := Cond.codeWith_spec h2
  cases Option.some.inj (hn9.symm.trans hn)
  obtain ⟨kY, hkY, -⟩ := className_of_methodNamed hn
  have hinitY : kY.init = .initialized := Cond.initialized_spec (findClass_of_methodNamed hn) hkY h3
  have h : At U g.method c below := by rw [hg]; exact X.here
  have hlocals9 : W9 + (maxL + 11) + (headSpec ws rm).room.locals ≤ R.locals := hlocals
  have happ : (headSpec ws rm).appliesLoose y e.platform (U.calling g mk a) = true :=
    Spec.appliesLoose_calling (g := g) h hdg hn hkY hinitY
      (X.room_calling (g := g) (R' := (headSpec ws rm).room) hsize hmY hcY hframes (by rw [hlY]; omega) h4 h5) h1
  obtain ⟨mid, hmid⟩ := h.above
  have hfr : (U.setTop g).frames = (.java g :: mid) ++ below := by rw [State.frames_setTop' g h.top, hmid]; rfl
  obtain ⟨o, s₂, hsteps, -, hend, hq⟩ := Steps.callFree hM p X.admits X.cas X.clock (acts := []) hfr happ hPc trivial
  have hq' : vx_Q Qc XC mc ms free a (U.calling g mk a) o s₂ := hq
  rw [State.frames_setTop' g h.top] at hend
  obtain ⟨g₀, hg0⟩ := Option.isSome_iff_exists.mp h.top
  obtain ⟨r, hr⟩ := State.topJava?_eq_some.mp hg0
  have hr' : (({ U with heap := s₂.heap, slotsUsed := s₂.slotsUsed } : State).setVm s₂.vm).frames = .java g₀ :: r := hr
  rcases hq' with ⟨hqc, L, hfe, hL⟩ | ⟨q, rfl, E, ce, L, hx, hce, hcv, hcl, hW₂, hsm, hL⟩
  · obtain ⟨⟨v, rfl⟩, hW₂, e2, q2, q3, q4, q5, q6⟩ := id hfe
    have e3 : s₂ = ({ (U.calling g mk a).setFrames s₂.frames with heap := s₂.heap, slotsUsed := s₂.slotsUsed } : State).setVm s₂.vm := by
      have : s₂ = ({ s₂ with vm := (U.calling g mk a).vm } : State).setVm s₂.vm := rfl
      rw [e2] at this
      exact this
    obtain ⟨c₂, i₂, len₂, hc₂, hd₂, hf₂⟩ := hend
    have hW' : U.WarmedH s₂.vm := hW₂
    have hcc : c₂ = c := by
      have h1 : s₂.code? g.method = U.code? g.method := by
        rw [State.code?_eq, State.code?_eq, hW'.alike.method?]
      exact Option.some.inj (hc₂.symm.trans (h1.trans h.code))
    subst hcc
    have hlen : len₂ = len := by rw [hdg] at hd₂; cases hd₂; rfl
    subst hlen
    have hs₂ : s₂ = (({ U with heap := s₂.heap, slotsUsed := s₂.slotsUsed } : State).setVm s₂.vm).setTop { g with pc := g.pc + len₂, stack := v.toList ++ g.stack } := by
      refine e3.trans ?_
      rw [hf₂, State.calling_eq h.top, State.setFrames_setFrames, State.setTop_of_frames _ hr', hr]
      rfl
    have hsame : U.sameButNew ({ U with heap := s₂.heap, slotsUsed := s₂.slotsUsed } : State) L mc ms := by
      refine ⟨?_, q2, q3, q4, q5, q6⟩
      obtain ⟨t, ht, -⟩ := State.frames_cons hr
      show ({ U with heap := s₂.heap, slotsUsed := s₂.slotsUsed } : State) = { U.setFrames U.frames with heap := s₂.heap, slotsUsed := s₂.slotsUsed }
      rw [State.setFrames_self ht]
    subst hg
    refine Or.inl ⟨v, ⟨(({ U with heap := s₂.heap, slotsUsed := s₂.slotsUsed } : State).setVm s₂.vm), Ls ++ L, c0 + mc, s0 + ms⟩,
      ⟨X.admits, X.cas, X.clock, X.frames, X.room, X.hears, X.method, X.code, (X.here.setHeapUsed s₂.heap s₂.slotsUsed).setVm hW'.alike, X.tail, State.WarmedH.trans X.warmed hW', X.limits, X.bytes, X.same.trans (hsame.setVm s.vm)⟩,
      ⟨g, mk, s₂, L, rfl, rfl, hqc, rfl, hL, rfl, rfl⟩, ?_⟩
    show Steps p.tables e below _ ((({ U with heap := s₂.heap, slotsUsed := s₂.slotsUsed } : State).setVm s₂.vm).setTop { g with pc := g.pc + len₂, stack := v.toList ++ g.stack })
    rw [← hs₂]
    exact hsteps
  · obtain ⟨e2, q2, q3, q4, q5, q6⟩ := id hsm
    have e3 : s₂ = ({ (U.calling g mk a).setFrames s₂.frames with heap := s₂.heap, slotsUsed := s₂.slotsUsed } : State).setVm s₂.vm := by
      have : s₂ = ({ s₂ with vm := (U.calling g mk a).vm } : State).setVm s₂.vm := rfl
      rw [e2] at this
      exact this
    have hf₂ : s₂.frames = .throwing q :: .java g :: U.frames.tail := hend
    have hW' : U.WarmedH s₂.vm := hW₂
    have hs₂ : s₂ = ((({ U with heap := s₂.heap, slotsUsed := s₂.slotsUsed } : State).setVm s₂.vm).setTop g).pushFrame (.throwing q) := by
      refine e3.trans ?_
      rw [hf₂, State.calling_eq h.top, State.setFrames_setFrames, State.pushFrame, State.frames_setTop _ hr', State.setTop_of_frames _ hr', State.setFrames_setFrames, hr]
      rfl
    have hsame : U.sameButNew ({ U with heap := s₂.heap, slotsUsed := s₂.slotsUsed } : State) L mc ms := by
      refine ⟨?_, q2, q3, q4, q5, q6⟩
      obtain ⟨t, ht, -⟩ := State.frames_cons hr
      show ({ U with heap := s₂.heap, slotsUsed := s₂.slotsUsed } : State) = { U.setFrames U.frames with heap := s₂.heap, slotsUsed := s₂.slotsUsed }
      rw [State.setFrames_self ht]
    subst hg
    refine Or.inr ⟨q, ⟨(({ U with heap := s₂.heap, slotsUsed := s₂.slotsUsed } : State).setVm s₂.vm), Ls ++ L, c0 + mc, s0 + ms⟩,
      ⟨X.admits, X.cas, X.clock, X.frames, X.room, X.hears, X.method, X.code, (X.here.setHeapUsed s₂.heap s₂.slotsUsed).setVm hW'.alike, X.tail, State.WarmedH.trans X.warmed hW', X.limits, X.bytes, X.same.trans (hsame.setVm s.vm)⟩,
      ⟨g, mk, s₂, L, E, ce, rfl, rfl, hx, hce, hcv, hcl, rfl, hL, rfl, rfl⟩, ?_⟩
    show Steps p.tables e below _ (((({ U with heap := s₂.heap, slotsUsed := s₂.slotsUsed } : State).setVm s₂.vm).setTop g).pushFrame (.throwing q))
    rw [← hs₂]
    exact hsteps
end
variable {p : Program} {l : Launch} {e : Env} {R : Room} {s : State} {m : MethodId} {args : Array Value} {below : List Frame} {meth : Method} {c : Code} {T : State} {H : Heap} {locs : List Loc} {cells slots : Nat}
theorem vx_callVX (X : Stand p l e R s m args below meth c T locs cells slots) (hexec : p.tables.exec = Jvm.exec) {own C : String} {index : Nat} {y : MethodName} {bytes : ByteArray} {maxL : Nat} {ret : Option FieldType} {hh : List (Nat × Nat × Nat × Nat)}
    (hown : s.vm.findClass own = some m.cls) (hlink : (Cond.methodLink own index y).before args s = true) (hinst : (Cond.instanceMethod y).before args s = true) (hsel : (Cond.selects C y y).before args s = true)
    (hcode : (Cond.codeWith y bytes maxL ret hh).before args s = true) (hy : y.cls ≠ "java/lang/invoke/MethodHandle" ∧ y.cls ≠ "java/lang/invoke/VarHandle")
    {W9 : Nat} {Pre : Pt → Array Value → Prop} {Post : Pt → Array Value → Option Value → Pt → Prop} {PostX : Pt → Array Value → Addr → Pt → Prop} (hK : vx_Back l R p e below s args y 3 W9 Pre Post PostX)
    {b : Addr} {cellB : Cell} (hcell : T.heap[b]? = some cellB) (hobj : cellB.vm.isStatics = false) (hcls : s.vm.findClass C = some cellB.cls)
    {g : JFrame} (hg : g.method = m) (hsize : g.locals.size = c.maxLocals) {argsL rest : List Value} (hlen : ∀ sig, parseMethodDescriptor y.desc = some sig → argsL.length = sig.parameters.length)
    (hstack : g.stack = argsL.reverse ++ .ref b :: rest) (hW : 2 * g.monitorRoom + (rest.map fun v => v.category).sum ≤ W9) (hdg : decode c.code g.pc = .ok (.invokevirtual index, 3))
    (hpre : ∀ vm₁, s.WarmedH vm₁ → Pre ⟨T.setVm vm₁, locs, cells, slots⟩ (Value.ref b :: argsL).toArray) :
    (∃ (v : Option Value) (vm₁ : Vm) (B : Pt), s.WarmedH vm₁ ∧ Stand p l e R s m args below meth c B.U B.locs B.cells B.slots ∧ Post ⟨T.setVm vm₁, locs, cells, slots⟩ (Value.ref b :: argsL).toArray v B ∧
      ∀ target, Steps p.tables e below (B.U.setTop { g with pc := g.pc + 3, stack := v.toList ++ rest }) target → Steps p.tables e below (T.setTop g) target) ∨
    (∃ (q : Addr) (vm₁ : Vm) (B : Pt), s.WarmedH vm₁ ∧ Stand p l e R s m args below meth c B.U B.locs B.cells B.slots ∧ PostX ⟨T.setVm vm₁, locs, cells, slots⟩ (Value.ref b :: argsL).toArray q B ∧
      Steps p.tables e below (T.setTop g) ((B.U.setTop { g with stack := rest }).pushFrame (.throwing q))) := by
  obtain ⟨mk, methM, hnamed, hmethM, hstM, habM⟩ := Cond.instanceMethod_spec hinst
  obtain ⟨m8, methM', cM, hn8, hmethM', -, -, -, -, -, -, hsigM⟩ := Cond.codeWith_spec hcode
  cases Option.some.inj (hn8.symm.trans hnamed)
  cases hmethM.symm.trans hmethM'
  obtain ⟨c2, r2, m2, q1, q2, q3, q4, kP, hkP, hkPi⟩ := Cond.selects_spec hsel
  cases hcls.symm.trans q1
  cases (State.methodFound?_of_named hnamed hy).symm.trans q2
  cases hnamed.symm.trans q3
  have hselP : selectMethod e.platform s.vm cellB.cls mk = .method mk := by rw [Launch.admits_selectMethod X.admits]; exact q4
  obtain ⟨vm₁, X₁, hstep₁⟩ := X.invokevirtual hexec hown hlink hnamed hmethM hstM hkP hkPi hy (a := b) (cell := cellB) hcell
    (fun z h => by rw [h] at hobj; cases hobj) hselP hmethM habM hkP hkPi (g := g) hg (argsL := argsL) (rest := rest) (hlen _ hsigM) hstack hdg
  rcases hK m meth c ⟨T.setVm vm₁, locs, cells, slots⟩ { g with stack := rest } (.invokevirtual index) mk (Value.ref b :: argsL).toArray X₁ hg hsize hdg hW (X₁.named hnamed) (hpre vm₁ X₁.warmed) with ⟨v, B, X', hpost, hsteps⟩ | ⟨q, B, X', hpost, hsteps⟩
  · exact Or.inl ⟨v, vm₁, B, X₁.warmed, X', hpost, fun target h => hstep₁ _ fun acts => by rw [doInvoke_state]; exact hsteps.trans h⟩
  · exact Or.inr ⟨q, vm₁, B, X₁.warmed, X', hpost, hstep₁ _ fun acts => by rw [doInvoke_state]; exact hsteps⟩
theorem vx_callSX (X : Stand p l e R s m args below meth c T locs cells slots) (hexec : p.tables.exec = Jvm.exec) {own : String} {index : Nat} {y : MethodName} {bytes : ByteArray} {maxL : Nat} {ret : Option FieldType} {hh : List (Nat × Nat × Nat × Nat)}
    (hown : s.vm.findClass own = some m.cls) (hlink : (Cond.methodLink own index y).before args s = true) (hstat : (Cond.static y).before args s = true) (hinit : (Cond.initialized y.cls).before args s = true)
    (hcode : (Cond.codeWith y bytes maxL ret hh).before args s = true) (hy : y.cls ≠ "java/lang/invoke/MethodHandle" ∧ y.cls ≠ "java/lang/invoke/VarHandle")
    {W9 : Nat} {Pre : Pt → Array Value → Prop} {Post : Pt → Array Value → Option Value → Pt → Prop} {PostX : Pt → Array Value → Addr → Pt → Prop} (hK : vx_Back l R p e below s args y 3 W9 Pre Post PostX)
    {g : JFrame} (hg : g.method = m) (hsize : g.locals.size = c.maxLocals) {argsL rest : List Value} (hlen : ∀ sig, parseMethodDescriptor y.desc = some sig → argsL.length = sig.parameters.length)
    (hstack : g.stack = argsL.reverse ++ rest) (hW : 2 * g.monitorRoom + (rest.map fun v => v.category).sum ≤ W9) (hdg : decode c.code g.pc = .ok (.invokestatic index, 3))
    (hpre : ∀ vm₁, s.WarmedH vm₁ → Pre ⟨T.setVm vm₁, locs, cells, slots⟩ argsL.toArray) :
    (∃ (v : Option Value) (vm₁ : Vm) (B : Pt), s.WarmedH vm₁ ∧ Stand p l e R s m args below meth c B.U B.locs B.cells B.slots ∧ Post ⟨T.setVm vm₁, locs, cells, slots⟩ argsL.toArray v B ∧
      ∀ target, Steps p.tables e below (B.U.setTop { g with pc := g.pc + 3, stack := v.toList ++ rest }) target → Steps p.tables e below (T.setTop g) target) ∨
    (∃ (q : Addr) (vm₁ : Vm) (B : Pt), s.WarmedH vm₁ ∧ Stand p l e R s m args below meth c B.U B.locs B.cells B.slots ∧ PostX ⟨T.setVm vm₁, locs, cells, slots⟩ argsL.toArray q B ∧
      Steps p.tables e below (T.setTop g) ((B.U.setTop { g with stack := rest }).pushFrame (.throwing q))) := by
  obtain ⟨mk, methM, cM, hnamed, hmethM, -, -, -, -, -, -, hsigM⟩ := Cond.codeWith_spec hcode
  have hstatic : methM.isStatic = true := Cond.static_spec hnamed hmethM hstat
  obtain ⟨kP, hkP, -⟩ := className_of_methodNamed hnamed
  have hinitP : kP.init = .initialized := Cond.initialized_spec (findClass_of_methodNamed hnamed) hkP hinit
  obtain ⟨vm₁, X₁, hstep₁⟩ := X.invokestatic hexec hown hlink hnamed hmethM hstatic hkP hinitP hy (g := g) hg (argsL := argsL) (rest := rest) (hlen _ hsigM) hstack hdg
  rcases hK m meth c ⟨T.setVm vm₁, locs, cells, slots⟩ { g with stack := rest } (.invokestatic index) mk argsL.toArray X₁ hg hsize hdg hW (X₁.named hnamed) (hpre vm₁ X₁.warmed) with ⟨v, B, X', hpost, hsteps⟩ | ⟨q, B, X', hpost, hsteps⟩
  · exact Or.inl ⟨v, vm₁, B, X₁.warmed, X', hpost, fun target h => hstep₁ _ fun acts => by rw [doInvoke_state]; exact hsteps.trans h⟩
  · exact Or.inr ⟨q, vm₁, B, X₁.warmed, X', hpost, hstep₁ _ fun acts => by rw [doInvoke_state]; exact hsteps⟩
theorem vx_callVW (X : Stand p l e R s m args below meth c T locs cells slots) (hexec : p.tables.exec = Jvm.exec) {own C : String} {index : Nat} {y : MethodName} {bytes : ByteArray} {maxL : Nat} {ret : Option FieldType} {hh : List (Nat × Nat × Nat × Nat)}
    (hown : s.vm.findClass own = some m.cls) (hlink : (Cond.methodLink own index y).before args s = true) (hinst : (Cond.instanceMethod y).before args s = true) (hsel : (Cond.selects C y y).before args s = true)
    (hcode : (Cond.codeWith y bytes maxL ret hh).before args s = true) (hy : y.cls ≠ "java/lang/invoke/MethodHandle" ∧ y.cls ≠ "java/lang/invoke/VarHandle")
    {W9 : Nat} {Pre : Pt → Array Value → Prop} {Post : Pt → Array Value → Option Value → Pt → Prop} (hK : Back l R p e below s args y 3 W9 Pre Post)
    {b : Addr} {cellB : Cell} (hcell : T.heap[b]? = some cellB) (hobj : cellB.vm.isStatics = false) (hcls : s.vm.findClass C = some cellB.cls)
    {g : JFrame} (hg : g.method = m) (hsize : g.locals.size = c.maxLocals) {argsL rest : List Value} (hlen : ∀ sig, parseMethodDescriptor y.desc = some sig → argsL.length = sig.parameters.length)
    (hstack : g.stack = argsL.reverse ++ .ref b :: rest) (hW : 2 * g.monitorRoom + (rest.map fun v => v.category).sum ≤ W9) (hdg : decode c.code g.pc = .ok (.invokevirtual index, 3))
    (hpre : ∀ vm₁, s.WarmedH vm₁ → Pre ⟨T.setVm vm₁, locs, cells, slots⟩ (Value.ref b :: argsL).toArray) :
    ∃ (v : Option Value) (vm₁ : Vm) (B : Pt), s.WarmedH vm₁ ∧ Stand p l e R s m args below meth c B.U B.locs B.cells B.slots ∧ Post ⟨T.setVm vm₁, locs, cells, slots⟩ (Value.ref b :: argsL).toArray v B ∧
      ∀ target, Steps p.tables e below (B.U.setTop { g with pc := g.pc + 3, stack := v.toList ++ rest }) target → Steps p.tables e below (T.setTop g) target := by
  obtain ⟨mk, methM, hnamed, hmethM, hstM, habM⟩ := Cond.instanceMethod_spec hinst
  obtain ⟨m8, methM', cM, hn8, hmethM', -, -, -, -, -, -, hsigM⟩ := Cond.codeWith_spec hcode
  cases Option.some.inj (hn8.symm.trans hnamed)
  cases hmethM.symm.trans hmethM'
  obtain ⟨c2, r2, m2, q1, q2, q3, q4, kP, hkP, hkPi⟩ := Cond.selects_spec hsel
  cases hcls.symm.trans q1
  cases (State.methodFound?_of_named hnamed hy).symm.trans q2
  cases hnamed.symm.trans q3
  have hselP : selectMethod e.platform s.vm cellB.cls mk = .method mk := by rw [Launch.admits_selectMethod X.admits]; exact q4
  obtain ⟨vm₁, X₁, hstep₁⟩ := X.invokevirtual hexec hown hlink hnamed hmethM hstM hkP hkPi hy (a := b) (cell := cellB) hcell
    (fun z h => by rw [h] at hobj; cases hobj) hselP hmethM habM hkP hkPi (g := g) hg (argsL := argsL) (rest := rest) (hlen _ hsigM) hstack hdg
  obtain ⟨v, B, X', hpost, hsteps⟩ := hK m meth c ⟨T.setVm vm₁, locs, cells, slots⟩ { g with stack := rest } (.invokevirtual index) mk (Value.ref b :: argsL).toArray X₁ hg hsize hdg hW (X₁.named hnamed) (hpre vm₁ X₁.warmed)
  exact ⟨v, vm₁, B, X₁.warmed, X', hpost, fun target h => hstep₁ _ fun acts => by rw [doInvoke_state]; exact hsteps.trans h⟩
abbrev vx_CVW (R : Room) (s : State) (args : Array Value) (own C : String) (index : Nat) (y : MethodName) (bytes : ByteArray) (maxL : Nat) (ret : Option FieldType) (hh : List (Nat × Nat × Nat × Nat)) (ws : List Cond) (rm : Room) (mc ms n : Nat) : Prop :=
  (rm.cells = mc ∧ rm.slots = ms ∧ rm.frames + 1 ≤ R.frames ∧ 8 + (maxL + 11) + rm.locals ≤ R.locals ∧ (∀ w ∈ ws, ∀ (a' : Array Value) (U : State), s.WarmedH U.vm → w.before a' U = true) ∧ Cond.codeWith y bytes maxL ret hh ∈ ws) ∧
  (Cond.codeWith y bytes maxL ret hh).before args s = true ∧ (Cond.initialized y.cls).before args s = true ∧ (y.cls ≠ "java/lang/invoke/MethodHandle" ∧ y.cls ≠ "java/lang/invoke/VarHandle") ∧
  (∀ sig, parseMethodDescriptor y.desc = some sig → n = sig.parameters.length) ∧ (Cond.methodLink own index y).before args s = true ∧ (Cond.instanceMethod y).before args s = true ∧ (Cond.selects C y y).before args s = true
theorem vx_cwVW {own C : String} {index maxL mc ms : Nat} {y : MethodName} {bytes : ByteArray} {ret : Option FieldType} {hh : List (Nat × Nat × Nat × Nat)} {Ts ws ws' : List Cond} {rm : Room} (n : Nat) (ht : ∀ w ∈ Ts, w.before args s = true) (hT : GoodIn Ts (wsV own index C y ws)) (hw : ws = Cond.codeWith y bytes maxL ret hh :: ws') (hrc : rm.cells = mc) (hrs : rm.slots = ms)
    (hd : y.cls = C ∧ y.cls ≠ "java/lang/invoke/MethodHandle" ∧ y.cls ≠ "java/lang/invoke/VarHandle" ∧ (parseMethodDescriptor y.desc).map (fun d => d.parameters.length) = some n) (hR : rm.frames + 1 ≤ R.frames ∧ 8 + (maxL + 11) + rm.locals ≤ R.locals) :
    vx_CVW R s args own C index y bytes maxL ret hh ws rm mc ms n := by
  obtain ⟨hC, hd⟩ := hd
  subst hC
  have ok : ∀ w ∈ wsV own index y.cls y ws, w.before args s = true := fun w h => ht w (hT w h).1
  have hG : GoodIn Ts ws := fun w h => hT w (by unfold wsV; exact List.mem_append_right _ h)
  have hc : Cond.codeWith y bytes maxL ret hh ∈ ws := by rw [hw]; exact List.mem_cons_self
  refine ⟨⟨hrc, hrs, hR.1, hR.2, pay_in ht hG, hc⟩, ht _ (hG _ hc).1, ok _ (by simp [wsV]), ⟨hd.1, hd.2.1⟩, fun sig h => ?_, ok _ (by simp [wsV]), ok _ (by simp [wsV]), ok _ (by simp [wsV])⟩
  have h2 := hd.2.2
  rw [h] at h2
  exact (Option.some.inj h2).symm
theorem vx_runVW {y : MethodName} {bytes cc : ByteArray} {maxL nL mc ms n index : Nat} {ret : Option FieldType} {hh : List (Nat × Nat × Nat × Nat)} {ws : List Cond} {rm : Room} {Pc : Array Value → State → Prop} {Qc : Array Value → State → Outcome → State → Prop} {free : Addr → Prop} {Ts : List Cond} {own C : String} {b : Addr} {As rest : List Value} {g : JFrame}
    (S : CallFix p m c cc nL s args Ts own) (hM : Met l y ws rm Pc Qc mc ms free) (cw : vx_CVW R s args own C index y bytes maxL ret hh ws rm mc ms n) (hp : PreV s H C b Pc As)
    (hg : g.method = m) (hn : As.length = n) (hsize : g.locals.size = nL) (hstack : g.stack = As.reverse ++ .ref b :: rest) (hW : 2 * g.monitorRoom + (rest.map fun v => v.category).sum ≤ 8) (hdg : decode cc g.pc = .ok (.invokevirtual index, 3)) (hf : cells + mc ≤ R.cells ∧ slots + ms ≤ R.slots) :
    va_Run p l e R s m args below meth c H locs cells slots mc ms g rest (Qc (Value.ref b :: As).toArray) free := by
  obtain ⟨⟨hrc, hrs, hfr, hlo, hws, hcw⟩, hcode, hini, hy, hlen, hl, hin, hse⟩ := cw
  have hK : Back l R p e below s args y 3 8 (PreOf R mc ms Pc) (PostOf Qc mc ms free) := va_backW (hh := hh) (bytes := bytes) (maxL := maxL) (ret := ret) hM hp.1 hrc hrs hfr hlo hws hcw (fun a' U hW => word_at hW (Or.inl (by first | rfl | simp [Cond.onTables, Cond.keeps, Cond.steady])) hini)
  obtain ⟨hx, hb, hml, ho, -⟩ := S
  obtain ⟨-, ⟨cellB, hcB, hoB, hclB⟩, hPc⟩ := hp
  intro T hT X
  obtain ⟨v, vm₁, ⟨U', l2, c2, s2⟩, hW₁, X', ⟨g', mk, t, L, e1, e2, hq, h1, hL, h2, h3⟩, st⟩ := vx_callVW X hx (C := C) (hh := hh) (bytes := bytes) (maxL := maxL) (ret := ret) ho hl hin hse hcode hy hK (by rw [hT]; exact hcB) hoB hclB hg (hsize.trans hml.symm) (argsL := As) (rest := rest) (fun sig h => hn.trans (hlen sig h)) hstack hW (by rw [hb]; exact hdg)
    (fun vm₁ hW₁ => ⟨hf.1, hf.2, hPc (T.setVm vm₁) hT hW₁⟩)
  dsimp only [Pt.U, Pt.locs, Pt.cells, Pt.slots] at X' e1 e2 h1 h2 h3 st
  subst h1; subst h2; subst h3
  exact ⟨v, (T.setVm vm₁).calling g' mk (Value.ref b :: As).toArray, t, U', L, hT, X', hL, e1, e2, hq, st⟩
section
variable {y : MethodName} {bytes cc : ByteArray} {maxL nL mc ms n index : Nat} {ret : Option FieldType} {ws : List Cond} {rm : Room} {Pc : Array Value → State → Prop} {Qc : Array Value → State → Outcome → State → Prop} {XC : String → State → State → Prop} {free : Addr → Prop} {Ts : List Cond} {own C : String} {b : Addr} {As rest : List Value} {g : JFrame}
theorem vx_runVX {hh : List (Nat × Nat × Nat × Nat)} (S : CallFix p m c cc nL s args Ts own) (hM : vx_Met l y ws rm Pc Qc XC mc ms free) (cw : vx_CVW R s args own C index y bytes maxL ret hh ws rm mc ms n) (hp : PreV s H C b Pc As)
    (hg : g.method = m) (hn : As.length = n) (hsize : g.locals.size = nL) (hstack : g.stack = As.reverse ++ .ref b :: rest) (hW : 2 * g.monitorRoom + (rest.map fun v => v.category).sum ≤ 8) (hdg : decode cc g.pc = .ok (.invokevirtual index, 3)) (hf : cells + mc ≤ R.cells ∧ slots + ms ≤ R.slots) :
    vx_Run p l e R s m args below meth c H locs cells slots mc ms g rest (Qc (Value.ref b :: As).toArray) XC free := by
  obtain ⟨⟨hrc, hrs, hfr, hlo, hws, hcw⟩, hcode, hini, hy, hlen, hl, hin, hse⟩ := cw
  have hK : vx_Back l R p e below s args y 3 8 (PreOf R mc ms Pc) (PostOf Qc mc ms free) (vx_Post XC mc ms free) := vx_backW (hh := hh) (bytes := bytes) (maxL := maxL) (ret := ret) hM hp.1 hrc hrs hfr hlo hws hcw (fun a' U hW => word_at hW (Or.inl (by first | rfl | simp [Cond.onTables, Cond.keeps, Cond.steady])) hini)
  obtain ⟨hx, hb, hml, ho, -⟩ := S
  obtain ⟨-, ⟨cellB, hcB, hoB, hclB⟩, hPc⟩ := hp
  intro T hT X
  rcases vx_callVX X hx (C := C) (hh := hh) (bytes := bytes) (maxL := maxL) (ret := ret) ho hl hin hse hcode hy hK (by rw [hT]; exact hcB) hoB hclB hg (hsize.trans hml.symm) (argsL := As) (rest := rest) (fun sig h => hn.trans (hlen sig h)) hstack hW (by rw [hb]; exact hdg)
    (fun vm₁ hW₁ => ⟨hf.1, hf.2, hPc (T.setVm vm₁) hT hW₁⟩) with ⟨v, vm₁, ⟨U', l2, c2, s2⟩, hW₁, X', ⟨g', mk, t, L, e1, e2, hq, h1, hL, h2, h3⟩, st⟩ | ⟨q, vm₁, ⟨U', l2, c2, s2⟩, hW₁, X', ⟨g', mk, t, L, E, ce, e1, e2, hq, hce, hcv, hcl, h1, hL, h2, h3⟩, st⟩
  · dsimp only [Pt.U, Pt.locs, Pt.cells, Pt.slots] at X' e1 e2 h1 h2 h3 st
    subst h1; subst h2; subst h3
    exact Or.inl ⟨v, (T.setVm vm₁).calling g' mk (Value.ref b :: As).toArray, t, U', L, hT, X', hL, e1, e2, hq, st⟩
  · dsimp only [Pt.U, Pt.locs, Pt.cells, Pt.slots] at X' e1 e2 h1 h2 h3 st hcl
    subst h1; subst h2; subst h3
    exact Or.inr ⟨q, (T.setVm vm₁).calling g' mk (Value.ref b :: As).toArray, t, U', L, E, ce, hT, X', hL, e1, e2, hq, hce, hcv, vx_cls hW₁ hcl, st⟩
theorem vx_runSX {hh : List (Nat × Nat × Nat × Nat)} (S : CallFix p m c cc nL s args Ts own) (hM : vx_Met l y ws rm Pc Qc XC mc ms free) (cw : vx_CSW R s args own index y bytes maxL ret hh ws rm mc ms n) (hp : PreS s H Pc As)
    (hg : g.method = m) (hn : As.length = n) (hsize : g.locals.size = nL) (hstack : g.stack = As.reverse ++ rest) (hW : 2 * g.monitorRoom + (rest.map fun v => v.category).sum ≤ 8) (hdg : decode cc g.pc = .ok (.invokestatic index, 3)) (hf : cells + mc ≤ R.cells ∧ slots + ms ≤ R.slots) :
    vx_Run p l e R s m args below meth c H locs cells slots mc ms g rest (Qc As.toArray) XC free := by
  obtain ⟨⟨hrc, hrs, hfr, hlo, hws, hcw⟩, hcode, hini, hy, hlen, hl, hstt⟩ := cw
  have hK : vx_Back l R p e below s args y 3 8 (PreOf R mc ms Pc) (PostOf Qc mc ms free) (vx_Post XC mc ms free) := vx_backW (hh := hh) (bytes := bytes) (maxL := maxL) (ret := ret) hM hp.1 hrc hrs hfr hlo hws hcw (fun a' U hW => word_at hW (Or.inl (by first | rfl | simp [Cond.onTables, Cond.keeps, Cond.steady])) hini)
  obtain ⟨hx, hb, hml, ho, -⟩ := S
  intro T hT X
  rcases vx_callSX X hx (hh := hh) (bytes := bytes) (maxL := maxL) (ret := ret) ho hl hstt hini hcode hy hK hg (hsize.trans hml.symm) (argsL := As) (rest := rest) (fun sig h => hn.trans (hlen sig h)) hstack hW (by rw [hb]; exact hdg)
    (fun vm₁ hW₁ => ⟨hf.1, hf.2, hp.2 (T.setVm vm₁) hT hW₁⟩) with ⟨v, vm₁, ⟨U', l2, c2, s2⟩, hW₁, X', ⟨g', mk, t, L, e1, e2, hq, h1, hL, h2, h3⟩, st⟩ | ⟨q, vm₁, ⟨U', l2, c2, s2⟩, hW₁, X', ⟨g', mk, t, L, E, ce, e1, e2, hq, hce, hcv, hcl, h1, hL, h2, h3⟩, st⟩
  · dsimp only [Pt.U, Pt.locs, Pt.cells, Pt.slots] at X' e1 e2 h1 h2 h3 st
    subst h1; subst h2; subst h3
    exact Or.inl ⟨v, (T.setVm vm₁).calling g' mk As.toArray, t, U', L, hT, X', hL, e1, e2, hq, st⟩
  · dsimp only [Pt.U, Pt.locs, Pt.cells, Pt.slots] at X' e1 e2 h1 h2 h3 st hcl
    subst h1; subst h2; subst h3
    exact Or.inr ⟨q, (T.setVm vm₁).calling g' mk As.toArray, t, U', L, E, ce, hT, X', hL, e1, e2, hq, hce, hcv, vx_cls hW₁ hcl, st⟩
end
end VXH
theorem vx_ofWH {l : Launch} {y : MethodName} {ws ws' : List Cond} {rm : Room} {Pc : Array Value → State → Prop} {Qc : Array Value → State → Outcome → State → Prop} {XC : String → State → State → Prop} {mc ms : Nat} {free : Addr → Prop} {cc : ByteArray} {maxL : Nat} {ret : Option FieldType} {hh : List (Nat × Nat × Nat × Nat)}
    (hy : plainName y.cls = true) (hw : ws = Cond.codeWith y cc maxL ret hh :: ws')
    (body : ∀ p e s m args below meth c s₁, BodyLoose p l y (headSpec ws rm) cc maxL ret e s m args below meth c s₁ → c.maxLocals = maxL → Pc args s →
      W p l e (headSpec ws rm).room s m args below meth c s.heap [] 0 0 (vx_MQ below Qc XC args s mc ms free) (entryFrame m args maxL)) : vx_Met l y ws rm Pc Qc XC mc ms free := by
  refine MetFree.of_bodyS (code := cc) (maxLocals := maxL) (ret := ret) hy ?_ ?_
  · intro args s m h hn
    obtain ⟨m9, meth, c, hn9, h1, h2, h3, h4, -, h5, h6, -⟩ := Cond.codeWith_spec (atoms_spec (ws := ws) h _ (by rw [hw]; exact List.mem_cons_self))
    cases hn.symm.trans hn9
    exact ⟨meth, c, h1, h2, h3, h4, h5, h6⟩
  · intro p e s m args below meth c s₁ B hml hP _
    have hh0 : s₁.heap = s.heap := by rw [B.state]; rfl
    obtain ⟨t, a1, o, b1, b2, b3⟩ := body p e s m args below meth c s₁ B hml hP s₁ hh0 (Stand.of_body B)
    exact ⟨t, o, a1, b1, b2, b3⟩
/-! ===== END ===== -/
end
section
/-! names of the system: classes, fields, methods; own text, laid by a program out of the Statement -/
def R_Ro : String := "RuleSteps$Rows"
def T_Ro : u_T := fun k => match k with
  | 0 => ("RuleSteps$Rows", "cells", "[I", true)
  | _ => ("RuleSteps$Rows", "size", "I", false)
def t_Ro : Nat → FieldType := fun k => match k with
  | 0 => .array .int
  | _ => .int
theorem n_Ro : ∀ a, a < 2 → ∀ b, b < 2 → a ≠ b → (T_Ro a).2.1 ≠ (T_Ro b).2.1 := by decide +kernel
theorem tk_Ro : ∀ k, k < 2 → parseFieldDescriptor (T_Ro k).2.2.1 = some (t_Ro k) := by decide +kernel
def R_Ru : String := "RuleSteps$Rules"
def T_Ru : u_T := fun k => match k with
  | 0 => ("RuleSteps$Rules", "left", "[I", true)
  | 1 => ("RuleSteps$Rules", "right", "[I", true)
  | 2 => ("RuleSteps$Rules", "condition", "[I", true)
  | 3 => ("RuleSteps$Rules", "lessening", "[Z", true)
  | 4 => ("RuleSteps$Rules", "chosen", "[Z", true)
  | 5 => ("RuleSteps$Rules", "answers", "[I", true)
  | _ => ("RuleSteps$Rules", "size", "I", false)
def t_Ru : Nat → FieldType := fun k => match k with
  | 0 => .array .int
  | 1 => .array .int
  | 2 => .array .int
  | 3 => .array .boolean
  | 4 => .array .boolean
  | 5 => .array .int
  | _ => .int
theorem n_Ru : ∀ a, a < 7 → ∀ b, b < 7 → a ≠ b → (T_Ru a).2.1 ≠ (T_Ru b).2.1 := by decide +kernel
theorem tk_Ru : ∀ k, k < 7 → parseFieldDescriptor (T_Ru k).2.2.1 = some (t_Ru k) := by decide +kernel
def R_Rn : String := "RuleSteps$Runner"
def T_Rn : u_T := fun k => match k with
  | 0 => ("RuleSteps$Runner", "trees", "LRuleSteps$Trees;", true)
  | 1 => ("RuleSteps$Runner", "rules", "LRuleSteps$Rules;", true)
  | 2 => ("RuleSteps$Runner", "allowed", "[Z", true)
  | 3 => ("RuleSteps$Runner", "found", "[I", true)
  | 4 => ("RuleSteps$Runner", "bound", "[I", true)
  | 5 => ("RuleSteps$Runner", "spot", "I", false)
  | 6 => ("RuleSteps$Runner", "place", "I", false)
  | 7 => ("RuleSteps$Runner", "levels", "I", false)
  | 8 => ("RuleSteps$Runner", "around", "[I", true)
  | 9 => ("RuleSteps$Runner", "inSecond", "[Z", true)
  | 10 => ("RuleSteps$Runner", "made", "I", false)
  | _ => ("RuleSteps$Runner", "moreToDo", "Z", false)
def t_Rn : Nat → FieldType := fun k => match k with
  | 0 => .object "RuleSteps$Trees"
  | 1 => .object "RuleSteps$Rules"
  | 2 => .array .boolean
  | 3 => .array .int
  | 4 => .array .int
  | 5 => .int
  | 6 => .int
  | 7 => .int
  | 8 => .array .int
  | 9 => .array .boolean
  | 10 => .int
  | _ => .boolean
theorem n_Rn : ∀ a, a < 12 → ∀ b, b < 12 → a ≠ b → (T_Rn a).2.1 ≠ (T_Rn b).2.1 := by decide +kernel
theorem tk_Rn : ∀ k, k < 12 → parseFieldDescriptor (T_Rn k).2.2.1 = some (t_Rn k) := by decide +kernel
def R_Tr : String := "RuleSteps$Trees"
def T_Tr : u_T := fun k => match k with
  | 0 => ("RuleSteps$Trees", "mark", "[I", true)
  | 1 => ("RuleSteps$Trees", "first", "[I", true)
  | 2 => ("RuleSteps$Trees", "second", "[I", true)
  | 3 => ("RuleSteps$Trees", "weight", "[I", true)
  | 4 => ("RuleSteps$Trees", "places", "[I", true)
  | 5 => ("RuleSteps$Trees", "depth", "[I", true)
  | 6 => ("RuleSteps$Trees", "holes", "[I", true)
  | 7 => ("RuleSteps$Trees", "holeCounts", "[I", true)
  | 8 => ("RuleSteps$Trees", "newest", "[I", true)
  | 9 => ("RuleSteps$Trees", "older", "[I", true)
  | _ => ("RuleSteps$Trees", "size", "I", false)
def t_Tr : Nat → FieldType := fun k => match k with
  | 0 => .array .int
  | 1 => .array .int
  | 2 => .array .int
  | 3 => .array .int
  | 4 => .array .int
  | 5 => .array .int
  | 6 => .array .int
  | 7 => .array .int
  | 8 => .array .int
  | 9 => .array .int
  | _ => .int
theorem n_Tr : ∀ a, a < 11 → ∀ b, b < 11 → a ≠ b → (T_Tr a).2.1 ≠ (T_Tr b).2.1 := by decide +kernel
theorem tk_Tr : ∀ k, k < 11 → parseFieldDescriptor (T_Tr k).2.2.1 = some (t_Tr k) := by decide +kernel
def R_RS : String := "RuleSteps"
def T_RS : u_T := fun k => match k with
  | 0 => ("RuleSteps", "trees", "LRuleSteps$Trees;", true)
  | 1 => ("RuleSteps", "rules", "LRuleSteps$Rules;", true)
  | 2 => ("RuleSteps", "runner", "LRuleSteps$Runner;", true)
  | 3 => ("RuleSteps", "kept", "LRuleSteps$Rows;", false)
  | 4 => ("RuleSteps", "spare", "LRuleSteps$Rows;", false)
  | 5 => ("RuleSteps", "latestSteps", "I", false)
  | _ => ("RuleSteps", "latestSpent", "Z", false)
def t_RS : Nat → FieldType := fun k => match k with
  | 0 => .object "RuleSteps$Trees"
  | 1 => .object "RuleSteps$Rules"
  | 2 => .object "RuleSteps$Runner"
  | 3 => .object "RuleSteps$Rows"
  | 4 => .object "RuleSteps$Rows"
  | 5 => .int
  | _ => .boolean
theorem n_RS : ∀ a, a < 7 → ∀ b, b < 7 → a ≠ b → (T_RS a).2.1 ≠ (T_RS b).2.1 := by decide +kernel
theorem tk_RS : ∀ k, k < 7 → parseFieldDescriptor (T_RS k).2.2.1 = some (t_RS k) := by decide +kernel
def R_Md : String := "RuleStepsModel"
def T_Md : u_T := fun k => match k with
  | 0 => ("RuleStepsModel", "trees", "I", false)
  | 1 => ("RuleStepsModel", "sign", "[I", true)
  | 2 => ("RuleStepsModel", "first", "[I", true)
  | 3 => ("RuleStepsModel", "second", "[I", true)
  | 4 => ("RuleStepsModel", "weight", "[I", true)
  | 5 => ("RuleStepsModel", "places", "[I", true)
  | 6 => ("RuleStepsModel", "depth", "[I", true)
  | 7 => ("RuleStepsModel", "holes", "[I", true)
  | 8 => ("RuleStepsModel", "rules", "I", false)
  | 9 => ("RuleStepsModel", "left", "[I", true)
  | 10 => ("RuleStepsModel", "right", "[I", true)
  | 11 => ("RuleStepsModel", "condition", "[I", true)
  | 12 => ("RuleStepsModel", "chosen", "[Z", true)
  | 13 => ("RuleStepsModel", "answer", "[I", true)
  | 14 => ("RuleStepsModel", "rows", "I", false)
  | 15 => ("RuleStepsModel", "steps", "I", false)
  | 16 => ("RuleStepsModel", "row", "[I", true)
  | 17 => ("RuleStepsModel", "newRows", "I", false)
  | 18 => ("RuleStepsModel", "newSteps", "I", false)
  | 19 => ("RuleStepsModel", "newRow", "[I", true)
  | 20 => ("RuleStepsModel", "spent", "Z", false)
  | 21 => ("RuleStepsModel", "failed", "Z", false)
  | 22 => ("RuleStepsModel", "thrown", "I", false)
  | 23 => ("RuleStepsModel", "laid", "[I", true)
  | 24 => ("RuleStepsModel", "around", "[I", true)
  | 25 => ("RuleStepsModel", "pattern", "[I", true)
  | 26 => ("RuleStepsModel", "todo", "[I", true)
  | 27 => ("RuleStepsModel", "bound", "[I", true)
  | 28 => ("RuleStepsModel", "made", "[I", true)
  | 29 => ("RuleStepsModel", "countOne", "[I", true)
  | 30 => ("RuleStepsModel", "countTwo", "[I", true)
  | 31 => ("RuleStepsModel", "matching", "[Z", true)
  | 32 => ("RuleStepsModel", "ahead", "[I", true)
  | 33 => ("RuleStepsModel", "used", "[Z", true)
  | _ => ("RuleStepsModel", "stopped", "Z", false)
def t_Md : Nat → FieldType := fun k => match k with
  | 0 => .int
  | 1 => .array .int
  | 2 => .array .int
  | 3 => .array .int
  | 4 => .array .int
  | 5 => .array .int
  | 6 => .array .int
  | 7 => .array .int
  | 8 => .int
  | 9 => .array .int
  | 10 => .array .int
  | 11 => .array .int
  | 12 => .array .boolean
  | 13 => .array .int
  | 14 => .int
  | 15 => .int
  | 16 => .array .int
  | 17 => .int
  | 18 => .int
  | 19 => .array .int
  | 20 => .boolean
  | 21 => .boolean
  | 22 => .int
  | 23 => .array .int
  | 24 => .array .int
  | 25 => .array .int
  | 26 => .array .int
  | 27 => .array .int
  | 28 => .array .int
  | 29 => .array .int
  | 30 => .array .int
  | 31 => .array .boolean
  | 32 => .array .int
  | 33 => .array .boolean
  | _ => .boolean
theorem n_Md : ∀ a, a < 35 → ∀ b, b < 35 → a ≠ b → (T_Md a).2.1 ≠ (T_Md b).2.1 := by decide +kernel
theorem tk_Md : ∀ k, k < 35 → parseFieldDescriptor (T_Md k).2.2.1 = some (t_Md k) := by decide +kernel
def R_La : String := "RuleStepsLaw"
def R_Ar : String := "java/util/Arrays"
abbrev c_RS_init : ByteArray := prog_1_method_1_code
def y_RS_init : MethodName := ⟨R_RS, "<init>", "()V"⟩
abbrev c_Tr_init : ByteArray := prog_5_method_1_code
def y_Tr_init : MethodName := ⟨R_Tr, "<init>", "()V"⟩
abbrev c_Ar_fill : ByteArray := prog_16_method_103_code
def y_Ar_fill : MethodName := ⟨R_Ar, "fill", "([II)V"⟩
abbrev c_Ru_init : ByteArray := prog_3_method_1_code
def y_Ru_init : MethodName := ⟨R_Ru, "<init>", "()V"⟩
abbrev c_Rn_init : ByteArray := prog_4_method_1_code
def y_Rn_init : MethodName := ⟨R_Rn, "<init>", "(LRuleSteps$Trees;LRuleSteps$Rules;)V"⟩
abbrev c_Ro_init : ByteArray := prog_2_method_1_code
def y_Ro_init : MethodName := ⟨R_Ro, "<init>", "()V"⟩
abbrev c_RS_spent : ByteArray := prog_1_method_11_code
def y_RS_spent : MethodName := ⟨R_RS, "spent", "()Z"⟩
abbrev c_RS_steps : ByteArray := prog_1_method_13_code
def y_RS_steps : MethodName := ⟨R_RS, "steps", "()I"⟩
abbrev c_RS_domain : ByteArray := prog_1_method_14_code
def y_RS_domain : MethodName := ⟨R_RS, "domain", "()I"⟩
abbrev c_Ro_cell : ByteArray := prog_2_method_2_code
def y_Ro_cell : MethodName := ⟨R_Ro, "cell", "(II)I"⟩
abbrev c_RS_count : ByteArray := prog_1_method_21_code
def y_RS_count : MethodName := ⟨R_RS, "count", "(I)I"⟩
abbrev c_La_leaf : ByteArray := method_3_code
def y_La_leaf : MethodName := ⟨R_La, "leaf", "(LRuleSteps;I[J)I"⟩
abbrev c_RS_leaf : ByteArray := prog_1_method_2_code
def y_RS_leaf : MethodName := ⟨R_RS, "leaf", "(I)I"⟩
abbrev c_Tr_numberOf : ByteArray := prog_5_method_4_code
def y_Tr_numberOf : MethodName := ⟨R_Tr, "numberOf", "(III)I"⟩
abbrev c_Tr_slotOf : ByteArray := prog_5_method_5_code
def y_Tr_slotOf : MethodName := ⟨R_Tr, "slotOf", "(III)I"⟩
abbrev c_Tr_enter : ByteArray := prog_5_method_6_code
def y_Tr_enter : MethodName := ⟨R_Tr, "enter", "(III)I"⟩
abbrev c_Tr_ownWeight : ByteArray := prog_5_method_8_code
def y_Tr_ownWeight : MethodName := ⟨R_Tr, "ownWeight", "(I)I"⟩
abbrev c_Tr_valueOf : ByteArray := prog_5_method_7_code
def y_Tr_valueOf : MethodName := ⟨R_Tr, "valueOf", "([III)I"⟩
abbrev c_Tr_noteHoles : ByteArray := prog_5_method_9_code
def y_Tr_noteHoles : MethodName := ⟨R_Tr, "noteHoles", "(I)V"⟩
abbrev c_Tr_holeCount : ByteArray := prog_5_method_10_code
def y_Tr_holeCount : MethodName := ⟨R_Tr, "holeCount", "(II)I"⟩
abbrev c_RS_needMade : ByteArray := prog_1_method_25_code
def y_RS_needMade : MethodName := ⟨R_RS, "needMade", "(I)I"⟩
abbrev c_La_hole : ByteArray := method_4_code
def y_La_hole : MethodName := ⟨R_La, "hole", "(LRuleSteps;I[J)I"⟩
abbrev c_RS_hole : ByteArray := prog_1_method_3_code
def y_RS_hole : MethodName := ⟨R_RS, "hole", "(I)I"⟩
abbrev c_La_node : ByteArray := method_5_code
def y_La_node : MethodName := ⟨R_La, "node", "(LRuleSteps;III[J)I"⟩
abbrev c_RS_node : ByteArray := prog_1_method_4_code
def y_RS_node : MethodName := ⟨R_RS, "node", "(III)I"⟩
abbrev c_RS_needTree : ByteArray := prog_1_method_22_code
def y_RS_needTree : MethodName := ⟨R_RS, "needTree", "(I)V"⟩
abbrev c_La_rule : ByteArray := method_6_code
def y_La_rule : MethodName := ⟨R_La, "rule", "(LRuleSteps;III[J)I"⟩
abbrev c_RS_rule : ByteArray := prog_1_method_5_code
def y_RS_rule : MethodName := ⟨R_RS, "rule", "(III)I"⟩
abbrev c_Tr_isNode : ByteArray := prog_5_method_2_code
def y_Tr_isNode : MethodName := ⟨R_Tr, "isNode", "(I)Z"⟩
abbrev c_Tr_isAbove : ByteArray := prog_5_method_13_code
def y_Tr_isAbove : MethodName := ⟨R_Tr, "isAbove", "(II)Z"⟩
abbrev c_Tr_hasHolesOf : ByteArray := prog_5_method_14_code
def y_Tr_hasHolesOf : MethodName := ⟨R_Tr, "hasHolesOf", "(II)Z"⟩
abbrev c_Tr_isLeaf : ByteArray := prog_5_method_3_code
def y_Tr_isLeaf : MethodName := ⟨R_Tr, "isLeaf", "(I)Z"⟩
abbrev c_Ru_add : ByteArray := prog_3_method_2_code
def y_Ru_add : MethodName := ⟨R_Ru, "add", "(IIIZ)I"⟩
abbrev c_La_holds : ByteArray := method_7_code
def y_La_holds : MethodName := ⟨R_La, "holds", "(LRuleSteps;II[J)I"⟩
abbrev c_RS_holds : ByteArray := prog_1_method_6_code
def y_RS_holds : MethodName := ⟨R_RS, "holds", "(II)Z"⟩
abbrev c_La_choose : ByteArray := method_8_code
def y_La_choose : MethodName := ⟨R_La, "choose", "(LRuleSteps;IZ[J)I"⟩
abbrev c_RS_choose : ByteArray := prog_1_method_7_code
def y_RS_choose : MethodName := ⟨R_RS, "choose", "(IZ)Z"⟩
abbrev c_RS_needRule : ByteArray := prog_1_method_23_code
def y_RS_needRule : MethodName := ⟨R_RS, "needRule", "(I)V"⟩
abbrev c_La_rewrite : ByteArray := method_9_code
def y_La_rewrite : MethodName := ⟨R_La, "rewrite", "(LRuleSteps;II[J)I"⟩
abbrev c_RS_rewrite : ByteArray := prog_1_method_8_code
def y_RS_rewrite : MethodName := ⟨R_RS, "rewrite", "(II)I"⟩
abbrev c_RS_needPlain : ByteArray := prog_1_method_24_code
def y_RS_needPlain : MethodName := ⟨R_RS, "needPlain", "(I)V"⟩
abbrev c_Rn_run : ByteArray := prog_4_method_2_code
def y_Rn_run : MethodName := ⟨R_Rn, "run", "(IIZLRuleSteps$Rows;)I"⟩
abbrev c_Rn_begin : ByteArray := prog_4_method_3_code
def y_Rn_begin : MethodName := ⟨R_Rn, "begin", "(Z)V"⟩
abbrev c_Ru_mayBeUsed : ByteArray := prog_3_method_3_code
def y_Ru_mayBeUsed : MethodName := ⟨R_Ru, "mayBeUsed", "(I)Z"⟩
abbrev c_Rn_canStep : ByteArray := prog_4_method_4_code
def y_Rn_canStep : MethodName := ⟨R_Rn, "canStep", "(I)Z"⟩
abbrev c_Rn_lowestRule : ByteArray := prog_4_method_5_code
def y_Rn_lowestRule : MethodName := ⟨R_Rn, "lowestRule", "(I)I"⟩
abbrev c_Rn_matches : ByteArray := prog_4_method_6_code
def y_Rn_matches : MethodName := ⟨R_Rn, "matches", "(II)Z"⟩
abbrev c_Rn_fits : ByteArray := prog_4_method_7_code
def y_Rn_fits : MethodName := ⟨R_Rn, "fits", "(II)Z"⟩
abbrev c_Rn_bind : ByteArray := prog_4_method_8_code
def y_Rn_bind : MethodName := ⟨R_Rn, "bind", "(II)Z"⟩
abbrev c_Rn_step : ByteArray := prog_4_method_9_code
def y_Rn_step : MethodName := ⟨R_Rn, "step", "(I)I"⟩
abbrev c_Rn_seek : ByteArray := prog_4_method_10_code
def y_Rn_seek : MethodName := ⟨R_Rn, "seek", "(I)V"⟩
abbrev c_Rn_filled : ByteArray := prog_4_method_11_code
def y_Rn_filled : MethodName := ⟨R_Rn, "filled", "(I)I"⟩
abbrev c_Ro_add : ByteArray := prog_2_method_3_code
def y_Ro_add : MethodName := ⟨R_Ro, "add", "(IIII)V"⟩
abbrev c_RS_needRun : ByteArray := prog_1_method_26_code
def y_RS_needRun : MethodName := ⟨R_RS, "needRun", "(II)I"⟩
abbrev c_Tr_shrinkTo : ByteArray := prog_5_method_11_code
def y_Tr_shrinkTo : MethodName := ⟨R_Tr, "shrinkTo", "(I)V"⟩
abbrev c_RS_keepRun : ByteArray := prog_1_method_27_code
def y_RS_keepRun : MethodName := ⟨R_RS, "keepRun", "()V"⟩
abbrev c_La_normal : ByteArray := method_10_code
def y_La_normal : MethodName := ⟨R_La, "normal", "(LRuleSteps;I[J)I"⟩
abbrev c_RS_normal : ByteArray := prog_1_method_9_code
def y_RS_normal : MethodName := ⟨R_RS, "normal", "(I)I"⟩
abbrev c_La_joins : ByteArray := method_11_code
def y_La_joins : MethodName := ⟨R_La, "joins", "(LRuleSteps;II[J)I"⟩
abbrev c_RS_joins : ByteArray := prog_1_method_10_code
def y_RS_joins : MethodName := ⟨R_RS, "joins", "(II)Z"⟩
abbrev c_La_row : ByteArray := method_12_code
def y_La_row : MethodName := ⟨R_La, "row", "(LRuleSteps;II[J)I"⟩
abbrev c_RS_row : ByteArray := prog_1_method_12_code
def y_RS_row : MethodName := ⟨R_RS, "row", "(II)I"⟩
abbrev c_La_lessens : ByteArray := method_13_code
def y_La_lessens : MethodName := ⟨R_La, "lessens", "(LRuleSteps;I[J)I"⟩
abbrev c_RS_lessens : ByteArray := prog_1_method_15_code
def y_RS_lessens : MethodName := ⟨R_RS, "lessens", "(I)Z"⟩
abbrev c_La_usable : ByteArray := method_14_code
def y_La_usable : MethodName := ⟨R_La, "usable", "(LRuleSteps;I[J)I"⟩
abbrev c_RS_usable : ByteArray := prog_1_method_16_code
def y_RS_usable : MethodName := ⟨R_RS, "usable", "(I)Z"⟩
abbrev c_La_above : ByteArray := method_15_code
def y_La_above : MethodName := ⟨R_La, "above", "(LRuleSteps;II[J)I"⟩
abbrev c_RS_above : ByteArray := prog_1_method_17_code
def y_RS_above : MethodName := ⟨R_RS, "above", "(II)Z"⟩
abbrev c_La_measure : ByteArray := method_16_code
def y_La_measure : MethodName := ⟨R_La, "measure", "(LRuleSteps;II[J)I"⟩
abbrev c_RS_measure : ByteArray := prog_1_method_18_code
def y_RS_measure : MethodName := ⟨R_RS, "measure", "(II)I"⟩
abbrev c_La_at : ByteArray := method_17_code
def y_La_at : MethodName := ⟨R_La, "at", "(LRuleSteps;II[J)I"⟩
abbrev c_RS_at : ByteArray := prog_1_method_19_code
def y_RS_at : MethodName := ⟨R_RS, "at", "(II)I"⟩
abbrev c_Tr_treeAt : ByteArray := prog_5_method_12_code
def y_Tr_treeAt : MethodName := ⟨R_Tr, "treeAt", "(II)I"⟩
abbrev c_La_head : ByteArray := method_18_code
def y_La_head : MethodName := ⟨R_La, "head", "(LRuleSteps;I[J)I"⟩
abbrev c_RS_head : ByteArray := prog_1_method_20_code
def y_RS_head : MethodName := ⟨R_RS, "head", "(I)I"⟩
abbrev c_Md_init : ByteArray := prog_7_method_1_code
def y_Md_init : MethodName := ⟨R_Md, "<init>", "()V"⟩
abbrev c_Md_thrown : ByteArray := prog_7_method_2_code
def y_Md_thrown : MethodName := ⟨R_Md, "thrown", "()I"⟩
abbrev c_Md_leaf : ByteArray := prog_7_method_7_code
def y_Md_leaf : MethodName := ⟨R_Md, "leaf", "(I)I"⟩
abbrev c_Md_ask : ByteArray := prog_7_method_6_code
def y_Md_ask : MethodName := ⟨R_Md, "ask", "(IIII)I"⟩
abbrev c_Md_tree : ByteArray := prog_7_method_5_code
def y_Md_tree : MethodName := ⟨R_Md, "tree", "(III)I"⟩
abbrev c_Md_parts : ByteArray := prog_7_method_4_code
def y_Md_parts : MethodName := ⟨R_Md, "parts", "(I)I"⟩
abbrev c_Md_hole : ByteArray := prog_7_method_8_code
def y_Md_hole : MethodName := ⟨R_Md, "hole", "(I)I"⟩
abbrev c_Md_node : ByteArray := prog_7_method_9_code
def y_Md_node : MethodName := ⟨R_Md, "node", "(III)I"⟩
abbrev c_Md_isTree : ByteArray := prog_7_method_3_code
def y_Md_isTree : MethodName := ⟨R_Md, "isTree", "(I)Z"⟩
abbrev c_Md_rule : ByteArray := prog_7_method_15_code
def y_Md_rule : MethodName := ⟨R_Md, "rule", "(III)I"⟩
abbrev c_Md_holds : ByteArray := prog_7_method_16_code
def y_Md_holds : MethodName := ⟨R_Md, "holds", "(II)Z"⟩
abbrev c_Md_choose : ByteArray := prog_7_method_18_code
def y_Md_choose : MethodName := ⟨R_Md, "choose", "(IZ)Z"⟩
abbrev c_Md_isRule : ByteArray := prog_7_method_17_code
def y_Md_isRule : MethodName := ⟨R_Md, "isRule", "(I)Z"⟩
abbrev c_Md_usable : ByteArray := prog_7_method_20_code
def y_Md_usable : MethodName := ⟨R_Md, "usable", "(I)Z"⟩
abbrev c_Md_may : ByteArray := prog_7_method_19_code
def y_Md_may : MethodName := ⟨R_Md, "may", "(I)Z"⟩
abbrev c_Md_lessens : ByteArray := prog_7_method_21_code
def y_Md_lessens : MethodName := ⟨R_Md, "lessens", "(I)Z"⟩
abbrev c_Md_isAbove : ByteArray := prog_7_method_14_code
def y_Md_isAbove : MethodName := ⟨R_Md, "isAbove", "(II)Z"⟩
abbrev c_Md_holesAllow : ByteArray := prog_7_method_13_code
def y_Md_holesAllow : MethodName := ⟨R_Md, "holesAllow", "(II)Z"⟩
abbrev c_Md_countHoles : ByteArray := prog_7_method_12_code
def y_Md_countHoles : MethodName := ⟨R_Md, "countHoles", "(I[I)V"⟩
abbrev c_Md_lay : ByteArray := prog_7_method_10_code
def y_Md_lay : MethodName := ⟨R_Md, "lay", "(I[IZ)I"⟩
abbrev c_Md_findAround : ByteArray := prog_7_method_11_code
def y_Md_findAround : MethodName := ⟨R_Md, "findAround", "(I)V"⟩
abbrev c_Md_rewrite : ByteArray := prog_7_method_31_code
def y_Md_rewrite : MethodName := ⟨R_Md, "rewrite", "(II)I"⟩
abbrev c_Md_lookForRules : ByteArray := prog_7_method_23_code
def y_Md_lookForRules : MethodName := ⟨R_Md, "lookForRules", "(Z)V"⟩
abbrev c_Md_go : ByteArray := prog_7_method_29_code
def y_Md_go : MethodName := ⟨R_Md, "go", "(II)I"⟩
abbrev c_Md_placeOf : ByteArray := prog_7_method_25_code
def y_Md_placeOf : MethodName := ⟨R_Md, "placeOf", "(I)I"⟩
abbrev c_Md_ruleAt : ByteArray := prog_7_method_24_code
def y_Md_ruleAt : MethodName := ⟨R_Md, "ruleAt", "(I)I"⟩
abbrev c_Md_matches : ByteArray := prog_7_method_22_code
def y_Md_matches : MethodName := ⟨R_Md, "matches", "(II)Z"⟩
abbrev c_Md_build : ByteArray := prog_7_method_26_code
def y_Md_build : MethodName := ⟨R_Md, "build", "(I)I"⟩
abbrev c_Md_replace : ByteArray := prog_7_method_27_code
def y_Md_replace : MethodName := ⟨R_Md, "replace", "(II)I"⟩
abbrev c_Md_keep : ByteArray := prog_7_method_28_code
def y_Md_keep : MethodName := ⟨R_Md, "keep", "(IIII)V"⟩
abbrev c_Md_take : ByteArray := prog_7_method_30_code
def y_Md_take : MethodName := ⟨R_Md, "take", "()V"⟩
abbrev c_Md_normal : ByteArray := prog_7_method_32_code
def y_Md_normal : MethodName := ⟨R_Md, "normal", "(I)I"⟩
abbrev c_Md_joins : ByteArray := prog_7_method_33_code
def y_Md_joins : MethodName := ⟨R_Md, "joins", "(II)Z"⟩
abbrev c_Md_spent : ByteArray := prog_7_method_34_code
def y_Md_spent : MethodName := ⟨R_Md, "spent", "()Z"⟩
abbrev c_Md_row : ByteArray := prog_7_method_35_code
def y_Md_row : MethodName := ⟨R_Md, "row", "(II)I"⟩
abbrev c_Md_steps : ByteArray := prog_7_method_36_code
def y_Md_steps : MethodName := ⟨R_Md, "steps", "()I"⟩
abbrev c_Md_domain : ByteArray := prog_7_method_37_code
def y_Md_domain : MethodName := ⟨R_Md, "domain", "()I"⟩
abbrev c_Md_above : ByteArray := prog_7_method_38_code
def y_Md_above : MethodName := ⟨R_Md, "above", "(II)Z"⟩
abbrev c_Md_measure : ByteArray := prog_7_method_39_code
def y_Md_measure : MethodName := ⟨R_Md, "measure", "(II)I"⟩
abbrev c_Md_at : ByteArray := prog_7_method_40_code
def y_Md_at : MethodName := ⟨R_Md, "at", "(II)I"⟩
abbrev c_Md_head : ByteArray := prog_7_method_41_code
def y_Md_head : MethodName := ⟨R_Md, "head", "(I)I"⟩
abbrev c_Md_count : ByteArray := prog_7_method_42_code
def y_Md_count : MethodName := ⟨R_Md, "count", "(I)I"⟩
abbrev c_La_law : ByteArray := code
def y_La_law : MethodName := ⟨R_La, "law", "([I)Z"⟩
abbrev vwCl : List vw_C := [(R_Ro, T_Ro, 2), (R_Ru, T_Ru, 7), (R_Rn, T_Rn, 12), (R_Tr, T_Tr, 11), (R_RS, T_RS, 7), (R_Md, T_Md, 35)]
end
section
/-! decode rows, laid by a program -/
theorem d_Tr_init_0 : decode c_Tr_init 0 = .ok (.aload_n 0, 1) := by decide +kernel
theorem d_Tr_init_1 : decode c_Tr_init 1 = .ok (.invokespecial 3, 3) := by decide +kernel
theorem d_Tr_init_4 : decode c_Tr_init 4 = .ok (.aload_n 0, 1) := by decide +kernel
theorem d_Tr_init_5 : decode c_Tr_init 5 = .ok (.sipush 300, 3) := by decide +kernel
theorem d_Tr_init_8 : decode c_Tr_init 8 = .ok (.newarray .int, 2) := by decide +kernel
theorem d_Tr_init_10 : decode c_Tr_init 10 = .ok (.putfield 9, 3) := by decide +kernel
theorem d_Tr_init_13 : decode c_Tr_init 13 = .ok (.aload_n 0, 1) := by decide +kernel
theorem d_Tr_init_14 : decode c_Tr_init 14 = .ok (.sipush 300, 3) := by decide +kernel
theorem d_Tr_init_17 : decode c_Tr_init 17 = .ok (.newarray .int, 2) := by decide +kernel
theorem d_Tr_init_19 : decode c_Tr_init 19 = .ok (.putfield 15, 3) := by decide +kernel
theorem d_Tr_init_22 : decode c_Tr_init 22 = .ok (.aload_n 0, 1) := by decide +kernel
theorem d_Tr_init_23 : decode c_Tr_init 23 = .ok (.sipush 300, 3) := by decide +kernel
theorem d_Tr_init_26 : decode c_Tr_init 26 = .ok (.newarray .int, 2) := by decide +kernel
theorem d_Tr_init_28 : decode c_Tr_init 28 = .ok (.putfield 18, 3) := by decide +kernel
theorem d_Tr_init_31 : decode c_Tr_init 31 = .ok (.aload_n 0, 1) := by decide +kernel
theorem d_Tr_init_32 : decode c_Tr_init 32 = .ok (.sipush 300, 3) := by decide +kernel
theorem d_Tr_init_35 : decode c_Tr_init 35 = .ok (.newarray .int, 2) := by decide +kernel
theorem d_Tr_init_37 : decode c_Tr_init 37 = .ok (.putfield 21, 3) := by decide +kernel
theorem d_Tr_init_40 : decode c_Tr_init 40 = .ok (.aload_n 0, 1) := by decide +kernel
theorem d_Tr_init_41 : decode c_Tr_init 41 = .ok (.sipush 300, 3) := by decide +kernel
theorem d_Tr_init_44 : decode c_Tr_init 44 = .ok (.newarray .int, 2) := by decide +kernel
theorem d_Tr_init_46 : decode c_Tr_init 46 = .ok (.putfield 24, 3) := by decide +kernel
theorem d_Tr_init_49 : decode c_Tr_init 49 = .ok (.aload_n 0, 1) := by decide +kernel
theorem d_Tr_init_50 : decode c_Tr_init 50 = .ok (.sipush 300, 3) := by decide +kernel
theorem d_Tr_init_53 : decode c_Tr_init 53 = .ok (.newarray .int, 2) := by decide +kernel
theorem d_Tr_init_55 : decode c_Tr_init 55 = .ok (.putfield 27, 3) := by decide +kernel
theorem d_Tr_init_58 : decode c_Tr_init 58 = .ok (.aload_n 0, 1) := by decide +kernel
theorem d_Tr_init_59 : decode c_Tr_init 59 = .ok (.sipush 300, 3) := by decide +kernel
theorem d_Tr_init_62 : decode c_Tr_init 62 = .ok (.newarray .int, 2) := by decide +kernel
theorem d_Tr_init_64 : decode c_Tr_init 64 = .ok (.putfield 30, 3) := by decide +kernel
theorem d_Tr_init_67 : decode c_Tr_init 67 = .ok (.aload_n 0, 1) := by decide +kernel
theorem d_Tr_init_68 : decode c_Tr_init 68 = .ok (.sipush 1800, 3) := by decide +kernel
theorem d_Tr_init_71 : decode c_Tr_init 71 = .ok (.newarray .int, 2) := by decide +kernel
theorem d_Tr_init_73 : decode c_Tr_init 73 = .ok (.putfield 33, 3) := by decide +kernel
theorem d_Tr_init_76 : decode c_Tr_init 76 = .ok (.aload_n 0, 1) := by decide +kernel
theorem d_Tr_init_77 : decode c_Tr_init 77 = .ok (.sipush 512, 3) := by decide +kernel
theorem d_Tr_init_80 : decode c_Tr_init 80 = .ok (.newarray .int, 2) := by decide +kernel
theorem d_Tr_init_82 : decode c_Tr_init 82 = .ok (.putfield 36, 3) := by decide +kernel
theorem d_Tr_init_85 : decode c_Tr_init 85 = .ok (.aload_n 0, 1) := by decide +kernel
theorem d_Tr_init_86 : decode c_Tr_init 86 = .ok (.sipush 300, 3) := by decide +kernel
theorem d_Tr_init_89 : decode c_Tr_init 89 = .ok (.newarray .int, 2) := by decide +kernel
theorem d_Tr_init_91 : decode c_Tr_init 91 = .ok (.putfield 39, 3) := by decide +kernel
theorem d_Tr_init_94 : decode c_Tr_init 94 = .ok (.aload_n 0, 1) := by decide +kernel
theorem d_Tr_init_95 : decode c_Tr_init 95 = .ok (.iconst 0, 1) := by decide +kernel
theorem d_Tr_init_96 : decode c_Tr_init 96 = .ok (.putfield 42, 3) := by decide +kernel
theorem d_Tr_init_99 : decode c_Tr_init 99 = .ok (.aload_n 0, 1) := by decide +kernel
theorem d_Tr_init_100 : decode c_Tr_init 100 = .ok (.getfield 36, 3) := by decide +kernel
theorem d_Tr_init_103 : decode c_Tr_init 103 = .ok (.iconst (-1), 1) := by decide +kernel
theorem d_Tr_init_104 : decode c_Tr_init 104 = .ok (.invokestatic 46, 3) := by decide +kernel
theorem d_Tr_init_107 : decode c_Tr_init 107 = .ok (.return_, 1) := by decide +kernel
theorem d_Ar_fill_0 : decode c_Ar_fill 0 = .ok (.iconst 0, 1) := by decide +kernel
theorem d_Ar_fill_1 : decode c_Ar_fill 1 = .ok (.istore_n 2, 1) := by decide +kernel
theorem d_Ar_fill_2 : decode c_Ar_fill 2 = .ok (.aload_n 0, 1) := by decide +kernel
theorem d_Ar_fill_3 : decode c_Ar_fill 3 = .ok (.arraylength, 1) := by decide +kernel
theorem d_Ar_fill_4 : decode c_Ar_fill 4 = .ok (.istore_n 3, 1) := by decide +kernel
theorem d_Ar_fill_5 : decode c_Ar_fill 5 = .ok (.iload_n 2, 1) := by decide +kernel
theorem d_Ar_fill_6 : decode c_Ar_fill 6 = .ok (.iload_n 3, 1) := by decide +kernel
theorem d_Ar_fill_7 : decode c_Ar_fill 7 = .ok (.if_icmp .ge 13, 3) := by decide +kernel
theorem d_Ar_fill_10 : decode c_Ar_fill 10 = .ok (.aload_n 0, 1) := by decide +kernel
theorem d_Ar_fill_11 : decode c_Ar_fill 11 = .ok (.iload_n 2, 1) := by decide +kernel
theorem d_Ar_fill_12 : decode c_Ar_fill 12 = .ok (.iload_n 1, 1) := by decide +kernel
theorem d_Ar_fill_13 : decode c_Ar_fill 13 = .ok (.iastore, 1) := by decide +kernel
theorem d_Ar_fill_14 : decode c_Ar_fill 14 = .ok (.iinc 2 1, 3) := by decide +kernel
theorem d_Ar_fill_17 : decode c_Ar_fill 17 = .ok (.goto (-12), 3) := by decide +kernel
theorem d_Ar_fill_20 : decode c_Ar_fill 20 = .ok (.return_, 1) := by decide +kernel
theorem d_Ru_init_0 : decode c_Ru_init 0 = .ok (.aload_n 0, 1) := by decide +kernel
theorem d_Ru_init_1 : decode c_Ru_init 1 = .ok (.invokespecial 3, 3) := by decide +kernel
theorem d_Ru_init_4 : decode c_Ru_init 4 = .ok (.aload_n 0, 1) := by decide +kernel
theorem d_Ru_init_5 : decode c_Ru_init 5 = .ok (.bipush 16, 2) := by decide +kernel
theorem d_Ru_init_7 : decode c_Ru_init 7 = .ok (.newarray .int, 2) := by decide +kernel
theorem d_Ru_init_9 : decode c_Ru_init 9 = .ok (.putfield 9, 3) := by decide +kernel
theorem d_Ru_init_12 : decode c_Ru_init 12 = .ok (.aload_n 0, 1) := by decide +kernel
theorem d_Ru_init_13 : decode c_Ru_init 13 = .ok (.bipush 16, 2) := by decide +kernel
theorem d_Ru_init_15 : decode c_Ru_init 15 = .ok (.newarray .int, 2) := by decide +kernel
theorem d_Ru_init_17 : decode c_Ru_init 17 = .ok (.putfield 15, 3) := by decide +kernel
theorem d_Ru_init_20 : decode c_Ru_init 20 = .ok (.aload_n 0, 1) := by decide +kernel
theorem d_Ru_init_21 : decode c_Ru_init 21 = .ok (.bipush 16, 2) := by decide +kernel
theorem d_Ru_init_23 : decode c_Ru_init 23 = .ok (.newarray .int, 2) := by decide +kernel
theorem d_Ru_init_25 : decode c_Ru_init 25 = .ok (.putfield 18, 3) := by decide +kernel
theorem d_Ru_init_28 : decode c_Ru_init 28 = .ok (.aload_n 0, 1) := by decide +kernel
theorem d_Ru_init_29 : decode c_Ru_init 29 = .ok (.bipush 16, 2) := by decide +kernel
theorem d_Ru_init_31 : decode c_Ru_init 31 = .ok (.newarray .boolean, 2) := by decide +kernel
theorem d_Ru_init_33 : decode c_Ru_init 33 = .ok (.putfield 21, 3) := by decide +kernel
theorem d_Ru_init_36 : decode c_Ru_init 36 = .ok (.aload_n 0, 1) := by decide +kernel
theorem d_Ru_init_37 : decode c_Ru_init 37 = .ok (.bipush 16, 2) := by decide +kernel
theorem d_Ru_init_39 : decode c_Ru_init 39 = .ok (.newarray .boolean, 2) := by decide +kernel
theorem d_Ru_init_41 : decode c_Ru_init 41 = .ok (.putfield 25, 3) := by decide +kernel
theorem d_Ru_init_44 : decode c_Ru_init 44 = .ok (.aload_n 0, 1) := by decide +kernel
theorem d_Ru_init_45 : decode c_Ru_init 45 = .ok (.bipush 10, 2) := by decide +kernel
theorem d_Ru_init_47 : decode c_Ru_init 47 = .ok (.newarray .int, 2) := by decide +kernel
theorem d_Ru_init_49 : decode c_Ru_init 49 = .ok (.putfield 28, 3) := by decide +kernel
theorem d_Ru_init_52 : decode c_Ru_init 52 = .ok (.aload_n 0, 1) := by decide +kernel
theorem d_Ru_init_53 : decode c_Ru_init 53 = .ok (.iconst 0, 1) := by decide +kernel
theorem d_Ru_init_54 : decode c_Ru_init 54 = .ok (.putfield 31, 3) := by decide +kernel
theorem d_Ru_init_57 : decode c_Ru_init 57 = .ok (.aload_n 0, 1) := by decide +kernel
theorem d_Ru_init_58 : decode c_Ru_init 58 = .ok (.getfield 28, 3) := by decide +kernel
theorem d_Ru_init_61 : decode c_Ru_init 61 = .ok (.iconst 2, 1) := by decide +kernel
theorem d_Ru_init_62 : decode c_Ru_init 62 = .ok (.invokestatic 35, 3) := by decide +kernel
theorem d_Ru_init_65 : decode c_Ru_init 65 = .ok (.return_, 1) := by decide +kernel
theorem d_Rn_init_0 : decode c_Rn_init 0 = .ok (.aload_n 0, 1) := by decide +kernel
theorem d_Rn_init_1 : decode c_Rn_init 1 = .ok (.invokespecial 3, 3) := by decide +kernel
theorem d_Rn_init_4 : decode c_Rn_init 4 = .ok (.aload_n 0, 1) := by decide +kernel
theorem d_Rn_init_5 : decode c_Rn_init 5 = .ok (.bipush 16, 2) := by decide +kernel
theorem d_Rn_init_7 : decode c_Rn_init 7 = .ok (.newarray .boolean, 2) := by decide +kernel
theorem d_Rn_init_9 : decode c_Rn_init 9 = .ok (.putfield 9, 3) := by decide +kernel
theorem d_Rn_init_12 : decode c_Rn_init 12 = .ok (.aload_n 0, 1) := by decide +kernel
theorem d_Rn_init_13 : decode c_Rn_init 13 = .ok (.sipush 300, 3) := by decide +kernel
theorem d_Rn_init_16 : decode c_Rn_init 16 = .ok (.newarray .int, 2) := by decide +kernel
theorem d_Rn_init_18 : decode c_Rn_init 18 = .ok (.putfield 15, 3) := by decide +kernel
theorem d_Rn_init_21 : decode c_Rn_init 21 = .ok (.aload_n 0, 1) := by decide +kernel
theorem d_Rn_init_22 : decode c_Rn_init 22 = .ok (.bipush 6, 2) := by decide +kernel
theorem d_Rn_init_24 : decode c_Rn_init 24 = .ok (.newarray .int, 2) := by decide +kernel
theorem d_Rn_init_26 : decode c_Rn_init 26 = .ok (.putfield 19, 3) := by decide +kernel
theorem d_Rn_init_29 : decode c_Rn_init 29 = .ok (.aload_n 0, 1) := by decide +kernel
theorem d_Rn_init_30 : decode c_Rn_init 30 = .ok (.iconst 0, 1) := by decide +kernel
theorem d_Rn_init_31 : decode c_Rn_init 31 = .ok (.putfield 22, 3) := by decide +kernel
theorem d_Rn_init_34 : decode c_Rn_init 34 = .ok (.aload_n 0, 1) := by decide +kernel
theorem d_Rn_init_35 : decode c_Rn_init 35 = .ok (.iconst 0, 1) := by decide +kernel
theorem d_Rn_init_36 : decode c_Rn_init 36 = .ok (.putfield 26, 3) := by decide +kernel
theorem d_Rn_init_39 : decode c_Rn_init 39 = .ok (.aload_n 0, 1) := by decide +kernel
theorem d_Rn_init_40 : decode c_Rn_init 40 = .ok (.iconst 0, 1) := by decide +kernel
theorem d_Rn_init_41 : decode c_Rn_init 41 = .ok (.putfield 29, 3) := by decide +kernel
theorem d_Rn_init_44 : decode c_Rn_init 44 = .ok (.aload_n 0, 1) := by decide +kernel
theorem d_Rn_init_45 : decode c_Rn_init 45 = .ok (.bipush 30, 2) := by decide +kernel
theorem d_Rn_init_47 : decode c_Rn_init 47 = .ok (.newarray .int, 2) := by decide +kernel
theorem d_Rn_init_49 : decode c_Rn_init 49 = .ok (.putfield 32, 3) := by decide +kernel
theorem d_Rn_init_52 : decode c_Rn_init 52 = .ok (.aload_n 0, 1) := by decide +kernel
theorem d_Rn_init_53 : decode c_Rn_init 53 = .ok (.bipush 30, 2) := by decide +kernel
theorem d_Rn_init_55 : decode c_Rn_init 55 = .ok (.newarray .boolean, 2) := by decide +kernel
theorem d_Rn_init_57 : decode c_Rn_init 57 = .ok (.putfield 35, 3) := by decide +kernel
theorem d_Rn_init_60 : decode c_Rn_init 60 = .ok (.aload_n 0, 1) := by decide +kernel
theorem d_Rn_init_61 : decode c_Rn_init 61 = .ok (.iconst 0, 1) := by decide +kernel
theorem d_Rn_init_62 : decode c_Rn_init 62 = .ok (.putfield 38, 3) := by decide +kernel
theorem d_Rn_init_65 : decode c_Rn_init 65 = .ok (.aload_n 0, 1) := by decide +kernel
theorem d_Rn_init_66 : decode c_Rn_init 66 = .ok (.iconst 0, 1) := by decide +kernel
theorem d_Rn_init_67 : decode c_Rn_init 67 = .ok (.putfield 41, 3) := by decide +kernel
theorem d_Rn_init_70 : decode c_Rn_init 70 = .ok (.aload_n 0, 1) := by decide +kernel
theorem d_Rn_init_71 : decode c_Rn_init 71 = .ok (.aload_n 1, 1) := by decide +kernel
theorem d_Rn_init_72 : decode c_Rn_init 72 = .ok (.putfield 45, 3) := by decide +kernel
theorem d_Rn_init_75 : decode c_Rn_init 75 = .ok (.aload_n 0, 1) := by decide +kernel
theorem d_Rn_init_76 : decode c_Rn_init 76 = .ok (.aload_n 2, 1) := by decide +kernel
theorem d_Rn_init_77 : decode c_Rn_init 77 = .ok (.putfield 49, 3) := by decide +kernel
theorem d_Rn_init_80 : decode c_Rn_init 80 = .ok (.return_, 1) := by decide +kernel
theorem d_Ro_init_0 : decode c_Ro_init 0 = .ok (.aload_n 0, 1) := by decide +kernel
theorem d_Ro_init_1 : decode c_Ro_init 1 = .ok (.invokespecial 3, 3) := by decide +kernel
theorem d_Ro_init_4 : decode c_Ro_init 4 = .ok (.aload_n 0, 1) := by decide +kernel
theorem d_Ro_init_5 : decode c_Ro_init 5 = .ok (.sipush 800, 3) := by decide +kernel
theorem d_Ro_init_8 : decode c_Ro_init 8 = .ok (.newarray .int, 2) := by decide +kernel
theorem d_Ro_init_10 : decode c_Ro_init 10 = .ok (.putfield 9, 3) := by decide +kernel
theorem d_Ro_init_13 : decode c_Ro_init 13 = .ok (.aload_n 0, 1) := by decide +kernel
theorem d_Ro_init_14 : decode c_Ro_init 14 = .ok (.iconst 0, 1) := by decide +kernel
theorem d_Ro_init_15 : decode c_Ro_init 15 = .ok (.putfield 15, 3) := by decide +kernel
theorem d_Ro_init_18 : decode c_Ro_init 18 = .ok (.return_, 1) := by decide +kernel
theorem d_Ro_cell_0 : decode c_Ro_cell 0 = .ok (.aload_n 0, 1) := by decide +kernel
theorem d_Ro_cell_1 : decode c_Ro_cell 1 = .ok (.getfield 9, 3) := by decide +kernel
theorem d_Ro_cell_4 : decode c_Ro_cell 4 = .ok (.iload_n 1, 1) := by decide +kernel
theorem d_Ro_cell_5 : decode c_Ro_cell 5 = .ok (.iconst 4, 1) := by decide +kernel
theorem d_Ro_cell_6 : decode c_Ro_cell 6 = .ok (.imul, 1) := by decide +kernel
theorem d_Ro_cell_7 : decode c_Ro_cell 7 = .ok (.iload_n 2, 1) := by decide +kernel
theorem d_Ro_cell_8 : decode c_Ro_cell 8 = .ok (.iadd, 1) := by decide +kernel
theorem d_Ro_cell_9 : decode c_Ro_cell 9 = .ok (.iaload, 1) := by decide +kernel
theorem d_Ro_cell_10 : decode c_Ro_cell 10 = .ok (.ireturn, 1) := by decide +kernel
theorem d_Tr_numberOf_0 : decode c_Tr_numberOf 0 = .ok (.aload_n 0, 1) := by decide +kernel
theorem d_Tr_numberOf_1 : decode c_Tr_numberOf 1 = .ok (.iload_n 1, 1) := by decide +kernel
theorem d_Tr_numberOf_2 : decode c_Tr_numberOf 2 = .ok (.iload_n 2, 1) := by decide +kernel
theorem d_Tr_numberOf_3 : decode c_Tr_numberOf 3 = .ok (.iload_n 3, 1) := by decide +kernel
theorem d_Tr_numberOf_4 : decode c_Tr_numberOf 4 = .ok (.invokevirtual 52, 3) := by decide +kernel
theorem d_Tr_numberOf_7 : decode c_Tr_numberOf 7 = .ok (.istore 4, 2) := by decide +kernel
theorem d_Tr_numberOf_9 : decode c_Tr_numberOf 9 = .ok (.aload_n 0, 1) := by decide +kernel
theorem d_Tr_numberOf_10 : decode c_Tr_numberOf 10 = .ok (.getfield 36, 3) := by decide +kernel
theorem d_Tr_numberOf_13 : decode c_Tr_numberOf 13 = .ok (.iload 4, 2) := by decide +kernel
theorem d_Tr_numberOf_15 : decode c_Tr_numberOf 15 = .ok (.iaload, 1) := by decide +kernel
theorem d_Tr_numberOf_16 : decode c_Tr_numberOf 16 = .ok (.istore 5, 2) := by decide +kernel
theorem d_Tr_numberOf_18 : decode c_Tr_numberOf 18 = .ok (.iconst 0, 1) := by decide +kernel
theorem d_Tr_numberOf_19 : decode c_Tr_numberOf 19 = .ok (.istore 6, 2) := by decide +kernel
theorem d_Tr_numberOf_21 : decode c_Tr_numberOf 21 = .ok (.iload 6, 2) := by decide +kernel
theorem d_Tr_numberOf_23 : decode c_Tr_numberOf 23 = .ok (.sipush 300, 3) := by decide +kernel
theorem d_Tr_numberOf_26 : decode c_Tr_numberOf 26 = .ok (.if_icmp .ge 59, 3) := by decide +kernel
theorem d_Tr_numberOf_29 : decode c_Tr_numberOf 29 = .ok (.iload 5, 2) := by decide +kernel
theorem d_Tr_numberOf_31 : decode c_Tr_numberOf 31 = .ok (.ifCond .lt 54, 3) := by decide +kernel
theorem d_Tr_numberOf_34 : decode c_Tr_numberOf 34 = .ok (.aload_n 0, 1) := by decide +kernel
theorem d_Tr_numberOf_35 : decode c_Tr_numberOf 35 = .ok (.getfield 9, 3) := by decide +kernel
theorem d_Tr_numberOf_38 : decode c_Tr_numberOf 38 = .ok (.iload 5, 2) := by decide +kernel
theorem d_Tr_numberOf_40 : decode c_Tr_numberOf 40 = .ok (.iaload, 1) := by decide +kernel
theorem d_Tr_numberOf_41 : decode c_Tr_numberOf 41 = .ok (.iload_n 1, 1) := by decide +kernel
theorem d_Tr_numberOf_42 : decode c_Tr_numberOf 42 = .ok (.if_icmp .ne 28, 3) := by decide +kernel
theorem d_Tr_numberOf_45 : decode c_Tr_numberOf 45 = .ok (.aload_n 0, 1) := by decide +kernel
theorem d_Tr_numberOf_46 : decode c_Tr_numberOf 46 = .ok (.getfield 15, 3) := by decide +kernel
theorem d_Tr_numberOf_49 : decode c_Tr_numberOf 49 = .ok (.iload 5, 2) := by decide +kernel
theorem d_Tr_numberOf_51 : decode c_Tr_numberOf 51 = .ok (.iaload, 1) := by decide +kernel
theorem d_Tr_numberOf_52 : decode c_Tr_numberOf 52 = .ok (.iload_n 2, 1) := by decide +kernel
theorem d_Tr_numberOf_53 : decode c_Tr_numberOf 53 = .ok (.if_icmp .ne 17, 3) := by decide +kernel
theorem d_Tr_numberOf_56 : decode c_Tr_numberOf 56 = .ok (.aload_n 0, 1) := by decide +kernel
theorem d_Tr_numberOf_57 : decode c_Tr_numberOf 57 = .ok (.getfield 18, 3) := by decide +kernel
theorem d_Tr_numberOf_60 : decode c_Tr_numberOf 60 = .ok (.iload 5, 2) := by decide +kernel
theorem d_Tr_numberOf_62 : decode c_Tr_numberOf 62 = .ok (.iaload, 1) := by decide +kernel
theorem d_Tr_numberOf_63 : decode c_Tr_numberOf 63 = .ok (.iload_n 3, 1) := by decide +kernel
theorem d_Tr_numberOf_64 : decode c_Tr_numberOf 64 = .ok (.if_icmp .ne 6, 3) := by decide +kernel
theorem d_Tr_numberOf_67 : decode c_Tr_numberOf 67 = .ok (.iload 5, 2) := by decide +kernel
theorem d_Tr_numberOf_69 : decode c_Tr_numberOf 69 = .ok (.ireturn, 1) := by decide +kernel
theorem d_Tr_numberOf_70 : decode c_Tr_numberOf 70 = .ok (.aload_n 0, 1) := by decide +kernel
theorem d_Tr_numberOf_71 : decode c_Tr_numberOf 71 = .ok (.getfield 39, 3) := by decide +kernel
theorem d_Tr_numberOf_74 : decode c_Tr_numberOf 74 = .ok (.iload 5, 2) := by decide +kernel
theorem d_Tr_numberOf_76 : decode c_Tr_numberOf 76 = .ok (.iaload, 1) := by decide +kernel
theorem d_Tr_numberOf_77 : decode c_Tr_numberOf 77 = .ok (.istore 5, 2) := by decide +kernel
theorem d_Tr_numberOf_79 : decode c_Tr_numberOf 79 = .ok (.iinc 6 1, 3) := by decide +kernel
theorem d_Tr_numberOf_82 : decode c_Tr_numberOf 82 = .ok (.goto (-61), 3) := by decide +kernel
theorem d_Tr_numberOf_85 : decode c_Tr_numberOf 85 = .ok (.aload_n 0, 1) := by decide +kernel
theorem d_Tr_numberOf_86 : decode c_Tr_numberOf 86 = .ok (.iload_n 1, 1) := by decide +kernel
theorem d_Tr_numberOf_87 : decode c_Tr_numberOf 87 = .ok (.iload_n 2, 1) := by decide +kernel
theorem d_Tr_numberOf_88 : decode c_Tr_numberOf 88 = .ok (.iload_n 3, 1) := by decide +kernel
theorem d_Tr_numberOf_89 : decode c_Tr_numberOf 89 = .ok (.invokevirtual 56, 3) := by decide +kernel
theorem d_Tr_numberOf_92 : decode c_Tr_numberOf 92 = .ok (.ireturn, 1) := by decide +kernel
theorem d_Tr_slotOf_0 : decode c_Tr_slotOf 0 = .ok (.iload_n 1, 1) := by decide +kernel
theorem d_Tr_slotOf_1 : decode c_Tr_slotOf 1 = .ok (.bipush 31, 2) := by decide +kernel
theorem d_Tr_slotOf_3 : decode c_Tr_slotOf 3 = .ok (.imul, 1) := by decide +kernel
theorem d_Tr_slotOf_4 : decode c_Tr_slotOf 4 = .ok (.iload_n 2, 1) := by decide +kernel
theorem d_Tr_slotOf_5 : decode c_Tr_slotOf 5 = .ok (.iadd, 1) := by decide +kernel
theorem d_Tr_slotOf_6 : decode c_Tr_slotOf 6 = .ok (.bipush 31, 2) := by decide +kernel
theorem d_Tr_slotOf_8 : decode c_Tr_slotOf 8 = .ok (.imul, 1) := by decide +kernel
theorem d_Tr_slotOf_9 : decode c_Tr_slotOf 9 = .ok (.iload_n 3, 1) := by decide +kernel
theorem d_Tr_slotOf_10 : decode c_Tr_slotOf 10 = .ok (.iadd, 1) := by decide +kernel
theorem d_Tr_slotOf_11 : decode c_Tr_slotOf 11 = .ok (.sipush 511, 3) := by decide +kernel
theorem d_Tr_slotOf_14 : decode c_Tr_slotOf 14 = .ok (.iand, 1) := by decide +kernel
theorem d_Tr_slotOf_15 : decode c_Tr_slotOf 15 = .ok (.ireturn, 1) := by decide +kernel
theorem d_Tr_enter_0 : decode c_Tr_enter 0 = .ok (.aload_n 0, 1) := by decide +kernel
theorem d_Tr_enter_1 : decode c_Tr_enter 1 = .ok (.iload_n 1, 1) := by decide +kernel
theorem d_Tr_enter_2 : decode c_Tr_enter 2 = .ok (.invokevirtual 59, 3) := by decide +kernel
theorem d_Tr_enter_5 : decode c_Tr_enter 5 = .ok (.aload_n 0, 1) := by decide +kernel
theorem d_Tr_enter_6 : decode c_Tr_enter 6 = .ok (.aload_n 0, 1) := by decide +kernel
theorem d_Tr_enter_7 : decode c_Tr_enter 7 = .ok (.getfield 21, 3) := by decide +kernel
theorem d_Tr_enter_10 : decode c_Tr_enter 10 = .ok (.iload_n 2, 1) := by decide +kernel
theorem d_Tr_enter_11 : decode c_Tr_enter 11 = .ok (.iconst 0, 1) := by decide +kernel
theorem d_Tr_enter_12 : decode c_Tr_enter 12 = .ok (.invokevirtual 63, 3) := by decide +kernel
theorem d_Tr_enter_15 : decode c_Tr_enter 15 = .ok (.iadd, 1) := by decide +kernel
theorem d_Tr_enter_16 : decode c_Tr_enter 16 = .ok (.aload_n 0, 1) := by decide +kernel
theorem d_Tr_enter_17 : decode c_Tr_enter 17 = .ok (.aload_n 0, 1) := by decide +kernel
theorem d_Tr_enter_18 : decode c_Tr_enter 18 = .ok (.getfield 21, 3) := by decide +kernel
theorem d_Tr_enter_21 : decode c_Tr_enter 21 = .ok (.iload_n 3, 1) := by decide +kernel
theorem d_Tr_enter_22 : decode c_Tr_enter 22 = .ok (.iconst 0, 1) := by decide +kernel
theorem d_Tr_enter_23 : decode c_Tr_enter 23 = .ok (.invokevirtual 63, 3) := by decide +kernel
theorem d_Tr_enter_26 : decode c_Tr_enter 26 = .ok (.iadd, 1) := by decide +kernel
theorem d_Tr_enter_27 : decode c_Tr_enter 27 = .ok (.istore 4, 2) := by decide +kernel
theorem d_Tr_enter_29 : decode c_Tr_enter 29 = .ok (.iconst 1, 1) := by decide +kernel
theorem d_Tr_enter_30 : decode c_Tr_enter 30 = .ok (.aload_n 0, 1) := by decide +kernel
theorem d_Tr_enter_31 : decode c_Tr_enter 31 = .ok (.aload_n 0, 1) := by decide +kernel
theorem d_Tr_enter_32 : decode c_Tr_enter 32 = .ok (.getfield 27, 3) := by decide +kernel
theorem d_Tr_enter_35 : decode c_Tr_enter 35 = .ok (.iload_n 2, 1) := by decide +kernel
theorem d_Tr_enter_36 : decode c_Tr_enter 36 = .ok (.iconst (-1), 1) := by decide +kernel
theorem d_Tr_enter_37 : decode c_Tr_enter 37 = .ok (.invokevirtual 63, 3) := by decide +kernel
theorem d_Tr_enter_40 : decode c_Tr_enter 40 = .ok (.aload_n 0, 1) := by decide +kernel
theorem d_Tr_enter_41 : decode c_Tr_enter 41 = .ok (.aload_n 0, 1) := by decide +kernel
theorem d_Tr_enter_42 : decode c_Tr_enter 42 = .ok (.getfield 27, 3) := by decide +kernel
theorem d_Tr_enter_45 : decode c_Tr_enter 45 = .ok (.iload_n 3, 1) := by decide +kernel
theorem d_Tr_enter_46 : decode c_Tr_enter 46 = .ok (.iconst (-1), 1) := by decide +kernel
theorem d_Tr_enter_47 : decode c_Tr_enter 47 = .ok (.invokevirtual 63, 3) := by decide +kernel
theorem d_Tr_enter_50 : decode c_Tr_enter 50 = .ok (.invokestatic 67, 3) := by decide +kernel
theorem d_Tr_enter_53 : decode c_Tr_enter 53 = .ok (.iadd, 1) := by decide +kernel
theorem d_Tr_enter_54 : decode c_Tr_enter 54 = .ok (.istore 5, 2) := by decide +kernel
theorem d_Tr_enter_56 : decode c_Tr_enter 56 = .ok (.aload_n 0, 1) := by decide +kernel
theorem d_Tr_enter_57 : decode c_Tr_enter 57 = .ok (.getfield 42, 3) := by decide +kernel
theorem d_Tr_enter_60 : decode c_Tr_enter 60 = .ok (.sipush 300, 3) := by decide +kernel
theorem d_Tr_enter_63 : decode c_Tr_enter 63 = .ok (.if_icmp .ge 18, 3) := by decide +kernel
theorem d_Tr_enter_66 : decode c_Tr_enter 66 = .ok (.iload 4, 2) := by decide +kernel
theorem d_Tr_enter_68 : decode c_Tr_enter 68 = .ok (.sipush 1000, 3) := by decide +kernel
theorem d_Tr_enter_71 : decode c_Tr_enter 71 = .ok (.if_icmp .gt 10, 3) := by decide +kernel
theorem d_Tr_enter_74 : decode c_Tr_enter 74 = .ok (.iload 5, 2) := by decide +kernel
theorem d_Tr_enter_76 : decode c_Tr_enter 76 = .ok (.bipush 30, 2) := by decide +kernel
theorem d_Tr_enter_78 : decode c_Tr_enter 78 = .ok (.if_icmp .le 5, 3) := by decide +kernel
theorem d_Tr_enter_81 : decode c_Tr_enter 81 = .ok (.iconst (-1), 1) := by decide +kernel
theorem d_Tr_enter_82 : decode c_Tr_enter 82 = .ok (.ireturn, 1) := by decide +kernel
theorem d_Tr_enter_83 : decode c_Tr_enter 83 = .ok (.aload_n 0, 1) := by decide +kernel
theorem d_Tr_enter_84 : decode c_Tr_enter 84 = .ok (.getfield 42, 3) := by decide +kernel
theorem d_Tr_enter_87 : decode c_Tr_enter 87 = .ok (.istore 6, 2) := by decide +kernel
theorem d_Tr_enter_89 : decode c_Tr_enter 89 = .ok (.aload_n 0, 1) := by decide +kernel
theorem d_Tr_enter_90 : decode c_Tr_enter 90 = .ok (.dup, 1) := by decide +kernel
theorem d_Tr_enter_91 : decode c_Tr_enter 91 = .ok (.getfield 42, 3) := by decide +kernel
theorem d_Tr_enter_94 : decode c_Tr_enter 94 = .ok (.iconst 1, 1) := by decide +kernel
theorem d_Tr_enter_95 : decode c_Tr_enter 95 = .ok (.iadd, 1) := by decide +kernel
theorem d_Tr_enter_96 : decode c_Tr_enter 96 = .ok (.putfield 42, 3) := by decide +kernel
theorem d_Tr_enter_99 : decode c_Tr_enter 99 = .ok (.aload_n 0, 1) := by decide +kernel
theorem d_Tr_enter_100 : decode c_Tr_enter 100 = .ok (.getfield 9, 3) := by decide +kernel
theorem d_Tr_enter_103 : decode c_Tr_enter 103 = .ok (.iload 6, 2) := by decide +kernel
theorem d_Tr_enter_105 : decode c_Tr_enter 105 = .ok (.iload_n 1, 1) := by decide +kernel
theorem d_Tr_enter_106 : decode c_Tr_enter 106 = .ok (.iastore, 1) := by decide +kernel
theorem d_Tr_enter_107 : decode c_Tr_enter 107 = .ok (.aload_n 0, 1) := by decide +kernel
theorem d_Tr_enter_108 : decode c_Tr_enter 108 = .ok (.getfield 15, 3) := by decide +kernel
theorem d_Tr_enter_111 : decode c_Tr_enter 111 = .ok (.iload 6, 2) := by decide +kernel
theorem d_Tr_enter_113 : decode c_Tr_enter 113 = .ok (.iload_n 2, 1) := by decide +kernel
theorem d_Tr_enter_114 : decode c_Tr_enter 114 = .ok (.iastore, 1) := by decide +kernel
theorem d_Tr_enter_115 : decode c_Tr_enter 115 = .ok (.aload_n 0, 1) := by decide +kernel
theorem d_Tr_enter_116 : decode c_Tr_enter 116 = .ok (.getfield 18, 3) := by decide +kernel
theorem d_Tr_enter_119 : decode c_Tr_enter 119 = .ok (.iload 6, 2) := by decide +kernel
theorem d_Tr_enter_121 : decode c_Tr_enter 121 = .ok (.iload_n 3, 1) := by decide +kernel
theorem d_Tr_enter_122 : decode c_Tr_enter 122 = .ok (.iastore, 1) := by decide +kernel
theorem d_Tr_enter_123 : decode c_Tr_enter 123 = .ok (.aload_n 0, 1) := by decide +kernel
theorem d_Tr_enter_124 : decode c_Tr_enter 124 = .ok (.getfield 21, 3) := by decide +kernel
theorem d_Tr_enter_127 : decode c_Tr_enter 127 = .ok (.iload 6, 2) := by decide +kernel
theorem d_Tr_enter_129 : decode c_Tr_enter 129 = .ok (.iload 4, 2) := by decide +kernel
theorem d_Tr_enter_131 : decode c_Tr_enter 131 = .ok (.iastore, 1) := by decide +kernel
theorem d_Tr_enter_132 : decode c_Tr_enter 132 = .ok (.aload_n 0, 1) := by decide +kernel
theorem d_Tr_enter_133 : decode c_Tr_enter 133 = .ok (.getfield 27, 3) := by decide +kernel
theorem d_Tr_enter_136 : decode c_Tr_enter 136 = .ok (.iload 6, 2) := by decide +kernel
theorem d_Tr_enter_138 : decode c_Tr_enter 138 = .ok (.iload 5, 2) := by decide +kernel
theorem d_Tr_enter_140 : decode c_Tr_enter 140 = .ok (.iastore, 1) := by decide +kernel
theorem d_Tr_enter_141 : decode c_Tr_enter 141 = .ok (.aload_n 0, 1) := by decide +kernel
theorem d_Tr_enter_142 : decode c_Tr_enter 142 = .ok (.getfield 24, 3) := by decide +kernel
theorem d_Tr_enter_145 : decode c_Tr_enter 145 = .ok (.iload 6, 2) := by decide +kernel
theorem d_Tr_enter_147 : decode c_Tr_enter 147 = .ok (.iconst 1, 1) := by decide +kernel
theorem d_Tr_enter_148 : decode c_Tr_enter 148 = .ok (.aload_n 0, 1) := by decide +kernel
theorem d_Tr_enter_149 : decode c_Tr_enter 149 = .ok (.aload_n 0, 1) := by decide +kernel
theorem d_Tr_enter_150 : decode c_Tr_enter 150 = .ok (.getfield 24, 3) := by decide +kernel
theorem d_Tr_enter_153 : decode c_Tr_enter 153 = .ok (.iload_n 2, 1) := by decide +kernel
theorem d_Tr_enter_154 : decode c_Tr_enter 154 = .ok (.iconst 0, 1) := by decide +kernel
theorem d_Tr_enter_155 : decode c_Tr_enter 155 = .ok (.invokevirtual 63, 3) := by decide +kernel
theorem d_Tr_enter_158 : decode c_Tr_enter 158 = .ok (.iadd, 1) := by decide +kernel
theorem d_Tr_enter_159 : decode c_Tr_enter 159 = .ok (.aload_n 0, 1) := by decide +kernel
theorem d_Tr_enter_160 : decode c_Tr_enter 160 = .ok (.aload_n 0, 1) := by decide +kernel
theorem d_Tr_enter_161 : decode c_Tr_enter 161 = .ok (.getfield 24, 3) := by decide +kernel
theorem d_Tr_enter_164 : decode c_Tr_enter 164 = .ok (.iload_n 3, 1) := by decide +kernel
theorem d_Tr_enter_165 : decode c_Tr_enter 165 = .ok (.iconst 0, 1) := by decide +kernel
theorem d_Tr_enter_166 : decode c_Tr_enter 166 = .ok (.invokevirtual 63, 3) := by decide +kernel
theorem d_Tr_enter_169 : decode c_Tr_enter 169 = .ok (.iadd, 1) := by decide +kernel
theorem d_Tr_enter_170 : decode c_Tr_enter 170 = .ok (.iastore, 1) := by decide +kernel
theorem d_Tr_enter_171 : decode c_Tr_enter 171 = .ok (.aload_n 0, 1) := by decide +kernel
theorem d_Tr_enter_172 : decode c_Tr_enter 172 = .ok (.iload 6, 2) := by decide +kernel
theorem d_Tr_enter_174 : decode c_Tr_enter 174 = .ok (.invokevirtual 73, 3) := by decide +kernel
theorem d_Tr_enter_177 : decode c_Tr_enter 177 = .ok (.aload_n 0, 1) := by decide +kernel
theorem d_Tr_enter_178 : decode c_Tr_enter 178 = .ok (.iload_n 1, 1) := by decide +kernel
theorem d_Tr_enter_179 : decode c_Tr_enter 179 = .ok (.iload_n 2, 1) := by decide +kernel
theorem d_Tr_enter_180 : decode c_Tr_enter 180 = .ok (.iload_n 3, 1) := by decide +kernel
theorem d_Tr_enter_181 : decode c_Tr_enter 181 = .ok (.invokevirtual 52, 3) := by decide +kernel
theorem d_Tr_enter_184 : decode c_Tr_enter 184 = .ok (.istore 7, 2) := by decide +kernel
theorem d_Tr_enter_186 : decode c_Tr_enter 186 = .ok (.aload_n 0, 1) := by decide +kernel
theorem d_Tr_enter_187 : decode c_Tr_enter 187 = .ok (.getfield 39, 3) := by decide +kernel
theorem d_Tr_enter_190 : decode c_Tr_enter 190 = .ok (.iload 6, 2) := by decide +kernel
theorem d_Tr_enter_192 : decode c_Tr_enter 192 = .ok (.aload_n 0, 1) := by decide +kernel
theorem d_Tr_enter_193 : decode c_Tr_enter 193 = .ok (.getfield 36, 3) := by decide +kernel
theorem d_Tr_enter_196 : decode c_Tr_enter 196 = .ok (.iload 7, 2) := by decide +kernel
theorem d_Tr_enter_198 : decode c_Tr_enter 198 = .ok (.iaload, 1) := by decide +kernel
theorem d_Tr_enter_199 : decode c_Tr_enter 199 = .ok (.iastore, 1) := by decide +kernel
theorem d_Tr_enter_200 : decode c_Tr_enter 200 = .ok (.aload_n 0, 1) := by decide +kernel
theorem d_Tr_enter_201 : decode c_Tr_enter 201 = .ok (.getfield 36, 3) := by decide +kernel
theorem d_Tr_enter_204 : decode c_Tr_enter 204 = .ok (.iload 7, 2) := by decide +kernel
theorem d_Tr_enter_206 : decode c_Tr_enter 206 = .ok (.iload 6, 2) := by decide +kernel
theorem d_Tr_enter_208 : decode c_Tr_enter 208 = .ok (.iastore, 1) := by decide +kernel
theorem d_Tr_enter_209 : decode c_Tr_enter 209 = .ok (.iload 6, 2) := by decide +kernel
theorem d_Tr_enter_211 : decode c_Tr_enter 211 = .ok (.ireturn, 1) := by decide +kernel
theorem d_Tr_ownWeight_0 : decode c_Tr_ownWeight 0 = .ok (.iload_n 1, 1) := by decide +kernel
theorem d_Tr_ownWeight_1 : decode c_Tr_ownWeight 1 = .ok (.ifCond .lt 20, 3) := by decide +kernel
theorem d_Tr_ownWeight_4 : decode c_Tr_ownWeight 4 = .ok (.iload_n 1, 1) := by decide +kernel
theorem d_Tr_ownWeight_5 : decode c_Tr_ownWeight 5 = .ok (.bipush 12, 2) := by decide +kernel
theorem d_Tr_ownWeight_7 : decode c_Tr_ownWeight 7 = .ok (.if_icmp .ge 14, 3) := by decide +kernel
theorem d_Tr_ownWeight_10 : decode c_Tr_ownWeight 10 = .ok (.iload_n 1, 1) := by decide +kernel
theorem d_Tr_ownWeight_11 : decode c_Tr_ownWeight 11 = .ok (.iconst 3, 1) := by decide +kernel
theorem d_Tr_ownWeight_12 : decode c_Tr_ownWeight 12 = .ok (.irem, 1) := by decide +kernel
theorem d_Tr_ownWeight_13 : decode c_Tr_ownWeight 13 = .ok (.iconst 2, 1) := by decide +kernel
theorem d_Tr_ownWeight_14 : decode c_Tr_ownWeight 14 = .ok (.if_icmp .ne 7, 3) := by decide +kernel
theorem d_Tr_ownWeight_17 : decode c_Tr_ownWeight 17 = .ok (.iconst 2, 1) := by decide +kernel
theorem d_Tr_ownWeight_18 : decode c_Tr_ownWeight 18 = .ok (.goto 4, 3) := by decide +kernel
theorem d_Tr_ownWeight_21 : decode c_Tr_ownWeight 21 = .ok (.iconst 1, 1) := by decide +kernel
theorem d_Tr_ownWeight_22 : decode c_Tr_ownWeight 22 = .ok (.ireturn, 1) := by decide +kernel
theorem d_Tr_valueOf_0 : decode c_Tr_valueOf 0 = .ok (.iload_n 2, 1) := by decide +kernel
theorem d_Tr_valueOf_1 : decode c_Tr_valueOf 1 = .ok (.ifCond .ge 7, 3) := by decide +kernel
theorem d_Tr_valueOf_4 : decode c_Tr_valueOf 4 = .ok (.iload_n 3, 1) := by decide +kernel
theorem d_Tr_valueOf_5 : decode c_Tr_valueOf 5 = .ok (.goto 6, 3) := by decide +kernel
theorem d_Tr_valueOf_8 : decode c_Tr_valueOf 8 = .ok (.aload_n 1, 1) := by decide +kernel
theorem d_Tr_valueOf_9 : decode c_Tr_valueOf 9 = .ok (.iload_n 2, 1) := by decide +kernel
theorem d_Tr_valueOf_10 : decode c_Tr_valueOf 10 = .ok (.iaload, 1) := by decide +kernel
theorem d_Tr_valueOf_11 : decode c_Tr_valueOf 11 = .ok (.ireturn, 1) := by decide +kernel
theorem d_Tr_noteHoles_0 : decode c_Tr_noteHoles 0 = .ok (.iconst 0, 1) := by decide +kernel
theorem d_Tr_noteHoles_1 : decode c_Tr_noteHoles 1 = .ok (.istore_n 2, 1) := by decide +kernel
theorem d_Tr_noteHoles_2 : decode c_Tr_noteHoles 2 = .ok (.iconst 0, 1) := by decide +kernel
theorem d_Tr_noteHoles_3 : decode c_Tr_noteHoles 3 = .ok (.istore_n 3, 1) := by decide +kernel
theorem d_Tr_noteHoles_4 : decode c_Tr_noteHoles 4 = .ok (.iload_n 3, 1) := by decide +kernel
theorem d_Tr_noteHoles_5 : decode c_Tr_noteHoles 5 = .ok (.bipush 6, 2) := by decide +kernel
theorem d_Tr_noteHoles_7 : decode c_Tr_noteHoles 7 = .ok (.if_icmp .ge 85, 3) := by decide +kernel
theorem d_Tr_noteHoles_10 : decode c_Tr_noteHoles 10 = .ok (.aload_n 0, 1) := by decide +kernel
theorem d_Tr_noteHoles_11 : decode c_Tr_noteHoles 11 = .ok (.getfield 9, 3) := by decide +kernel
theorem d_Tr_noteHoles_14 : decode c_Tr_noteHoles 14 = .ok (.iload_n 1, 1) := by decide +kernel
theorem d_Tr_noteHoles_15 : decode c_Tr_noteHoles 15 = .ok (.iaload, 1) := by decide +kernel
theorem d_Tr_noteHoles_16 : decode c_Tr_noteHoles 16 = .ok (.bipush 100, 2) := by decide +kernel
theorem d_Tr_noteHoles_18 : decode c_Tr_noteHoles 18 = .ok (.iload_n 3, 1) := by decide +kernel
theorem d_Tr_noteHoles_19 : decode c_Tr_noteHoles 19 = .ok (.iadd, 1) := by decide +kernel
theorem d_Tr_noteHoles_20 : decode c_Tr_noteHoles 20 = .ok (.if_icmp .ne 7, 3) := by decide +kernel
theorem d_Tr_noteHoles_23 : decode c_Tr_noteHoles 23 = .ok (.iconst 1, 1) := by decide +kernel
theorem d_Tr_noteHoles_24 : decode c_Tr_noteHoles 24 = .ok (.goto 4, 3) := by decide +kernel
theorem d_Tr_noteHoles_27 : decode c_Tr_noteHoles 27 = .ok (.iconst 0, 1) := by decide +kernel
theorem d_Tr_noteHoles_28 : decode c_Tr_noteHoles 28 = .ok (.istore 4, 2) := by decide +kernel
theorem d_Tr_noteHoles_30 : decode c_Tr_noteHoles 30 = .ok (.iload 4, 2) := by decide +kernel
theorem d_Tr_noteHoles_32 : decode c_Tr_noteHoles 32 = .ok (.aload_n 0, 1) := by decide +kernel
theorem d_Tr_noteHoles_33 : decode c_Tr_noteHoles 33 = .ok (.aload_n 0, 1) := by decide +kernel
theorem d_Tr_noteHoles_34 : decode c_Tr_noteHoles 34 = .ok (.getfield 15, 3) := by decide +kernel
theorem d_Tr_noteHoles_37 : decode c_Tr_noteHoles 37 = .ok (.iload_n 1, 1) := by decide +kernel
theorem d_Tr_noteHoles_38 : decode c_Tr_noteHoles 38 = .ok (.iaload, 1) := by decide +kernel
theorem d_Tr_noteHoles_39 : decode c_Tr_noteHoles 39 = .ok (.iload_n 3, 1) := by decide +kernel
theorem d_Tr_noteHoles_40 : decode c_Tr_noteHoles 40 = .ok (.invokevirtual 77, 3) := by decide +kernel
theorem d_Tr_noteHoles_43 : decode c_Tr_noteHoles 43 = .ok (.aload_n 0, 1) := by decide +kernel
theorem d_Tr_noteHoles_44 : decode c_Tr_noteHoles 44 = .ok (.aload_n 0, 1) := by decide +kernel
theorem d_Tr_noteHoles_45 : decode c_Tr_noteHoles 45 = .ok (.getfield 18, 3) := by decide +kernel
theorem d_Tr_noteHoles_48 : decode c_Tr_noteHoles 48 = .ok (.iload_n 1, 1) := by decide +kernel
theorem d_Tr_noteHoles_49 : decode c_Tr_noteHoles 49 = .ok (.iaload, 1) := by decide +kernel
theorem d_Tr_noteHoles_50 : decode c_Tr_noteHoles 50 = .ok (.iload_n 3, 1) := by decide +kernel
theorem d_Tr_noteHoles_51 : decode c_Tr_noteHoles 51 = .ok (.invokevirtual 77, 3) := by decide +kernel
theorem d_Tr_noteHoles_54 : decode c_Tr_noteHoles 54 = .ok (.iadd, 1) := by decide +kernel
theorem d_Tr_noteHoles_55 : decode c_Tr_noteHoles 55 = .ok (.iadd, 1) := by decide +kernel
theorem d_Tr_noteHoles_56 : decode c_Tr_noteHoles 56 = .ok (.istore 4, 2) := by decide +kernel
theorem d_Tr_noteHoles_58 : decode c_Tr_noteHoles 58 = .ok (.aload_n 0, 1) := by decide +kernel
theorem d_Tr_noteHoles_59 : decode c_Tr_noteHoles 59 = .ok (.getfield 33, 3) := by decide +kernel
theorem d_Tr_noteHoles_62 : decode c_Tr_noteHoles 62 = .ok (.iload_n 1, 1) := by decide +kernel
theorem d_Tr_noteHoles_63 : decode c_Tr_noteHoles 63 = .ok (.bipush 6, 2) := by decide +kernel
theorem d_Tr_noteHoles_65 : decode c_Tr_noteHoles 65 = .ok (.imul, 1) := by decide +kernel
theorem d_Tr_noteHoles_66 : decode c_Tr_noteHoles 66 = .ok (.iload_n 3, 1) := by decide +kernel
theorem d_Tr_noteHoles_67 : decode c_Tr_noteHoles 67 = .ok (.iadd, 1) := by decide +kernel
theorem d_Tr_noteHoles_68 : decode c_Tr_noteHoles 68 = .ok (.iload 4, 2) := by decide +kernel
theorem d_Tr_noteHoles_70 : decode c_Tr_noteHoles 70 = .ok (.iastore, 1) := by decide +kernel
theorem d_Tr_noteHoles_71 : decode c_Tr_noteHoles 71 = .ok (.iload_n 2, 1) := by decide +kernel
theorem d_Tr_noteHoles_72 : decode c_Tr_noteHoles 72 = .ok (.iload 4, 2) := by decide +kernel
theorem d_Tr_noteHoles_74 : decode c_Tr_noteHoles 74 = .ok (.ifCond .le 9, 3) := by decide +kernel
theorem d_Tr_noteHoles_77 : decode c_Tr_noteHoles 77 = .ok (.iconst 1, 1) := by decide +kernel
theorem d_Tr_noteHoles_78 : decode c_Tr_noteHoles 78 = .ok (.iload_n 3, 1) := by decide +kernel
theorem d_Tr_noteHoles_79 : decode c_Tr_noteHoles 79 = .ok (.ishl, 1) := by decide +kernel
theorem d_Tr_noteHoles_80 : decode c_Tr_noteHoles 80 = .ok (.goto 4, 3) := by decide +kernel
theorem d_Tr_noteHoles_83 : decode c_Tr_noteHoles 83 = .ok (.iconst 0, 1) := by decide +kernel
theorem d_Tr_noteHoles_84 : decode c_Tr_noteHoles 84 = .ok (.ior, 1) := by decide +kernel
theorem d_Tr_noteHoles_85 : decode c_Tr_noteHoles 85 = .ok (.istore_n 2, 1) := by decide +kernel
theorem d_Tr_noteHoles_86 : decode c_Tr_noteHoles 86 = .ok (.iinc 3 1, 3) := by decide +kernel
theorem d_Tr_noteHoles_89 : decode c_Tr_noteHoles 89 = .ok (.goto (-85), 3) := by decide +kernel
theorem d_Tr_noteHoles_92 : decode c_Tr_noteHoles 92 = .ok (.aload_n 0, 1) := by decide +kernel
theorem d_Tr_noteHoles_93 : decode c_Tr_noteHoles 93 = .ok (.getfield 30, 3) := by decide +kernel
theorem d_Tr_noteHoles_96 : decode c_Tr_noteHoles 96 = .ok (.iload_n 1, 1) := by decide +kernel
theorem d_Tr_noteHoles_97 : decode c_Tr_noteHoles 97 = .ok (.iload_n 2, 1) := by decide +kernel
theorem d_Tr_noteHoles_98 : decode c_Tr_noteHoles 98 = .ok (.iastore, 1) := by decide +kernel
theorem d_Tr_noteHoles_99 : decode c_Tr_noteHoles 99 = .ok (.return_, 1) := by decide +kernel
theorem d_Tr_holeCount_0 : decode c_Tr_holeCount 0 = .ok (.iload_n 1, 1) := by decide +kernel
theorem d_Tr_holeCount_1 : decode c_Tr_holeCount 1 = .ok (.ifCond .ge 7, 3) := by decide +kernel
theorem d_Tr_holeCount_4 : decode c_Tr_holeCount 4 = .ok (.iconst 0, 1) := by decide +kernel
theorem d_Tr_holeCount_5 : decode c_Tr_holeCount 5 = .ok (.goto 14, 3) := by decide +kernel
theorem d_Tr_holeCount_8 : decode c_Tr_holeCount 8 = .ok (.aload_n 0, 1) := by decide +kernel
theorem d_Tr_holeCount_9 : decode c_Tr_holeCount 9 = .ok (.getfield 33, 3) := by decide +kernel
theorem d_Tr_holeCount_12 : decode c_Tr_holeCount 12 = .ok (.iload_n 1, 1) := by decide +kernel
theorem d_Tr_holeCount_13 : decode c_Tr_holeCount 13 = .ok (.bipush 6, 2) := by decide +kernel
theorem d_Tr_holeCount_15 : decode c_Tr_holeCount 15 = .ok (.imul, 1) := by decide +kernel
theorem d_Tr_holeCount_16 : decode c_Tr_holeCount 16 = .ok (.iload_n 2, 1) := by decide +kernel
theorem d_Tr_holeCount_17 : decode c_Tr_holeCount 17 = .ok (.iadd, 1) := by decide +kernel
theorem d_Tr_holeCount_18 : decode c_Tr_holeCount 18 = .ok (.iaload, 1) := by decide +kernel
theorem d_Tr_holeCount_19 : decode c_Tr_holeCount 19 = .ok (.ireturn, 1) := by decide +kernel
theorem d_Tr_isNode_0 : decode c_Tr_isNode 0 = .ok (.iload_n 1, 1) := by decide +kernel
theorem d_Tr_isNode_1 : decode c_Tr_isNode 1 = .ok (.ifCond .lt 27, 3) := by decide +kernel
theorem d_Tr_isNode_4 : decode c_Tr_isNode 4 = .ok (.aload_n 0, 1) := by decide +kernel
theorem d_Tr_isNode_5 : decode c_Tr_isNode 5 = .ok (.getfield 9, 3) := by decide +kernel
theorem d_Tr_isNode_8 : decode c_Tr_isNode 8 = .ok (.iload_n 1, 1) := by decide +kernel
theorem d_Tr_isNode_9 : decode c_Tr_isNode 9 = .ok (.iaload, 1) := by decide +kernel
theorem d_Tr_isNode_10 : decode c_Tr_isNode 10 = .ok (.ifCond .lt 18, 3) := by decide +kernel
theorem d_Tr_isNode_13 : decode c_Tr_isNode 13 = .ok (.aload_n 0, 1) := by decide +kernel
theorem d_Tr_isNode_14 : decode c_Tr_isNode 14 = .ok (.getfield 9, 3) := by decide +kernel
theorem d_Tr_isNode_17 : decode c_Tr_isNode 17 = .ok (.iload_n 1, 1) := by decide +kernel
theorem d_Tr_isNode_18 : decode c_Tr_isNode 18 = .ok (.iaload, 1) := by decide +kernel
theorem d_Tr_isNode_19 : decode c_Tr_isNode 19 = .ok (.bipush 12, 2) := by decide +kernel
theorem d_Tr_isNode_21 : decode c_Tr_isNode 21 = .ok (.if_icmp .ge 7, 3) := by decide +kernel
theorem d_Tr_isNode_24 : decode c_Tr_isNode 24 = .ok (.iconst 1, 1) := by decide +kernel
theorem d_Tr_isNode_25 : decode c_Tr_isNode 25 = .ok (.goto 4, 3) := by decide +kernel
theorem d_Tr_isNode_28 : decode c_Tr_isNode 28 = .ok (.iconst 0, 1) := by decide +kernel
theorem d_Tr_isNode_29 : decode c_Tr_isNode 29 = .ok (.ireturn, 1) := by decide +kernel
theorem d_Tr_isAbove_0 : decode c_Tr_isAbove 0 = .ok (.iload_n 1, 1) := by decide +kernel
theorem d_Tr_isAbove_1 : decode c_Tr_isAbove 1 = .ok (.istore_n 3, 1) := by decide +kernel
theorem d_Tr_isAbove_2 : decode c_Tr_isAbove 2 = .ok (.iload_n 2, 1) := by decide +kernel
theorem d_Tr_isAbove_3 : decode c_Tr_isAbove 3 = .ok (.istore 4, 2) := by decide +kernel
theorem d_Tr_isAbove_5 : decode c_Tr_isAbove 5 = .ok (.iconst 0, 1) := by decide +kernel
theorem d_Tr_isAbove_6 : decode c_Tr_isAbove 6 = .ok (.istore 5, 2) := by decide +kernel
theorem d_Tr_isAbove_8 : decode c_Tr_isAbove 8 = .ok (.iload 5, 2) := by decide +kernel
theorem d_Tr_isAbove_10 : decode c_Tr_isAbove 10 = .ok (.bipush 30, 2) := by decide +kernel
theorem d_Tr_isAbove_12 : decode c_Tr_isAbove 12 = .ok (.if_icmp .gt 235, 3) := by decide +kernel
theorem d_Tr_isAbove_15 : decode c_Tr_isAbove 15 = .ok (.iload_n 3, 1) := by decide +kernel
theorem d_Tr_isAbove_16 : decode c_Tr_isAbove 16 = .ok (.iload 4, 2) := by decide +kernel
theorem d_Tr_isAbove_18 : decode c_Tr_isAbove 18 = .ok (.if_icmp .eq 229, 3) := by decide +kernel
theorem d_Tr_isAbove_21 : decode c_Tr_isAbove 21 = .ok (.aload_n 0, 1) := by decide +kernel
theorem d_Tr_isAbove_22 : decode c_Tr_isAbove 22 = .ok (.iload_n 3, 1) := by decide +kernel
theorem d_Tr_isAbove_23 : decode c_Tr_isAbove 23 = .ok (.iload 4, 2) := by decide +kernel
theorem d_Tr_isAbove_25 : decode c_Tr_isAbove 25 = .ok (.invokevirtual 84, 3) := by decide +kernel
theorem d_Tr_isAbove_28 : decode c_Tr_isAbove 28 = .ok (.ifCond .ne 5, 3) := by decide +kernel
theorem d_Tr_isAbove_31 : decode c_Tr_isAbove 31 = .ok (.iconst 0, 1) := by decide +kernel
theorem d_Tr_isAbove_32 : decode c_Tr_isAbove 32 = .ok (.ireturn, 1) := by decide +kernel
theorem d_Tr_isAbove_33 : decode c_Tr_isAbove 33 = .ok (.aload_n 0, 1) := by decide +kernel
theorem d_Tr_isAbove_34 : decode c_Tr_isAbove 34 = .ok (.getfield 21, 3) := by decide +kernel
theorem d_Tr_isAbove_37 : decode c_Tr_isAbove 37 = .ok (.iload_n 3, 1) := by decide +kernel
theorem d_Tr_isAbove_38 : decode c_Tr_isAbove 38 = .ok (.iaload, 1) := by decide +kernel
theorem d_Tr_isAbove_39 : decode c_Tr_isAbove 39 = .ok (.aload_n 0, 1) := by decide +kernel
theorem d_Tr_isAbove_40 : decode c_Tr_isAbove 40 = .ok (.getfield 21, 3) := by decide +kernel
theorem d_Tr_isAbove_43 : decode c_Tr_isAbove 43 = .ok (.iload 4, 2) := by decide +kernel
theorem d_Tr_isAbove_45 : decode c_Tr_isAbove 45 = .ok (.iaload, 1) := by decide +kernel
theorem d_Tr_isAbove_46 : decode c_Tr_isAbove 46 = .ok (.if_icmp .eq 25, 3) := by decide +kernel
theorem d_Tr_isAbove_49 : decode c_Tr_isAbove 49 = .ok (.aload_n 0, 1) := by decide +kernel
theorem d_Tr_isAbove_50 : decode c_Tr_isAbove 50 = .ok (.getfield 21, 3) := by decide +kernel
theorem d_Tr_isAbove_53 : decode c_Tr_isAbove 53 = .ok (.iload_n 3, 1) := by decide +kernel
theorem d_Tr_isAbove_54 : decode c_Tr_isAbove 54 = .ok (.iaload, 1) := by decide +kernel
theorem d_Tr_isAbove_55 : decode c_Tr_isAbove 55 = .ok (.aload_n 0, 1) := by decide +kernel
theorem d_Tr_isAbove_56 : decode c_Tr_isAbove 56 = .ok (.getfield 21, 3) := by decide +kernel
theorem d_Tr_isAbove_59 : decode c_Tr_isAbove 59 = .ok (.iload 4, 2) := by decide +kernel
theorem d_Tr_isAbove_61 : decode c_Tr_isAbove 61 = .ok (.iaload, 1) := by decide +kernel
theorem d_Tr_isAbove_62 : decode c_Tr_isAbove 62 = .ok (.if_icmp .le 7, 3) := by decide +kernel
theorem d_Tr_isAbove_65 : decode c_Tr_isAbove 65 = .ok (.iconst 1, 1) := by decide +kernel
theorem d_Tr_isAbove_66 : decode c_Tr_isAbove 66 = .ok (.goto 4, 3) := by decide +kernel
theorem d_Tr_isAbove_69 : decode c_Tr_isAbove 69 = .ok (.iconst 0, 1) := by decide +kernel
theorem d_Tr_isAbove_70 : decode c_Tr_isAbove 70 = .ok (.ireturn, 1) := by decide +kernel
theorem d_Tr_isAbove_71 : decode c_Tr_isAbove 71 = .ok (.aload_n 0, 1) := by decide +kernel
theorem d_Tr_isAbove_72 : decode c_Tr_isAbove 72 = .ok (.iload_n 3, 1) := by decide +kernel
theorem d_Tr_isAbove_73 : decode c_Tr_isAbove 73 = .ok (.invokevirtual 80, 3) := by decide +kernel
theorem d_Tr_isAbove_76 : decode c_Tr_isAbove 76 = .ok (.ifCond .eq 12, 3) := by decide +kernel
theorem d_Tr_isAbove_79 : decode c_Tr_isAbove 79 = .ok (.aload_n 0, 1) := by decide +kernel
theorem d_Tr_isAbove_80 : decode c_Tr_isAbove 80 = .ok (.iload 4, 2) := by decide +kernel
theorem d_Tr_isAbove_82 : decode c_Tr_isAbove 82 = .ok (.invokevirtual 80, 3) := by decide +kernel
theorem d_Tr_isAbove_85 : decode c_Tr_isAbove 85 = .ok (.ifCond .ne 50, 3) := by decide +kernel
theorem d_Tr_isAbove_88 : decode c_Tr_isAbove 88 = .ok (.aload_n 0, 1) := by decide +kernel
theorem d_Tr_isAbove_89 : decode c_Tr_isAbove 89 = .ok (.iload 4, 2) := by decide +kernel
theorem d_Tr_isAbove_91 : decode c_Tr_isAbove 91 = .ok (.invokevirtual 88, 3) := by decide +kernel
theorem d_Tr_isAbove_94 : decode c_Tr_isAbove 94 = .ok (.ifCond .eq 39, 3) := by decide +kernel
theorem d_Tr_isAbove_97 : decode c_Tr_isAbove 97 = .ok (.aload_n 0, 1) := by decide +kernel
theorem d_Tr_isAbove_98 : decode c_Tr_isAbove 98 = .ok (.iload_n 3, 1) := by decide +kernel
theorem d_Tr_isAbove_99 : decode c_Tr_isAbove 99 = .ok (.invokevirtual 80, 3) := by decide +kernel
theorem d_Tr_isAbove_102 : decode c_Tr_isAbove 102 = .ok (.ifCond .ne 27, 3) := by decide +kernel
theorem d_Tr_isAbove_105 : decode c_Tr_isAbove 105 = .ok (.aload_n 0, 1) := by decide +kernel
theorem d_Tr_isAbove_106 : decode c_Tr_isAbove 106 = .ok (.iload_n 3, 1) := by decide +kernel
theorem d_Tr_isAbove_107 : decode c_Tr_isAbove 107 = .ok (.invokevirtual 88, 3) := by decide +kernel
theorem d_Tr_isAbove_110 : decode c_Tr_isAbove 110 = .ok (.ifCond .eq 23, 3) := by decide +kernel
theorem d_Tr_isAbove_113 : decode c_Tr_isAbove 113 = .ok (.aload_n 0, 1) := by decide +kernel
theorem d_Tr_isAbove_114 : decode c_Tr_isAbove 114 = .ok (.getfield 9, 3) := by decide +kernel
theorem d_Tr_isAbove_117 : decode c_Tr_isAbove 117 = .ok (.iload_n 3, 1) := by decide +kernel
theorem d_Tr_isAbove_118 : decode c_Tr_isAbove 118 = .ok (.iaload, 1) := by decide +kernel
theorem d_Tr_isAbove_119 : decode c_Tr_isAbove 119 = .ok (.aload_n 0, 1) := by decide +kernel
theorem d_Tr_isAbove_120 : decode c_Tr_isAbove 120 = .ok (.getfield 9, 3) := by decide +kernel
theorem d_Tr_isAbove_123 : decode c_Tr_isAbove 123 = .ok (.iload 4, 2) := by decide +kernel
theorem d_Tr_isAbove_125 : decode c_Tr_isAbove 125 = .ok (.iaload, 1) := by decide +kernel
theorem d_Tr_isAbove_126 : decode c_Tr_isAbove 126 = .ok (.if_icmp .ge 7, 3) := by decide +kernel
theorem d_Tr_isAbove_129 : decode c_Tr_isAbove 129 = .ok (.iconst 1, 1) := by decide +kernel
theorem d_Tr_isAbove_130 : decode c_Tr_isAbove 130 = .ok (.goto 4, 3) := by decide +kernel
theorem d_Tr_isAbove_133 : decode c_Tr_isAbove 133 = .ok (.iconst 0, 1) := by decide +kernel
theorem d_Tr_isAbove_134 : decode c_Tr_isAbove 134 = .ok (.ireturn, 1) := by decide +kernel
theorem d_Tr_isAbove_135 : decode c_Tr_isAbove 135 = .ok (.aload_n 0, 1) := by decide +kernel
theorem d_Tr_isAbove_136 : decode c_Tr_isAbove 136 = .ok (.getfield 9, 3) := by decide +kernel
theorem d_Tr_isAbove_139 : decode c_Tr_isAbove 139 = .ok (.iload_n 3, 1) := by decide +kernel
theorem d_Tr_isAbove_140 : decode c_Tr_isAbove 140 = .ok (.iaload, 1) := by decide +kernel
theorem d_Tr_isAbove_141 : decode c_Tr_isAbove 141 = .ok (.aload_n 0, 1) := by decide +kernel
theorem d_Tr_isAbove_142 : decode c_Tr_isAbove 142 = .ok (.getfield 9, 3) := by decide +kernel
theorem d_Tr_isAbove_145 : decode c_Tr_isAbove 145 = .ok (.iload 4, 2) := by decide +kernel
theorem d_Tr_isAbove_147 : decode c_Tr_isAbove 147 = .ok (.iaload, 1) := by decide +kernel
theorem d_Tr_isAbove_148 : decode c_Tr_isAbove 148 = .ok (.if_icmp .eq 25, 3) := by decide +kernel
theorem d_Tr_isAbove_151 : decode c_Tr_isAbove 151 = .ok (.aload_n 0, 1) := by decide +kernel
theorem d_Tr_isAbove_152 : decode c_Tr_isAbove 152 = .ok (.getfield 9, 3) := by decide +kernel
theorem d_Tr_isAbove_155 : decode c_Tr_isAbove 155 = .ok (.iload_n 3, 1) := by decide +kernel
theorem d_Tr_isAbove_156 : decode c_Tr_isAbove 156 = .ok (.iaload, 1) := by decide +kernel
theorem d_Tr_isAbove_157 : decode c_Tr_isAbove 157 = .ok (.aload_n 0, 1) := by decide +kernel
theorem d_Tr_isAbove_158 : decode c_Tr_isAbove 158 = .ok (.getfield 9, 3) := by decide +kernel
theorem d_Tr_isAbove_161 : decode c_Tr_isAbove 161 = .ok (.iload 4, 2) := by decide +kernel
theorem d_Tr_isAbove_163 : decode c_Tr_isAbove 163 = .ok (.iaload, 1) := by decide +kernel
theorem d_Tr_isAbove_164 : decode c_Tr_isAbove 164 = .ok (.if_icmp .le 7, 3) := by decide +kernel
theorem d_Tr_isAbove_167 : decode c_Tr_isAbove 167 = .ok (.iconst 1, 1) := by decide +kernel
theorem d_Tr_isAbove_168 : decode c_Tr_isAbove 168 = .ok (.goto 4, 3) := by decide +kernel
theorem d_Tr_isAbove_171 : decode c_Tr_isAbove 171 = .ok (.iconst 0, 1) := by decide +kernel
theorem d_Tr_isAbove_172 : decode c_Tr_isAbove 172 = .ok (.ireturn, 1) := by decide +kernel
theorem d_Tr_isAbove_173 : decode c_Tr_isAbove 173 = .ok (.aload_n 0, 1) := by decide +kernel
theorem d_Tr_isAbove_174 : decode c_Tr_isAbove 174 = .ok (.getfield 15, 3) := by decide +kernel
theorem d_Tr_isAbove_177 : decode c_Tr_isAbove 177 = .ok (.iload_n 3, 1) := by decide +kernel
theorem d_Tr_isAbove_178 : decode c_Tr_isAbove 178 = .ok (.iaload, 1) := by decide +kernel
theorem d_Tr_isAbove_179 : decode c_Tr_isAbove 179 = .ok (.aload_n 0, 1) := by decide +kernel
theorem d_Tr_isAbove_180 : decode c_Tr_isAbove 180 = .ok (.getfield 15, 3) := by decide +kernel
theorem d_Tr_isAbove_183 : decode c_Tr_isAbove 183 = .ok (.iload 4, 2) := by decide +kernel
theorem d_Tr_isAbove_185 : decode c_Tr_isAbove 185 = .ok (.iaload, 1) := by decide +kernel
theorem d_Tr_isAbove_186 : decode c_Tr_isAbove 186 = .ok (.if_icmp .eq 7, 3) := by decide +kernel
theorem d_Tr_isAbove_189 : decode c_Tr_isAbove 189 = .ok (.iconst 1, 1) := by decide +kernel
theorem d_Tr_isAbove_190 : decode c_Tr_isAbove 190 = .ok (.goto 4, 3) := by decide +kernel
theorem d_Tr_isAbove_193 : decode c_Tr_isAbove 193 = .ok (.iconst 0, 1) := by decide +kernel
theorem d_Tr_isAbove_194 : decode c_Tr_isAbove 194 = .ok (.istore 6, 2) := by decide +kernel
theorem d_Tr_isAbove_196 : decode c_Tr_isAbove 196 = .ok (.iload 6, 2) := by decide +kernel
theorem d_Tr_isAbove_198 : decode c_Tr_isAbove 198 = .ok (.ifCond .eq 12, 3) := by decide +kernel
theorem d_Tr_isAbove_201 : decode c_Tr_isAbove 201 = .ok (.aload_n 0, 1) := by decide +kernel
theorem d_Tr_isAbove_202 : decode c_Tr_isAbove 202 = .ok (.getfield 15, 3) := by decide +kernel
theorem d_Tr_isAbove_205 : decode c_Tr_isAbove 205 = .ok (.iload_n 3, 1) := by decide +kernel
theorem d_Tr_isAbove_206 : decode c_Tr_isAbove 206 = .ok (.iaload, 1) := by decide +kernel
theorem d_Tr_isAbove_207 : decode c_Tr_isAbove 207 = .ok (.goto 9, 3) := by decide +kernel
theorem d_Tr_isAbove_210 : decode c_Tr_isAbove 210 = .ok (.aload_n 0, 1) := by decide +kernel
theorem d_Tr_isAbove_211 : decode c_Tr_isAbove 211 = .ok (.getfield 18, 3) := by decide +kernel
theorem d_Tr_isAbove_214 : decode c_Tr_isAbove 214 = .ok (.iload_n 3, 1) := by decide +kernel
theorem d_Tr_isAbove_215 : decode c_Tr_isAbove 215 = .ok (.iaload, 1) := by decide +kernel
theorem d_Tr_isAbove_216 : decode c_Tr_isAbove 216 = .ok (.istore_n 3, 1) := by decide +kernel
theorem d_Tr_isAbove_217 : decode c_Tr_isAbove 217 = .ok (.iload 6, 2) := by decide +kernel
theorem d_Tr_isAbove_219 : decode c_Tr_isAbove 219 = .ok (.ifCond .eq 13, 3) := by decide +kernel
theorem d_Tr_isAbove_222 : decode c_Tr_isAbove 222 = .ok (.aload_n 0, 1) := by decide +kernel
theorem d_Tr_isAbove_223 : decode c_Tr_isAbove 223 = .ok (.getfield 15, 3) := by decide +kernel
theorem d_Tr_isAbove_226 : decode c_Tr_isAbove 226 = .ok (.iload 4, 2) := by decide +kernel
theorem d_Tr_isAbove_228 : decode c_Tr_isAbove 228 = .ok (.iaload, 1) := by decide +kernel
theorem d_Tr_isAbove_229 : decode c_Tr_isAbove 229 = .ok (.goto 10, 3) := by decide +kernel
theorem d_Tr_isAbove_232 : decode c_Tr_isAbove 232 = .ok (.aload_n 0, 1) := by decide +kernel
theorem d_Tr_isAbove_233 : decode c_Tr_isAbove 233 = .ok (.getfield 18, 3) := by decide +kernel
theorem d_Tr_isAbove_236 : decode c_Tr_isAbove 236 = .ok (.iload 4, 2) := by decide +kernel
theorem d_Tr_isAbove_238 : decode c_Tr_isAbove 238 = .ok (.iaload, 1) := by decide +kernel
theorem d_Tr_isAbove_239 : decode c_Tr_isAbove 239 = .ok (.istore 4, 2) := by decide +kernel
theorem d_Tr_isAbove_241 : decode c_Tr_isAbove 241 = .ok (.iinc 5 1, 3) := by decide +kernel
theorem d_Tr_isAbove_244 : decode c_Tr_isAbove 244 = .ok (.goto (-236), 3) := by decide +kernel
theorem d_Tr_isAbove_247 : decode c_Tr_isAbove 247 = .ok (.iconst 0, 1) := by decide +kernel
theorem d_Tr_isAbove_248 : decode c_Tr_isAbove 248 = .ok (.ireturn, 1) := by decide +kernel
theorem d_Tr_hasHolesOf_0 : decode c_Tr_hasHolesOf 0 = .ok (.iconst 0, 1) := by decide +kernel
theorem d_Tr_hasHolesOf_1 : decode c_Tr_hasHolesOf 1 = .ok (.istore_n 3, 1) := by decide +kernel
theorem d_Tr_hasHolesOf_2 : decode c_Tr_hasHolesOf 2 = .ok (.iload_n 3, 1) := by decide +kernel
theorem d_Tr_hasHolesOf_3 : decode c_Tr_hasHolesOf 3 = .ok (.bipush 6, 2) := by decide +kernel
theorem d_Tr_hasHolesOf_5 : decode c_Tr_hasHolesOf 5 = .ok (.if_icmp .ge 26, 3) := by decide +kernel
theorem d_Tr_hasHolesOf_8 : decode c_Tr_hasHolesOf 8 = .ok (.aload_n 0, 1) := by decide +kernel
theorem d_Tr_hasHolesOf_9 : decode c_Tr_hasHolesOf 9 = .ok (.iload_n 1, 1) := by decide +kernel
theorem d_Tr_hasHolesOf_10 : decode c_Tr_hasHolesOf 10 = .ok (.iload_n 3, 1) := by decide +kernel
theorem d_Tr_hasHolesOf_11 : decode c_Tr_hasHolesOf 11 = .ok (.invokevirtual 77, 3) := by decide +kernel
theorem d_Tr_hasHolesOf_14 : decode c_Tr_hasHolesOf 14 = .ok (.aload_n 0, 1) := by decide +kernel
theorem d_Tr_hasHolesOf_15 : decode c_Tr_hasHolesOf 15 = .ok (.iload_n 2, 1) := by decide +kernel
theorem d_Tr_hasHolesOf_16 : decode c_Tr_hasHolesOf 16 = .ok (.iload_n 3, 1) := by decide +kernel
theorem d_Tr_hasHolesOf_17 : decode c_Tr_hasHolesOf 17 = .ok (.invokevirtual 77, 3) := by decide +kernel
theorem d_Tr_hasHolesOf_20 : decode c_Tr_hasHolesOf 20 = .ok (.if_icmp .ge 5, 3) := by decide +kernel
theorem d_Tr_hasHolesOf_23 : decode c_Tr_hasHolesOf 23 = .ok (.iconst 0, 1) := by decide +kernel
theorem d_Tr_hasHolesOf_24 : decode c_Tr_hasHolesOf 24 = .ok (.ireturn, 1) := by decide +kernel
theorem d_Tr_hasHolesOf_25 : decode c_Tr_hasHolesOf 25 = .ok (.iinc 3 1, 3) := by decide +kernel
theorem d_Tr_hasHolesOf_28 : decode c_Tr_hasHolesOf 28 = .ok (.goto (-26), 3) := by decide +kernel
theorem d_Tr_hasHolesOf_31 : decode c_Tr_hasHolesOf 31 = .ok (.iconst 1, 1) := by decide +kernel
theorem d_Tr_hasHolesOf_32 : decode c_Tr_hasHolesOf 32 = .ok (.ireturn, 1) := by decide +kernel
theorem d_Tr_isLeaf_0 : decode c_Tr_isLeaf 0 = .ok (.iload_n 1, 1) := by decide +kernel
theorem d_Tr_isLeaf_1 : decode c_Tr_isLeaf 1 = .ok (.ifCond .lt 16, 3) := by decide +kernel
theorem d_Tr_isLeaf_4 : decode c_Tr_isLeaf 4 = .ok (.aload_n 0, 1) := by decide +kernel
theorem d_Tr_isLeaf_5 : decode c_Tr_isLeaf 5 = .ok (.getfield 9, 3) := by decide +kernel
theorem d_Tr_isLeaf_8 : decode c_Tr_isLeaf 8 = .ok (.iload_n 1, 1) := by decide +kernel
theorem d_Tr_isLeaf_9 : decode c_Tr_isLeaf 9 = .ok (.iaload, 1) := by decide +kernel
theorem d_Tr_isLeaf_10 : decode c_Tr_isLeaf 10 = .ok (.ifCond .ge 7, 3) := by decide +kernel
theorem d_Tr_isLeaf_13 : decode c_Tr_isLeaf 13 = .ok (.iconst 1, 1) := by decide +kernel
theorem d_Tr_isLeaf_14 : decode c_Tr_isLeaf 14 = .ok (.goto 4, 3) := by decide +kernel
theorem d_Tr_isLeaf_17 : decode c_Tr_isLeaf 17 = .ok (.iconst 0, 1) := by decide +kernel
theorem d_Tr_isLeaf_18 : decode c_Tr_isLeaf 18 = .ok (.ireturn, 1) := by decide +kernel
theorem d_Ru_add_0 : decode c_Ru_add 0 = .ok (.aload_n 0, 1) := by decide +kernel
theorem d_Ru_add_1 : decode c_Ru_add 1 = .ok (.getfield 31, 3) := by decide +kernel
theorem d_Ru_add_4 : decode c_Ru_add 4 = .ok (.bipush 16, 2) := by decide +kernel
theorem d_Ru_add_6 : decode c_Ru_add 6 = .ok (.if_icmp .lt 5, 3) := by decide +kernel
theorem d_Ru_add_9 : decode c_Ru_add 9 = .ok (.iconst (-1), 1) := by decide +kernel
theorem d_Ru_add_10 : decode c_Ru_add 10 = .ok (.ireturn, 1) := by decide +kernel
theorem d_Ru_add_11 : decode c_Ru_add 11 = .ok (.aload_n 0, 1) := by decide +kernel
theorem d_Ru_add_12 : decode c_Ru_add 12 = .ok (.getfield 31, 3) := by decide +kernel
theorem d_Ru_add_15 : decode c_Ru_add 15 = .ok (.istore 5, 2) := by decide +kernel
theorem d_Ru_add_17 : decode c_Ru_add 17 = .ok (.aload_n 0, 1) := by decide +kernel
theorem d_Ru_add_18 : decode c_Ru_add 18 = .ok (.dup, 1) := by decide +kernel
theorem d_Ru_add_19 : decode c_Ru_add 19 = .ok (.getfield 31, 3) := by decide +kernel
theorem d_Ru_add_22 : decode c_Ru_add 22 = .ok (.iconst 1, 1) := by decide +kernel
theorem d_Ru_add_23 : decode c_Ru_add 23 = .ok (.iadd, 1) := by decide +kernel
theorem d_Ru_add_24 : decode c_Ru_add 24 = .ok (.putfield 31, 3) := by decide +kernel
theorem d_Ru_add_27 : decode c_Ru_add 27 = .ok (.aload_n 0, 1) := by decide +kernel
theorem d_Ru_add_28 : decode c_Ru_add 28 = .ok (.getfield 9, 3) := by decide +kernel
theorem d_Ru_add_31 : decode c_Ru_add 31 = .ok (.iload 5, 2) := by decide +kernel
theorem d_Ru_add_33 : decode c_Ru_add 33 = .ok (.iload_n 1, 1) := by decide +kernel
theorem d_Ru_add_34 : decode c_Ru_add 34 = .ok (.iastore, 1) := by decide +kernel
theorem d_Ru_add_35 : decode c_Ru_add 35 = .ok (.aload_n 0, 1) := by decide +kernel
theorem d_Ru_add_36 : decode c_Ru_add 36 = .ok (.getfield 15, 3) := by decide +kernel
theorem d_Ru_add_39 : decode c_Ru_add 39 = .ok (.iload 5, 2) := by decide +kernel
theorem d_Ru_add_41 : decode c_Ru_add 41 = .ok (.iload_n 2, 1) := by decide +kernel
theorem d_Ru_add_42 : decode c_Ru_add 42 = .ok (.iastore, 1) := by decide +kernel
theorem d_Ru_add_43 : decode c_Ru_add 43 = .ok (.aload_n 0, 1) := by decide +kernel
theorem d_Ru_add_44 : decode c_Ru_add 44 = .ok (.getfield 18, 3) := by decide +kernel
theorem d_Ru_add_47 : decode c_Ru_add 47 = .ok (.iload 5, 2) := by decide +kernel
theorem d_Ru_add_49 : decode c_Ru_add 49 = .ok (.iload_n 3, 1) := by decide +kernel
theorem d_Ru_add_50 : decode c_Ru_add 50 = .ok (.iastore, 1) := by decide +kernel
theorem d_Ru_add_51 : decode c_Ru_add 51 = .ok (.aload_n 0, 1) := by decide +kernel
theorem d_Ru_add_52 : decode c_Ru_add 52 = .ok (.getfield 21, 3) := by decide +kernel
theorem d_Ru_add_55 : decode c_Ru_add 55 = .ok (.iload 5, 2) := by decide +kernel
theorem d_Ru_add_57 : decode c_Ru_add 57 = .ok (.iload 4, 2) := by decide +kernel
theorem d_Ru_add_59 : decode c_Ru_add 59 = .ok (.bastore, 1) := by decide +kernel
theorem d_Ru_add_60 : decode c_Ru_add 60 = .ok (.aload_n 0, 1) := by decide +kernel
theorem d_Ru_add_61 : decode c_Ru_add 61 = .ok (.getfield 25, 3) := by decide +kernel
theorem d_Ru_add_64 : decode c_Ru_add 64 = .ok (.iload 5, 2) := by decide +kernel
theorem d_Ru_add_66 : decode c_Ru_add 66 = .ok (.iconst 1, 1) := by decide +kernel
theorem d_Ru_add_67 : decode c_Ru_add 67 = .ok (.bastore, 1) := by decide +kernel
theorem d_Ru_add_68 : decode c_Ru_add 68 = .ok (.iload 5, 2) := by decide +kernel
theorem d_Ru_add_70 : decode c_Ru_add 70 = .ok (.ireturn, 1) := by decide +kernel
theorem d_Rn_run_0 : decode c_Rn_run 0 = .ok (.aload_n 0, 1) := by decide +kernel
theorem d_Rn_run_1 : decode c_Rn_run 1 = .ok (.iload_n 3, 1) := by decide +kernel
theorem d_Rn_run_2 : decode c_Rn_run 2 = .ok (.invokevirtual 53, 3) := by decide +kernel
theorem d_Rn_run_5 : decode c_Rn_run 5 = .ok (.aload 4, 2) := by decide +kernel
theorem d_Rn_run_7 : decode c_Rn_run 7 = .ok (.iconst 0, 1) := by decide +kernel
theorem d_Rn_run_8 : decode c_Rn_run 8 = .ok (.putfield 57, 3) := by decide +kernel
theorem d_Rn_run_11 : decode c_Rn_run 11 = .ok (.aload_n 0, 1) := by decide +kernel
theorem d_Rn_run_12 : decode c_Rn_run 12 = .ok (.iconst 0, 1) := by decide +kernel
theorem d_Rn_run_13 : decode c_Rn_run 13 = .ok (.putfield 38, 3) := by decide +kernel
theorem d_Rn_run_16 : decode c_Rn_run 16 = .ok (.iload_n 1, 1) := by decide +kernel
theorem d_Rn_run_17 : decode c_Rn_run 17 = .ok (.istore 5, 2) := by decide +kernel
theorem d_Rn_run_19 : decode c_Rn_run 19 = .ok (.aload_n 0, 1) := by decide +kernel
theorem d_Rn_run_20 : decode c_Rn_run 20 = .ok (.getfield 38, 3) := by decide +kernel
theorem d_Rn_run_23 : decode c_Rn_run 23 = .ok (.iload_n 2, 1) := by decide +kernel
theorem d_Rn_run_24 : decode c_Rn_run 24 = .ok (.if_icmp .ge 66, 3) := by decide +kernel
theorem d_Rn_run_27 : decode c_Rn_run 27 = .ok (.aload_n 0, 1) := by decide +kernel
theorem d_Rn_run_28 : decode c_Rn_run 28 = .ok (.iload 5, 2) := by decide +kernel
theorem d_Rn_run_30 : decode c_Rn_run 30 = .ok (.invokevirtual 62, 3) := by decide +kernel
theorem d_Rn_run_33 : decode c_Rn_run 33 = .ok (.ifCond .eq 57, 3) := by decide +kernel
theorem d_Rn_run_36 : decode c_Rn_run 36 = .ok (.aload_n 0, 1) := by decide +kernel
theorem d_Rn_run_37 : decode c_Rn_run 37 = .ok (.iload 5, 2) := by decide +kernel
theorem d_Rn_run_39 : decode c_Rn_run 39 = .ok (.invokevirtual 66, 3) := by decide +kernel
theorem d_Rn_run_42 : decode c_Rn_run 42 = .ok (.istore 6, 2) := by decide +kernel
theorem d_Rn_run_44 : decode c_Rn_run 44 = .ok (.iload 6, 2) := by decide +kernel
theorem d_Rn_run_46 : decode c_Rn_run 46 = .ok (.ifCond .ge 5, 3) := by decide +kernel
theorem d_Rn_run_49 : decode c_Rn_run 49 = .ok (.iconst (-1), 1) := by decide +kernel
theorem d_Rn_run_50 : decode c_Rn_run 50 = .ok (.ireturn, 1) := by decide +kernel
theorem d_Rn_run_51 : decode c_Rn_run 51 = .ok (.aload 4, 2) := by decide +kernel
theorem d_Rn_run_53 : decode c_Rn_run 53 = .ok (.aload_n 0, 1) := by decide +kernel
theorem d_Rn_run_54 : decode c_Rn_run 54 = .ok (.getfield 15, 3) := by decide +kernel
theorem d_Rn_run_57 : decode c_Rn_run 57 = .ok (.aload_n 0, 1) := by decide +kernel
theorem d_Rn_run_58 : decode c_Rn_run 58 = .ok (.getfield 22, 3) := by decide +kernel
theorem d_Rn_run_61 : decode c_Rn_run 61 = .ok (.iaload, 1) := by decide +kernel
theorem d_Rn_run_62 : decode c_Rn_run 62 = .ok (.aload_n 0, 1) := by decide +kernel
theorem d_Rn_run_63 : decode c_Rn_run 63 = .ok (.getfield 26, 3) := by decide +kernel
theorem d_Rn_run_66 : decode c_Rn_run 66 = .ok (.iload 5, 2) := by decide +kernel
theorem d_Rn_run_68 : decode c_Rn_run 68 = .ok (.iload 6, 2) := by decide +kernel
theorem d_Rn_run_70 : decode c_Rn_run 70 = .ok (.invokevirtual 70, 3) := by decide +kernel
theorem d_Rn_run_73 : decode c_Rn_run 73 = .ok (.iload 6, 2) := by decide +kernel
theorem d_Rn_run_75 : decode c_Rn_run 75 = .ok (.istore 5, 2) := by decide +kernel
theorem d_Rn_run_77 : decode c_Rn_run 77 = .ok (.aload_n 0, 1) := by decide +kernel
theorem d_Rn_run_78 : decode c_Rn_run 78 = .ok (.dup, 1) := by decide +kernel
theorem d_Rn_run_79 : decode c_Rn_run 79 = .ok (.getfield 38, 3) := by decide +kernel
theorem d_Rn_run_82 : decode c_Rn_run 82 = .ok (.iconst 1, 1) := by decide +kernel
theorem d_Rn_run_83 : decode c_Rn_run 83 = .ok (.iadd, 1) := by decide +kernel
theorem d_Rn_run_84 : decode c_Rn_run 84 = .ok (.putfield 38, 3) := by decide +kernel
theorem d_Rn_run_87 : decode c_Rn_run 87 = .ok (.goto (-68), 3) := by decide +kernel
theorem d_Rn_run_90 : decode c_Rn_run 90 = .ok (.aload_n 0, 1) := by decide +kernel
theorem d_Rn_run_91 : decode c_Rn_run 91 = .ok (.aload_n 0, 1) := by decide +kernel
theorem d_Rn_run_92 : decode c_Rn_run 92 = .ok (.iload 5, 2) := by decide +kernel
theorem d_Rn_run_94 : decode c_Rn_run 94 = .ok (.invokevirtual 62, 3) := by decide +kernel
theorem d_Rn_run_97 : decode c_Rn_run 97 = .ok (.putfield 41, 3) := by decide +kernel
theorem d_Rn_run_100 : decode c_Rn_run 100 = .ok (.iload 5, 2) := by decide +kernel
theorem d_Rn_run_102 : decode c_Rn_run 102 = .ok (.ireturn, 1) := by decide +kernel
theorem d_Rn_begin_0 : decode c_Rn_begin 0 = .ok (.aload_n 0, 1) := by decide +kernel
theorem d_Rn_begin_1 : decode c_Rn_begin 1 = .ok (.getfield 15, 3) := by decide +kernel
theorem d_Rn_begin_4 : decode c_Rn_begin 4 = .ok (.bipush (-3), 2) := by decide +kernel
theorem d_Rn_begin_6 : decode c_Rn_begin 6 = .ok (.invokestatic 74, 3) := by decide +kernel
theorem d_Rn_begin_9 : decode c_Rn_begin 9 = .ok (.iconst 0, 1) := by decide +kernel
theorem d_Rn_begin_10 : decode c_Rn_begin 10 = .ok (.istore_n 2, 1) := by decide +kernel
theorem d_Rn_begin_11 : decode c_Rn_begin 11 = .ok (.iload_n 2, 1) := by decide +kernel
theorem d_Rn_begin_12 : decode c_Rn_begin 12 = .ok (.aload_n 0, 1) := by decide +kernel
theorem d_Rn_begin_13 : decode c_Rn_begin 13 = .ok (.getfield 49, 3) := by decide +kernel
theorem d_Rn_begin_16 : decode c_Rn_begin 16 = .ok (.getfield 80, 3) := by decide +kernel
theorem d_Rn_begin_19 : decode c_Rn_begin 19 = .ok (.if_icmp .ge 47, 3) := by decide +kernel
theorem d_Rn_begin_22 : decode c_Rn_begin 22 = .ok (.aload_n 0, 1) := by decide +kernel
theorem d_Rn_begin_23 : decode c_Rn_begin 23 = .ok (.getfield 9, 3) := by decide +kernel
theorem d_Rn_begin_26 : decode c_Rn_begin 26 = .ok (.iload_n 2, 1) := by decide +kernel
theorem d_Rn_begin_27 : decode c_Rn_begin 27 = .ok (.aload_n 0, 1) := by decide +kernel
theorem d_Rn_begin_28 : decode c_Rn_begin 28 = .ok (.getfield 49, 3) := by decide +kernel
theorem d_Rn_begin_31 : decode c_Rn_begin 31 = .ok (.iload_n 2, 1) := by decide +kernel
theorem d_Rn_begin_32 : decode c_Rn_begin 32 = .ok (.invokevirtual 83, 3) := by decide +kernel
theorem d_Rn_begin_35 : decode c_Rn_begin 35 = .ok (.ifCond .eq 23, 3) := by decide +kernel
theorem d_Rn_begin_38 : decode c_Rn_begin 38 = .ok (.aload_n 0, 1) := by decide +kernel
theorem d_Rn_begin_39 : decode c_Rn_begin 39 = .ok (.getfield 49, 3) := by decide +kernel
theorem d_Rn_begin_42 : decode c_Rn_begin 42 = .ok (.getfield 86, 3) := by decide +kernel
theorem d_Rn_begin_45 : decode c_Rn_begin 45 = .ok (.iload_n 2, 1) := by decide +kernel
theorem d_Rn_begin_46 : decode c_Rn_begin 46 = .ok (.baload, 1) := by decide +kernel
theorem d_Rn_begin_47 : decode c_Rn_begin 47 = .ok (.ifCond .ne 7, 3) := by decide +kernel
theorem d_Rn_begin_50 : decode c_Rn_begin 50 = .ok (.iload_n 1, 1) := by decide +kernel
theorem d_Rn_begin_51 : decode c_Rn_begin 51 = .ok (.ifCond .ne 7, 3) := by decide +kernel
theorem d_Rn_begin_54 : decode c_Rn_begin 54 = .ok (.iconst 1, 1) := by decide +kernel
theorem d_Rn_begin_55 : decode c_Rn_begin 55 = .ok (.goto 4, 3) := by decide +kernel
theorem d_Rn_begin_58 : decode c_Rn_begin 58 = .ok (.iconst 0, 1) := by decide +kernel
theorem d_Rn_begin_59 : decode c_Rn_begin 59 = .ok (.bastore, 1) := by decide +kernel
theorem d_Rn_begin_60 : decode c_Rn_begin 60 = .ok (.iinc 2 1, 3) := by decide +kernel
theorem d_Rn_begin_63 : decode c_Rn_begin 63 = .ok (.goto (-52), 3) := by decide +kernel
theorem d_Rn_begin_66 : decode c_Rn_begin 66 = .ok (.return_, 1) := by decide +kernel
theorem d_Ru_mayBeUsed_0 : decode c_Ru_mayBeUsed 0 = .ok (.aload_n 0, 1) := by decide +kernel
theorem d_Ru_mayBeUsed_1 : decode c_Ru_mayBeUsed 1 = .ok (.getfield 25, 3) := by decide +kernel
theorem d_Ru_mayBeUsed_4 : decode c_Ru_mayBeUsed 4 = .ok (.iload_n 1, 1) := by decide +kernel
theorem d_Ru_mayBeUsed_5 : decode c_Ru_mayBeUsed 5 = .ok (.baload, 1) := by decide +kernel
theorem d_Ru_mayBeUsed_6 : decode c_Ru_mayBeUsed 6 = .ok (.ifCond .eq 32, 3) := by decide +kernel
theorem d_Ru_mayBeUsed_9 : decode c_Ru_mayBeUsed 9 = .ok (.aload_n 0, 1) := by decide +kernel
theorem d_Ru_mayBeUsed_10 : decode c_Ru_mayBeUsed 10 = .ok (.getfield 18, 3) := by decide +kernel
theorem d_Ru_mayBeUsed_13 : decode c_Ru_mayBeUsed 13 = .ok (.iload_n 1, 1) := by decide +kernel
theorem d_Ru_mayBeUsed_14 : decode c_Ru_mayBeUsed 14 = .ok (.iaload, 1) := by decide +kernel
theorem d_Ru_mayBeUsed_15 : decode c_Ru_mayBeUsed 15 = .ok (.iconst (-1), 1) := by decide +kernel
theorem d_Ru_mayBeUsed_16 : decode c_Ru_mayBeUsed 16 = .ok (.if_icmp .eq 18, 3) := by decide +kernel
theorem d_Ru_mayBeUsed_19 : decode c_Ru_mayBeUsed 19 = .ok (.aload_n 0, 1) := by decide +kernel
theorem d_Ru_mayBeUsed_20 : decode c_Ru_mayBeUsed 20 = .ok (.getfield 28, 3) := by decide +kernel
theorem d_Ru_mayBeUsed_23 : decode c_Ru_mayBeUsed 23 = .ok (.aload_n 0, 1) := by decide +kernel
theorem d_Ru_mayBeUsed_24 : decode c_Ru_mayBeUsed 24 = .ok (.getfield 18, 3) := by decide +kernel
theorem d_Ru_mayBeUsed_27 : decode c_Ru_mayBeUsed 27 = .ok (.iload_n 1, 1) := by decide +kernel
theorem d_Ru_mayBeUsed_28 : decode c_Ru_mayBeUsed 28 = .ok (.iaload, 1) := by decide +kernel
theorem d_Ru_mayBeUsed_29 : decode c_Ru_mayBeUsed 29 = .ok (.iaload, 1) := by decide +kernel
theorem d_Ru_mayBeUsed_30 : decode c_Ru_mayBeUsed 30 = .ok (.iconst 1, 1) := by decide +kernel
theorem d_Ru_mayBeUsed_31 : decode c_Ru_mayBeUsed 31 = .ok (.if_icmp .ne 7, 3) := by decide +kernel
theorem d_Ru_mayBeUsed_34 : decode c_Ru_mayBeUsed 34 = .ok (.iconst 1, 1) := by decide +kernel
theorem d_Ru_mayBeUsed_35 : decode c_Ru_mayBeUsed 35 = .ok (.goto 4, 3) := by decide +kernel
theorem d_Ru_mayBeUsed_38 : decode c_Ru_mayBeUsed 38 = .ok (.iconst 0, 1) := by decide +kernel
theorem d_Ru_mayBeUsed_39 : decode c_Ru_mayBeUsed 39 = .ok (.ireturn, 1) := by decide +kernel
theorem d_Rn_canStep_0 : decode c_Rn_canStep 0 = .ok (.iload_n 1, 1) := by decide +kernel
theorem d_Rn_canStep_1 : decode c_Rn_canStep 1 = .ok (.ifCond .ge 5, 3) := by decide +kernel
theorem d_Rn_canStep_4 : decode c_Rn_canStep 4 = .ok (.iconst 0, 1) := by decide +kernel
theorem d_Rn_canStep_5 : decode c_Rn_canStep 5 = .ok (.ireturn, 1) := by decide +kernel
theorem d_Rn_canStep_6 : decode c_Rn_canStep 6 = .ok (.aload_n 0, 1) := by decide +kernel
theorem d_Rn_canStep_7 : decode c_Rn_canStep 7 = .ok (.getfield 15, 3) := by decide +kernel
theorem d_Rn_canStep_10 : decode c_Rn_canStep 10 = .ok (.iload_n 1, 1) := by decide +kernel
theorem d_Rn_canStep_11 : decode c_Rn_canStep 11 = .ok (.iaload, 1) := by decide +kernel
theorem d_Rn_canStep_12 : decode c_Rn_canStep 12 = .ok (.bipush (-3), 2) := by decide +kernel
theorem d_Rn_canStep_14 : decode c_Rn_canStep 14 = .ok (.if_icmp .ne 61, 3) := by decide +kernel
theorem d_Rn_canStep_17 : decode c_Rn_canStep 17 = .ok (.aload_n 0, 1) := by decide +kernel
theorem d_Rn_canStep_18 : decode c_Rn_canStep 18 = .ok (.aload_n 0, 1) := by decide +kernel
theorem d_Rn_canStep_19 : decode c_Rn_canStep 19 = .ok (.getfield 45, 3) := by decide +kernel
theorem d_Rn_canStep_22 : decode c_Rn_canStep 22 = .ok (.getfield 89, 3) := by decide +kernel
theorem d_Rn_canStep_25 : decode c_Rn_canStep 25 = .ok (.iload_n 1, 1) := by decide +kernel
theorem d_Rn_canStep_26 : decode c_Rn_canStep 26 = .ok (.iaload, 1) := by decide +kernel
theorem d_Rn_canStep_27 : decode c_Rn_canStep 27 = .ok (.invokevirtual 62, 3) := by decide +kernel
theorem d_Rn_canStep_30 : decode c_Rn_canStep 30 = .ok (.ifCond .ne 19, 3) := by decide +kernel
theorem d_Rn_canStep_33 : decode c_Rn_canStep 33 = .ok (.aload_n 0, 1) := by decide +kernel
theorem d_Rn_canStep_34 : decode c_Rn_canStep 34 = .ok (.aload_n 0, 1) := by decide +kernel
theorem d_Rn_canStep_35 : decode c_Rn_canStep 35 = .ok (.getfield 45, 3) := by decide +kernel
theorem d_Rn_canStep_38 : decode c_Rn_canStep 38 = .ok (.getfield 94, 3) := by decide +kernel
theorem d_Rn_canStep_41 : decode c_Rn_canStep 41 = .ok (.iload_n 1, 1) := by decide +kernel
theorem d_Rn_canStep_42 : decode c_Rn_canStep 42 = .ok (.iaload, 1) := by decide +kernel
theorem d_Rn_canStep_43 : decode c_Rn_canStep 43 = .ok (.invokevirtual 62, 3) := by decide +kernel
theorem d_Rn_canStep_46 : decode c_Rn_canStep 46 = .ok (.ifCond .eq 7, 3) := by decide +kernel
theorem d_Rn_canStep_49 : decode c_Rn_canStep 49 = .ok (.iconst 1, 1) := by decide +kernel
theorem d_Rn_canStep_50 : decode c_Rn_canStep 50 = .ok (.goto 4, 3) := by decide +kernel
theorem d_Rn_canStep_53 : decode c_Rn_canStep 53 = .ok (.iconst 0, 1) := by decide +kernel
theorem d_Rn_canStep_54 : decode c_Rn_canStep 54 = .ok (.istore_n 2, 1) := by decide +kernel
theorem d_Rn_canStep_55 : decode c_Rn_canStep 55 = .ok (.aload_n 0, 1) := by decide +kernel
theorem d_Rn_canStep_56 : decode c_Rn_canStep 56 = .ok (.getfield 15, 3) := by decide +kernel
theorem d_Rn_canStep_59 : decode c_Rn_canStep 59 = .ok (.iload_n 1, 1) := by decide +kernel
theorem d_Rn_canStep_60 : decode c_Rn_canStep 60 = .ok (.iload_n 2, 1) := by decide +kernel
theorem d_Rn_canStep_61 : decode c_Rn_canStep 61 = .ok (.ifCond .eq 8, 3) := by decide +kernel
theorem d_Rn_canStep_64 : decode c_Rn_canStep 64 = .ok (.bipush (-2), 2) := by decide +kernel
theorem d_Rn_canStep_66 : decode c_Rn_canStep 66 = .ok (.goto 8, 3) := by decide +kernel
theorem d_Rn_canStep_69 : decode c_Rn_canStep 69 = .ok (.aload_n 0, 1) := by decide +kernel
theorem d_Rn_canStep_70 : decode c_Rn_canStep 70 = .ok (.iload_n 1, 1) := by decide +kernel
theorem d_Rn_canStep_71 : decode c_Rn_canStep 71 = .ok (.invokevirtual 97, 3) := by decide +kernel
theorem d_Rn_canStep_74 : decode c_Rn_canStep 74 = .ok (.iastore, 1) := by decide +kernel
theorem d_Rn_canStep_75 : decode c_Rn_canStep 75 = .ok (.aload_n 0, 1) := by decide +kernel
theorem d_Rn_canStep_76 : decode c_Rn_canStep 76 = .ok (.getfield 15, 3) := by decide +kernel
theorem d_Rn_canStep_79 : decode c_Rn_canStep 79 = .ok (.iload_n 1, 1) := by decide +kernel
theorem d_Rn_canStep_80 : decode c_Rn_canStep 80 = .ok (.iaload, 1) := by decide +kernel
theorem d_Rn_canStep_81 : decode c_Rn_canStep 81 = .ok (.iconst (-1), 1) := by decide +kernel
theorem d_Rn_canStep_82 : decode c_Rn_canStep 82 = .ok (.if_icmp .eq 7, 3) := by decide +kernel
theorem d_Rn_canStep_85 : decode c_Rn_canStep 85 = .ok (.iconst 1, 1) := by decide +kernel
theorem d_Rn_canStep_86 : decode c_Rn_canStep 86 = .ok (.goto 4, 3) := by decide +kernel
theorem d_Rn_canStep_89 : decode c_Rn_canStep 89 = .ok (.iconst 0, 1) := by decide +kernel
theorem d_Rn_canStep_90 : decode c_Rn_canStep 90 = .ok (.ireturn, 1) := by decide +kernel
theorem d_Rn_lowestRule_0 : decode c_Rn_lowestRule 0 = .ok (.iconst 0, 1) := by decide +kernel
theorem d_Rn_lowestRule_1 : decode c_Rn_lowestRule 1 = .ok (.istore_n 2, 1) := by decide +kernel
theorem d_Rn_lowestRule_2 : decode c_Rn_lowestRule 2 = .ok (.iload_n 2, 1) := by decide +kernel
theorem d_Rn_lowestRule_3 : decode c_Rn_lowestRule 3 = .ok (.aload_n 0, 1) := by decide +kernel
theorem d_Rn_lowestRule_4 : decode c_Rn_lowestRule 4 = .ok (.getfield 49, 3) := by decide +kernel
theorem d_Rn_lowestRule_7 : decode c_Rn_lowestRule 7 = .ok (.getfield 80, 3) := by decide +kernel
theorem d_Rn_lowestRule_10 : decode c_Rn_lowestRule 10 = .ok (.if_icmp .ge 37, 3) := by decide +kernel
theorem d_Rn_lowestRule_13 : decode c_Rn_lowestRule 13 = .ok (.aload_n 0, 1) := by decide +kernel
theorem d_Rn_lowestRule_14 : decode c_Rn_lowestRule 14 = .ok (.getfield 9, 3) := by decide +kernel
theorem d_Rn_lowestRule_17 : decode c_Rn_lowestRule 17 = .ok (.iload_n 2, 1) := by decide +kernel
theorem d_Rn_lowestRule_18 : decode c_Rn_lowestRule 18 = .ok (.baload, 1) := by decide +kernel
theorem d_Rn_lowestRule_19 : decode c_Rn_lowestRule 19 = .ok (.ifCond .eq 22, 3) := by decide +kernel
theorem d_Rn_lowestRule_22 : decode c_Rn_lowestRule 22 = .ok (.aload_n 0, 1) := by decide +kernel
theorem d_Rn_lowestRule_23 : decode c_Rn_lowestRule 23 = .ok (.aload_n 0, 1) := by decide +kernel
theorem d_Rn_lowestRule_24 : decode c_Rn_lowestRule 24 = .ok (.getfield 49, 3) := by decide +kernel
theorem d_Rn_lowestRule_27 : decode c_Rn_lowestRule 27 = .ok (.getfield 100, 3) := by decide +kernel
theorem d_Rn_lowestRule_30 : decode c_Rn_lowestRule 30 = .ok (.iload_n 2, 1) := by decide +kernel
theorem d_Rn_lowestRule_31 : decode c_Rn_lowestRule 31 = .ok (.iaload, 1) := by decide +kernel
theorem d_Rn_lowestRule_32 : decode c_Rn_lowestRule 32 = .ok (.iload_n 1, 1) := by decide +kernel
theorem d_Rn_lowestRule_33 : decode c_Rn_lowestRule 33 = .ok (.invokevirtual 103, 3) := by decide +kernel
theorem d_Rn_lowestRule_36 : decode c_Rn_lowestRule 36 = .ok (.ifCond .eq 5, 3) := by decide +kernel
theorem d_Rn_lowestRule_39 : decode c_Rn_lowestRule 39 = .ok (.iload_n 2, 1) := by decide +kernel
theorem d_Rn_lowestRule_40 : decode c_Rn_lowestRule 40 = .ok (.ireturn, 1) := by decide +kernel
theorem d_Rn_lowestRule_41 : decode c_Rn_lowestRule 41 = .ok (.iinc 2 1, 3) := by decide +kernel
theorem d_Rn_lowestRule_44 : decode c_Rn_lowestRule 44 = .ok (.goto (-42), 3) := by decide +kernel
theorem d_Rn_lowestRule_47 : decode c_Rn_lowestRule 47 = .ok (.iconst (-1), 1) := by decide +kernel
theorem d_Rn_lowestRule_48 : decode c_Rn_lowestRule 48 = .ok (.ireturn, 1) := by decide +kernel
theorem d_Rn_matches_0 : decode c_Rn_matches 0 = .ok (.aload_n 0, 1) := by decide +kernel
theorem d_Rn_matches_1 : decode c_Rn_matches 1 = .ok (.getfield 45, 3) := by decide +kernel
theorem d_Rn_matches_4 : decode c_Rn_matches 4 = .ok (.getfield 107, 3) := by decide +kernel
theorem d_Rn_matches_7 : decode c_Rn_matches 7 = .ok (.iload_n 1, 1) := by decide +kernel
theorem d_Rn_matches_8 : decode c_Rn_matches 8 = .ok (.iaload, 1) := by decide +kernel
theorem d_Rn_matches_9 : decode c_Rn_matches 9 = .ok (.aload_n 0, 1) := by decide +kernel
theorem d_Rn_matches_10 : decode c_Rn_matches 10 = .ok (.getfield 45, 3) := by decide +kernel
theorem d_Rn_matches_13 : decode c_Rn_matches 13 = .ok (.getfield 107, 3) := by decide +kernel
theorem d_Rn_matches_16 : decode c_Rn_matches 16 = .ok (.iload_n 2, 1) := by decide +kernel
theorem d_Rn_matches_17 : decode c_Rn_matches 17 = .ok (.iaload, 1) := by decide +kernel
theorem d_Rn_matches_18 : decode c_Rn_matches 18 = .ok (.if_icmp .ne 24, 3) := by decide +kernel
theorem d_Rn_matches_21 : decode c_Rn_matches 21 = .ok (.aload_n 0, 1) := by decide +kernel
theorem d_Rn_matches_22 : decode c_Rn_matches 22 = .ok (.getfield 45, 3) := by decide +kernel
theorem d_Rn_matches_25 : decode c_Rn_matches 25 = .ok (.getfield 110, 3) := by decide +kernel
theorem d_Rn_matches_28 : decode c_Rn_matches 28 = .ok (.iload_n 1, 1) := by decide +kernel
theorem d_Rn_matches_29 : decode c_Rn_matches 29 = .ok (.iaload, 1) := by decide +kernel
theorem d_Rn_matches_30 : decode c_Rn_matches 30 = .ok (.aload_n 0, 1) := by decide +kernel
theorem d_Rn_matches_31 : decode c_Rn_matches 31 = .ok (.getfield 45, 3) := by decide +kernel
theorem d_Rn_matches_34 : decode c_Rn_matches 34 = .ok (.getfield 110, 3) := by decide +kernel
theorem d_Rn_matches_37 : decode c_Rn_matches 37 = .ok (.iload_n 2, 1) := by decide +kernel
theorem d_Rn_matches_38 : decode c_Rn_matches 38 = .ok (.iaload, 1) := by decide +kernel
theorem d_Rn_matches_39 : decode c_Rn_matches 39 = .ok (.if_icmp .le 5, 3) := by decide +kernel
theorem d_Rn_matches_42 : decode c_Rn_matches 42 = .ok (.iconst 0, 1) := by decide +kernel
theorem d_Rn_matches_43 : decode c_Rn_matches 43 = .ok (.ireturn, 1) := by decide +kernel
theorem d_Rn_matches_44 : decode c_Rn_matches 44 = .ok (.aload_n 0, 1) := by decide +kernel
theorem d_Rn_matches_45 : decode c_Rn_matches 45 = .ok (.getfield 19, 3) := by decide +kernel
theorem d_Rn_matches_48 : decode c_Rn_matches 48 = .ok (.iconst (-1), 1) := by decide +kernel
theorem d_Rn_matches_49 : decode c_Rn_matches 49 = .ok (.invokestatic 74, 3) := by decide +kernel
theorem d_Rn_matches_52 : decode c_Rn_matches 52 = .ok (.aload_n 0, 1) := by decide +kernel
theorem d_Rn_matches_53 : decode c_Rn_matches 53 = .ok (.iload_n 1, 1) := by decide +kernel
theorem d_Rn_matches_54 : decode c_Rn_matches 54 = .ok (.iload_n 2, 1) := by decide +kernel
theorem d_Rn_matches_55 : decode c_Rn_matches 55 = .ok (.invokevirtual 113, 3) := by decide +kernel
theorem d_Rn_matches_58 : decode c_Rn_matches 58 = .ok (.ireturn, 1) := by decide +kernel
theorem d_Rn_fits_0 : decode c_Rn_fits 0 = .ok (.iload_n 1, 1) := by decide +kernel
theorem d_Rn_fits_1 : decode c_Rn_fits 1 = .ok (.ifCond .lt 19, 3) := by decide +kernel
theorem d_Rn_fits_4 : decode c_Rn_fits 4 = .ok (.iload_n 2, 1) := by decide +kernel
theorem d_Rn_fits_5 : decode c_Rn_fits 5 = .ok (.ifCond .lt 15, 3) := by decide +kernel
theorem d_Rn_fits_8 : decode c_Rn_fits 8 = .ok (.aload_n 0, 1) := by decide +kernel
theorem d_Rn_fits_9 : decode c_Rn_fits 9 = .ok (.getfield 45, 3) := by decide +kernel
theorem d_Rn_fits_12 : decode c_Rn_fits 12 = .ok (.getfield 116, 3) := by decide +kernel
theorem d_Rn_fits_15 : decode c_Rn_fits 15 = .ok (.iload_n 1, 1) := by decide +kernel
theorem d_Rn_fits_16 : decode c_Rn_fits 16 = .ok (.iaload, 1) := by decide +kernel
theorem d_Rn_fits_17 : decode c_Rn_fits 17 = .ok (.ifCond .ne 14, 3) := by decide +kernel
theorem d_Rn_fits_20 : decode c_Rn_fits 20 = .ok (.iload_n 1, 1) := by decide +kernel
theorem d_Rn_fits_21 : decode c_Rn_fits 21 = .ok (.iload_n 2, 1) := by decide +kernel
theorem d_Rn_fits_22 : decode c_Rn_fits 22 = .ok (.if_icmp .ne 7, 3) := by decide +kernel
theorem d_Rn_fits_25 : decode c_Rn_fits 25 = .ok (.iconst 1, 1) := by decide +kernel
theorem d_Rn_fits_26 : decode c_Rn_fits 26 = .ok (.goto 4, 3) := by decide +kernel
theorem d_Rn_fits_29 : decode c_Rn_fits 29 = .ok (.iconst 0, 1) := by decide +kernel
theorem d_Rn_fits_30 : decode c_Rn_fits 30 = .ok (.ireturn, 1) := by decide +kernel
theorem d_Rn_fits_31 : decode c_Rn_fits 31 = .ok (.aload_n 0, 1) := by decide +kernel
theorem d_Rn_fits_32 : decode c_Rn_fits 32 = .ok (.getfield 45, 3) := by decide +kernel
theorem d_Rn_fits_35 : decode c_Rn_fits 35 = .ok (.getfield 107, 3) := by decide +kernel
theorem d_Rn_fits_38 : decode c_Rn_fits 38 = .ok (.iload_n 1, 1) := by decide +kernel
theorem d_Rn_fits_39 : decode c_Rn_fits 39 = .ok (.iaload, 1) := by decide +kernel
theorem d_Rn_fits_40 : decode c_Rn_fits 40 = .ok (.istore_n 3, 1) := by decide +kernel
theorem d_Rn_fits_41 : decode c_Rn_fits 41 = .ok (.iload_n 3, 1) := by decide +kernel
theorem d_Rn_fits_42 : decode c_Rn_fits 42 = .ok (.bipush 100, 2) := by decide +kernel
theorem d_Rn_fits_44 : decode c_Rn_fits 44 = .ok (.if_icmp .lt 13, 3) := by decide +kernel
theorem d_Rn_fits_47 : decode c_Rn_fits 47 = .ok (.aload_n 0, 1) := by decide +kernel
theorem d_Rn_fits_48 : decode c_Rn_fits 48 = .ok (.iload_n 3, 1) := by decide +kernel
theorem d_Rn_fits_49 : decode c_Rn_fits 49 = .ok (.bipush 100, 2) := by decide +kernel
theorem d_Rn_fits_51 : decode c_Rn_fits 51 = .ok (.isub, 1) := by decide +kernel
theorem d_Rn_fits_52 : decode c_Rn_fits 52 = .ok (.iload_n 2, 1) := by decide +kernel
theorem d_Rn_fits_53 : decode c_Rn_fits 53 = .ok (.invokevirtual 119, 3) := by decide +kernel
theorem d_Rn_fits_56 : decode c_Rn_fits 56 = .ok (.ireturn, 1) := by decide +kernel
theorem d_Rn_fits_57 : decode c_Rn_fits 57 = .ok (.iload_n 3, 1) := by decide +kernel
theorem d_Rn_fits_58 : decode c_Rn_fits 58 = .ok (.aload_n 0, 1) := by decide +kernel
theorem d_Rn_fits_59 : decode c_Rn_fits 59 = .ok (.getfield 45, 3) := by decide +kernel
theorem d_Rn_fits_62 : decode c_Rn_fits 62 = .ok (.getfield 107, 3) := by decide +kernel
theorem d_Rn_fits_65 : decode c_Rn_fits 65 = .ok (.iload_n 2, 1) := by decide +kernel
theorem d_Rn_fits_66 : decode c_Rn_fits 66 = .ok (.iaload, 1) := by decide +kernel
theorem d_Rn_fits_67 : decode c_Rn_fits 67 = .ok (.if_icmp .ne 57, 3) := by decide +kernel
theorem d_Rn_fits_70 : decode c_Rn_fits 70 = .ok (.aload_n 0, 1) := by decide +kernel
theorem d_Rn_fits_71 : decode c_Rn_fits 71 = .ok (.aload_n 0, 1) := by decide +kernel
theorem d_Rn_fits_72 : decode c_Rn_fits 72 = .ok (.getfield 45, 3) := by decide +kernel
theorem d_Rn_fits_75 : decode c_Rn_fits 75 = .ok (.getfield 89, 3) := by decide +kernel
theorem d_Rn_fits_78 : decode c_Rn_fits 78 = .ok (.iload_n 1, 1) := by decide +kernel
theorem d_Rn_fits_79 : decode c_Rn_fits 79 = .ok (.iaload, 1) := by decide +kernel
theorem d_Rn_fits_80 : decode c_Rn_fits 80 = .ok (.aload_n 0, 1) := by decide +kernel
theorem d_Rn_fits_81 : decode c_Rn_fits 81 = .ok (.getfield 45, 3) := by decide +kernel
theorem d_Rn_fits_84 : decode c_Rn_fits 84 = .ok (.getfield 89, 3) := by decide +kernel
theorem d_Rn_fits_87 : decode c_Rn_fits 87 = .ok (.iload_n 2, 1) := by decide +kernel
theorem d_Rn_fits_88 : decode c_Rn_fits 88 = .ok (.iaload, 1) := by decide +kernel
theorem d_Rn_fits_89 : decode c_Rn_fits 89 = .ok (.invokevirtual 113, 3) := by decide +kernel
theorem d_Rn_fits_92 : decode c_Rn_fits 92 = .ok (.ifCond .eq 32, 3) := by decide +kernel
theorem d_Rn_fits_95 : decode c_Rn_fits 95 = .ok (.aload_n 0, 1) := by decide +kernel
theorem d_Rn_fits_96 : decode c_Rn_fits 96 = .ok (.aload_n 0, 1) := by decide +kernel
theorem d_Rn_fits_97 : decode c_Rn_fits 97 = .ok (.getfield 45, 3) := by decide +kernel
theorem d_Rn_fits_100 : decode c_Rn_fits 100 = .ok (.getfield 94, 3) := by decide +kernel
theorem d_Rn_fits_103 : decode c_Rn_fits 103 = .ok (.iload_n 1, 1) := by decide +kernel
theorem d_Rn_fits_104 : decode c_Rn_fits 104 = .ok (.iaload, 1) := by decide +kernel
theorem d_Rn_fits_105 : decode c_Rn_fits 105 = .ok (.aload_n 0, 1) := by decide +kernel
theorem d_Rn_fits_106 : decode c_Rn_fits 106 = .ok (.getfield 45, 3) := by decide +kernel
theorem d_Rn_fits_109 : decode c_Rn_fits 109 = .ok (.getfield 94, 3) := by decide +kernel
theorem d_Rn_fits_112 : decode c_Rn_fits 112 = .ok (.iload_n 2, 1) := by decide +kernel
theorem d_Rn_fits_113 : decode c_Rn_fits 113 = .ok (.iaload, 1) := by decide +kernel
theorem d_Rn_fits_114 : decode c_Rn_fits 114 = .ok (.invokevirtual 113, 3) := by decide +kernel
theorem d_Rn_fits_117 : decode c_Rn_fits 117 = .ok (.ifCond .eq 7, 3) := by decide +kernel
theorem d_Rn_fits_120 : decode c_Rn_fits 120 = .ok (.iconst 1, 1) := by decide +kernel
theorem d_Rn_fits_121 : decode c_Rn_fits 121 = .ok (.goto 4, 3) := by decide +kernel
theorem d_Rn_fits_124 : decode c_Rn_fits 124 = .ok (.iconst 0, 1) := by decide +kernel
theorem d_Rn_fits_125 : decode c_Rn_fits 125 = .ok (.ireturn, 1) := by decide +kernel
theorem d_Rn_bind_0 : decode c_Rn_bind 0 = .ok (.aload_n 0, 1) := by decide +kernel
theorem d_Rn_bind_1 : decode c_Rn_bind 1 = .ok (.getfield 19, 3) := by decide +kernel
theorem d_Rn_bind_4 : decode c_Rn_bind 4 = .ok (.iload_n 1, 1) := by decide +kernel
theorem d_Rn_bind_5 : decode c_Rn_bind 5 = .ok (.iaload, 1) := by decide +kernel
theorem d_Rn_bind_6 : decode c_Rn_bind 6 = .ok (.iconst (-1), 1) := by decide +kernel
theorem d_Rn_bind_7 : decode c_Rn_bind 7 = .ok (.if_icmp .ne 10, 3) := by decide +kernel
theorem d_Rn_bind_10 : decode c_Rn_bind 10 = .ok (.aload_n 0, 1) := by decide +kernel
theorem d_Rn_bind_11 : decode c_Rn_bind 11 = .ok (.getfield 19, 3) := by decide +kernel
theorem d_Rn_bind_14 : decode c_Rn_bind 14 = .ok (.iload_n 1, 1) := by decide +kernel
theorem d_Rn_bind_15 : decode c_Rn_bind 15 = .ok (.iload_n 2, 1) := by decide +kernel
theorem d_Rn_bind_16 : decode c_Rn_bind 16 = .ok (.iastore, 1) := by decide +kernel
theorem d_Rn_bind_17 : decode c_Rn_bind 17 = .ok (.aload_n 0, 1) := by decide +kernel
theorem d_Rn_bind_18 : decode c_Rn_bind 18 = .ok (.getfield 19, 3) := by decide +kernel
theorem d_Rn_bind_21 : decode c_Rn_bind 21 = .ok (.iload_n 1, 1) := by decide +kernel
theorem d_Rn_bind_22 : decode c_Rn_bind 22 = .ok (.iaload, 1) := by decide +kernel
theorem d_Rn_bind_23 : decode c_Rn_bind 23 = .ok (.iload_n 2, 1) := by decide +kernel
theorem d_Rn_bind_24 : decode c_Rn_bind 24 = .ok (.if_icmp .ne 7, 3) := by decide +kernel
theorem d_Rn_bind_27 : decode c_Rn_bind 27 = .ok (.iconst 1, 1) := by decide +kernel
theorem d_Rn_bind_28 : decode c_Rn_bind 28 = .ok (.goto 4, 3) := by decide +kernel
theorem d_Rn_bind_31 : decode c_Rn_bind 31 = .ok (.iconst 0, 1) := by decide +kernel
theorem d_Rn_bind_32 : decode c_Rn_bind 32 = .ok (.ireturn, 1) := by decide +kernel
theorem d_Rn_step_0 : decode c_Rn_step 0 = .ok (.aload_n 0, 1) := by decide +kernel
theorem d_Rn_step_1 : decode c_Rn_step 1 = .ok (.iload_n 1, 1) := by decide +kernel
theorem d_Rn_step_2 : decode c_Rn_step 2 = .ok (.invokevirtual 122, 3) := by decide +kernel
theorem d_Rn_step_5 : decode c_Rn_step 5 = .ok (.aload_n 0, 1) := by decide +kernel
theorem d_Rn_step_6 : decode c_Rn_step 6 = .ok (.getfield 15, 3) := by decide +kernel
theorem d_Rn_step_9 : decode c_Rn_step 9 = .ok (.aload_n 0, 1) := by decide +kernel
theorem d_Rn_step_10 : decode c_Rn_step 10 = .ok (.getfield 22, 3) := by decide +kernel
theorem d_Rn_step_13 : decode c_Rn_step 13 = .ok (.iaload, 1) := by decide +kernel
theorem d_Rn_step_14 : decode c_Rn_step 14 = .ok (.istore_n 2, 1) := by decide +kernel
theorem d_Rn_step_15 : decode c_Rn_step 15 = .ok (.iload_n 2, 1) := by decide +kernel
theorem d_Rn_step_16 : decode c_Rn_step 16 = .ok (.ifCond .lt 23, 3) := by decide +kernel
theorem d_Rn_step_19 : decode c_Rn_step 19 = .ok (.aload_n 0, 1) := by decide +kernel
theorem d_Rn_step_20 : decode c_Rn_step 20 = .ok (.aload_n 0, 1) := by decide +kernel
theorem d_Rn_step_21 : decode c_Rn_step 21 = .ok (.getfield 49, 3) := by decide +kernel
theorem d_Rn_step_24 : decode c_Rn_step 24 = .ok (.getfield 100, 3) := by decide +kernel
theorem d_Rn_step_27 : decode c_Rn_step 27 = .ok (.iload_n 2, 1) := by decide +kernel
theorem d_Rn_step_28 : decode c_Rn_step 28 = .ok (.iaload, 1) := by decide +kernel
theorem d_Rn_step_29 : decode c_Rn_step 29 = .ok (.aload_n 0, 1) := by decide +kernel
theorem d_Rn_step_30 : decode c_Rn_step 30 = .ok (.getfield 22, 3) := by decide +kernel
theorem d_Rn_step_33 : decode c_Rn_step 33 = .ok (.invokevirtual 103, 3) := by decide +kernel
theorem d_Rn_step_36 : decode c_Rn_step 36 = .ok (.ifCond .ne 5, 3) := by decide +kernel
theorem d_Rn_step_39 : decode c_Rn_step 39 = .ok (.iconst (-1), 1) := by decide +kernel
theorem d_Rn_step_40 : decode c_Rn_step 40 = .ok (.ireturn, 1) := by decide +kernel
theorem d_Rn_step_41 : decode c_Rn_step 41 = .ok (.aload_n 0, 1) := by decide +kernel
theorem d_Rn_step_42 : decode c_Rn_step 42 = .ok (.aload_n 0, 1) := by decide +kernel
theorem d_Rn_step_43 : decode c_Rn_step 43 = .ok (.getfield 49, 3) := by decide +kernel
theorem d_Rn_step_46 : decode c_Rn_step 46 = .ok (.getfield 126, 3) := by decide +kernel
theorem d_Rn_step_49 : decode c_Rn_step 49 = .ok (.iload_n 2, 1) := by decide +kernel
theorem d_Rn_step_50 : decode c_Rn_step 50 = .ok (.iaload, 1) := by decide +kernel
theorem d_Rn_step_51 : decode c_Rn_step 51 = .ok (.invokevirtual 129, 3) := by decide +kernel
theorem d_Rn_step_54 : decode c_Rn_step 54 = .ok (.istore_n 3, 1) := by decide +kernel
theorem d_Rn_step_55 : decode c_Rn_step 55 = .ok (.aload_n 0, 1) := by decide +kernel
theorem d_Rn_step_56 : decode c_Rn_step 56 = .ok (.getfield 29, 3) := by decide +kernel
theorem d_Rn_step_59 : decode c_Rn_step 59 = .ok (.iconst 1, 1) := by decide +kernel
theorem d_Rn_step_60 : decode c_Rn_step 60 = .ok (.isub, 1) := by decide +kernel
theorem d_Rn_step_61 : decode c_Rn_step 61 = .ok (.istore 4, 2) := by decide +kernel
theorem d_Rn_step_63 : decode c_Rn_step 63 = .ok (.iload 4, 2) := by decide +kernel
theorem d_Rn_step_65 : decode c_Rn_step 65 = .ok (.ifCond .lt 96, 3) := by decide +kernel
theorem d_Rn_step_68 : decode c_Rn_step 68 = .ok (.iload_n 3, 1) := by decide +kernel
theorem d_Rn_step_69 : decode c_Rn_step 69 = .ok (.ifCond .lt 92, 3) := by decide +kernel
theorem d_Rn_step_72 : decode c_Rn_step 72 = .ok (.aload_n 0, 1) := by decide +kernel
theorem d_Rn_step_73 : decode c_Rn_step 73 = .ok (.getfield 32, 3) := by decide +kernel
theorem d_Rn_step_76 : decode c_Rn_step 76 = .ok (.iload 4, 2) := by decide +kernel
theorem d_Rn_step_78 : decode c_Rn_step 78 = .ok (.iaload, 1) := by decide +kernel
theorem d_Rn_step_79 : decode c_Rn_step 79 = .ok (.istore 5, 2) := by decide +kernel
theorem d_Rn_step_81 : decode c_Rn_step 81 = .ok (.aload_n 0, 1) := by decide +kernel
theorem d_Rn_step_82 : decode c_Rn_step 82 = .ok (.getfield 35, 3) := by decide +kernel
theorem d_Rn_step_85 : decode c_Rn_step 85 = .ok (.iload 4, 2) := by decide +kernel
theorem d_Rn_step_87 : decode c_Rn_step 87 = .ok (.baload, 1) := by decide +kernel
theorem d_Rn_step_88 : decode c_Rn_step 88 = .ok (.ifCond .eq 16, 3) := by decide +kernel
theorem d_Rn_step_91 : decode c_Rn_step 91 = .ok (.aload_n 0, 1) := by decide +kernel
theorem d_Rn_step_92 : decode c_Rn_step 92 = .ok (.getfield 45, 3) := by decide +kernel
theorem d_Rn_step_95 : decode c_Rn_step 95 = .ok (.getfield 89, 3) := by decide +kernel
theorem d_Rn_step_98 : decode c_Rn_step 98 = .ok (.iload 5, 2) := by decide +kernel
theorem d_Rn_step_100 : decode c_Rn_step 100 = .ok (.iaload, 1) := by decide +kernel
theorem d_Rn_step_101 : decode c_Rn_step 101 = .ok (.goto 4, 3) := by decide +kernel
theorem d_Rn_step_104 : decode c_Rn_step 104 = .ok (.iload_n 3, 1) := by decide +kernel
theorem d_Rn_step_105 : decode c_Rn_step 105 = .ok (.istore 6, 2) := by decide +kernel
theorem d_Rn_step_107 : decode c_Rn_step 107 = .ok (.aload_n 0, 1) := by decide +kernel
theorem d_Rn_step_108 : decode c_Rn_step 108 = .ok (.getfield 35, 3) := by decide +kernel
theorem d_Rn_step_111 : decode c_Rn_step 111 = .ok (.iload 4, 2) := by decide +kernel
theorem d_Rn_step_113 : decode c_Rn_step 113 = .ok (.baload, 1) := by decide +kernel
theorem d_Rn_step_114 : decode c_Rn_step 114 = .ok (.ifCond .eq 7, 3) := by decide +kernel
theorem d_Rn_step_117 : decode c_Rn_step 117 = .ok (.iload_n 3, 1) := by decide +kernel
theorem d_Rn_step_118 : decode c_Rn_step 118 = .ok (.goto 13, 3) := by decide +kernel
theorem d_Rn_step_121 : decode c_Rn_step 121 = .ok (.aload_n 0, 1) := by decide +kernel
theorem d_Rn_step_122 : decode c_Rn_step 122 = .ok (.getfield 45, 3) := by decide +kernel
theorem d_Rn_step_125 : decode c_Rn_step 125 = .ok (.getfield 94, 3) := by decide +kernel
theorem d_Rn_step_128 : decode c_Rn_step 128 = .ok (.iload 5, 2) := by decide +kernel
theorem d_Rn_step_130 : decode c_Rn_step 130 = .ok (.iaload, 1) := by decide +kernel
theorem d_Rn_step_131 : decode c_Rn_step 131 = .ok (.istore 7, 2) := by decide +kernel
theorem d_Rn_step_133 : decode c_Rn_step 133 = .ok (.aload_n 0, 1) := by decide +kernel
theorem d_Rn_step_134 : decode c_Rn_step 134 = .ok (.getfield 45, 3) := by decide +kernel
theorem d_Rn_step_137 : decode c_Rn_step 137 = .ok (.aload_n 0, 1) := by decide +kernel
theorem d_Rn_step_138 : decode c_Rn_step 138 = .ok (.getfield 45, 3) := by decide +kernel
theorem d_Rn_step_141 : decode c_Rn_step 141 = .ok (.getfield 107, 3) := by decide +kernel
theorem d_Rn_step_144 : decode c_Rn_step 144 = .ok (.iload 5, 2) := by decide +kernel
theorem d_Rn_step_146 : decode c_Rn_step 146 = .ok (.iaload, 1) := by decide +kernel
theorem d_Rn_step_147 : decode c_Rn_step 147 = .ok (.iload 6, 2) := by decide +kernel
theorem d_Rn_step_149 : decode c_Rn_step 149 = .ok (.iload 7, 2) := by decide +kernel
theorem d_Rn_step_151 : decode c_Rn_step 151 = .ok (.invokevirtual 132, 3) := by decide +kernel
theorem d_Rn_step_154 : decode c_Rn_step 154 = .ok (.istore_n 3, 1) := by decide +kernel
theorem d_Rn_step_155 : decode c_Rn_step 155 = .ok (.iinc 4 (-1), 3) := by decide +kernel
theorem d_Rn_step_158 : decode c_Rn_step 158 = .ok (.goto (-95), 3) := by decide +kernel
theorem d_Rn_step_161 : decode c_Rn_step 161 = .ok (.iload_n 3, 1) := by decide +kernel
theorem d_Rn_step_162 : decode c_Rn_step 162 = .ok (.ireturn, 1) := by decide +kernel
theorem d_Rn_seek_0 : decode c_Rn_seek 0 = .ok (.aload_n 0, 1) := by decide +kernel
theorem d_Rn_seek_1 : decode c_Rn_seek 1 = .ok (.iload_n 1, 1) := by decide +kernel
theorem d_Rn_seek_2 : decode c_Rn_seek 2 = .ok (.putfield 22, 3) := by decide +kernel
theorem d_Rn_seek_5 : decode c_Rn_seek 5 = .ok (.aload_n 0, 1) := by decide +kernel
theorem d_Rn_seek_6 : decode c_Rn_seek 6 = .ok (.iconst 0, 1) := by decide +kernel
theorem d_Rn_seek_7 : decode c_Rn_seek 7 = .ok (.putfield 26, 3) := by decide +kernel
theorem d_Rn_seek_10 : decode c_Rn_seek 10 = .ok (.aload_n 0, 1) := by decide +kernel
theorem d_Rn_seek_11 : decode c_Rn_seek 11 = .ok (.iconst 0, 1) := by decide +kernel
theorem d_Rn_seek_12 : decode c_Rn_seek 12 = .ok (.putfield 29, 3) := by decide +kernel
theorem d_Rn_seek_15 : decode c_Rn_seek 15 = .ok (.aload_n 0, 1) := by decide +kernel
theorem d_Rn_seek_16 : decode c_Rn_seek 16 = .ok (.getfield 29, 3) := by decide +kernel
theorem d_Rn_seek_19 : decode c_Rn_seek 19 = .ok (.bipush 30, 2) := by decide +kernel
theorem d_Rn_seek_21 : decode c_Rn_seek 21 = .ok (.if_icmp .ge 132, 3) := by decide +kernel
theorem d_Rn_seek_24 : decode c_Rn_seek 24 = .ok (.aload_n 0, 1) := by decide +kernel
theorem d_Rn_seek_25 : decode c_Rn_seek 25 = .ok (.getfield 15, 3) := by decide +kernel
theorem d_Rn_seek_28 : decode c_Rn_seek 28 = .ok (.aload_n 0, 1) := by decide +kernel
theorem d_Rn_seek_29 : decode c_Rn_seek 29 = .ok (.getfield 22, 3) := by decide +kernel
theorem d_Rn_seek_32 : decode c_Rn_seek 32 = .ok (.iaload, 1) := by decide +kernel
theorem d_Rn_seek_33 : decode c_Rn_seek 33 = .ok (.bipush (-2), 2) := by decide +kernel
theorem d_Rn_seek_35 : decode c_Rn_seek 35 = .ok (.if_icmp .ne 118, 3) := by decide +kernel
theorem d_Rn_seek_38 : decode c_Rn_seek 38 = .ok (.aload_n 0, 1) := by decide +kernel
theorem d_Rn_seek_39 : decode c_Rn_seek 39 = .ok (.getfield 45, 3) := by decide +kernel
theorem d_Rn_seek_42 : decode c_Rn_seek 42 = .ok (.getfield 89, 3) := by decide +kernel
theorem d_Rn_seek_45 : decode c_Rn_seek 45 = .ok (.aload_n 0, 1) := by decide +kernel
theorem d_Rn_seek_46 : decode c_Rn_seek 46 = .ok (.getfield 22, 3) := by decide +kernel
theorem d_Rn_seek_49 : decode c_Rn_seek 49 = .ok (.iaload, 1) := by decide +kernel
theorem d_Rn_seek_50 : decode c_Rn_seek 50 = .ok (.istore_n 2, 1) := by decide +kernel
theorem d_Rn_seek_51 : decode c_Rn_seek 51 = .ok (.aload_n 0, 1) := by decide +kernel
theorem d_Rn_seek_52 : decode c_Rn_seek 52 = .ok (.iload_n 2, 1) := by decide +kernel
theorem d_Rn_seek_53 : decode c_Rn_seek 53 = .ok (.invokevirtual 62, 3) := by decide +kernel
theorem d_Rn_seek_56 : decode c_Rn_seek 56 = .ok (.ifCond .ne 7, 3) := by decide +kernel
theorem d_Rn_seek_59 : decode c_Rn_seek 59 = .ok (.iconst 1, 1) := by decide +kernel
theorem d_Rn_seek_60 : decode c_Rn_seek 60 = .ok (.goto 4, 3) := by decide +kernel
theorem d_Rn_seek_63 : decode c_Rn_seek 63 = .ok (.iconst 0, 1) := by decide +kernel
theorem d_Rn_seek_64 : decode c_Rn_seek 64 = .ok (.istore_n 3, 1) := by decide +kernel
theorem d_Rn_seek_65 : decode c_Rn_seek 65 = .ok (.aload_n 0, 1) := by decide +kernel
theorem d_Rn_seek_66 : decode c_Rn_seek 66 = .ok (.getfield 32, 3) := by decide +kernel
theorem d_Rn_seek_69 : decode c_Rn_seek 69 = .ok (.aload_n 0, 1) := by decide +kernel
theorem d_Rn_seek_70 : decode c_Rn_seek 70 = .ok (.getfield 29, 3) := by decide +kernel
theorem d_Rn_seek_73 : decode c_Rn_seek 73 = .ok (.aload_n 0, 1) := by decide +kernel
theorem d_Rn_seek_74 : decode c_Rn_seek 74 = .ok (.getfield 22, 3) := by decide +kernel
theorem d_Rn_seek_77 : decode c_Rn_seek 77 = .ok (.iastore, 1) := by decide +kernel
theorem d_Rn_seek_78 : decode c_Rn_seek 78 = .ok (.aload_n 0, 1) := by decide +kernel
theorem d_Rn_seek_79 : decode c_Rn_seek 79 = .ok (.getfield 35, 3) := by decide +kernel
theorem d_Rn_seek_82 : decode c_Rn_seek 82 = .ok (.aload_n 0, 1) := by decide +kernel
theorem d_Rn_seek_83 : decode c_Rn_seek 83 = .ok (.getfield 29, 3) := by decide +kernel
theorem d_Rn_seek_86 : decode c_Rn_seek 86 = .ok (.iload_n 3, 1) := by decide +kernel
theorem d_Rn_seek_87 : decode c_Rn_seek 87 = .ok (.bastore, 1) := by decide +kernel
theorem d_Rn_seek_88 : decode c_Rn_seek 88 = .ok (.aload_n 0, 1) := by decide +kernel
theorem d_Rn_seek_89 : decode c_Rn_seek 89 = .ok (.dup, 1) := by decide +kernel
theorem d_Rn_seek_90 : decode c_Rn_seek 90 = .ok (.getfield 29, 3) := by decide +kernel
theorem d_Rn_seek_93 : decode c_Rn_seek 93 = .ok (.iconst 1, 1) := by decide +kernel
theorem d_Rn_seek_94 : decode c_Rn_seek 94 = .ok (.iadd, 1) := by decide +kernel
theorem d_Rn_seek_95 : decode c_Rn_seek 95 = .ok (.putfield 29, 3) := by decide +kernel
theorem d_Rn_seek_98 : decode c_Rn_seek 98 = .ok (.aload_n 0, 1) := by decide +kernel
theorem d_Rn_seek_99 : decode c_Rn_seek 99 = .ok (.dup, 1) := by decide +kernel
theorem d_Rn_seek_100 : decode c_Rn_seek 100 = .ok (.getfield 26, 3) := by decide +kernel
theorem d_Rn_seek_103 : decode c_Rn_seek 103 = .ok (.iload_n 3, 1) := by decide +kernel
theorem d_Rn_seek_104 : decode c_Rn_seek 104 = .ok (.ifCond .eq 17, 3) := by decide +kernel
theorem d_Rn_seek_107 : decode c_Rn_seek 107 = .ok (.iconst 1, 1) := by decide +kernel
theorem d_Rn_seek_108 : decode c_Rn_seek 108 = .ok (.aload_n 0, 1) := by decide +kernel
theorem d_Rn_seek_109 : decode c_Rn_seek 109 = .ok (.getfield 45, 3) := by decide +kernel
theorem d_Rn_seek_112 : decode c_Rn_seek 112 = .ok (.getfield 136, 3) := by decide +kernel
theorem d_Rn_seek_115 : decode c_Rn_seek 115 = .ok (.iload_n 2, 1) := by decide +kernel
theorem d_Rn_seek_116 : decode c_Rn_seek 116 = .ok (.iaload, 1) := by decide +kernel
theorem d_Rn_seek_117 : decode c_Rn_seek 117 = .ok (.iadd, 1) := by decide +kernel
theorem d_Rn_seek_118 : decode c_Rn_seek 118 = .ok (.goto 4, 3) := by decide +kernel
theorem d_Rn_seek_121 : decode c_Rn_seek 121 = .ok (.iconst 1, 1) := by decide +kernel
theorem d_Rn_seek_122 : decode c_Rn_seek 122 = .ok (.iadd, 1) := by decide +kernel
theorem d_Rn_seek_123 : decode c_Rn_seek 123 = .ok (.putfield 26, 3) := by decide +kernel
theorem d_Rn_seek_126 : decode c_Rn_seek 126 = .ok (.aload_n 0, 1) := by decide +kernel
theorem d_Rn_seek_127 : decode c_Rn_seek 127 = .ok (.iload_n 3, 1) := by decide +kernel
theorem d_Rn_seek_128 : decode c_Rn_seek 128 = .ok (.ifCond .eq 18, 3) := by decide +kernel
theorem d_Rn_seek_131 : decode c_Rn_seek 131 = .ok (.aload_n 0, 1) := by decide +kernel
theorem d_Rn_seek_132 : decode c_Rn_seek 132 = .ok (.getfield 45, 3) := by decide +kernel
theorem d_Rn_seek_135 : decode c_Rn_seek 135 = .ok (.getfield 94, 3) := by decide +kernel
theorem d_Rn_seek_138 : decode c_Rn_seek 138 = .ok (.aload_n 0, 1) := by decide +kernel
theorem d_Rn_seek_139 : decode c_Rn_seek 139 = .ok (.getfield 22, 3) := by decide +kernel
theorem d_Rn_seek_142 : decode c_Rn_seek 142 = .ok (.iaload, 1) := by decide +kernel
theorem d_Rn_seek_143 : decode c_Rn_seek 143 = .ok (.goto 4, 3) := by decide +kernel
theorem d_Rn_seek_146 : decode c_Rn_seek 146 = .ok (.iload_n 2, 1) := by decide +kernel
theorem d_Rn_seek_147 : decode c_Rn_seek 147 = .ok (.putfield 22, 3) := by decide +kernel
theorem d_Rn_seek_150 : decode c_Rn_seek 150 = .ok (.goto (-135), 3) := by decide +kernel
theorem d_Rn_seek_153 : decode c_Rn_seek 153 = .ok (.return_, 1) := by decide +kernel
theorem d_Rn_filled_0 : decode c_Rn_filled 0 = .ok (.iload_n 1, 1) := by decide +kernel
theorem d_Rn_filled_1 : decode c_Rn_filled 1 = .ok (.ifCond .lt 15, 3) := by decide +kernel
theorem d_Rn_filled_4 : decode c_Rn_filled 4 = .ok (.aload_n 0, 1) := by decide +kernel
theorem d_Rn_filled_5 : decode c_Rn_filled 5 = .ok (.getfield 45, 3) := by decide +kernel
theorem d_Rn_filled_8 : decode c_Rn_filled 8 = .ok (.getfield 116, 3) := by decide +kernel
theorem d_Rn_filled_11 : decode c_Rn_filled 11 = .ok (.iload_n 1, 1) := by decide +kernel
theorem d_Rn_filled_12 : decode c_Rn_filled 12 = .ok (.iaload, 1) := by decide +kernel
theorem d_Rn_filled_13 : decode c_Rn_filled 13 = .ok (.ifCond .ne 5, 3) := by decide +kernel
theorem d_Rn_filled_16 : decode c_Rn_filled 16 = .ok (.iload_n 1, 1) := by decide +kernel
theorem d_Rn_filled_17 : decode c_Rn_filled 17 = .ok (.ireturn, 1) := by decide +kernel
theorem d_Rn_filled_18 : decode c_Rn_filled 18 = .ok (.aload_n 0, 1) := by decide +kernel
theorem d_Rn_filled_19 : decode c_Rn_filled 19 = .ok (.getfield 45, 3) := by decide +kernel
theorem d_Rn_filled_22 : decode c_Rn_filled 22 = .ok (.getfield 107, 3) := by decide +kernel
theorem d_Rn_filled_25 : decode c_Rn_filled 25 = .ok (.iload_n 1, 1) := by decide +kernel
theorem d_Rn_filled_26 : decode c_Rn_filled 26 = .ok (.iaload, 1) := by decide +kernel
theorem d_Rn_filled_27 : decode c_Rn_filled 27 = .ok (.istore_n 2, 1) := by decide +kernel
theorem d_Rn_filled_28 : decode c_Rn_filled 28 = .ok (.iload_n 2, 1) := by decide +kernel
theorem d_Rn_filled_29 : decode c_Rn_filled 29 = .ok (.bipush 100, 2) := by decide +kernel
theorem d_Rn_filled_31 : decode c_Rn_filled 31 = .ok (.if_icmp .lt 13, 3) := by decide +kernel
theorem d_Rn_filled_34 : decode c_Rn_filled 34 = .ok (.aload_n 0, 1) := by decide +kernel
theorem d_Rn_filled_35 : decode c_Rn_filled 35 = .ok (.getfield 19, 3) := by decide +kernel
theorem d_Rn_filled_38 : decode c_Rn_filled 38 = .ok (.iload_n 2, 1) := by decide +kernel
theorem d_Rn_filled_39 : decode c_Rn_filled 39 = .ok (.bipush 100, 2) := by decide +kernel
theorem d_Rn_filled_41 : decode c_Rn_filled 41 = .ok (.isub, 1) := by decide +kernel
theorem d_Rn_filled_42 : decode c_Rn_filled 42 = .ok (.iaload, 1) := by decide +kernel
theorem d_Rn_filled_43 : decode c_Rn_filled 43 = .ok (.ireturn, 1) := by decide +kernel
theorem d_Rn_filled_44 : decode c_Rn_filled 44 = .ok (.aload_n 0, 1) := by decide +kernel
theorem d_Rn_filled_45 : decode c_Rn_filled 45 = .ok (.aload_n 0, 1) := by decide +kernel
theorem d_Rn_filled_46 : decode c_Rn_filled 46 = .ok (.getfield 45, 3) := by decide +kernel
theorem d_Rn_filled_49 : decode c_Rn_filled 49 = .ok (.getfield 89, 3) := by decide +kernel
theorem d_Rn_filled_52 : decode c_Rn_filled 52 = .ok (.iload_n 1, 1) := by decide +kernel
theorem d_Rn_filled_53 : decode c_Rn_filled 53 = .ok (.iaload, 1) := by decide +kernel
theorem d_Rn_filled_54 : decode c_Rn_filled 54 = .ok (.invokevirtual 129, 3) := by decide +kernel
theorem d_Rn_filled_57 : decode c_Rn_filled 57 = .ok (.istore_n 3, 1) := by decide +kernel
theorem d_Rn_filled_58 : decode c_Rn_filled 58 = .ok (.iload_n 3, 1) := by decide +kernel
theorem d_Rn_filled_59 : decode c_Rn_filled 59 = .ok (.ifCond .ge 7, 3) := by decide +kernel
theorem d_Rn_filled_62 : decode c_Rn_filled 62 = .ok (.iconst (-1), 1) := by decide +kernel
theorem d_Rn_filled_63 : decode c_Rn_filled 63 = .ok (.goto 16, 3) := by decide +kernel
theorem d_Rn_filled_66 : decode c_Rn_filled 66 = .ok (.aload_n 0, 1) := by decide +kernel
theorem d_Rn_filled_67 : decode c_Rn_filled 67 = .ok (.aload_n 0, 1) := by decide +kernel
theorem d_Rn_filled_68 : decode c_Rn_filled 68 = .ok (.getfield 45, 3) := by decide +kernel
theorem d_Rn_filled_71 : decode c_Rn_filled 71 = .ok (.getfield 94, 3) := by decide +kernel
theorem d_Rn_filled_74 : decode c_Rn_filled 74 = .ok (.iload_n 1, 1) := by decide +kernel
theorem d_Rn_filled_75 : decode c_Rn_filled 75 = .ok (.iaload, 1) := by decide +kernel
theorem d_Rn_filled_76 : decode c_Rn_filled 76 = .ok (.invokevirtual 129, 3) := by decide +kernel
theorem d_Rn_filled_79 : decode c_Rn_filled 79 = .ok (.istore 4, 2) := by decide +kernel
theorem d_Rn_filled_81 : decode c_Rn_filled 81 = .ok (.iload_n 3, 1) := by decide +kernel
theorem d_Rn_filled_82 : decode c_Rn_filled 82 = .ok (.ifCond .lt 20, 3) := by decide +kernel
theorem d_Rn_filled_85 : decode c_Rn_filled 85 = .ok (.iload 4, 2) := by decide +kernel
theorem d_Rn_filled_87 : decode c_Rn_filled 87 = .ok (.ifCond .ge 17, 3) := by decide +kernel
theorem d_Rn_filled_90 : decode c_Rn_filled 90 = .ok (.aload_n 0, 1) := by decide +kernel
theorem d_Rn_filled_91 : decode c_Rn_filled 91 = .ok (.getfield 45, 3) := by decide +kernel
theorem d_Rn_filled_94 : decode c_Rn_filled 94 = .ok (.getfield 94, 3) := by decide +kernel
theorem d_Rn_filled_97 : decode c_Rn_filled 97 = .ok (.iload_n 1, 1) := by decide +kernel
theorem d_Rn_filled_98 : decode c_Rn_filled 98 = .ok (.iaload, 1) := by decide +kernel
theorem d_Rn_filled_99 : decode c_Rn_filled 99 = .ok (.ifCond .lt 5, 3) := by decide +kernel
theorem d_Rn_filled_102 : decode c_Rn_filled 102 = .ok (.iconst (-1), 1) := by decide +kernel
theorem d_Rn_filled_103 : decode c_Rn_filled 103 = .ok (.ireturn, 1) := by decide +kernel
theorem d_Rn_filled_104 : decode c_Rn_filled 104 = .ok (.aload_n 0, 1) := by decide +kernel
theorem d_Rn_filled_105 : decode c_Rn_filled 105 = .ok (.getfield 45, 3) := by decide +kernel
theorem d_Rn_filled_108 : decode c_Rn_filled 108 = .ok (.iload_n 2, 1) := by decide +kernel
theorem d_Rn_filled_109 : decode c_Rn_filled 109 = .ok (.iload_n 3, 1) := by decide +kernel
theorem d_Rn_filled_110 : decode c_Rn_filled 110 = .ok (.iload 4, 2) := by decide +kernel
theorem d_Rn_filled_112 : decode c_Rn_filled 112 = .ok (.invokevirtual 132, 3) := by decide +kernel
theorem d_Rn_filled_115 : decode c_Rn_filled 115 = .ok (.ireturn, 1) := by decide +kernel
theorem d_Ro_add_0 : decode c_Ro_add 0 = .ok (.aload_n 0, 1) := by decide +kernel
theorem d_Ro_add_1 : decode c_Ro_add 1 = .ok (.getfield 15, 3) := by decide +kernel
theorem d_Ro_add_4 : decode c_Ro_add 4 = .ok (.sipush 200, 3) := by decide +kernel
theorem d_Ro_add_7 : decode c_Ro_add 7 = .ok (.if_icmp .lt 4, 3) := by decide +kernel
theorem d_Ro_add_10 : decode c_Ro_add 10 = .ok (.return_, 1) := by decide +kernel
theorem d_Ro_add_11 : decode c_Ro_add 11 = .ok (.aload_n 0, 1) := by decide +kernel
theorem d_Ro_add_12 : decode c_Ro_add 12 = .ok (.getfield 15, 3) := by decide +kernel
theorem d_Ro_add_15 : decode c_Ro_add 15 = .ok (.iconst 4, 1) := by decide +kernel
theorem d_Ro_add_16 : decode c_Ro_add 16 = .ok (.imul, 1) := by decide +kernel
theorem d_Ro_add_17 : decode c_Ro_add 17 = .ok (.istore 5, 2) := by decide +kernel
theorem d_Ro_add_19 : decode c_Ro_add 19 = .ok (.aload_n 0, 1) := by decide +kernel
theorem d_Ro_add_20 : decode c_Ro_add 20 = .ok (.getfield 9, 3) := by decide +kernel
theorem d_Ro_add_23 : decode c_Ro_add 23 = .ok (.iload 5, 2) := by decide +kernel
theorem d_Ro_add_25 : decode c_Ro_add 25 = .ok (.iload_n 1, 1) := by decide +kernel
theorem d_Ro_add_26 : decode c_Ro_add 26 = .ok (.iastore, 1) := by decide +kernel
theorem d_Ro_add_27 : decode c_Ro_add 27 = .ok (.aload_n 0, 1) := by decide +kernel
theorem d_Ro_add_28 : decode c_Ro_add 28 = .ok (.getfield 9, 3) := by decide +kernel
theorem d_Ro_add_31 : decode c_Ro_add 31 = .ok (.iload 5, 2) := by decide +kernel
theorem d_Ro_add_33 : decode c_Ro_add 33 = .ok (.iconst 1, 1) := by decide +kernel
theorem d_Ro_add_34 : decode c_Ro_add 34 = .ok (.iadd, 1) := by decide +kernel
theorem d_Ro_add_35 : decode c_Ro_add 35 = .ok (.iload_n 2, 1) := by decide +kernel
theorem d_Ro_add_36 : decode c_Ro_add 36 = .ok (.iastore, 1) := by decide +kernel
theorem d_Ro_add_37 : decode c_Ro_add 37 = .ok (.aload_n 0, 1) := by decide +kernel
theorem d_Ro_add_38 : decode c_Ro_add 38 = .ok (.getfield 9, 3) := by decide +kernel
theorem d_Ro_add_41 : decode c_Ro_add 41 = .ok (.iload 5, 2) := by decide +kernel
theorem d_Ro_add_43 : decode c_Ro_add 43 = .ok (.iconst 2, 1) := by decide +kernel
theorem d_Ro_add_44 : decode c_Ro_add 44 = .ok (.iadd, 1) := by decide +kernel
theorem d_Ro_add_45 : decode c_Ro_add 45 = .ok (.iload_n 3, 1) := by decide +kernel
theorem d_Ro_add_46 : decode c_Ro_add 46 = .ok (.iastore, 1) := by decide +kernel
theorem d_Ro_add_47 : decode c_Ro_add 47 = .ok (.aload_n 0, 1) := by decide +kernel
theorem d_Ro_add_48 : decode c_Ro_add 48 = .ok (.getfield 9, 3) := by decide +kernel
theorem d_Ro_add_51 : decode c_Ro_add 51 = .ok (.iload 5, 2) := by decide +kernel
theorem d_Ro_add_53 : decode c_Ro_add 53 = .ok (.iconst 3, 1) := by decide +kernel
theorem d_Ro_add_54 : decode c_Ro_add 54 = .ok (.iadd, 1) := by decide +kernel
theorem d_Ro_add_55 : decode c_Ro_add 55 = .ok (.iload 4, 2) := by decide +kernel
theorem d_Ro_add_57 : decode c_Ro_add 57 = .ok (.iastore, 1) := by decide +kernel
theorem d_Ro_add_58 : decode c_Ro_add 58 = .ok (.aload_n 0, 1) := by decide +kernel
theorem d_Ro_add_59 : decode c_Ro_add 59 = .ok (.dup, 1) := by decide +kernel
theorem d_Ro_add_60 : decode c_Ro_add 60 = .ok (.getfield 15, 3) := by decide +kernel
theorem d_Ro_add_63 : decode c_Ro_add 63 = .ok (.iconst 1, 1) := by decide +kernel
theorem d_Ro_add_64 : decode c_Ro_add 64 = .ok (.iadd, 1) := by decide +kernel
theorem d_Ro_add_65 : decode c_Ro_add 65 = .ok (.putfield 15, 3) := by decide +kernel
theorem d_Ro_add_68 : decode c_Ro_add 68 = .ok (.return_, 1) := by decide +kernel
theorem d_Tr_shrinkTo_0 : decode c_Tr_shrinkTo 0 = .ok (.aload_n 0, 1) := by decide +kernel
theorem d_Tr_shrinkTo_1 : decode c_Tr_shrinkTo 1 = .ok (.getfield 42, 3) := by decide +kernel
theorem d_Tr_shrinkTo_4 : decode c_Tr_shrinkTo 4 = .ok (.iload_n 1, 1) := by decide +kernel
theorem d_Tr_shrinkTo_5 : decode c_Tr_shrinkTo 5 = .ok (.if_icmp .le 68, 3) := by decide +kernel
theorem d_Tr_shrinkTo_8 : decode c_Tr_shrinkTo 8 = .ok (.aload_n 0, 1) := by decide +kernel
theorem d_Tr_shrinkTo_9 : decode c_Tr_shrinkTo 9 = .ok (.getfield 42, 3) := by decide +kernel
theorem d_Tr_shrinkTo_12 : decode c_Tr_shrinkTo 12 = .ok (.ifCond .le 61, 3) := by decide +kernel
theorem d_Tr_shrinkTo_15 : decode c_Tr_shrinkTo 15 = .ok (.aload_n 0, 1) := by decide +kernel
theorem d_Tr_shrinkTo_16 : decode c_Tr_shrinkTo 16 = .ok (.dup, 1) := by decide +kernel
theorem d_Tr_shrinkTo_17 : decode c_Tr_shrinkTo 17 = .ok (.getfield 42, 3) := by decide +kernel
theorem d_Tr_shrinkTo_20 : decode c_Tr_shrinkTo 20 = .ok (.iconst 1, 1) := by decide +kernel
theorem d_Tr_shrinkTo_21 : decode c_Tr_shrinkTo 21 = .ok (.isub, 1) := by decide +kernel
theorem d_Tr_shrinkTo_22 : decode c_Tr_shrinkTo 22 = .ok (.putfield 42, 3) := by decide +kernel
theorem d_Tr_shrinkTo_25 : decode c_Tr_shrinkTo 25 = .ok (.aload_n 0, 1) := by decide +kernel
theorem d_Tr_shrinkTo_26 : decode c_Tr_shrinkTo 26 = .ok (.getfield 36, 3) := by decide +kernel
theorem d_Tr_shrinkTo_29 : decode c_Tr_shrinkTo 29 = .ok (.aload_n 0, 1) := by decide +kernel
theorem d_Tr_shrinkTo_30 : decode c_Tr_shrinkTo 30 = .ok (.aload_n 0, 1) := by decide +kernel
theorem d_Tr_shrinkTo_31 : decode c_Tr_shrinkTo 31 = .ok (.getfield 9, 3) := by decide +kernel
theorem d_Tr_shrinkTo_34 : decode c_Tr_shrinkTo 34 = .ok (.aload_n 0, 1) := by decide +kernel
theorem d_Tr_shrinkTo_35 : decode c_Tr_shrinkTo 35 = .ok (.getfield 42, 3) := by decide +kernel
theorem d_Tr_shrinkTo_38 : decode c_Tr_shrinkTo 38 = .ok (.iaload, 1) := by decide +kernel
theorem d_Tr_shrinkTo_39 : decode c_Tr_shrinkTo 39 = .ok (.aload_n 0, 1) := by decide +kernel
theorem d_Tr_shrinkTo_40 : decode c_Tr_shrinkTo 40 = .ok (.getfield 15, 3) := by decide +kernel
theorem d_Tr_shrinkTo_43 : decode c_Tr_shrinkTo 43 = .ok (.aload_n 0, 1) := by decide +kernel
theorem d_Tr_shrinkTo_44 : decode c_Tr_shrinkTo 44 = .ok (.getfield 42, 3) := by decide +kernel
theorem d_Tr_shrinkTo_47 : decode c_Tr_shrinkTo 47 = .ok (.iaload, 1) := by decide +kernel
theorem d_Tr_shrinkTo_48 : decode c_Tr_shrinkTo 48 = .ok (.aload_n 0, 1) := by decide +kernel
theorem d_Tr_shrinkTo_49 : decode c_Tr_shrinkTo 49 = .ok (.getfield 18, 3) := by decide +kernel
theorem d_Tr_shrinkTo_52 : decode c_Tr_shrinkTo 52 = .ok (.aload_n 0, 1) := by decide +kernel
theorem d_Tr_shrinkTo_53 : decode c_Tr_shrinkTo 53 = .ok (.getfield 42, 3) := by decide +kernel
theorem d_Tr_shrinkTo_56 : decode c_Tr_shrinkTo 56 = .ok (.iaload, 1) := by decide +kernel
theorem d_Tr_shrinkTo_57 : decode c_Tr_shrinkTo 57 = .ok (.invokevirtual 52, 3) := by decide +kernel
theorem d_Tr_shrinkTo_60 : decode c_Tr_shrinkTo 60 = .ok (.aload_n 0, 1) := by decide +kernel
theorem d_Tr_shrinkTo_61 : decode c_Tr_shrinkTo 61 = .ok (.getfield 39, 3) := by decide +kernel
theorem d_Tr_shrinkTo_64 : decode c_Tr_shrinkTo 64 = .ok (.aload_n 0, 1) := by decide +kernel
theorem d_Tr_shrinkTo_65 : decode c_Tr_shrinkTo 65 = .ok (.getfield 42, 3) := by decide +kernel
theorem d_Tr_shrinkTo_68 : decode c_Tr_shrinkTo 68 = .ok (.iaload, 1) := by decide +kernel
theorem d_Tr_shrinkTo_69 : decode c_Tr_shrinkTo 69 = .ok (.iastore, 1) := by decide +kernel
theorem d_Tr_shrinkTo_70 : decode c_Tr_shrinkTo 70 = .ok (.goto (-70), 3) := by decide +kernel
theorem d_Tr_shrinkTo_73 : decode c_Tr_shrinkTo 73 = .ok (.return_, 1) := by decide +kernel
theorem d_Tr_treeAt_0 : decode c_Tr_treeAt 0 = .ok (.iload_n 2, 1) := by decide +kernel
theorem d_Tr_treeAt_1 : decode c_Tr_treeAt 1 = .ok (.ifCond .lt 13, 3) := by decide +kernel
theorem d_Tr_treeAt_4 : decode c_Tr_treeAt 4 = .ok (.iload_n 2, 1) := by decide +kernel
theorem d_Tr_treeAt_5 : decode c_Tr_treeAt 5 = .ok (.aload_n 0, 1) := by decide +kernel
theorem d_Tr_treeAt_6 : decode c_Tr_treeAt 6 = .ok (.getfield 24, 3) := by decide +kernel
theorem d_Tr_treeAt_9 : decode c_Tr_treeAt 9 = .ok (.iload_n 1, 1) := by decide +kernel
theorem d_Tr_treeAt_10 : decode c_Tr_treeAt 10 = .ok (.iaload, 1) := by decide +kernel
theorem d_Tr_treeAt_11 : decode c_Tr_treeAt 11 = .ok (.if_icmp .lt 5, 3) := by decide +kernel
theorem d_Tr_treeAt_14 : decode c_Tr_treeAt 14 = .ok (.iconst (-1), 1) := by decide +kernel
theorem d_Tr_treeAt_15 : decode c_Tr_treeAt 15 = .ok (.ireturn, 1) := by decide +kernel
theorem d_Tr_treeAt_16 : decode c_Tr_treeAt 16 = .ok (.iload_n 1, 1) := by decide +kernel
theorem d_Tr_treeAt_17 : decode c_Tr_treeAt 17 = .ok (.istore_n 3, 1) := by decide +kernel
theorem d_Tr_treeAt_18 : decode c_Tr_treeAt 18 = .ok (.iload_n 2, 1) := by decide +kernel
theorem d_Tr_treeAt_19 : decode c_Tr_treeAt 19 = .ok (.istore 4, 2) := by decide +kernel
theorem d_Tr_treeAt_21 : decode c_Tr_treeAt 21 = .ok (.iload 4, 2) := by decide +kernel
theorem d_Tr_treeAt_23 : decode c_Tr_treeAt 23 = .ok (.ifCond .le 61, 3) := by decide +kernel
theorem d_Tr_treeAt_26 : decode c_Tr_treeAt 26 = .ok (.aload_n 0, 1) := by decide +kernel
theorem d_Tr_treeAt_27 : decode c_Tr_treeAt 27 = .ok (.iload_n 3, 1) := by decide +kernel
theorem d_Tr_treeAt_28 : decode c_Tr_treeAt 28 = .ok (.invokevirtual 80, 3) := by decide +kernel
theorem d_Tr_treeAt_31 : decode c_Tr_treeAt 31 = .ok (.ifCond .eq 53, 3) := by decide +kernel
theorem d_Tr_treeAt_34 : decode c_Tr_treeAt 34 = .ok (.iinc 4 (-1), 3) := by decide +kernel
theorem d_Tr_treeAt_37 : decode c_Tr_treeAt 37 = .ok (.aload_n 0, 1) := by decide +kernel
theorem d_Tr_treeAt_38 : decode c_Tr_treeAt 38 = .ok (.getfield 24, 3) := by decide +kernel
theorem d_Tr_treeAt_41 : decode c_Tr_treeAt 41 = .ok (.aload_n 0, 1) := by decide +kernel
theorem d_Tr_treeAt_42 : decode c_Tr_treeAt 42 = .ok (.getfield 15, 3) := by decide +kernel
theorem d_Tr_treeAt_45 : decode c_Tr_treeAt 45 = .ok (.iload_n 3, 1) := by decide +kernel
theorem d_Tr_treeAt_46 : decode c_Tr_treeAt 46 = .ok (.iaload, 1) := by decide +kernel
theorem d_Tr_treeAt_47 : decode c_Tr_treeAt 47 = .ok (.iaload, 1) := by decide +kernel
theorem d_Tr_treeAt_48 : decode c_Tr_treeAt 48 = .ok (.istore 5, 2) := by decide +kernel
theorem d_Tr_treeAt_50 : decode c_Tr_treeAt 50 = .ok (.iload 4, 2) := by decide +kernel
theorem d_Tr_treeAt_52 : decode c_Tr_treeAt 52 = .ok (.iload 5, 2) := by decide +kernel
theorem d_Tr_treeAt_54 : decode c_Tr_treeAt 54 = .ok (.if_icmp .ge 13, 3) := by decide +kernel
theorem d_Tr_treeAt_57 : decode c_Tr_treeAt 57 = .ok (.aload_n 0, 1) := by decide +kernel
theorem d_Tr_treeAt_58 : decode c_Tr_treeAt 58 = .ok (.getfield 15, 3) := by decide +kernel
theorem d_Tr_treeAt_61 : decode c_Tr_treeAt 61 = .ok (.iload_n 3, 1) := by decide +kernel
theorem d_Tr_treeAt_62 : decode c_Tr_treeAt 62 = .ok (.iaload, 1) := by decide +kernel
theorem d_Tr_treeAt_63 : decode c_Tr_treeAt 63 = .ok (.istore_n 3, 1) := by decide +kernel
theorem d_Tr_treeAt_64 : decode c_Tr_treeAt 64 = .ok (.goto 17, 3) := by decide +kernel
theorem d_Tr_treeAt_67 : decode c_Tr_treeAt 67 = .ok (.iload 4, 2) := by decide +kernel
theorem d_Tr_treeAt_69 : decode c_Tr_treeAt 69 = .ok (.iload 5, 2) := by decide +kernel
theorem d_Tr_treeAt_71 : decode c_Tr_treeAt 71 = .ok (.isub, 1) := by decide +kernel
theorem d_Tr_treeAt_72 : decode c_Tr_treeAt 72 = .ok (.istore 4, 2) := by decide +kernel
theorem d_Tr_treeAt_74 : decode c_Tr_treeAt 74 = .ok (.aload_n 0, 1) := by decide +kernel
theorem d_Tr_treeAt_75 : decode c_Tr_treeAt 75 = .ok (.getfield 18, 3) := by decide +kernel
theorem d_Tr_treeAt_78 : decode c_Tr_treeAt 78 = .ok (.iload_n 3, 1) := by decide +kernel
theorem d_Tr_treeAt_79 : decode c_Tr_treeAt 79 = .ok (.iaload, 1) := by decide +kernel
theorem d_Tr_treeAt_80 : decode c_Tr_treeAt 80 = .ok (.istore_n 3, 1) := by decide +kernel
theorem d_Tr_treeAt_81 : decode c_Tr_treeAt 81 = .ok (.goto (-60), 3) := by decide +kernel
theorem d_Tr_treeAt_84 : decode c_Tr_treeAt 84 = .ok (.iload_n 3, 1) := by decide +kernel
theorem d_Tr_treeAt_85 : decode c_Tr_treeAt 85 = .ok (.ireturn, 1) := by decide +kernel
end
section
/-! decode rows, laid by a program -/
theorem d_RS_init_0 : decode c_RS_init 0 = .ok (.aload_n 0, 1) := by decide +kernel
theorem d_RS_init_1 : decode c_RS_init 1 = .ok (.invokespecial 1, 3) := by decide +kernel
theorem d_RS_init_4 : decode c_RS_init 4 = .ok (.aload_n 0, 1) := by decide +kernel
theorem d_RS_init_5 : decode c_RS_init 5 = .ok (.new 7, 3) := by decide +kernel
theorem d_RS_init_8 : decode c_RS_init 8 = .ok (.dup, 1) := by decide +kernel
theorem d_RS_init_9 : decode c_RS_init 9 = .ok (.invokespecial 9, 3) := by decide +kernel
theorem d_RS_init_12 : decode c_RS_init 12 = .ok (.putfield 10, 3) := by decide +kernel
theorem d_RS_init_15 : decode c_RS_init 15 = .ok (.aload_n 0, 1) := by decide +kernel
theorem d_RS_init_16 : decode c_RS_init 16 = .ok (.new 16, 3) := by decide +kernel
theorem d_RS_init_19 : decode c_RS_init 19 = .ok (.dup, 1) := by decide +kernel
theorem d_RS_init_20 : decode c_RS_init 20 = .ok (.invokespecial 18, 3) := by decide +kernel
theorem d_RS_init_23 : decode c_RS_init 23 = .ok (.putfield 19, 3) := by decide +kernel
theorem d_RS_init_26 : decode c_RS_init 26 = .ok (.aload_n 0, 1) := by decide +kernel
theorem d_RS_init_27 : decode c_RS_init 27 = .ok (.new 23, 3) := by decide +kernel
theorem d_RS_init_30 : decode c_RS_init 30 = .ok (.dup, 1) := by decide +kernel
theorem d_RS_init_31 : decode c_RS_init 31 = .ok (.aload_n 0, 1) := by decide +kernel
theorem d_RS_init_32 : decode c_RS_init 32 = .ok (.getfield 10, 3) := by decide +kernel
theorem d_RS_init_35 : decode c_RS_init 35 = .ok (.aload_n 0, 1) := by decide +kernel
theorem d_RS_init_36 : decode c_RS_init 36 = .ok (.getfield 19, 3) := by decide +kernel
theorem d_RS_init_39 : decode c_RS_init 39 = .ok (.invokespecial 25, 3) := by decide +kernel
theorem d_RS_init_42 : decode c_RS_init 42 = .ok (.putfield 28, 3) := by decide +kernel
theorem d_RS_init_45 : decode c_RS_init 45 = .ok (.aload_n 0, 1) := by decide +kernel
theorem d_RS_init_46 : decode c_RS_init 46 = .ok (.new 32, 3) := by decide +kernel
theorem d_RS_init_49 : decode c_RS_init 49 = .ok (.dup, 1) := by decide +kernel
theorem d_RS_init_50 : decode c_RS_init 50 = .ok (.invokespecial 34, 3) := by decide +kernel
theorem d_RS_init_53 : decode c_RS_init 53 = .ok (.putfield 35, 3) := by decide +kernel
theorem d_RS_init_56 : decode c_RS_init 56 = .ok (.aload_n 0, 1) := by decide +kernel
theorem d_RS_init_57 : decode c_RS_init 57 = .ok (.new 32, 3) := by decide +kernel
theorem d_RS_init_60 : decode c_RS_init 60 = .ok (.dup, 1) := by decide +kernel
theorem d_RS_init_61 : decode c_RS_init 61 = .ok (.invokespecial 34, 3) := by decide +kernel
theorem d_RS_init_64 : decode c_RS_init 64 = .ok (.putfield 39, 3) := by decide +kernel
theorem d_RS_init_67 : decode c_RS_init 67 = .ok (.aload_n 0, 1) := by decide +kernel
theorem d_RS_init_68 : decode c_RS_init 68 = .ok (.iconst 0, 1) := by decide +kernel
theorem d_RS_init_69 : decode c_RS_init 69 = .ok (.putfield 42, 3) := by decide +kernel
theorem d_RS_init_72 : decode c_RS_init 72 = .ok (.aload_n 0, 1) := by decide +kernel
theorem d_RS_init_73 : decode c_RS_init 73 = .ok (.iconst 0, 1) := by decide +kernel
theorem d_RS_init_74 : decode c_RS_init 74 = .ok (.putfield 46, 3) := by decide +kernel
theorem d_RS_init_77 : decode c_RS_init 77 = .ok (.return_, 1) := by decide +kernel
theorem d_RS_spent_0 : decode c_RS_spent 0 = .ok (.aload_n 0, 1) := by decide +kernel
theorem d_RS_spent_1 : decode c_RS_spent 1 = .ok (.getfield 46, 3) := by decide +kernel
theorem d_RS_spent_4 : decode c_RS_spent 4 = .ok (.ireturn, 1) := by decide +kernel
theorem d_RS_steps_0 : decode c_RS_steps 0 = .ok (.aload_n 0, 1) := by decide +kernel
theorem d_RS_steps_1 : decode c_RS_steps 1 = .ok (.getfield 42, 3) := by decide +kernel
theorem d_RS_steps_4 : decode c_RS_steps 4 = .ok (.ireturn, 1) := by decide +kernel
theorem d_RS_domain_0 : decode c_RS_domain 0 = .ok (.iconst 0, 1) := by decide +kernel
theorem d_RS_domain_1 : decode c_RS_domain 1 = .ok (.istore_n 1, 1) := by decide +kernel
theorem d_RS_domain_2 : decode c_RS_domain 2 = .ok (.iconst 0, 1) := by decide +kernel
theorem d_RS_domain_3 : decode c_RS_domain 3 = .ok (.istore_n 2, 1) := by decide +kernel
theorem d_RS_domain_4 : decode c_RS_domain 4 = .ok (.iload_n 2, 1) := by decide +kernel
theorem d_RS_domain_5 : decode c_RS_domain 5 = .ok (.aload_n 0, 1) := by decide +kernel
theorem d_RS_domain_6 : decode c_RS_domain 6 = .ok (.getfield 35, 3) := by decide +kernel
theorem d_RS_domain_9 : decode c_RS_domain 9 = .ok (.getfield 127, 3) := by decide +kernel
theorem d_RS_domain_12 : decode c_RS_domain 12 = .ok (.if_icmp .ge 38, 3) := by decide +kernel
theorem d_RS_domain_15 : decode c_RS_domain 15 = .ok (.aload_n 0, 1) := by decide +kernel
theorem d_RS_domain_16 : decode c_RS_domain 16 = .ok (.getfield 19, 3) := by decide +kernel
theorem d_RS_domain_19 : decode c_RS_domain 19 = .ok (.getfield 138, 3) := by decide +kernel
theorem d_RS_domain_22 : decode c_RS_domain 22 = .ok (.aload_n 0, 1) := by decide +kernel
theorem d_RS_domain_23 : decode c_RS_domain 23 = .ok (.getfield 35, 3) := by decide +kernel
theorem d_RS_domain_26 : decode c_RS_domain 26 = .ok (.iload_n 2, 1) := by decide +kernel
theorem d_RS_domain_27 : decode c_RS_domain 27 = .ok (.iconst 0, 1) := by decide +kernel
theorem d_RS_domain_28 : decode c_RS_domain 28 = .ok (.invokevirtual 135, 3) := by decide +kernel
theorem d_RS_domain_31 : decode c_RS_domain 31 = .ok (.iaload, 1) := by decide +kernel
theorem d_RS_domain_32 : decode c_RS_domain 32 = .ok (.istore_n 3, 1) := by decide +kernel
theorem d_RS_domain_33 : decode c_RS_domain 33 = .ok (.iload_n 3, 1) := by decide +kernel
theorem d_RS_domain_34 : decode c_RS_domain 34 = .ok (.iconst (-1), 1) := by decide +kernel
theorem d_RS_domain_35 : decode c_RS_domain 35 = .ok (.if_icmp .eq 9, 3) := by decide +kernel
theorem d_RS_domain_38 : decode c_RS_domain 38 = .ok (.iload_n 1, 1) := by decide +kernel
theorem d_RS_domain_39 : decode c_RS_domain 39 = .ok (.iconst 1, 1) := by decide +kernel
theorem d_RS_domain_40 : decode c_RS_domain 40 = .ok (.iload_n 3, 1) := by decide +kernel
theorem d_RS_domain_41 : decode c_RS_domain 41 = .ok (.ishl, 1) := by decide +kernel
theorem d_RS_domain_42 : decode c_RS_domain 42 = .ok (.ior, 1) := by decide +kernel
theorem d_RS_domain_43 : decode c_RS_domain 43 = .ok (.istore_n 1, 1) := by decide +kernel
theorem d_RS_domain_44 : decode c_RS_domain 44 = .ok (.iinc 2 1, 3) := by decide +kernel
theorem d_RS_domain_47 : decode c_RS_domain 47 = .ok (.goto (-43), 3) := by decide +kernel
theorem d_RS_domain_50 : decode c_RS_domain 50 = .ok (.iload_n 1, 1) := by decide +kernel
theorem d_RS_domain_51 : decode c_RS_domain 51 = .ok (.ireturn, 1) := by decide +kernel
theorem d_RS_count_0 : decode c_RS_count 0 = .ok (.iload_n 1, 1) := by decide +kernel
theorem d_RS_count_1 : decode c_RS_count 1 = .ok (.tableswitch 51 0 2 #[27, 35, 43], 27) := by decide +kernel
theorem d_RS_count_28 : decode c_RS_count 28 = .ok (.aload_n 0, 1) := by decide +kernel
theorem d_RS_count_29 : decode c_RS_count 29 = .ok (.getfield 10, 3) := by decide +kernel
theorem d_RS_count_32 : decode c_RS_count 32 = .ok (.getfield 110, 3) := by decide +kernel
theorem d_RS_count_35 : decode c_RS_count 35 = .ok (.ireturn, 1) := by decide +kernel
theorem d_RS_count_36 : decode c_RS_count 36 = .ok (.aload_n 0, 1) := by decide +kernel
theorem d_RS_count_37 : decode c_RS_count 37 = .ok (.getfield 19, 3) := by decide +kernel
theorem d_RS_count_40 : decode c_RS_count 40 = .ok (.getfield 164, 3) := by decide +kernel
theorem d_RS_count_43 : decode c_RS_count 43 = .ok (.ireturn, 1) := by decide +kernel
theorem d_RS_count_44 : decode c_RS_count 44 = .ok (.aload_n 0, 1) := by decide +kernel
theorem d_RS_count_45 : decode c_RS_count 45 = .ok (.getfield 35, 3) := by decide +kernel
theorem d_RS_count_48 : decode c_RS_count 48 = .ok (.getfield 127, 3) := by decide +kernel
theorem d_RS_count_51 : decode c_RS_count 51 = .ok (.ireturn, 1) := by decide +kernel
theorem d_RS_count_52 : decode c_RS_count 52 = .ok (.iconst (-1), 1) := by decide +kernel
theorem d_RS_count_53 : decode c_RS_count 53 = .ok (.ireturn, 1) := by decide +kernel
theorem d_RS_leaf_0 : decode c_RS_leaf 0 = .ok (.iload_n 1, 1) := by decide +kernel
theorem d_RS_leaf_1 : decode c_RS_leaf 1 = .ok (.ifCond .lt 9, 3) := by decide +kernel
theorem d_RS_leaf_4 : decode c_RS_leaf 4 = .ok (.iload_n 1, 1) := by decide +kernel
theorem d_RS_leaf_5 : decode c_RS_leaf 5 = .ok (.bipush 20, 2) := by decide +kernel
theorem d_RS_leaf_7 : decode c_RS_leaf 7 = .ok (.if_icmp .lt 13, 3) := by decide +kernel
theorem d_RS_leaf_10 : decode c_RS_leaf 10 = .ok (.new 50, 3) := by decide +kernel
theorem d_RS_leaf_13 : decode c_RS_leaf 13 = .ok (.dup, 1) := by decide +kernel
theorem d_RS_leaf_14 : decode c_RS_leaf 14 = .ok (.ldc 52, 2) := by decide +kernel
theorem d_RS_leaf_16 : decode c_RS_leaf 16 = .ok (.invokespecial 54, 3) := by decide +kernel
theorem d_RS_leaf_19 : decode c_RS_leaf 19 = .ok (.athrow, 1) := by decide +kernel
theorem d_RS_leaf_20 : decode c_RS_leaf 20 = .ok (.aload_n 0, 1) := by decide +kernel
theorem d_RS_leaf_21 : decode c_RS_leaf 21 = .ok (.getfield 10, 3) := by decide +kernel
theorem d_RS_leaf_24 : decode c_RS_leaf 24 = .ok (.iconst (-1), 1) := by decide +kernel
theorem d_RS_leaf_25 : decode c_RS_leaf 25 = .ok (.iload_n 1, 1) := by decide +kernel
theorem d_RS_leaf_26 : decode c_RS_leaf 26 = .ok (.isub, 1) := by decide +kernel
theorem d_RS_leaf_27 : decode c_RS_leaf 27 = .ok (.iconst (-1), 1) := by decide +kernel
theorem d_RS_leaf_28 : decode c_RS_leaf 28 = .ok (.iconst (-1), 1) := by decide +kernel
theorem d_RS_leaf_29 : decode c_RS_leaf 29 = .ok (.invokevirtual 57, 3) := by decide +kernel
theorem d_RS_leaf_32 : decode c_RS_leaf 32 = .ok (.invokestatic 61, 3) := by decide +kernel
theorem d_RS_leaf_35 : decode c_RS_leaf 35 = .ok (.ireturn, 1) := by decide +kernel
theorem d_RS_needMade_0 : decode c_RS_needMade 0 = .ok (.iload_n 0, 1) := by decide +kernel
theorem d_RS_needMade_1 : decode c_RS_needMade 1 = .ok (.ifCond .ge 13, 3) := by decide +kernel
theorem d_RS_needMade_4 : decode c_RS_needMade 4 = .ok (.new 171, 3) := by decide +kernel
theorem d_RS_needMade_7 : decode c_RS_needMade 7 = .ok (.dup, 1) := by decide +kernel
theorem d_RS_needMade_8 : decode c_RS_needMade 8 = .ok (.ldc 173, 2) := by decide +kernel
theorem d_RS_needMade_10 : decode c_RS_needMade 10 = .ok (.invokespecial 175, 3) := by decide +kernel
theorem d_RS_needMade_13 : decode c_RS_needMade 13 = .ok (.athrow, 1) := by decide +kernel
theorem d_RS_needMade_14 : decode c_RS_needMade 14 = .ok (.iload_n 0, 1) := by decide +kernel
theorem d_RS_needMade_15 : decode c_RS_needMade 15 = .ok (.ireturn, 1) := by decide +kernel
theorem d_RS_hole_0 : decode c_RS_hole 0 = .ok (.iload_n 1, 1) := by decide +kernel
theorem d_RS_hole_1 : decode c_RS_hole 1 = .ok (.ifCond .lt 9, 3) := by decide +kernel
theorem d_RS_hole_4 : decode c_RS_hole 4 = .ok (.iload_n 1, 1) := by decide +kernel
theorem d_RS_hole_5 : decode c_RS_hole 5 = .ok (.bipush 6, 2) := by decide +kernel
theorem d_RS_hole_7 : decode c_RS_hole 7 = .ok (.if_icmp .lt 13, 3) := by decide +kernel
theorem d_RS_hole_10 : decode c_RS_hole 10 = .ok (.new 50, 3) := by decide +kernel
theorem d_RS_hole_13 : decode c_RS_hole 13 = .ok (.dup, 1) := by decide +kernel
theorem d_RS_hole_14 : decode c_RS_hole 14 = .ok (.ldc 65, 2) := by decide +kernel
theorem d_RS_hole_16 : decode c_RS_hole 16 = .ok (.invokespecial 54, 3) := by decide +kernel
theorem d_RS_hole_19 : decode c_RS_hole 19 = .ok (.athrow, 1) := by decide +kernel
theorem d_RS_hole_20 : decode c_RS_hole 20 = .ok (.aload_n 0, 1) := by decide +kernel
theorem d_RS_hole_21 : decode c_RS_hole 21 = .ok (.getfield 10, 3) := by decide +kernel
theorem d_RS_hole_24 : decode c_RS_hole 24 = .ok (.bipush 100, 2) := by decide +kernel
theorem d_RS_hole_26 : decode c_RS_hole 26 = .ok (.iload_n 1, 1) := by decide +kernel
theorem d_RS_hole_27 : decode c_RS_hole 27 = .ok (.iadd, 1) := by decide +kernel
theorem d_RS_hole_28 : decode c_RS_hole 28 = .ok (.iconst (-1), 1) := by decide +kernel
theorem d_RS_hole_29 : decode c_RS_hole 29 = .ok (.iconst (-1), 1) := by decide +kernel
theorem d_RS_hole_30 : decode c_RS_hole 30 = .ok (.invokevirtual 57, 3) := by decide +kernel
theorem d_RS_hole_33 : decode c_RS_hole 33 = .ok (.invokestatic 61, 3) := by decide +kernel
theorem d_RS_hole_36 : decode c_RS_hole 36 = .ok (.ireturn, 1) := by decide +kernel
theorem d_RS_node_0 : decode c_RS_node 0 = .ok (.iload_n 1, 1) := by decide +kernel
theorem d_RS_node_1 : decode c_RS_node 1 = .ok (.bipush 6, 2) := by decide +kernel
theorem d_RS_node_3 : decode c_RS_node 3 = .ok (.if_icmp .ge 7, 3) := by decide +kernel
theorem d_RS_node_6 : decode c_RS_node 6 = .ok (.iconst 1, 1) := by decide +kernel
theorem d_RS_node_7 : decode c_RS_node 7 = .ok (.goto 4, 3) := by decide +kernel
theorem d_RS_node_10 : decode c_RS_node 10 = .ok (.iconst 0, 1) := by decide +kernel
theorem d_RS_node_11 : decode c_RS_node 11 = .ok (.istore 4, 2) := by decide +kernel
theorem d_RS_node_13 : decode c_RS_node 13 = .ok (.aload_n 0, 1) := by decide +kernel
theorem d_RS_node_14 : decode c_RS_node 14 = .ok (.iload_n 2, 1) := by decide +kernel
theorem d_RS_node_15 : decode c_RS_node 15 = .ok (.invokevirtual 67, 3) := by decide +kernel
theorem d_RS_node_18 : decode c_RS_node 18 = .ok (.iload 4, 2) := by decide +kernel
theorem d_RS_node_20 : decode c_RS_node 20 = .ok (.ifCond .eq 8, 3) := by decide +kernel
theorem d_RS_node_23 : decode c_RS_node 23 = .ok (.iload_n 3, 1) := by decide +kernel
theorem d_RS_node_24 : decode c_RS_node 24 = .ok (.iconst (-1), 1) := by decide +kernel
theorem d_RS_node_25 : decode c_RS_node 25 = .ok (.if_icmp .eq 8, 3) := by decide +kernel
theorem d_RS_node_28 : decode c_RS_node 28 = .ok (.aload_n 0, 1) := by decide +kernel
theorem d_RS_node_29 : decode c_RS_node 29 = .ok (.iload_n 3, 1) := by decide +kernel
theorem d_RS_node_30 : decode c_RS_node 30 = .ok (.invokevirtual 67, 3) := by decide +kernel
theorem d_RS_node_33 : decode c_RS_node 33 = .ok (.iload_n 1, 1) := by decide +kernel
theorem d_RS_node_34 : decode c_RS_node 34 = .ok (.ifCond .lt 19, 3) := by decide +kernel
theorem d_RS_node_37 : decode c_RS_node 37 = .ok (.iload_n 1, 1) := by decide +kernel
theorem d_RS_node_38 : decode c_RS_node 38 = .ok (.bipush 12, 2) := by decide +kernel
theorem d_RS_node_40 : decode c_RS_node 40 = .ok (.if_icmp .ge 13, 3) := by decide +kernel
theorem d_RS_node_43 : decode c_RS_node 43 = .ok (.iload 4, 2) := by decide +kernel
theorem d_RS_node_45 : decode c_RS_node 45 = .ok (.ifCond .eq 18, 3) := by decide +kernel
theorem d_RS_node_48 : decode c_RS_node 48 = .ok (.iload_n 3, 1) := by decide +kernel
theorem d_RS_node_49 : decode c_RS_node 49 = .ok (.iconst (-1), 1) := by decide +kernel
theorem d_RS_node_50 : decode c_RS_node 50 = .ok (.if_icmp .eq 13, 3) := by decide +kernel
theorem d_RS_node_53 : decode c_RS_node 53 = .ok (.new 50, 3) := by decide +kernel
theorem d_RS_node_56 : decode c_RS_node 56 = .ok (.dup, 1) := by decide +kernel
theorem d_RS_node_57 : decode c_RS_node 57 = .ok (.ldc 71, 2) := by decide +kernel
theorem d_RS_node_59 : decode c_RS_node 59 = .ok (.invokespecial 54, 3) := by decide +kernel
theorem d_RS_node_62 : decode c_RS_node 62 = .ok (.athrow, 1) := by decide +kernel
theorem d_RS_node_63 : decode c_RS_node 63 = .ok (.aload_n 0, 1) := by decide +kernel
theorem d_RS_node_64 : decode c_RS_node 64 = .ok (.getfield 10, 3) := by decide +kernel
theorem d_RS_node_67 : decode c_RS_node 67 = .ok (.iload_n 1, 1) := by decide +kernel
theorem d_RS_node_68 : decode c_RS_node 68 = .ok (.iload_n 2, 1) := by decide +kernel
theorem d_RS_node_69 : decode c_RS_node 69 = .ok (.iload_n 3, 1) := by decide +kernel
theorem d_RS_node_70 : decode c_RS_node 70 = .ok (.invokevirtual 57, 3) := by decide +kernel
theorem d_RS_node_73 : decode c_RS_node 73 = .ok (.invokestatic 61, 3) := by decide +kernel
theorem d_RS_node_76 : decode c_RS_node 76 = .ok (.ireturn, 1) := by decide +kernel
theorem d_RS_needTree_0 : decode c_RS_needTree 0 = .ok (.iload_n 1, 1) := by decide +kernel
theorem d_RS_needTree_1 : decode c_RS_needTree 1 = .ok (.ifCond .lt 14, 3) := by decide +kernel
theorem d_RS_needTree_4 : decode c_RS_needTree 4 = .ok (.iload_n 1, 1) := by decide +kernel
theorem d_RS_needTree_5 : decode c_RS_needTree 5 = .ok (.aload_n 0, 1) := by decide +kernel
theorem d_RS_needTree_6 : decode c_RS_needTree 6 = .ok (.getfield 10, 3) := by decide +kernel
theorem d_RS_needTree_9 : decode c_RS_needTree 9 = .ok (.getfield 110, 3) := by decide +kernel
theorem d_RS_needTree_12 : decode c_RS_needTree 12 = .ok (.if_icmp .lt 13, 3) := by decide +kernel
theorem d_RS_needTree_15 : decode c_RS_needTree 15 = .ok (.new 128, 3) := by decide +kernel
theorem d_RS_needTree_18 : decode c_RS_needTree 18 = .ok (.dup, 1) := by decide +kernel
theorem d_RS_needTree_19 : decode c_RS_needTree 19 = .ok (.ldc 165, 2) := by decide +kernel
theorem d_RS_needTree_21 : decode c_RS_needTree 21 = .ok (.invokespecial 132, 3) := by decide +kernel
theorem d_RS_needTree_24 : decode c_RS_needTree 24 = .ok (.athrow, 1) := by decide +kernel
theorem d_RS_needTree_25 : decode c_RS_needTree 25 = .ok (.return_, 1) := by decide +kernel
theorem d_RS_rule_0 : decode c_RS_rule 0 = .ok (.aload_n 0, 1) := by decide +kernel
theorem d_RS_rule_1 : decode c_RS_rule 1 = .ok (.iload_n 1, 1) := by decide +kernel
theorem d_RS_rule_2 : decode c_RS_rule 2 = .ok (.invokevirtual 67, 3) := by decide +kernel
theorem d_RS_rule_5 : decode c_RS_rule 5 = .ok (.aload_n 0, 1) := by decide +kernel
theorem d_RS_rule_6 : decode c_RS_rule 6 = .ok (.iload_n 2, 1) := by decide +kernel
theorem d_RS_rule_7 : decode c_RS_rule 7 = .ok (.invokevirtual 67, 3) := by decide +kernel
theorem d_RS_rule_10 : decode c_RS_rule 10 = .ok (.aload_n 0, 1) := by decide +kernel
theorem d_RS_rule_11 : decode c_RS_rule 11 = .ok (.getfield 10, 3) := by decide +kernel
theorem d_RS_rule_14 : decode c_RS_rule 14 = .ok (.iload_n 1, 1) := by decide +kernel
theorem d_RS_rule_15 : decode c_RS_rule 15 = .ok (.invokevirtual 73, 3) := by decide +kernel
theorem d_RS_rule_18 : decode c_RS_rule 18 = .ok (.ifCond .eq 27, 3) := by decide +kernel
theorem d_RS_rule_21 : decode c_RS_rule 21 = .ok (.aload_n 0, 1) := by decide +kernel
theorem d_RS_rule_22 : decode c_RS_rule 22 = .ok (.getfield 10, 3) := by decide +kernel
theorem d_RS_rule_25 : decode c_RS_rule 25 = .ok (.getfield 77, 3) := by decide +kernel
theorem d_RS_rule_28 : decode c_RS_rule 28 = .ok (.iload_n 2, 1) := by decide +kernel
theorem d_RS_rule_29 : decode c_RS_rule 29 = .ok (.iaload, 1) := by decide +kernel
theorem d_RS_rule_30 : decode c_RS_rule 30 = .ok (.aload_n 0, 1) := by decide +kernel
theorem d_RS_rule_31 : decode c_RS_rule 31 = .ok (.getfield 10, 3) := by decide +kernel
theorem d_RS_rule_34 : decode c_RS_rule 34 = .ok (.getfield 77, 3) := by decide +kernel
theorem d_RS_rule_37 : decode c_RS_rule 37 = .ok (.iload_n 1, 1) := by decide +kernel
theorem d_RS_rule_38 : decode c_RS_rule 38 = .ok (.iaload, 1) := by decide +kernel
theorem d_RS_rule_39 : decode c_RS_rule 39 = .ok (.iconst (-1), 1) := by decide +kernel
theorem d_RS_rule_40 : decode c_RS_rule 40 = .ok (.ixor, 1) := by decide +kernel
theorem d_RS_rule_41 : decode c_RS_rule 41 = .ok (.iand, 1) := by decide +kernel
theorem d_RS_rule_42 : decode c_RS_rule 42 = .ok (.ifCond .eq 13, 3) := by decide +kernel
theorem d_RS_rule_45 : decode c_RS_rule 45 = .ok (.new 50, 3) := by decide +kernel
theorem d_RS_rule_48 : decode c_RS_rule 48 = .ok (.dup, 1) := by decide +kernel
theorem d_RS_rule_49 : decode c_RS_rule 49 = .ok (.ldc 81, 2) := by decide +kernel
theorem d_RS_rule_51 : decode c_RS_rule 51 = .ok (.invokespecial 54, 3) := by decide +kernel
theorem d_RS_rule_54 : decode c_RS_rule 54 = .ok (.athrow, 1) := by decide +kernel
theorem d_RS_rule_55 : decode c_RS_rule 55 = .ok (.iload_n 3, 1) := by decide +kernel
theorem d_RS_rule_56 : decode c_RS_rule 56 = .ok (.iconst (-1), 1) := by decide +kernel
theorem d_RS_rule_57 : decode c_RS_rule 57 = .ok (.if_icmp .lt 9, 3) := by decide +kernel
theorem d_RS_rule_60 : decode c_RS_rule 60 = .ok (.iload_n 3, 1) := by decide +kernel
theorem d_RS_rule_61 : decode c_RS_rule 61 = .ok (.bipush 10, 2) := by decide +kernel
theorem d_RS_rule_63 : decode c_RS_rule 63 = .ok (.if_icmp .lt 13, 3) := by decide +kernel
theorem d_RS_rule_66 : decode c_RS_rule 66 = .ok (.new 50, 3) := by decide +kernel
theorem d_RS_rule_69 : decode c_RS_rule 69 = .ok (.dup, 1) := by decide +kernel
theorem d_RS_rule_70 : decode c_RS_rule 70 = .ok (.ldc 83, 2) := by decide +kernel
theorem d_RS_rule_72 : decode c_RS_rule 72 = .ok (.invokespecial 54, 3) := by decide +kernel
theorem d_RS_rule_75 : decode c_RS_rule 75 = .ok (.athrow, 1) := by decide +kernel
theorem d_RS_rule_76 : decode c_RS_rule 76 = .ok (.aload_n 0, 1) := by decide +kernel
theorem d_RS_rule_77 : decode c_RS_rule 77 = .ok (.getfield 19, 3) := by decide +kernel
theorem d_RS_rule_80 : decode c_RS_rule 80 = .ok (.iload_n 1, 1) := by decide +kernel
theorem d_RS_rule_81 : decode c_RS_rule 81 = .ok (.iload_n 2, 1) := by decide +kernel
theorem d_RS_rule_82 : decode c_RS_rule 82 = .ok (.iload_n 3, 1) := by decide +kernel
theorem d_RS_rule_83 : decode c_RS_rule 83 = .ok (.aload_n 0, 1) := by decide +kernel
theorem d_RS_rule_84 : decode c_RS_rule 84 = .ok (.getfield 10, 3) := by decide +kernel
theorem d_RS_rule_87 : decode c_RS_rule 87 = .ok (.iload_n 1, 1) := by decide +kernel
theorem d_RS_rule_88 : decode c_RS_rule 88 = .ok (.iload_n 2, 1) := by decide +kernel
theorem d_RS_rule_89 : decode c_RS_rule 89 = .ok (.invokevirtual 85, 3) := by decide +kernel
theorem d_RS_rule_92 : decode c_RS_rule 92 = .ok (.invokevirtual 89, 3) := by decide +kernel
theorem d_RS_rule_95 : decode c_RS_rule 95 = .ok (.ireturn, 1) := by decide +kernel
theorem d_RS_holds_0 : decode c_RS_holds 0 = .ok (.iload_n 1, 1) := by decide +kernel
theorem d_RS_holds_1 : decode c_RS_holds 1 = .ok (.ifCond .lt 18, 3) := by decide +kernel
theorem d_RS_holds_4 : decode c_RS_holds 4 = .ok (.iload_n 1, 1) := by decide +kernel
theorem d_RS_holds_5 : decode c_RS_holds 5 = .ok (.bipush 10, 2) := by decide +kernel
theorem d_RS_holds_7 : decode c_RS_holds 7 = .ok (.if_icmp .ge 12, 3) := by decide +kernel
theorem d_RS_holds_10 : decode c_RS_holds 10 = .ok (.iload_n 2, 1) := by decide +kernel
theorem d_RS_holds_11 : decode c_RS_holds 11 = .ok (.ifCond .lt 8, 3) := by decide +kernel
theorem d_RS_holds_14 : decode c_RS_holds 14 = .ok (.iload_n 2, 1) := by decide +kernel
theorem d_RS_holds_15 : decode c_RS_holds 15 = .ok (.iconst 3, 1) := by decide +kernel
theorem d_RS_holds_16 : decode c_RS_holds 16 = .ok (.if_icmp .lt 13, 3) := by decide +kernel
theorem d_RS_holds_19 : decode c_RS_holds 19 = .ok (.new 50, 3) := by decide +kernel
theorem d_RS_holds_22 : decode c_RS_holds 22 = .ok (.dup, 1) := by decide +kernel
theorem d_RS_holds_23 : decode c_RS_holds 23 = .ok (.ldc 93, 2) := by decide +kernel
theorem d_RS_holds_25 : decode c_RS_holds 25 = .ok (.invokespecial 54, 3) := by decide +kernel
theorem d_RS_holds_28 : decode c_RS_holds 28 = .ok (.athrow, 1) := by decide +kernel
theorem d_RS_holds_29 : decode c_RS_holds 29 = .ok (.aload_n 0, 1) := by decide +kernel
theorem d_RS_holds_30 : decode c_RS_holds 30 = .ok (.getfield 19, 3) := by decide +kernel
theorem d_RS_holds_33 : decode c_RS_holds 33 = .ok (.getfield 95, 3) := by decide +kernel
theorem d_RS_holds_36 : decode c_RS_holds 36 = .ok (.iload_n 1, 1) := by decide +kernel
theorem d_RS_holds_37 : decode c_RS_holds 37 = .ok (.iaload, 1) := by decide +kernel
theorem d_RS_holds_38 : decode c_RS_holds 38 = .ok (.iload_n 2, 1) := by decide +kernel
theorem d_RS_holds_39 : decode c_RS_holds 39 = .ok (.if_icmp .eq 7, 3) := by decide +kernel
theorem d_RS_holds_42 : decode c_RS_holds 42 = .ok (.iconst 1, 1) := by decide +kernel
theorem d_RS_holds_43 : decode c_RS_holds 43 = .ok (.goto 4, 3) := by decide +kernel
theorem d_RS_holds_46 : decode c_RS_holds 46 = .ok (.iconst 0, 1) := by decide +kernel
theorem d_RS_holds_47 : decode c_RS_holds 47 = .ok (.istore_n 3, 1) := by decide +kernel
theorem d_RS_holds_48 : decode c_RS_holds 48 = .ok (.aload_n 0, 1) := by decide +kernel
theorem d_RS_holds_49 : decode c_RS_holds 49 = .ok (.getfield 19, 3) := by decide +kernel
theorem d_RS_holds_52 : decode c_RS_holds 52 = .ok (.getfield 95, 3) := by decide +kernel
theorem d_RS_holds_55 : decode c_RS_holds 55 = .ok (.iload_n 1, 1) := by decide +kernel
theorem d_RS_holds_56 : decode c_RS_holds 56 = .ok (.iload_n 2, 1) := by decide +kernel
theorem d_RS_holds_57 : decode c_RS_holds 57 = .ok (.iastore, 1) := by decide +kernel
theorem d_RS_holds_58 : decode c_RS_holds 58 = .ok (.iload_n 3, 1) := by decide +kernel
theorem d_RS_holds_59 : decode c_RS_holds 59 = .ok (.ireturn, 1) := by decide +kernel
theorem d_RS_choose_0 : decode c_RS_choose 0 = .ok (.aload_n 0, 1) := by decide +kernel
theorem d_RS_choose_1 : decode c_RS_choose 1 = .ok (.iload_n 1, 1) := by decide +kernel
theorem d_RS_choose_2 : decode c_RS_choose 2 = .ok (.invokevirtual 98, 3) := by decide +kernel
theorem d_RS_choose_5 : decode c_RS_choose 5 = .ok (.aload_n 0, 1) := by decide +kernel
theorem d_RS_choose_6 : decode c_RS_choose 6 = .ok (.getfield 19, 3) := by decide +kernel
theorem d_RS_choose_9 : decode c_RS_choose 9 = .ok (.getfield 101, 3) := by decide +kernel
theorem d_RS_choose_12 : decode c_RS_choose 12 = .ok (.iload_n 1, 1) := by decide +kernel
theorem d_RS_choose_13 : decode c_RS_choose 13 = .ok (.baload, 1) := by decide +kernel
theorem d_RS_choose_14 : decode c_RS_choose 14 = .ok (.iload_n 2, 1) := by decide +kernel
theorem d_RS_choose_15 : decode c_RS_choose 15 = .ok (.if_icmp .eq 7, 3) := by decide +kernel
theorem d_RS_choose_18 : decode c_RS_choose 18 = .ok (.iconst 1, 1) := by decide +kernel
theorem d_RS_choose_19 : decode c_RS_choose 19 = .ok (.goto 4, 3) := by decide +kernel
theorem d_RS_choose_22 : decode c_RS_choose 22 = .ok (.iconst 0, 1) := by decide +kernel
theorem d_RS_choose_23 : decode c_RS_choose 23 = .ok (.istore_n 3, 1) := by decide +kernel
theorem d_RS_choose_24 : decode c_RS_choose 24 = .ok (.aload_n 0, 1) := by decide +kernel
theorem d_RS_choose_25 : decode c_RS_choose 25 = .ok (.getfield 19, 3) := by decide +kernel
theorem d_RS_choose_28 : decode c_RS_choose 28 = .ok (.getfield 101, 3) := by decide +kernel
theorem d_RS_choose_31 : decode c_RS_choose 31 = .ok (.iload_n 1, 1) := by decide +kernel
theorem d_RS_choose_32 : decode c_RS_choose 32 = .ok (.iload_n 2, 1) := by decide +kernel
theorem d_RS_choose_33 : decode c_RS_choose 33 = .ok (.bastore, 1) := by decide +kernel
theorem d_RS_choose_34 : decode c_RS_choose 34 = .ok (.iload_n 3, 1) := by decide +kernel
theorem d_RS_choose_35 : decode c_RS_choose 35 = .ok (.ireturn, 1) := by decide +kernel
theorem d_RS_needRule_0 : decode c_RS_needRule 0 = .ok (.iload_n 1, 1) := by decide +kernel
theorem d_RS_needRule_1 : decode c_RS_needRule 1 = .ok (.ifCond .lt 14, 3) := by decide +kernel
theorem d_RS_needRule_4 : decode c_RS_needRule 4 = .ok (.iload_n 1, 1) := by decide +kernel
theorem d_RS_needRule_5 : decode c_RS_needRule 5 = .ok (.aload_n 0, 1) := by decide +kernel
theorem d_RS_needRule_6 : decode c_RS_needRule 6 = .ok (.getfield 19, 3) := by decide +kernel
theorem d_RS_needRule_9 : decode c_RS_needRule 9 = .ok (.getfield 164, 3) := by decide +kernel
theorem d_RS_needRule_12 : decode c_RS_needRule 12 = .ok (.if_icmp .lt 13, 3) := by decide +kernel
theorem d_RS_needRule_15 : decode c_RS_needRule 15 = .ok (.new 128, 3) := by decide +kernel
theorem d_RS_needRule_18 : decode c_RS_needRule 18 = .ok (.dup, 1) := by decide +kernel
theorem d_RS_needRule_19 : decode c_RS_needRule 19 = .ok (.ldc 167, 2) := by decide +kernel
theorem d_RS_needRule_21 : decode c_RS_needRule 21 = .ok (.invokespecial 132, 3) := by decide +kernel
theorem d_RS_needRule_24 : decode c_RS_needRule 24 = .ok (.athrow, 1) := by decide +kernel
theorem d_RS_needRule_25 : decode c_RS_needRule 25 = .ok (.return_, 1) := by decide +kernel
theorem d_RS_rewrite_0 : decode c_RS_rewrite 0 = .ok (.aload_n 0, 1) := by decide +kernel
theorem d_RS_rewrite_1 : decode c_RS_rewrite 1 = .ok (.iload_n 1, 1) := by decide +kernel
theorem d_RS_rewrite_2 : decode c_RS_rewrite 2 = .ok (.invokevirtual 67, 3) := by decide +kernel
theorem d_RS_rewrite_5 : decode c_RS_rewrite 5 = .ok (.aload_n 0, 1) := by decide +kernel
theorem d_RS_rewrite_6 : decode c_RS_rewrite 6 = .ok (.iload_n 1, 1) := by decide +kernel
theorem d_RS_rewrite_7 : decode c_RS_rewrite 7 = .ok (.invokevirtual 105, 3) := by decide +kernel
theorem d_RS_rewrite_10 : decode c_RS_rewrite 10 = .ok (.iload_n 2, 1) := by decide +kernel
theorem d_RS_rewrite_11 : decode c_RS_rewrite 11 = .ok (.ifCond .lt 10, 3) := by decide +kernel
theorem d_RS_rewrite_14 : decode c_RS_rewrite 14 = .ok (.iload_n 2, 1) := by decide +kernel
theorem d_RS_rewrite_15 : decode c_RS_rewrite 15 = .ok (.sipush 200, 3) := by decide +kernel
theorem d_RS_rewrite_18 : decode c_RS_rewrite 18 = .ok (.if_icmp .le 13, 3) := by decide +kernel
theorem d_RS_rewrite_21 : decode c_RS_rewrite 21 = .ok (.new 50, 3) := by decide +kernel
theorem d_RS_rewrite_24 : decode c_RS_rewrite 24 = .ok (.dup, 1) := by decide +kernel
theorem d_RS_rewrite_25 : decode c_RS_rewrite 25 = .ok (.ldc 108, 2) := by decide +kernel
theorem d_RS_rewrite_27 : decode c_RS_rewrite 27 = .ok (.invokespecial 54, 3) := by decide +kernel
theorem d_RS_rewrite_30 : decode c_RS_rewrite 30 = .ok (.athrow, 1) := by decide +kernel
theorem d_RS_rewrite_31 : decode c_RS_rewrite 31 = .ok (.aload_n 0, 1) := by decide +kernel
theorem d_RS_rewrite_32 : decode c_RS_rewrite 32 = .ok (.getfield 10, 3) := by decide +kernel
theorem d_RS_rewrite_35 : decode c_RS_rewrite 35 = .ok (.getfield 110, 3) := by decide +kernel
theorem d_RS_rewrite_38 : decode c_RS_rewrite 38 = .ok (.istore_n 3, 1) := by decide +kernel
theorem d_RS_rewrite_39 : decode c_RS_rewrite 39 = .ok (.aload_n 0, 1) := by decide +kernel
theorem d_RS_rewrite_40 : decode c_RS_rewrite 40 = .ok (.aload_n 0, 1) := by decide +kernel
theorem d_RS_rewrite_41 : decode c_RS_rewrite 41 = .ok (.getfield 28, 3) := by decide +kernel
theorem d_RS_rewrite_44 : decode c_RS_rewrite 44 = .ok (.iload_n 1, 1) := by decide +kernel
theorem d_RS_rewrite_45 : decode c_RS_rewrite 45 = .ok (.iload_n 2, 1) := by decide +kernel
theorem d_RS_rewrite_46 : decode c_RS_rewrite 46 = .ok (.iconst 0, 1) := by decide +kernel
theorem d_RS_rewrite_47 : decode c_RS_rewrite 47 = .ok (.aload_n 0, 1) := by decide +kernel
theorem d_RS_rewrite_48 : decode c_RS_rewrite 48 = .ok (.getfield 39, 3) := by decide +kernel
theorem d_RS_rewrite_51 : decode c_RS_rewrite 51 = .ok (.invokevirtual 113, 3) := by decide +kernel
theorem d_RS_rewrite_54 : decode c_RS_rewrite 54 = .ok (.iload_n 3, 1) := by decide +kernel
theorem d_RS_rewrite_55 : decode c_RS_rewrite 55 = .ok (.invokevirtual 117, 3) := by decide +kernel
theorem d_RS_rewrite_58 : decode c_RS_rewrite 58 = .ok (.istore 4, 2) := by decide +kernel
theorem d_RS_rewrite_60 : decode c_RS_rewrite 60 = .ok (.aload_n 0, 1) := by decide +kernel
theorem d_RS_rewrite_61 : decode c_RS_rewrite 61 = .ok (.invokevirtual 121, 3) := by decide +kernel
theorem d_RS_rewrite_64 : decode c_RS_rewrite 64 = .ok (.aload_n 0, 1) := by decide +kernel
theorem d_RS_rewrite_65 : decode c_RS_rewrite 65 = .ok (.aload_n 0, 1) := by decide +kernel
theorem d_RS_rewrite_66 : decode c_RS_rewrite 66 = .ok (.getfield 28, 3) := by decide +kernel
theorem d_RS_rewrite_69 : decode c_RS_rewrite 69 = .ok (.getfield 124, 3) := by decide +kernel
theorem d_RS_rewrite_72 : decode c_RS_rewrite 72 = .ok (.putfield 46, 3) := by decide +kernel
theorem d_RS_rewrite_75 : decode c_RS_rewrite 75 = .ok (.iload 4, 2) := by decide +kernel
theorem d_RS_rewrite_77 : decode c_RS_rewrite 77 = .ok (.ireturn, 1) := by decide +kernel
theorem d_RS_needPlain_0 : decode c_RS_needPlain 0 = .ok (.aload_n 0, 1) := by decide +kernel
theorem d_RS_needPlain_1 : decode c_RS_needPlain 1 = .ok (.getfield 10, 3) := by decide +kernel
theorem d_RS_needPlain_4 : decode c_RS_needPlain 4 = .ok (.getfield 77, 3) := by decide +kernel
theorem d_RS_needPlain_7 : decode c_RS_needPlain 7 = .ok (.iload_n 1, 1) := by decide +kernel
theorem d_RS_needPlain_8 : decode c_RS_needPlain 8 = .ok (.iaload, 1) := by decide +kernel
theorem d_RS_needPlain_9 : decode c_RS_needPlain 9 = .ok (.ifCond .eq 13, 3) := by decide +kernel
theorem d_RS_needPlain_12 : decode c_RS_needPlain 12 = .ok (.new 50, 3) := by decide +kernel
theorem d_RS_needPlain_15 : decode c_RS_needPlain 15 = .ok (.dup, 1) := by decide +kernel
theorem d_RS_needPlain_16 : decode c_RS_needPlain 16 = .ok (.ldc 169, 2) := by decide +kernel
theorem d_RS_needPlain_18 : decode c_RS_needPlain 18 = .ok (.invokespecial 54, 3) := by decide +kernel
theorem d_RS_needPlain_21 : decode c_RS_needPlain 21 = .ok (.athrow, 1) := by decide +kernel
theorem d_RS_needPlain_22 : decode c_RS_needPlain 22 = .ok (.return_, 1) := by decide +kernel
theorem d_RS_needRun_0 : decode c_RS_needRun 0 = .ok (.iload_n 1, 1) := by decide +kernel
theorem d_RS_needRun_1 : decode c_RS_needRun 1 = .ok (.ifCond .ge 11, 3) := by decide +kernel
theorem d_RS_needRun_4 : decode c_RS_needRun 4 = .ok (.aload_n 0, 1) := by decide +kernel
theorem d_RS_needRun_5 : decode c_RS_needRun 5 = .ok (.getfield 10, 3) := by decide +kernel
theorem d_RS_needRun_8 : decode c_RS_needRun 8 = .ok (.iload_n 2, 1) := by decide +kernel
theorem d_RS_needRun_9 : decode c_RS_needRun 9 = .ok (.invokevirtual 176, 3) := by decide +kernel
theorem d_RS_needRun_12 : decode c_RS_needRun 12 = .ok (.iload_n 1, 1) := by decide +kernel
theorem d_RS_needRun_13 : decode c_RS_needRun 13 = .ok (.invokestatic 61, 3) := by decide +kernel
theorem d_RS_needRun_16 : decode c_RS_needRun 16 = .ok (.ireturn, 1) := by decide +kernel
theorem d_RS_keepRun_0 : decode c_RS_keepRun 0 = .ok (.aload_n 0, 1) := by decide +kernel
theorem d_RS_keepRun_1 : decode c_RS_keepRun 1 = .ok (.getfield 35, 3) := by decide +kernel
theorem d_RS_keepRun_4 : decode c_RS_keepRun 4 = .ok (.astore_n 1, 1) := by decide +kernel
theorem d_RS_keepRun_5 : decode c_RS_keepRun 5 = .ok (.aload_n 0, 1) := by decide +kernel
theorem d_RS_keepRun_6 : decode c_RS_keepRun 6 = .ok (.aload_n 0, 1) := by decide +kernel
theorem d_RS_keepRun_7 : decode c_RS_keepRun 7 = .ok (.getfield 39, 3) := by decide +kernel
theorem d_RS_keepRun_10 : decode c_RS_keepRun 10 = .ok (.putfield 35, 3) := by decide +kernel
theorem d_RS_keepRun_13 : decode c_RS_keepRun 13 = .ok (.aload_n 0, 1) := by decide +kernel
theorem d_RS_keepRun_14 : decode c_RS_keepRun 14 = .ok (.aload_n 1, 1) := by decide +kernel
theorem d_RS_keepRun_15 : decode c_RS_keepRun 15 = .ok (.putfield 39, 3) := by decide +kernel
theorem d_RS_keepRun_18 : decode c_RS_keepRun 18 = .ok (.aload_n 0, 1) := by decide +kernel
theorem d_RS_keepRun_19 : decode c_RS_keepRun 19 = .ok (.aload_n 0, 1) := by decide +kernel
theorem d_RS_keepRun_20 : decode c_RS_keepRun 20 = .ok (.getfield 28, 3) := by decide +kernel
theorem d_RS_keepRun_23 : decode c_RS_keepRun 23 = .ok (.getfield 179, 3) := by decide +kernel
theorem d_RS_keepRun_26 : decode c_RS_keepRun 26 = .ok (.putfield 42, 3) := by decide +kernel
theorem d_RS_keepRun_29 : decode c_RS_keepRun 29 = .ok (.return_, 1) := by decide +kernel
theorem d_RS_normal_0 : decode c_RS_normal 0 = .ok (.aload_n 0, 1) := by decide +kernel
theorem d_RS_normal_1 : decode c_RS_normal 1 = .ok (.iload_n 1, 1) := by decide +kernel
theorem d_RS_normal_2 : decode c_RS_normal 2 = .ok (.invokevirtual 67, 3) := by decide +kernel
theorem d_RS_normal_5 : decode c_RS_normal 5 = .ok (.aload_n 0, 1) := by decide +kernel
theorem d_RS_normal_6 : decode c_RS_normal 6 = .ok (.iload_n 1, 1) := by decide +kernel
theorem d_RS_normal_7 : decode c_RS_normal 7 = .ok (.invokevirtual 105, 3) := by decide +kernel
theorem d_RS_normal_10 : decode c_RS_normal 10 = .ok (.aload_n 0, 1) := by decide +kernel
theorem d_RS_normal_11 : decode c_RS_normal 11 = .ok (.getfield 10, 3) := by decide +kernel
theorem d_RS_normal_14 : decode c_RS_normal 14 = .ok (.getfield 110, 3) := by decide +kernel
theorem d_RS_normal_17 : decode c_RS_normal 17 = .ok (.istore_n 2, 1) := by decide +kernel
theorem d_RS_normal_18 : decode c_RS_normal 18 = .ok (.aload_n 0, 1) := by decide +kernel
theorem d_RS_normal_19 : decode c_RS_normal 19 = .ok (.aload_n 0, 1) := by decide +kernel
theorem d_RS_normal_20 : decode c_RS_normal 20 = .ok (.getfield 28, 3) := by decide +kernel
theorem d_RS_normal_23 : decode c_RS_normal 23 = .ok (.iload_n 1, 1) := by decide +kernel
theorem d_RS_normal_24 : decode c_RS_normal 24 = .ok (.sipush 1000, 3) := by decide +kernel
theorem d_RS_normal_27 : decode c_RS_normal 27 = .ok (.iconst 1, 1) := by decide +kernel
theorem d_RS_normal_28 : decode c_RS_normal 28 = .ok (.aload_n 0, 1) := by decide +kernel
theorem d_RS_normal_29 : decode c_RS_normal 29 = .ok (.getfield 39, 3) := by decide +kernel
theorem d_RS_normal_32 : decode c_RS_normal 32 = .ok (.invokevirtual 113, 3) := by decide +kernel
theorem d_RS_normal_35 : decode c_RS_normal 35 = .ok (.iload_n 2, 1) := by decide +kernel
theorem d_RS_normal_36 : decode c_RS_normal 36 = .ok (.invokevirtual 117, 3) := by decide +kernel
theorem d_RS_normal_39 : decode c_RS_normal 39 = .ok (.istore_n 3, 1) := by decide +kernel
theorem d_RS_normal_40 : decode c_RS_normal 40 = .ok (.aload_n 0, 1) := by decide +kernel
theorem d_RS_normal_41 : decode c_RS_normal 41 = .ok (.invokevirtual 121, 3) := by decide +kernel
theorem d_RS_normal_44 : decode c_RS_normal 44 = .ok (.iload_n 3, 1) := by decide +kernel
theorem d_RS_normal_45 : decode c_RS_normal 45 = .ok (.ireturn, 1) := by decide +kernel
theorem d_RS_joins_0 : decode c_RS_joins 0 = .ok (.aload_n 0, 1) := by decide +kernel
theorem d_RS_joins_1 : decode c_RS_joins 1 = .ok (.iload_n 1, 1) := by decide +kernel
theorem d_RS_joins_2 : decode c_RS_joins 2 = .ok (.invokevirtual 67, 3) := by decide +kernel
theorem d_RS_joins_5 : decode c_RS_joins 5 = .ok (.aload_n 0, 1) := by decide +kernel
theorem d_RS_joins_6 : decode c_RS_joins 6 = .ok (.iload_n 2, 1) := by decide +kernel
theorem d_RS_joins_7 : decode c_RS_joins 7 = .ok (.invokevirtual 67, 3) := by decide +kernel
theorem d_RS_joins_10 : decode c_RS_joins 10 = .ok (.aload_n 0, 1) := by decide +kernel
theorem d_RS_joins_11 : decode c_RS_joins 11 = .ok (.iload_n 1, 1) := by decide +kernel
theorem d_RS_joins_12 : decode c_RS_joins 12 = .ok (.invokevirtual 105, 3) := by decide +kernel
theorem d_RS_joins_15 : decode c_RS_joins 15 = .ok (.aload_n 0, 1) := by decide +kernel
theorem d_RS_joins_16 : decode c_RS_joins 16 = .ok (.iload_n 2, 1) := by decide +kernel
theorem d_RS_joins_17 : decode c_RS_joins 17 = .ok (.invokevirtual 105, 3) := by decide +kernel
theorem d_RS_joins_20 : decode c_RS_joins 20 = .ok (.aload_n 0, 1) := by decide +kernel
theorem d_RS_joins_21 : decode c_RS_joins 21 = .ok (.getfield 10, 3) := by decide +kernel
theorem d_RS_joins_24 : decode c_RS_joins 24 = .ok (.getfield 110, 3) := by decide +kernel
theorem d_RS_joins_27 : decode c_RS_joins 27 = .ok (.istore_n 3, 1) := by decide +kernel
theorem d_RS_joins_28 : decode c_RS_joins 28 = .ok (.aload_n 0, 1) := by decide +kernel
theorem d_RS_joins_29 : decode c_RS_joins 29 = .ok (.aload_n 0, 1) := by decide +kernel
theorem d_RS_joins_30 : decode c_RS_joins 30 = .ok (.getfield 28, 3) := by decide +kernel
theorem d_RS_joins_33 : decode c_RS_joins 33 = .ok (.iload_n 1, 1) := by decide +kernel
theorem d_RS_joins_34 : decode c_RS_joins 34 = .ok (.sipush 1000, 3) := by decide +kernel
theorem d_RS_joins_37 : decode c_RS_joins 37 = .ok (.iconst 1, 1) := by decide +kernel
theorem d_RS_joins_38 : decode c_RS_joins 38 = .ok (.aload_n 0, 1) := by decide +kernel
theorem d_RS_joins_39 : decode c_RS_joins 39 = .ok (.getfield 39, 3) := by decide +kernel
theorem d_RS_joins_42 : decode c_RS_joins 42 = .ok (.invokevirtual 113, 3) := by decide +kernel
theorem d_RS_joins_45 : decode c_RS_joins 45 = .ok (.iload_n 3, 1) := by decide +kernel
theorem d_RS_joins_46 : decode c_RS_joins 46 = .ok (.invokevirtual 117, 3) := by decide +kernel
theorem d_RS_joins_49 : decode c_RS_joins 49 = .ok (.istore 4, 2) := by decide +kernel
theorem d_RS_joins_51 : decode c_RS_joins 51 = .ok (.aload_n 0, 1) := by decide +kernel
theorem d_RS_joins_52 : decode c_RS_joins 52 = .ok (.aload_n 0, 1) := by decide +kernel
theorem d_RS_joins_53 : decode c_RS_joins 53 = .ok (.getfield 28, 3) := by decide +kernel
theorem d_RS_joins_56 : decode c_RS_joins 56 = .ok (.iload_n 2, 1) := by decide +kernel
theorem d_RS_joins_57 : decode c_RS_joins 57 = .ok (.sipush 1000, 3) := by decide +kernel
theorem d_RS_joins_60 : decode c_RS_joins 60 = .ok (.iconst 1, 1) := by decide +kernel
theorem d_RS_joins_61 : decode c_RS_joins 61 = .ok (.aload_n 0, 1) := by decide +kernel
theorem d_RS_joins_62 : decode c_RS_joins 62 = .ok (.getfield 39, 3) := by decide +kernel
theorem d_RS_joins_65 : decode c_RS_joins 65 = .ok (.invokevirtual 113, 3) := by decide +kernel
theorem d_RS_joins_68 : decode c_RS_joins 68 = .ok (.iload_n 3, 1) := by decide +kernel
theorem d_RS_joins_69 : decode c_RS_joins 69 = .ok (.invokevirtual 117, 3) := by decide +kernel
theorem d_RS_joins_72 : decode c_RS_joins 72 = .ok (.istore 5, 2) := by decide +kernel
theorem d_RS_joins_74 : decode c_RS_joins 74 = .ok (.iload 4, 2) := by decide +kernel
theorem d_RS_joins_76 : decode c_RS_joins 76 = .ok (.iload 5, 2) := by decide +kernel
theorem d_RS_joins_78 : decode c_RS_joins 78 = .ok (.if_icmp .ne 7, 3) := by decide +kernel
theorem d_RS_joins_81 : decode c_RS_joins 81 = .ok (.iconst 1, 1) := by decide +kernel
theorem d_RS_joins_82 : decode c_RS_joins 82 = .ok (.goto 4, 3) := by decide +kernel
theorem d_RS_joins_85 : decode c_RS_joins 85 = .ok (.iconst 0, 1) := by decide +kernel
theorem d_RS_joins_86 : decode c_RS_joins 86 = .ok (.ireturn, 1) := by decide +kernel
theorem d_RS_row_0 : decode c_RS_row 0 = .ok (.iload_n 1, 1) := by decide +kernel
theorem d_RS_row_1 : decode c_RS_row 1 = .ok (.ifCond .lt 14, 3) := by decide +kernel
theorem d_RS_row_4 : decode c_RS_row 4 = .ok (.iload_n 1, 1) := by decide +kernel
theorem d_RS_row_5 : decode c_RS_row 5 = .ok (.aload_n 0, 1) := by decide +kernel
theorem d_RS_row_6 : decode c_RS_row 6 = .ok (.getfield 35, 3) := by decide +kernel
theorem d_RS_row_9 : decode c_RS_row 9 = .ok (.getfield 127, 3) := by decide +kernel
theorem d_RS_row_12 : decode c_RS_row 12 = .ok (.if_icmp .lt 13, 3) := by decide +kernel
theorem d_RS_row_15 : decode c_RS_row 15 = .ok (.new 128, 3) := by decide +kernel
theorem d_RS_row_18 : decode c_RS_row 18 = .ok (.dup, 1) := by decide +kernel
theorem d_RS_row_19 : decode c_RS_row 19 = .ok (.ldc 130, 2) := by decide +kernel
theorem d_RS_row_21 : decode c_RS_row 21 = .ok (.invokespecial 132, 3) := by decide +kernel
theorem d_RS_row_24 : decode c_RS_row 24 = .ok (.athrow, 1) := by decide +kernel
theorem d_RS_row_25 : decode c_RS_row 25 = .ok (.iload_n 2, 1) := by decide +kernel
theorem d_RS_row_26 : decode c_RS_row 26 = .ok (.ifCond .lt 8, 3) := by decide +kernel
theorem d_RS_row_29 : decode c_RS_row 29 = .ok (.iload_n 2, 1) := by decide +kernel
theorem d_RS_row_30 : decode c_RS_row 30 = .ok (.iconst 4, 1) := by decide +kernel
theorem d_RS_row_31 : decode c_RS_row 31 = .ok (.if_icmp .lt 13, 3) := by decide +kernel
theorem d_RS_row_34 : decode c_RS_row 34 = .ok (.new 50, 3) := by decide +kernel
theorem d_RS_row_37 : decode c_RS_row 37 = .ok (.dup, 1) := by decide +kernel
theorem d_RS_row_38 : decode c_RS_row 38 = .ok (.ldc 133, 2) := by decide +kernel
theorem d_RS_row_40 : decode c_RS_row 40 = .ok (.invokespecial 54, 3) := by decide +kernel
theorem d_RS_row_43 : decode c_RS_row 43 = .ok (.athrow, 1) := by decide +kernel
theorem d_RS_row_44 : decode c_RS_row 44 = .ok (.aload_n 0, 1) := by decide +kernel
theorem d_RS_row_45 : decode c_RS_row 45 = .ok (.getfield 35, 3) := by decide +kernel
theorem d_RS_row_48 : decode c_RS_row 48 = .ok (.iload_n 1, 1) := by decide +kernel
theorem d_RS_row_49 : decode c_RS_row 49 = .ok (.iload_n 2, 1) := by decide +kernel
theorem d_RS_row_50 : decode c_RS_row 50 = .ok (.invokevirtual 135, 3) := by decide +kernel
theorem d_RS_row_53 : decode c_RS_row 53 = .ok (.ireturn, 1) := by decide +kernel
theorem d_RS_lessens_0 : decode c_RS_lessens 0 = .ok (.aload_n 0, 1) := by decide +kernel
theorem d_RS_lessens_1 : decode c_RS_lessens 1 = .ok (.iload_n 1, 1) := by decide +kernel
theorem d_RS_lessens_2 : decode c_RS_lessens 2 = .ok (.invokevirtual 98, 3) := by decide +kernel
theorem d_RS_lessens_5 : decode c_RS_lessens 5 = .ok (.aload_n 0, 1) := by decide +kernel
theorem d_RS_lessens_6 : decode c_RS_lessens 6 = .ok (.getfield 19, 3) := by decide +kernel
theorem d_RS_lessens_9 : decode c_RS_lessens 9 = .ok (.getfield 141, 3) := by decide +kernel
theorem d_RS_lessens_12 : decode c_RS_lessens 12 = .ok (.iload_n 1, 1) := by decide +kernel
theorem d_RS_lessens_13 : decode c_RS_lessens 13 = .ok (.baload, 1) := by decide +kernel
theorem d_RS_lessens_14 : decode c_RS_lessens 14 = .ok (.ireturn, 1) := by decide +kernel
theorem d_RS_usable_0 : decode c_RS_usable 0 = .ok (.aload_n 0, 1) := by decide +kernel
theorem d_RS_usable_1 : decode c_RS_usable 1 = .ok (.iload_n 1, 1) := by decide +kernel
theorem d_RS_usable_2 : decode c_RS_usable 2 = .ok (.invokevirtual 98, 3) := by decide +kernel
theorem d_RS_usable_5 : decode c_RS_usable 5 = .ok (.aload_n 0, 1) := by decide +kernel
theorem d_RS_usable_6 : decode c_RS_usable 6 = .ok (.getfield 19, 3) := by decide +kernel
theorem d_RS_usable_9 : decode c_RS_usable 9 = .ok (.iload_n 1, 1) := by decide +kernel
theorem d_RS_usable_10 : decode c_RS_usable 10 = .ok (.invokevirtual 144, 3) := by decide +kernel
theorem d_RS_usable_13 : decode c_RS_usable 13 = .ok (.ireturn, 1) := by decide +kernel
theorem d_RS_above_0 : decode c_RS_above 0 = .ok (.aload_n 0, 1) := by decide +kernel
theorem d_RS_above_1 : decode c_RS_above 1 = .ok (.iload_n 1, 1) := by decide +kernel
theorem d_RS_above_2 : decode c_RS_above 2 = .ok (.invokevirtual 67, 3) := by decide +kernel
theorem d_RS_above_5 : decode c_RS_above 5 = .ok (.aload_n 0, 1) := by decide +kernel
theorem d_RS_above_6 : decode c_RS_above 6 = .ok (.iload_n 2, 1) := by decide +kernel
theorem d_RS_above_7 : decode c_RS_above 7 = .ok (.invokevirtual 67, 3) := by decide +kernel
theorem d_RS_above_10 : decode c_RS_above 10 = .ok (.aload_n 0, 1) := by decide +kernel
theorem d_RS_above_11 : decode c_RS_above 11 = .ok (.getfield 10, 3) := by decide +kernel
theorem d_RS_above_14 : decode c_RS_above 14 = .ok (.iload_n 1, 1) := by decide +kernel
theorem d_RS_above_15 : decode c_RS_above 15 = .ok (.iload_n 2, 1) := by decide +kernel
theorem d_RS_above_16 : decode c_RS_above 16 = .ok (.invokevirtual 85, 3) := by decide +kernel
theorem d_RS_above_19 : decode c_RS_above 19 = .ok (.ireturn, 1) := by decide +kernel
theorem d_RS_measure_0 : decode c_RS_measure 0 = .ok (.aload_n 0, 1) := by decide +kernel
theorem d_RS_measure_1 : decode c_RS_measure 1 = .ok (.iload_n 1, 1) := by decide +kernel
theorem d_RS_measure_2 : decode c_RS_measure 2 = .ok (.invokevirtual 67, 3) := by decide +kernel
theorem d_RS_measure_5 : decode c_RS_measure 5 = .ok (.iload_n 2, 1) := by decide +kernel
theorem d_RS_measure_6 : decode c_RS_measure 6 = .ok (.ifCond .lt 8, 3) := by decide +kernel
theorem d_RS_measure_9 : decode c_RS_measure 9 = .ok (.iload_n 2, 1) := by decide +kernel
theorem d_RS_measure_10 : decode c_RS_measure 10 = .ok (.iconst 4, 1) := by decide +kernel
theorem d_RS_measure_11 : decode c_RS_measure 11 = .ok (.if_icmp .lt 13, 3) := by decide +kernel
theorem d_RS_measure_14 : decode c_RS_measure 14 = .ok (.new 50, 3) := by decide +kernel
theorem d_RS_measure_17 : decode c_RS_measure 17 = .ok (.dup, 1) := by decide +kernel
theorem d_RS_measure_18 : decode c_RS_measure 18 = .ok (.ldc 147, 2) := by decide +kernel
theorem d_RS_measure_20 : decode c_RS_measure 20 = .ok (.invokespecial 54, 3) := by decide +kernel
theorem d_RS_measure_23 : decode c_RS_measure 23 = .ok (.athrow, 1) := by decide +kernel
theorem d_RS_measure_24 : decode c_RS_measure 24 = .ok (.iload_n 2, 1) := by decide +kernel
theorem d_RS_measure_25 : decode c_RS_measure 25 = .ok (.tableswitch 57 0 2 #[27, 37, 47], 27) := by decide +kernel
theorem d_RS_measure_52 : decode c_RS_measure 52 = .ok (.aload_n 0, 1) := by decide +kernel
theorem d_RS_measure_53 : decode c_RS_measure 53 = .ok (.getfield 10, 3) := by decide +kernel
theorem d_RS_measure_56 : decode c_RS_measure 56 = .ok (.getfield 149, 3) := by decide +kernel
theorem d_RS_measure_59 : decode c_RS_measure 59 = .ok (.iload_n 1, 1) := by decide +kernel
theorem d_RS_measure_60 : decode c_RS_measure 60 = .ok (.iaload, 1) := by decide +kernel
theorem d_RS_measure_61 : decode c_RS_measure 61 = .ok (.ireturn, 1) := by decide +kernel
theorem d_RS_measure_62 : decode c_RS_measure 62 = .ok (.aload_n 0, 1) := by decide +kernel
theorem d_RS_measure_63 : decode c_RS_measure 63 = .ok (.getfield 10, 3) := by decide +kernel
theorem d_RS_measure_66 : decode c_RS_measure 66 = .ok (.getfield 152, 3) := by decide +kernel
theorem d_RS_measure_69 : decode c_RS_measure 69 = .ok (.iload_n 1, 1) := by decide +kernel
theorem d_RS_measure_70 : decode c_RS_measure 70 = .ok (.iaload, 1) := by decide +kernel
theorem d_RS_measure_71 : decode c_RS_measure 71 = .ok (.ireturn, 1) := by decide +kernel
theorem d_RS_measure_72 : decode c_RS_measure 72 = .ok (.aload_n 0, 1) := by decide +kernel
theorem d_RS_measure_73 : decode c_RS_measure 73 = .ok (.getfield 10, 3) := by decide +kernel
theorem d_RS_measure_76 : decode c_RS_measure 76 = .ok (.getfield 155, 3) := by decide +kernel
theorem d_RS_measure_79 : decode c_RS_measure 79 = .ok (.iload_n 1, 1) := by decide +kernel
theorem d_RS_measure_80 : decode c_RS_measure 80 = .ok (.iaload, 1) := by decide +kernel
theorem d_RS_measure_81 : decode c_RS_measure 81 = .ok (.ireturn, 1) := by decide +kernel
theorem d_RS_measure_82 : decode c_RS_measure 82 = .ok (.aload_n 0, 1) := by decide +kernel
theorem d_RS_measure_83 : decode c_RS_measure 83 = .ok (.getfield 10, 3) := by decide +kernel
theorem d_RS_measure_86 : decode c_RS_measure 86 = .ok (.getfield 77, 3) := by decide +kernel
theorem d_RS_measure_89 : decode c_RS_measure 89 = .ok (.iload_n 1, 1) := by decide +kernel
theorem d_RS_measure_90 : decode c_RS_measure 90 = .ok (.iaload, 1) := by decide +kernel
theorem d_RS_measure_91 : decode c_RS_measure 91 = .ok (.ireturn, 1) := by decide +kernel
theorem d_RS_at_0 : decode c_RS_at 0 = .ok (.aload_n 0, 1) := by decide +kernel
theorem d_RS_at_1 : decode c_RS_at 1 = .ok (.iload_n 1, 1) := by decide +kernel
theorem d_RS_at_2 : decode c_RS_at 2 = .ok (.invokevirtual 67, 3) := by decide +kernel
theorem d_RS_at_5 : decode c_RS_at 5 = .ok (.aload_n 0, 1) := by decide +kernel
theorem d_RS_at_6 : decode c_RS_at 6 = .ok (.getfield 10, 3) := by decide +kernel
theorem d_RS_at_9 : decode c_RS_at 9 = .ok (.iload_n 1, 1) := by decide +kernel
theorem d_RS_at_10 : decode c_RS_at 10 = .ok (.iload_n 2, 1) := by decide +kernel
theorem d_RS_at_11 : decode c_RS_at 11 = .ok (.invokevirtual 158, 3) := by decide +kernel
theorem d_RS_at_14 : decode c_RS_at 14 = .ok (.ireturn, 1) := by decide +kernel
theorem d_RS_head_0 : decode c_RS_head 0 = .ok (.aload_n 0, 1) := by decide +kernel
theorem d_RS_head_1 : decode c_RS_head 1 = .ok (.iload_n 1, 1) := by decide +kernel
theorem d_RS_head_2 : decode c_RS_head 2 = .ok (.invokevirtual 67, 3) := by decide +kernel
theorem d_RS_head_5 : decode c_RS_head 5 = .ok (.aload_n 0, 1) := by decide +kernel
theorem d_RS_head_6 : decode c_RS_head 6 = .ok (.getfield 10, 3) := by decide +kernel
theorem d_RS_head_9 : decode c_RS_head 9 = .ok (.getfield 161, 3) := by decide +kernel
theorem d_RS_head_12 : decode c_RS_head 12 = .ok (.iload_n 1, 1) := by decide +kernel
theorem d_RS_head_13 : decode c_RS_head 13 = .ok (.iaload, 1) := by decide +kernel
theorem d_RS_head_14 : decode c_RS_head 14 = .ok (.ireturn, 1) := by decide +kernel
end
section
/-! decode rows, laid by a program -/
theorem d_Md_init_0 : decode c_Md_init 0 = .ok (.aload_n 0, 1) := by decide +kernel
theorem d_Md_init_1 : decode c_Md_init 1 = .ok (.invokespecial 1, 3) := by decide +kernel
theorem d_Md_init_4 : decode c_Md_init 4 = .ok (.aload_n 0, 1) := by decide +kernel
theorem d_Md_init_5 : decode c_Md_init 5 = .ok (.sipush 300, 3) := by decide +kernel
theorem d_Md_init_8 : decode c_Md_init 8 = .ok (.newarray .int, 2) := by decide +kernel
theorem d_Md_init_10 : decode c_Md_init 10 = .ok (.putfield 7, 3) := by decide +kernel
theorem d_Md_init_13 : decode c_Md_init 13 = .ok (.aload_n 0, 1) := by decide +kernel
theorem d_Md_init_14 : decode c_Md_init 14 = .ok (.sipush 300, 3) := by decide +kernel
theorem d_Md_init_17 : decode c_Md_init 17 = .ok (.newarray .int, 2) := by decide +kernel
theorem d_Md_init_19 : decode c_Md_init 19 = .ok (.putfield 13, 3) := by decide +kernel
theorem d_Md_init_22 : decode c_Md_init 22 = .ok (.aload_n 0, 1) := by decide +kernel
theorem d_Md_init_23 : decode c_Md_init 23 = .ok (.sipush 300, 3) := by decide +kernel
theorem d_Md_init_26 : decode c_Md_init 26 = .ok (.newarray .int, 2) := by decide +kernel
theorem d_Md_init_28 : decode c_Md_init 28 = .ok (.putfield 16, 3) := by decide +kernel
theorem d_Md_init_31 : decode c_Md_init 31 = .ok (.aload_n 0, 1) := by decide +kernel
theorem d_Md_init_32 : decode c_Md_init 32 = .ok (.sipush 300, 3) := by decide +kernel
theorem d_Md_init_35 : decode c_Md_init 35 = .ok (.newarray .int, 2) := by decide +kernel
theorem d_Md_init_37 : decode c_Md_init 37 = .ok (.putfield 19, 3) := by decide +kernel
theorem d_Md_init_40 : decode c_Md_init 40 = .ok (.aload_n 0, 1) := by decide +kernel
theorem d_Md_init_41 : decode c_Md_init 41 = .ok (.sipush 300, 3) := by decide +kernel
theorem d_Md_init_44 : decode c_Md_init 44 = .ok (.newarray .int, 2) := by decide +kernel
theorem d_Md_init_46 : decode c_Md_init 46 = .ok (.putfield 22, 3) := by decide +kernel
theorem d_Md_init_49 : decode c_Md_init 49 = .ok (.aload_n 0, 1) := by decide +kernel
theorem d_Md_init_50 : decode c_Md_init 50 = .ok (.sipush 300, 3) := by decide +kernel
theorem d_Md_init_53 : decode c_Md_init 53 = .ok (.newarray .int, 2) := by decide +kernel
theorem d_Md_init_55 : decode c_Md_init 55 = .ok (.putfield 25, 3) := by decide +kernel
theorem d_Md_init_58 : decode c_Md_init 58 = .ok (.aload_n 0, 1) := by decide +kernel
theorem d_Md_init_59 : decode c_Md_init 59 = .ok (.sipush 300, 3) := by decide +kernel
theorem d_Md_init_62 : decode c_Md_init 62 = .ok (.newarray .int, 2) := by decide +kernel
theorem d_Md_init_64 : decode c_Md_init 64 = .ok (.putfield 28, 3) := by decide +kernel
theorem d_Md_init_67 : decode c_Md_init 67 = .ok (.aload_n 0, 1) := by decide +kernel
theorem d_Md_init_68 : decode c_Md_init 68 = .ok (.bipush 16, 2) := by decide +kernel
theorem d_Md_init_70 : decode c_Md_init 70 = .ok (.newarray .int, 2) := by decide +kernel
theorem d_Md_init_72 : decode c_Md_init 72 = .ok (.putfield 31, 3) := by decide +kernel
theorem d_Md_init_75 : decode c_Md_init 75 = .ok (.aload_n 0, 1) := by decide +kernel
theorem d_Md_init_76 : decode c_Md_init 76 = .ok (.bipush 16, 2) := by decide +kernel
theorem d_Md_init_78 : decode c_Md_init 78 = .ok (.newarray .int, 2) := by decide +kernel
theorem d_Md_init_80 : decode c_Md_init 80 = .ok (.putfield 34, 3) := by decide +kernel
theorem d_Md_init_83 : decode c_Md_init 83 = .ok (.aload_n 0, 1) := by decide +kernel
theorem d_Md_init_84 : decode c_Md_init 84 = .ok (.bipush 16, 2) := by decide +kernel
theorem d_Md_init_86 : decode c_Md_init 86 = .ok (.newarray .int, 2) := by decide +kernel
theorem d_Md_init_88 : decode c_Md_init 88 = .ok (.putfield 37, 3) := by decide +kernel
theorem d_Md_init_91 : decode c_Md_init 91 = .ok (.aload_n 0, 1) := by decide +kernel
theorem d_Md_init_92 : decode c_Md_init 92 = .ok (.bipush 16, 2) := by decide +kernel
theorem d_Md_init_94 : decode c_Md_init 94 = .ok (.newarray .boolean, 2) := by decide +kernel
theorem d_Md_init_96 : decode c_Md_init 96 = .ok (.putfield 40, 3) := by decide +kernel
theorem d_Md_init_99 : decode c_Md_init 99 = .ok (.aload_n 0, 1) := by decide +kernel
theorem d_Md_init_100 : decode c_Md_init 100 = .ok (.bipush 10, 2) := by decide +kernel
theorem d_Md_init_102 : decode c_Md_init 102 = .ok (.newarray .int, 2) := by decide +kernel
theorem d_Md_init_104 : decode c_Md_init 104 = .ok (.putfield 44, 3) := by decide +kernel
theorem d_Md_init_107 : decode c_Md_init 107 = .ok (.aload_n 0, 1) := by decide +kernel
theorem d_Md_init_108 : decode c_Md_init 108 = .ok (.sipush 800, 3) := by decide +kernel
theorem d_Md_init_111 : decode c_Md_init 111 = .ok (.newarray .int, 2) := by decide +kernel
theorem d_Md_init_113 : decode c_Md_init 113 = .ok (.putfield 47, 3) := by decide +kernel
theorem d_Md_init_116 : decode c_Md_init 116 = .ok (.aload_n 0, 1) := by decide +kernel
theorem d_Md_init_117 : decode c_Md_init 117 = .ok (.sipush 800, 3) := by decide +kernel
theorem d_Md_init_120 : decode c_Md_init 120 = .ok (.newarray .int, 2) := by decide +kernel
theorem d_Md_init_122 : decode c_Md_init 122 = .ok (.putfield 50, 3) := by decide +kernel
theorem d_Md_init_125 : decode c_Md_init 125 = .ok (.aload_n 0, 1) := by decide +kernel
theorem d_Md_init_126 : decode c_Md_init 126 = .ok (.sipush 1001, 3) := by decide +kernel
theorem d_Md_init_129 : decode c_Md_init 129 = .ok (.newarray .int, 2) := by decide +kernel
theorem d_Md_init_131 : decode c_Md_init 131 = .ok (.putfield 53, 3) := by decide +kernel
theorem d_Md_init_134 : decode c_Md_init 134 = .ok (.aload_n 0, 1) := by decide +kernel
theorem d_Md_init_135 : decode c_Md_init 135 = .ok (.sipush 1001, 3) := by decide +kernel
theorem d_Md_init_138 : decode c_Md_init 138 = .ok (.newarray .int, 2) := by decide +kernel
theorem d_Md_init_140 : decode c_Md_init 140 = .ok (.putfield 56, 3) := by decide +kernel
theorem d_Md_init_143 : decode c_Md_init 143 = .ok (.aload_n 0, 1) := by decide +kernel
theorem d_Md_init_144 : decode c_Md_init 144 = .ok (.sipush 1001, 3) := by decide +kernel
theorem d_Md_init_147 : decode c_Md_init 147 = .ok (.newarray .int, 2) := by decide +kernel
theorem d_Md_init_149 : decode c_Md_init 149 = .ok (.putfield 59, 3) := by decide +kernel
theorem d_Md_init_152 : decode c_Md_init 152 = .ok (.aload_n 0, 1) := by decide +kernel
theorem d_Md_init_153 : decode c_Md_init 153 = .ok (.sipush 1100, 3) := by decide +kernel
theorem d_Md_init_156 : decode c_Md_init 156 = .ok (.newarray .int, 2) := by decide +kernel
theorem d_Md_init_158 : decode c_Md_init 158 = .ok (.putfield 62, 3) := by decide +kernel
theorem d_Md_init_161 : decode c_Md_init 161 = .ok (.aload_n 0, 1) := by decide +kernel
theorem d_Md_init_162 : decode c_Md_init 162 = .ok (.bipush 6, 2) := by decide +kernel
theorem d_Md_init_164 : decode c_Md_init 164 = .ok (.newarray .int, 2) := by decide +kernel
theorem d_Md_init_166 : decode c_Md_init 166 = .ok (.putfield 65, 3) := by decide +kernel
theorem d_Md_init_169 : decode c_Md_init 169 = .ok (.aload_n 0, 1) := by decide +kernel
theorem d_Md_init_170 : decode c_Md_init 170 = .ok (.sipush 1100, 3) := by decide +kernel
theorem d_Md_init_173 : decode c_Md_init 173 = .ok (.newarray .int, 2) := by decide +kernel
theorem d_Md_init_175 : decode c_Md_init 175 = .ok (.putfield 68, 3) := by decide +kernel
theorem d_Md_init_178 : decode c_Md_init 178 = .ok (.aload_n 0, 1) := by decide +kernel
theorem d_Md_init_179 : decode c_Md_init 179 = .ok (.bipush 6, 2) := by decide +kernel
theorem d_Md_init_181 : decode c_Md_init 181 = .ok (.newarray .int, 2) := by decide +kernel
theorem d_Md_init_183 : decode c_Md_init 183 = .ok (.putfield 71, 3) := by decide +kernel
theorem d_Md_init_186 : decode c_Md_init 186 = .ok (.aload_n 0, 1) := by decide +kernel
theorem d_Md_init_187 : decode c_Md_init 187 = .ok (.bipush 6, 2) := by decide +kernel
theorem d_Md_init_189 : decode c_Md_init 189 = .ok (.newarray .int, 2) := by decide +kernel
theorem d_Md_init_191 : decode c_Md_init 191 = .ok (.putfield 74, 3) := by decide +kernel
theorem d_Md_init_194 : decode c_Md_init 194 = .ok (.aload_n 0, 1) := by decide +kernel
theorem d_Md_init_195 : decode c_Md_init 195 = .ok (.sipush 1001, 3) := by decide +kernel
theorem d_Md_init_198 : decode c_Md_init 198 = .ok (.newarray .boolean, 2) := by decide +kernel
theorem d_Md_init_200 : decode c_Md_init 200 = .ok (.putfield 77, 3) := by decide +kernel
theorem d_Md_init_203 : decode c_Md_init 203 = .ok (.aload_n 0, 1) := by decide +kernel
theorem d_Md_init_204 : decode c_Md_init 204 = .ok (.sipush 1002, 3) := by decide +kernel
theorem d_Md_init_207 : decode c_Md_init 207 = .ok (.newarray .int, 2) := by decide +kernel
theorem d_Md_init_209 : decode c_Md_init 209 = .ok (.putfield 80, 3) := by decide +kernel
theorem d_Md_init_212 : decode c_Md_init 212 = .ok (.aload_n 0, 1) := by decide +kernel
theorem d_Md_init_213 : decode c_Md_init 213 = .ok (.bipush 16, 2) := by decide +kernel
theorem d_Md_init_215 : decode c_Md_init 215 = .ok (.newarray .boolean, 2) := by decide +kernel
theorem d_Md_init_217 : decode c_Md_init 217 = .ok (.putfield 83, 3) := by decide +kernel
theorem d_Md_init_220 : decode c_Md_init 220 = .ok (.iconst 0, 1) := by decide +kernel
theorem d_Md_init_221 : decode c_Md_init 221 = .ok (.istore_n 1, 1) := by decide +kernel
theorem d_Md_init_222 : decode c_Md_init 222 = .ok (.iload_n 1, 1) := by decide +kernel
theorem d_Md_init_223 : decode c_Md_init 223 = .ok (.bipush 10, 2) := by decide +kernel
theorem d_Md_init_225 : decode c_Md_init 225 = .ok (.if_icmp .ge 16, 3) := by decide +kernel
theorem d_Md_init_228 : decode c_Md_init 228 = .ok (.aload_n 0, 1) := by decide +kernel
theorem d_Md_init_229 : decode c_Md_init 229 = .ok (.getfield 44, 3) := by decide +kernel
theorem d_Md_init_232 : decode c_Md_init 232 = .ok (.iload_n 1, 1) := by decide +kernel
theorem d_Md_init_233 : decode c_Md_init 233 = .ok (.iconst 2, 1) := by decide +kernel
theorem d_Md_init_234 : decode c_Md_init 234 = .ok (.iastore, 1) := by decide +kernel
theorem d_Md_init_235 : decode c_Md_init 235 = .ok (.iinc 1 1, 3) := by decide +kernel
theorem d_Md_init_238 : decode c_Md_init 238 = .ok (.goto (-16), 3) := by decide +kernel
theorem d_Md_init_241 : decode c_Md_init 241 = .ok (.return_, 1) := by decide +kernel
theorem d_Md_thrown_0 : decode c_Md_thrown 0 = .ok (.aload_n 0, 1) := by decide +kernel
theorem d_Md_thrown_1 : decode c_Md_thrown 1 = .ok (.getfield 86, 3) := by decide +kernel
theorem d_Md_thrown_4 : decode c_Md_thrown 4 = .ok (.ireturn, 1) := by decide +kernel
theorem d_Md_leaf_0 : decode c_Md_leaf 0 = .ok (.aload_n 0, 1) := by decide +kernel
theorem d_Md_leaf_1 : decode c_Md_leaf 1 = .ok (.iload_n 1, 1) := by decide +kernel
theorem d_Md_leaf_2 : decode c_Md_leaf 2 = .ok (.ifCond .lt 9, 3) := by decide +kernel
theorem d_Md_leaf_5 : decode c_Md_leaf 5 = .ok (.iload_n 1, 1) := by decide +kernel
theorem d_Md_leaf_6 : decode c_Md_leaf 6 = .ok (.bipush 19, 2) := by decide +kernel
theorem d_Md_leaf_8 : decode c_Md_leaf 8 = .ok (.if_icmp .le 7, 3) := by decide +kernel
theorem d_Md_leaf_11 : decode c_Md_leaf 11 = .ok (.iconst 1, 1) := by decide +kernel
theorem d_Md_leaf_12 : decode c_Md_leaf 12 = .ok (.goto 4, 3) := by decide +kernel
theorem d_Md_leaf_15 : decode c_Md_leaf 15 = .ok (.iconst 0, 1) := by decide +kernel
theorem d_Md_leaf_16 : decode c_Md_leaf 16 = .ok (.putfield 86, 3) := by decide +kernel
theorem d_Md_leaf_19 : decode c_Md_leaf 19 = .ok (.aload_n 0, 1) := by decide +kernel
theorem d_Md_leaf_20 : decode c_Md_leaf 20 = .ok (.getfield 86, 3) := by decide +kernel
theorem d_Md_leaf_23 : decode c_Md_leaf 23 = .ok (.ifCond .eq 7, 3) := by decide +kernel
theorem d_Md_leaf_26 : decode c_Md_leaf 26 = .ok (.iconst 0, 1) := by decide +kernel
theorem d_Md_leaf_27 : decode c_Md_leaf 27 = .ok (.goto 14, 3) := by decide +kernel
theorem d_Md_leaf_30 : decode c_Md_leaf 30 = .ok (.aload_n 0, 1) := by decide +kernel
theorem d_Md_leaf_31 : decode c_Md_leaf 31 = .ok (.bipush 100, 2) := by decide +kernel
theorem d_Md_leaf_33 : decode c_Md_leaf 33 = .ok (.iload_n 1, 1) := by decide +kernel
theorem d_Md_leaf_34 : decode c_Md_leaf 34 = .ok (.iadd, 1) := by decide +kernel
theorem d_Md_leaf_35 : decode c_Md_leaf 35 = .ok (.iconst (-1), 1) := by decide +kernel
theorem d_Md_leaf_36 : decode c_Md_leaf 36 = .ok (.iconst (-1), 1) := by decide +kernel
theorem d_Md_leaf_37 : decode c_Md_leaf 37 = .ok (.iconst 2, 1) := by decide +kernel
theorem d_Md_leaf_38 : decode c_Md_leaf 38 = .ok (.invokevirtual 105, 3) := by decide +kernel
theorem d_Md_leaf_41 : decode c_Md_leaf 41 = .ok (.ireturn, 1) := by decide +kernel
theorem d_Md_ask_0 : decode c_Md_ask 0 = .ok (.aload_n 0, 1) := by decide +kernel
theorem d_Md_ask_1 : decode c_Md_ask 1 = .ok (.iconst 0, 1) := by decide +kernel
theorem d_Md_ask_2 : decode c_Md_ask 2 = .ok (.putfield 97, 3) := by decide +kernel
theorem d_Md_ask_5 : decode c_Md_ask 5 = .ok (.aload_n 0, 1) := by decide +kernel
theorem d_Md_ask_6 : decode c_Md_ask 6 = .ok (.iload_n 1, 1) := by decide +kernel
theorem d_Md_ask_7 : decode c_Md_ask 7 = .ok (.iload_n 2, 1) := by decide +kernel
theorem d_Md_ask_8 : decode c_Md_ask 8 = .ok (.iload_n 3, 1) := by decide +kernel
theorem d_Md_ask_9 : decode c_Md_ask 9 = .ok (.invokevirtual 101, 3) := by decide +kernel
theorem d_Md_ask_12 : decode c_Md_ask 12 = .ok (.istore 5, 2) := by decide +kernel
theorem d_Md_ask_14 : decode c_Md_ask 14 = .ok (.aload_n 0, 1) := by decide +kernel
theorem d_Md_ask_15 : decode c_Md_ask 15 = .ok (.aload_n 0, 1) := by decide +kernel
theorem d_Md_ask_16 : decode c_Md_ask 16 = .ok (.getfield 97, 3) := by decide +kernel
theorem d_Md_ask_19 : decode c_Md_ask 19 = .ok (.ifCond .eq 8, 3) := by decide +kernel
theorem d_Md_ask_22 : decode c_Md_ask 22 = .ok (.iload 4, 2) := by decide +kernel
theorem d_Md_ask_24 : decode c_Md_ask 24 = .ok (.goto 4, 3) := by decide +kernel
theorem d_Md_ask_27 : decode c_Md_ask 27 = .ok (.iconst 0, 1) := by decide +kernel
theorem d_Md_ask_28 : decode c_Md_ask 28 = .ok (.putfield 86, 3) := by decide +kernel
theorem d_Md_ask_31 : decode c_Md_ask 31 = .ok (.aload_n 0, 1) := by decide +kernel
theorem d_Md_ask_32 : decode c_Md_ask 32 = .ok (.getfield 97, 3) := by decide +kernel
theorem d_Md_ask_35 : decode c_Md_ask 35 = .ok (.ifCond .eq 7, 3) := by decide +kernel
theorem d_Md_ask_38 : decode c_Md_ask 38 = .ok (.iconst 0, 1) := by decide +kernel
theorem d_Md_ask_39 : decode c_Md_ask 39 = .ok (.goto 5, 3) := by decide +kernel
theorem d_Md_ask_42 : decode c_Md_ask 42 = .ok (.iload 5, 2) := by decide +kernel
theorem d_Md_ask_44 : decode c_Md_ask 44 = .ok (.ireturn, 1) := by decide +kernel
theorem d_Md_tree_0 : decode c_Md_tree 0 = .ok (.iconst 0, 1) := by decide +kernel
theorem d_Md_tree_1 : decode c_Md_tree 1 = .ok (.istore 4, 2) := by decide +kernel
theorem d_Md_tree_3 : decode c_Md_tree 3 = .ok (.iload 4, 2) := by decide +kernel
theorem d_Md_tree_5 : decode c_Md_tree 5 = .ok (.aload_n 0, 1) := by decide +kernel
theorem d_Md_tree_6 : decode c_Md_tree 6 = .ok (.getfield 90, 3) := by decide +kernel
theorem d_Md_tree_9 : decode c_Md_tree 9 = .ok (.if_icmp .ge 45, 3) := by decide +kernel
theorem d_Md_tree_12 : decode c_Md_tree 12 = .ok (.aload_n 0, 1) := by decide +kernel
theorem d_Md_tree_13 : decode c_Md_tree 13 = .ok (.getfield 7, 3) := by decide +kernel
theorem d_Md_tree_16 : decode c_Md_tree 16 = .ok (.iload 4, 2) := by decide +kernel
theorem d_Md_tree_18 : decode c_Md_tree 18 = .ok (.iaload, 1) := by decide +kernel
theorem d_Md_tree_19 : decode c_Md_tree 19 = .ok (.iload_n 1, 1) := by decide +kernel
theorem d_Md_tree_20 : decode c_Md_tree 20 = .ok (.if_icmp .ne 28, 3) := by decide +kernel
theorem d_Md_tree_23 : decode c_Md_tree 23 = .ok (.aload_n 0, 1) := by decide +kernel
theorem d_Md_tree_24 : decode c_Md_tree 24 = .ok (.getfield 13, 3) := by decide +kernel
theorem d_Md_tree_27 : decode c_Md_tree 27 = .ok (.iload 4, 2) := by decide +kernel
theorem d_Md_tree_29 : decode c_Md_tree 29 = .ok (.iaload, 1) := by decide +kernel
theorem d_Md_tree_30 : decode c_Md_tree 30 = .ok (.iload_n 2, 1) := by decide +kernel
theorem d_Md_tree_31 : decode c_Md_tree 31 = .ok (.if_icmp .ne 17, 3) := by decide +kernel
theorem d_Md_tree_34 : decode c_Md_tree 34 = .ok (.aload_n 0, 1) := by decide +kernel
theorem d_Md_tree_35 : decode c_Md_tree 35 = .ok (.getfield 16, 3) := by decide +kernel
theorem d_Md_tree_38 : decode c_Md_tree 38 = .ok (.iload 4, 2) := by decide +kernel
theorem d_Md_tree_40 : decode c_Md_tree 40 = .ok (.iaload, 1) := by decide +kernel
theorem d_Md_tree_41 : decode c_Md_tree 41 = .ok (.iload_n 3, 1) := by decide +kernel
theorem d_Md_tree_42 : decode c_Md_tree 42 = .ok (.if_icmp .ne 6, 3) := by decide +kernel
theorem d_Md_tree_45 : decode c_Md_tree 45 = .ok (.iload 4, 2) := by decide +kernel
theorem d_Md_tree_47 : decode c_Md_tree 47 = .ok (.ireturn, 1) := by decide +kernel
theorem d_Md_tree_48 : decode c_Md_tree 48 = .ok (.iinc 4 1, 3) := by decide +kernel
theorem d_Md_tree_51 : decode c_Md_tree 51 = .ok (.goto (-48), 3) := by decide +kernel
theorem d_Md_tree_54 : decode c_Md_tree 54 = .ok (.iload_n 1, 1) := by decide +kernel
theorem d_Md_tree_55 : decode c_Md_tree 55 = .ok (.invokestatic 93, 3) := by decide +kernel
theorem d_Md_tree_58 : decode c_Md_tree 58 = .ok (.istore 4, 2) := by decide +kernel
theorem d_Md_tree_60 : decode c_Md_tree 60 = .ok (.iconst 1, 1) := by decide +kernel
theorem d_Md_tree_61 : decode c_Md_tree 61 = .ok (.istore 5, 2) := by decide +kernel
theorem d_Md_tree_63 : decode c_Md_tree 63 = .ok (.iconst 1, 1) := by decide +kernel
theorem d_Md_tree_64 : decode c_Md_tree 64 = .ok (.istore 6, 2) := by decide +kernel
theorem d_Md_tree_66 : decode c_Md_tree 66 = .ok (.iconst 0, 1) := by decide +kernel
theorem d_Md_tree_67 : decode c_Md_tree 67 = .ok (.istore 7, 2) := by decide +kernel
theorem d_Md_tree_69 : decode c_Md_tree 69 = .ok (.iload_n 1, 1) := by decide +kernel
theorem d_Md_tree_70 : decode c_Md_tree 70 = .ok (.sipush 200, 3) := by decide +kernel
theorem d_Md_tree_73 : decode c_Md_tree 73 = .ok (.if_icmp .lt 13, 3) := by decide +kernel
theorem d_Md_tree_76 : decode c_Md_tree 76 = .ok (.iconst 1, 1) := by decide +kernel
theorem d_Md_tree_77 : decode c_Md_tree 77 = .ok (.iload_n 1, 1) := by decide +kernel
theorem d_Md_tree_78 : decode c_Md_tree 78 = .ok (.sipush 200, 3) := by decide +kernel
theorem d_Md_tree_81 : decode c_Md_tree 81 = .ok (.isub, 1) := by decide +kernel
theorem d_Md_tree_82 : decode c_Md_tree 82 = .ok (.ishl, 1) := by decide +kernel
theorem d_Md_tree_83 : decode c_Md_tree 83 = .ok (.goto 4, 3) := by decide +kernel
theorem d_Md_tree_86 : decode c_Md_tree 86 = .ok (.iconst 0, 1) := by decide +kernel
theorem d_Md_tree_87 : decode c_Md_tree 87 = .ok (.istore 8, 2) := by decide +kernel
theorem d_Md_tree_89 : decode c_Md_tree 89 = .ok (.iload 4, 2) := by decide +kernel
theorem d_Md_tree_91 : decode c_Md_tree 91 = .ok (.ifCond .le 135, 3) := by decide +kernel
theorem d_Md_tree_94 : decode c_Md_tree 94 = .ok (.iconst 1, 1) := by decide +kernel
theorem d_Md_tree_95 : decode c_Md_tree 95 = .ok (.iload_n 1, 1) := by decide +kernel
theorem d_Md_tree_96 : decode c_Md_tree 96 = .ok (.iconst 3, 1) := by decide +kernel
theorem d_Md_tree_97 : decode c_Md_tree 97 = .ok (.irem, 1) := by decide +kernel
theorem d_Md_tree_98 : decode c_Md_tree 98 = .ok (.iconst 2, 1) := by decide +kernel
theorem d_Md_tree_99 : decode c_Md_tree 99 = .ok (.if_icmp .ne 7, 3) := by decide +kernel
theorem d_Md_tree_102 : decode c_Md_tree 102 = .ok (.iconst 1, 1) := by decide +kernel
theorem d_Md_tree_103 : decode c_Md_tree 103 = .ok (.goto 4, 3) := by decide +kernel
theorem d_Md_tree_106 : decode c_Md_tree 106 = .ok (.iconst 0, 1) := by decide +kernel
theorem d_Md_tree_107 : decode c_Md_tree 107 = .ok (.iadd, 1) := by decide +kernel
theorem d_Md_tree_108 : decode c_Md_tree 108 = .ok (.aload_n 0, 1) := by decide +kernel
theorem d_Md_tree_109 : decode c_Md_tree 109 = .ok (.getfield 19, 3) := by decide +kernel
theorem d_Md_tree_112 : decode c_Md_tree 112 = .ok (.iload_n 2, 1) := by decide +kernel
theorem d_Md_tree_113 : decode c_Md_tree 113 = .ok (.iaload, 1) := by decide +kernel
theorem d_Md_tree_114 : decode c_Md_tree 114 = .ok (.iadd, 1) := by decide +kernel
theorem d_Md_tree_115 : decode c_Md_tree 115 = .ok (.iload 4, 2) := by decide +kernel
theorem d_Md_tree_117 : decode c_Md_tree 117 = .ok (.iconst 1, 1) := by decide +kernel
theorem d_Md_tree_118 : decode c_Md_tree 118 = .ok (.if_icmp .le 12, 3) := by decide +kernel
theorem d_Md_tree_121 : decode c_Md_tree 121 = .ok (.aload_n 0, 1) := by decide +kernel
theorem d_Md_tree_122 : decode c_Md_tree 122 = .ok (.getfield 19, 3) := by decide +kernel
theorem d_Md_tree_125 : decode c_Md_tree 125 = .ok (.iload_n 3, 1) := by decide +kernel
theorem d_Md_tree_126 : decode c_Md_tree 126 = .ok (.iaload, 1) := by decide +kernel
theorem d_Md_tree_127 : decode c_Md_tree 127 = .ok (.goto 4, 3) := by decide +kernel
theorem d_Md_tree_130 : decode c_Md_tree 130 = .ok (.iconst 0, 1) := by decide +kernel
theorem d_Md_tree_131 : decode c_Md_tree 131 = .ok (.iadd, 1) := by decide +kernel
theorem d_Md_tree_132 : decode c_Md_tree 132 = .ok (.istore 5, 2) := by decide +kernel
theorem d_Md_tree_134 : decode c_Md_tree 134 = .ok (.iconst 1, 1) := by decide +kernel
theorem d_Md_tree_135 : decode c_Md_tree 135 = .ok (.aload_n 0, 1) := by decide +kernel
theorem d_Md_tree_136 : decode c_Md_tree 136 = .ok (.getfield 22, 3) := by decide +kernel
theorem d_Md_tree_139 : decode c_Md_tree 139 = .ok (.iload_n 2, 1) := by decide +kernel
theorem d_Md_tree_140 : decode c_Md_tree 140 = .ok (.iaload, 1) := by decide +kernel
theorem d_Md_tree_141 : decode c_Md_tree 141 = .ok (.iadd, 1) := by decide +kernel
theorem d_Md_tree_142 : decode c_Md_tree 142 = .ok (.iload 4, 2) := by decide +kernel
theorem d_Md_tree_144 : decode c_Md_tree 144 = .ok (.iconst 1, 1) := by decide +kernel
theorem d_Md_tree_145 : decode c_Md_tree 145 = .ok (.if_icmp .le 12, 3) := by decide +kernel
theorem d_Md_tree_148 : decode c_Md_tree 148 = .ok (.aload_n 0, 1) := by decide +kernel
theorem d_Md_tree_149 : decode c_Md_tree 149 = .ok (.getfield 22, 3) := by decide +kernel
theorem d_Md_tree_152 : decode c_Md_tree 152 = .ok (.iload_n 3, 1) := by decide +kernel
theorem d_Md_tree_153 : decode c_Md_tree 153 = .ok (.iaload, 1) := by decide +kernel
theorem d_Md_tree_154 : decode c_Md_tree 154 = .ok (.goto 4, 3) := by decide +kernel
theorem d_Md_tree_157 : decode c_Md_tree 157 = .ok (.iconst 0, 1) := by decide +kernel
theorem d_Md_tree_158 : decode c_Md_tree 158 = .ok (.iadd, 1) := by decide +kernel
theorem d_Md_tree_159 : decode c_Md_tree 159 = .ok (.istore 6, 2) := by decide +kernel
theorem d_Md_tree_161 : decode c_Md_tree 161 = .ok (.iconst 1, 1) := by decide +kernel
theorem d_Md_tree_162 : decode c_Md_tree 162 = .ok (.iload 4, 2) := by decide +kernel
theorem d_Md_tree_164 : decode c_Md_tree 164 = .ok (.iconst 1, 1) := by decide +kernel
theorem d_Md_tree_165 : decode c_Md_tree 165 = .ok (.if_icmp .le 27, 3) := by decide +kernel
theorem d_Md_tree_168 : decode c_Md_tree 168 = .ok (.aload_n 0, 1) := by decide +kernel
theorem d_Md_tree_169 : decode c_Md_tree 169 = .ok (.getfield 25, 3) := by decide +kernel
theorem d_Md_tree_172 : decode c_Md_tree 172 = .ok (.iload_n 3, 1) := by decide +kernel
theorem d_Md_tree_173 : decode c_Md_tree 173 = .ok (.iaload, 1) := by decide +kernel
theorem d_Md_tree_174 : decode c_Md_tree 174 = .ok (.aload_n 0, 1) := by decide +kernel
theorem d_Md_tree_175 : decode c_Md_tree 175 = .ok (.getfield 25, 3) := by decide +kernel
theorem d_Md_tree_178 : decode c_Md_tree 178 = .ok (.iload_n 2, 1) := by decide +kernel
theorem d_Md_tree_179 : decode c_Md_tree 179 = .ok (.iaload, 1) := by decide +kernel
theorem d_Md_tree_180 : decode c_Md_tree 180 = .ok (.if_icmp .le 12, 3) := by decide +kernel
theorem d_Md_tree_183 : decode c_Md_tree 183 = .ok (.aload_n 0, 1) := by decide +kernel
theorem d_Md_tree_184 : decode c_Md_tree 184 = .ok (.getfield 25, 3) := by decide +kernel
theorem d_Md_tree_187 : decode c_Md_tree 187 = .ok (.iload_n 3, 1) := by decide +kernel
theorem d_Md_tree_188 : decode c_Md_tree 188 = .ok (.iaload, 1) := by decide +kernel
theorem d_Md_tree_189 : decode c_Md_tree 189 = .ok (.goto 9, 3) := by decide +kernel
theorem d_Md_tree_192 : decode c_Md_tree 192 = .ok (.aload_n 0, 1) := by decide +kernel
theorem d_Md_tree_193 : decode c_Md_tree 193 = .ok (.getfield 25, 3) := by decide +kernel
theorem d_Md_tree_196 : decode c_Md_tree 196 = .ok (.iload_n 2, 1) := by decide +kernel
theorem d_Md_tree_197 : decode c_Md_tree 197 = .ok (.iaload, 1) := by decide +kernel
theorem d_Md_tree_198 : decode c_Md_tree 198 = .ok (.iadd, 1) := by decide +kernel
theorem d_Md_tree_199 : decode c_Md_tree 199 = .ok (.istore 7, 2) := by decide +kernel
theorem d_Md_tree_201 : decode c_Md_tree 201 = .ok (.aload_n 0, 1) := by decide +kernel
theorem d_Md_tree_202 : decode c_Md_tree 202 = .ok (.getfield 28, 3) := by decide +kernel
theorem d_Md_tree_205 : decode c_Md_tree 205 = .ok (.iload_n 2, 1) := by decide +kernel
theorem d_Md_tree_206 : decode c_Md_tree 206 = .ok (.iaload, 1) := by decide +kernel
theorem d_Md_tree_207 : decode c_Md_tree 207 = .ok (.iload 4, 2) := by decide +kernel
theorem d_Md_tree_209 : decode c_Md_tree 209 = .ok (.iconst 1, 1) := by decide +kernel
theorem d_Md_tree_210 : decode c_Md_tree 210 = .ok (.if_icmp .le 12, 3) := by decide +kernel
theorem d_Md_tree_213 : decode c_Md_tree 213 = .ok (.aload_n 0, 1) := by decide +kernel
theorem d_Md_tree_214 : decode c_Md_tree 214 = .ok (.getfield 28, 3) := by decide +kernel
theorem d_Md_tree_217 : decode c_Md_tree 217 = .ok (.iload_n 3, 1) := by decide +kernel
theorem d_Md_tree_218 : decode c_Md_tree 218 = .ok (.iaload, 1) := by decide +kernel
theorem d_Md_tree_219 : decode c_Md_tree 219 = .ok (.goto 4, 3) := by decide +kernel
theorem d_Md_tree_222 : decode c_Md_tree 222 = .ok (.iconst 0, 1) := by decide +kernel
theorem d_Md_tree_223 : decode c_Md_tree 223 = .ok (.ior, 1) := by decide +kernel
theorem d_Md_tree_224 : decode c_Md_tree 224 = .ok (.istore 8, 2) := by decide +kernel
theorem d_Md_tree_226 : decode c_Md_tree 226 = .ok (.aload_n 0, 1) := by decide +kernel
theorem d_Md_tree_227 : decode c_Md_tree 227 = .ok (.getfield 90, 3) := by decide +kernel
theorem d_Md_tree_230 : decode c_Md_tree 230 = .ok (.sipush 300, 3) := by decide +kernel
theorem d_Md_tree_233 : decode c_Md_tree 233 = .ok (.if_icmp .eq 18, 3) := by decide +kernel
theorem d_Md_tree_236 : decode c_Md_tree 236 = .ok (.iload 7, 2) := by decide +kernel
theorem d_Md_tree_238 : decode c_Md_tree 238 = .ok (.bipush 30, 2) := by decide +kernel
theorem d_Md_tree_240 : decode c_Md_tree 240 = .ok (.if_icmp .gt 11, 3) := by decide +kernel
theorem d_Md_tree_243 : decode c_Md_tree 243 = .ok (.iload 5, 2) := by decide +kernel
theorem d_Md_tree_245 : decode c_Md_tree 245 = .ok (.sipush 1000, 3) := by decide +kernel
theorem d_Md_tree_248 : decode c_Md_tree 248 = .ok (.if_icmp .le 10, 3) := by decide +kernel
theorem d_Md_tree_251 : decode c_Md_tree 251 = .ok (.aload_n 0, 1) := by decide +kernel
theorem d_Md_tree_252 : decode c_Md_tree 252 = .ok (.iconst 1, 1) := by decide +kernel
theorem d_Md_tree_253 : decode c_Md_tree 253 = .ok (.putfield 97, 3) := by decide +kernel
theorem d_Md_tree_256 : decode c_Md_tree 256 = .ok (.iconst (-1), 1) := by decide +kernel
theorem d_Md_tree_257 : decode c_Md_tree 257 = .ok (.ireturn, 1) := by decide +kernel
theorem d_Md_tree_258 : decode c_Md_tree 258 = .ok (.aload_n 0, 1) := by decide +kernel
theorem d_Md_tree_259 : decode c_Md_tree 259 = .ok (.getfield 7, 3) := by decide +kernel
theorem d_Md_tree_262 : decode c_Md_tree 262 = .ok (.aload_n 0, 1) := by decide +kernel
theorem d_Md_tree_263 : decode c_Md_tree 263 = .ok (.getfield 90, 3) := by decide +kernel
theorem d_Md_tree_266 : decode c_Md_tree 266 = .ok (.iload_n 1, 1) := by decide +kernel
theorem d_Md_tree_267 : decode c_Md_tree 267 = .ok (.iastore, 1) := by decide +kernel
theorem d_Md_tree_268 : decode c_Md_tree 268 = .ok (.aload_n 0, 1) := by decide +kernel
theorem d_Md_tree_269 : decode c_Md_tree 269 = .ok (.getfield 13, 3) := by decide +kernel
theorem d_Md_tree_272 : decode c_Md_tree 272 = .ok (.aload_n 0, 1) := by decide +kernel
theorem d_Md_tree_273 : decode c_Md_tree 273 = .ok (.getfield 90, 3) := by decide +kernel
theorem d_Md_tree_276 : decode c_Md_tree 276 = .ok (.iload_n 2, 1) := by decide +kernel
theorem d_Md_tree_277 : decode c_Md_tree 277 = .ok (.iastore, 1) := by decide +kernel
theorem d_Md_tree_278 : decode c_Md_tree 278 = .ok (.aload_n 0, 1) := by decide +kernel
theorem d_Md_tree_279 : decode c_Md_tree 279 = .ok (.getfield 16, 3) := by decide +kernel
theorem d_Md_tree_282 : decode c_Md_tree 282 = .ok (.aload_n 0, 1) := by decide +kernel
theorem d_Md_tree_283 : decode c_Md_tree 283 = .ok (.getfield 90, 3) := by decide +kernel
theorem d_Md_tree_286 : decode c_Md_tree 286 = .ok (.iload_n 3, 1) := by decide +kernel
theorem d_Md_tree_287 : decode c_Md_tree 287 = .ok (.iastore, 1) := by decide +kernel
theorem d_Md_tree_288 : decode c_Md_tree 288 = .ok (.aload_n 0, 1) := by decide +kernel
theorem d_Md_tree_289 : decode c_Md_tree 289 = .ok (.getfield 19, 3) := by decide +kernel
theorem d_Md_tree_292 : decode c_Md_tree 292 = .ok (.aload_n 0, 1) := by decide +kernel
theorem d_Md_tree_293 : decode c_Md_tree 293 = .ok (.getfield 90, 3) := by decide +kernel
theorem d_Md_tree_296 : decode c_Md_tree 296 = .ok (.iload 5, 2) := by decide +kernel
theorem d_Md_tree_298 : decode c_Md_tree 298 = .ok (.iastore, 1) := by decide +kernel
theorem d_Md_tree_299 : decode c_Md_tree 299 = .ok (.aload_n 0, 1) := by decide +kernel
theorem d_Md_tree_300 : decode c_Md_tree 300 = .ok (.getfield 22, 3) := by decide +kernel
theorem d_Md_tree_303 : decode c_Md_tree 303 = .ok (.aload_n 0, 1) := by decide +kernel
theorem d_Md_tree_304 : decode c_Md_tree 304 = .ok (.getfield 90, 3) := by decide +kernel
theorem d_Md_tree_307 : decode c_Md_tree 307 = .ok (.iload 6, 2) := by decide +kernel
theorem d_Md_tree_309 : decode c_Md_tree 309 = .ok (.iastore, 1) := by decide +kernel
theorem d_Md_tree_310 : decode c_Md_tree 310 = .ok (.aload_n 0, 1) := by decide +kernel
theorem d_Md_tree_311 : decode c_Md_tree 311 = .ok (.getfield 25, 3) := by decide +kernel
theorem d_Md_tree_314 : decode c_Md_tree 314 = .ok (.aload_n 0, 1) := by decide +kernel
theorem d_Md_tree_315 : decode c_Md_tree 315 = .ok (.getfield 90, 3) := by decide +kernel
theorem d_Md_tree_318 : decode c_Md_tree 318 = .ok (.iload 7, 2) := by decide +kernel
theorem d_Md_tree_320 : decode c_Md_tree 320 = .ok (.iastore, 1) := by decide +kernel
theorem d_Md_tree_321 : decode c_Md_tree 321 = .ok (.aload_n 0, 1) := by decide +kernel
theorem d_Md_tree_322 : decode c_Md_tree 322 = .ok (.getfield 28, 3) := by decide +kernel
theorem d_Md_tree_325 : decode c_Md_tree 325 = .ok (.aload_n 0, 1) := by decide +kernel
theorem d_Md_tree_326 : decode c_Md_tree 326 = .ok (.getfield 90, 3) := by decide +kernel
theorem d_Md_tree_329 : decode c_Md_tree 329 = .ok (.iload 8, 2) := by decide +kernel
theorem d_Md_tree_331 : decode c_Md_tree 331 = .ok (.iastore, 1) := by decide +kernel
theorem d_Md_tree_332 : decode c_Md_tree 332 = .ok (.aload_n 0, 1) := by decide +kernel
theorem d_Md_tree_333 : decode c_Md_tree 333 = .ok (.dup, 1) := by decide +kernel
theorem d_Md_tree_334 : decode c_Md_tree 334 = .ok (.getfield 90, 3) := by decide +kernel
theorem d_Md_tree_337 : decode c_Md_tree 337 = .ok (.iconst 1, 1) := by decide +kernel
theorem d_Md_tree_338 : decode c_Md_tree 338 = .ok (.iadd, 1) := by decide +kernel
theorem d_Md_tree_339 : decode c_Md_tree 339 = .ok (.putfield 90, 3) := by decide +kernel
theorem d_Md_tree_342 : decode c_Md_tree 342 = .ok (.aload_n 0, 1) := by decide +kernel
theorem d_Md_tree_343 : decode c_Md_tree 343 = .ok (.getfield 90, 3) := by decide +kernel
theorem d_Md_tree_346 : decode c_Md_tree 346 = .ok (.iconst 1, 1) := by decide +kernel
theorem d_Md_tree_347 : decode c_Md_tree 347 = .ok (.isub, 1) := by decide +kernel
theorem d_Md_tree_348 : decode c_Md_tree 348 = .ok (.ireturn, 1) := by decide +kernel
theorem d_Md_parts_0 : decode c_Md_parts 0 = .ok (.iload_n 0, 1) := by decide +kernel
theorem d_Md_parts_1 : decode c_Md_parts 1 = .ok (.bipush 100, 2) := by decide +kernel
theorem d_Md_parts_3 : decode c_Md_parts 3 = .ok (.if_icmp .lt 7, 3) := by decide +kernel
theorem d_Md_parts_6 : decode c_Md_parts 6 = .ok (.iconst 0, 1) := by decide +kernel
theorem d_Md_parts_7 : decode c_Md_parts 7 = .ok (.goto 14, 3) := by decide +kernel
theorem d_Md_parts_10 : decode c_Md_parts 10 = .ok (.iload_n 0, 1) := by decide +kernel
theorem d_Md_parts_11 : decode c_Md_parts 11 = .ok (.bipush 6, 2) := by decide +kernel
theorem d_Md_parts_13 : decode c_Md_parts 13 = .ok (.if_icmp .ge 7, 3) := by decide +kernel
theorem d_Md_parts_16 : decode c_Md_parts 16 = .ok (.iconst 1, 1) := by decide +kernel
theorem d_Md_parts_17 : decode c_Md_parts 17 = .ok (.goto 4, 3) := by decide +kernel
theorem d_Md_parts_20 : decode c_Md_parts 20 = .ok (.iconst 2, 1) := by decide +kernel
theorem d_Md_parts_21 : decode c_Md_parts 21 = .ok (.ireturn, 1) := by decide +kernel
theorem d_Md_hole_0 : decode c_Md_hole 0 = .ok (.aload_n 0, 1) := by decide +kernel
theorem d_Md_hole_1 : decode c_Md_hole 1 = .ok (.iload_n 1, 1) := by decide +kernel
theorem d_Md_hole_2 : decode c_Md_hole 2 = .ok (.ifCond .lt 8, 3) := by decide +kernel
theorem d_Md_hole_5 : decode c_Md_hole 5 = .ok (.iload_n 1, 1) := by decide +kernel
theorem d_Md_hole_6 : decode c_Md_hole 6 = .ok (.iconst 5, 1) := by decide +kernel
theorem d_Md_hole_7 : decode c_Md_hole 7 = .ok (.if_icmp .le 7, 3) := by decide +kernel
theorem d_Md_hole_10 : decode c_Md_hole 10 = .ok (.iconst 1, 1) := by decide +kernel
theorem d_Md_hole_11 : decode c_Md_hole 11 = .ok (.goto 4, 3) := by decide +kernel
theorem d_Md_hole_14 : decode c_Md_hole 14 = .ok (.iconst 0, 1) := by decide +kernel
theorem d_Md_hole_15 : decode c_Md_hole 15 = .ok (.putfield 86, 3) := by decide +kernel
theorem d_Md_hole_18 : decode c_Md_hole 18 = .ok (.aload_n 0, 1) := by decide +kernel
theorem d_Md_hole_19 : decode c_Md_hole 19 = .ok (.getfield 86, 3) := by decide +kernel
theorem d_Md_hole_22 : decode c_Md_hole 22 = .ok (.ifCond .eq 7, 3) := by decide +kernel
theorem d_Md_hole_25 : decode c_Md_hole 25 = .ok (.iconst 0, 1) := by decide +kernel
theorem d_Md_hole_26 : decode c_Md_hole 26 = .ok (.goto 15, 3) := by decide +kernel
theorem d_Md_hole_29 : decode c_Md_hole 29 = .ok (.aload_n 0, 1) := by decide +kernel
theorem d_Md_hole_30 : decode c_Md_hole 30 = .ok (.sipush 200, 3) := by decide +kernel
theorem d_Md_hole_33 : decode c_Md_hole 33 = .ok (.iload_n 1, 1) := by decide +kernel
theorem d_Md_hole_34 : decode c_Md_hole 34 = .ok (.iadd, 1) := by decide +kernel
theorem d_Md_hole_35 : decode c_Md_hole 35 = .ok (.iconst (-1), 1) := by decide +kernel
theorem d_Md_hole_36 : decode c_Md_hole 36 = .ok (.iconst (-1), 1) := by decide +kernel
theorem d_Md_hole_37 : decode c_Md_hole 37 = .ok (.iconst 2, 1) := by decide +kernel
theorem d_Md_hole_38 : decode c_Md_hole 38 = .ok (.invokevirtual 105, 3) := by decide +kernel
theorem d_Md_hole_41 : decode c_Md_hole 41 = .ok (.ireturn, 1) := by decide +kernel
theorem d_Md_node_0 : decode c_Md_node 0 = .ok (.aload_n 0, 1) := by decide +kernel
theorem d_Md_node_1 : decode c_Md_node 1 = .ok (.iload_n 2, 1) := by decide +kernel
theorem d_Md_node_2 : decode c_Md_node 2 = .ok (.invokevirtual 109, 3) := by decide +kernel
theorem d_Md_node_5 : decode c_Md_node 5 = .ok (.ifCond .eq 26, 3) := by decide +kernel
theorem d_Md_node_8 : decode c_Md_node 8 = .ok (.aload_n 0, 1) := by decide +kernel
theorem d_Md_node_9 : decode c_Md_node 9 = .ok (.iload_n 3, 1) := by decide +kernel
theorem d_Md_node_10 : decode c_Md_node 10 = .ok (.invokevirtual 109, 3) := by decide +kernel
theorem d_Md_node_13 : decode c_Md_node 13 = .ok (.ifCond .ne 14, 3) := by decide +kernel
theorem d_Md_node_16 : decode c_Md_node 16 = .ok (.iload_n 3, 1) := by decide +kernel
theorem d_Md_node_17 : decode c_Md_node 17 = .ok (.iconst (-1), 1) := by decide +kernel
theorem d_Md_node_18 : decode c_Md_node 18 = .ok (.if_icmp .ne 13, 3) := by decide +kernel
theorem d_Md_node_21 : decode c_Md_node 21 = .ok (.iload_n 1, 1) := by decide +kernel
theorem d_Md_node_22 : decode c_Md_node 22 = .ok (.bipush 6, 2) := by decide +kernel
theorem d_Md_node_24 : decode c_Md_node 24 = .ok (.if_icmp .ge 7, 3) := by decide +kernel
theorem d_Md_node_27 : decode c_Md_node 27 = .ok (.iconst 1, 1) := by decide +kernel
theorem d_Md_node_28 : decode c_Md_node 28 = .ok (.goto 4, 3) := by decide +kernel
theorem d_Md_node_31 : decode c_Md_node 31 = .ok (.iconst 0, 1) := by decide +kernel
theorem d_Md_node_32 : decode c_Md_node 32 = .ok (.istore 4, 2) := by decide +kernel
theorem d_Md_node_34 : decode c_Md_node 34 = .ok (.iload_n 1, 1) := by decide +kernel
theorem d_Md_node_35 : decode c_Md_node 35 = .ok (.ifCond .lt 32, 3) := by decide +kernel
theorem d_Md_node_38 : decode c_Md_node 38 = .ok (.iload_n 1, 1) := by decide +kernel
theorem d_Md_node_39 : decode c_Md_node 39 = .ok (.bipush 11, 2) := by decide +kernel
theorem d_Md_node_41 : decode c_Md_node 41 = .ok (.if_icmp .gt 26, 3) := by decide +kernel
theorem d_Md_node_44 : decode c_Md_node 44 = .ok (.iload_n 1, 1) := by decide +kernel
theorem d_Md_node_45 : decode c_Md_node 45 = .ok (.bipush 6, 2) := by decide +kernel
theorem d_Md_node_47 : decode c_Md_node 47 = .ok (.if_icmp .ge 11, 3) := by decide +kernel
theorem d_Md_node_50 : decode c_Md_node 50 = .ok (.iload_n 3, 1) := by decide +kernel
theorem d_Md_node_51 : decode c_Md_node 51 = .ok (.iconst (-1), 1) := by decide +kernel
theorem d_Md_node_52 : decode c_Md_node 52 = .ok (.if_icmp .ne 15, 3) := by decide +kernel
theorem d_Md_node_55 : decode c_Md_node 55 = .ok (.goto 8, 3) := by decide +kernel
theorem d_Md_node_58 : decode c_Md_node 58 = .ok (.iload_n 3, 1) := by decide +kernel
theorem d_Md_node_59 : decode c_Md_node 59 = .ok (.iconst (-1), 1) := by decide +kernel
theorem d_Md_node_60 : decode c_Md_node 60 = .ok (.if_icmp .eq 7, 3) := by decide +kernel
theorem d_Md_node_63 : decode c_Md_node 63 = .ok (.iconst 1, 1) := by decide +kernel
theorem d_Md_node_64 : decode c_Md_node 64 = .ok (.goto 4, 3) := by decide +kernel
theorem d_Md_node_67 : decode c_Md_node 67 = .ok (.iconst 0, 1) := by decide +kernel
theorem d_Md_node_68 : decode c_Md_node 68 = .ok (.istore 5, 2) := by decide +kernel
theorem d_Md_node_70 : decode c_Md_node 70 = .ok (.aload_n 0, 1) := by decide +kernel
theorem d_Md_node_71 : decode c_Md_node 71 = .ok (.iload 4, 2) := by decide +kernel
theorem d_Md_node_73 : decode c_Md_node 73 = .ok (.ifCond .ne 7, 3) := by decide +kernel
theorem d_Md_node_76 : decode c_Md_node 76 = .ok (.iconst 1, 1) := by decide +kernel
theorem d_Md_node_77 : decode c_Md_node 77 = .ok (.goto 13, 3) := by decide +kernel
theorem d_Md_node_80 : decode c_Md_node 80 = .ok (.iload 5, 2) := by decide +kernel
theorem d_Md_node_82 : decode c_Md_node 82 = .ok (.ifCond .ne 7, 3) := by decide +kernel
theorem d_Md_node_85 : decode c_Md_node 85 = .ok (.iconst 2, 1) := by decide +kernel
theorem d_Md_node_86 : decode c_Md_node 86 = .ok (.goto 4, 3) := by decide +kernel
theorem d_Md_node_89 : decode c_Md_node 89 = .ok (.iconst 0, 1) := by decide +kernel
theorem d_Md_node_90 : decode c_Md_node 90 = .ok (.putfield 86, 3) := by decide +kernel
theorem d_Md_node_93 : decode c_Md_node 93 = .ok (.aload_n 0, 1) := by decide +kernel
theorem d_Md_node_94 : decode c_Md_node 94 = .ok (.getfield 86, 3) := by decide +kernel
theorem d_Md_node_97 : decode c_Md_node 97 = .ok (.ifCond .eq 7, 3) := by decide +kernel
theorem d_Md_node_100 : decode c_Md_node 100 = .ok (.iconst 0, 1) := by decide +kernel
theorem d_Md_node_101 : decode c_Md_node 101 = .ok (.goto 11, 3) := by decide +kernel
theorem d_Md_node_104 : decode c_Md_node 104 = .ok (.aload_n 0, 1) := by decide +kernel
theorem d_Md_node_105 : decode c_Md_node 105 = .ok (.iload_n 1, 1) := by decide +kernel
theorem d_Md_node_106 : decode c_Md_node 106 = .ok (.iload_n 2, 1) := by decide +kernel
theorem d_Md_node_107 : decode c_Md_node 107 = .ok (.iload_n 3, 1) := by decide +kernel
theorem d_Md_node_108 : decode c_Md_node 108 = .ok (.iconst 3, 1) := by decide +kernel
theorem d_Md_node_109 : decode c_Md_node 109 = .ok (.invokevirtual 105, 3) := by decide +kernel
theorem d_Md_node_112 : decode c_Md_node 112 = .ok (.ireturn, 1) := by decide +kernel
theorem d_Md_isTree_0 : decode c_Md_isTree 0 = .ok (.iload_n 1, 1) := by decide +kernel
theorem d_Md_isTree_1 : decode c_Md_isTree 1 = .ok (.ifCond .lt 15, 3) := by decide +kernel
theorem d_Md_isTree_4 : decode c_Md_isTree 4 = .ok (.iload_n 1, 1) := by decide +kernel
theorem d_Md_isTree_5 : decode c_Md_isTree 5 = .ok (.aload_n 0, 1) := by decide +kernel
theorem d_Md_isTree_6 : decode c_Md_isTree 6 = .ok (.getfield 90, 3) := by decide +kernel
theorem d_Md_isTree_9 : decode c_Md_isTree 9 = .ok (.if_icmp .ge 7, 3) := by decide +kernel
theorem d_Md_isTree_12 : decode c_Md_isTree 12 = .ok (.iconst 1, 1) := by decide +kernel
theorem d_Md_isTree_13 : decode c_Md_isTree 13 = .ok (.goto 4, 3) := by decide +kernel
theorem d_Md_isTree_16 : decode c_Md_isTree 16 = .ok (.iconst 0, 1) := by decide +kernel
theorem d_Md_isTree_17 : decode c_Md_isTree 17 = .ok (.ireturn, 1) := by decide +kernel
theorem d_Md_rule_0 : decode c_Md_rule 0 = .ok (.aload_n 0, 1) := by decide +kernel
theorem d_Md_rule_1 : decode c_Md_rule 1 = .ok (.aload_n 0, 1) := by decide +kernel
theorem d_Md_rule_2 : decode c_Md_rule 2 = .ok (.iload_n 1, 1) := by decide +kernel
theorem d_Md_rule_3 : decode c_Md_rule 3 = .ok (.invokevirtual 109, 3) := by decide +kernel
theorem d_Md_rule_6 : decode c_Md_rule 6 = .ok (.ifCond .eq 11, 3) := by decide +kernel
theorem d_Md_rule_9 : decode c_Md_rule 9 = .ok (.aload_n 0, 1) := by decide +kernel
theorem d_Md_rule_10 : decode c_Md_rule 10 = .ok (.iload_n 2, 1) := by decide +kernel
theorem d_Md_rule_11 : decode c_Md_rule 11 = .ok (.invokevirtual 109, 3) := by decide +kernel
theorem d_Md_rule_14 : decode c_Md_rule 14 = .ok (.ifCond .ne 7, 3) := by decide +kernel
theorem d_Md_rule_17 : decode c_Md_rule 17 = .ok (.iconst 1, 1) := by decide +kernel
theorem d_Md_rule_18 : decode c_Md_rule 18 = .ok (.goto 48, 3) := by decide +kernel
theorem d_Md_rule_21 : decode c_Md_rule 21 = .ok (.aload_n 0, 1) := by decide +kernel
theorem d_Md_rule_22 : decode c_Md_rule 22 = .ok (.getfield 7, 3) := by decide +kernel
theorem d_Md_rule_25 : decode c_Md_rule 25 = .ok (.iload_n 1, 1) := by decide +kernel
theorem d_Md_rule_26 : decode c_Md_rule 26 = .ok (.iaload, 1) := by decide +kernel
theorem d_Md_rule_27 : decode c_Md_rule 27 = .ok (.bipush 100, 2) := by decide +kernel
theorem d_Md_rule_29 : decode c_Md_rule 29 = .ok (.if_icmp .ge 32, 3) := by decide +kernel
theorem d_Md_rule_32 : decode c_Md_rule 32 = .ok (.aload_n 0, 1) := by decide +kernel
theorem d_Md_rule_33 : decode c_Md_rule 33 = .ok (.getfield 28, 3) := by decide +kernel
theorem d_Md_rule_36 : decode c_Md_rule 36 = .ok (.iload_n 2, 1) := by decide +kernel
theorem d_Md_rule_37 : decode c_Md_rule 37 = .ok (.iaload, 1) := by decide +kernel
theorem d_Md_rule_38 : decode c_Md_rule 38 = .ok (.aload_n 0, 1) := by decide +kernel
theorem d_Md_rule_39 : decode c_Md_rule 39 = .ok (.getfield 28, 3) := by decide +kernel
theorem d_Md_rule_42 : decode c_Md_rule 42 = .ok (.iload_n 1, 1) := by decide +kernel
theorem d_Md_rule_43 : decode c_Md_rule 43 = .ok (.iaload, 1) := by decide +kernel
theorem d_Md_rule_44 : decode c_Md_rule 44 = .ok (.iconst (-1), 1) := by decide +kernel
theorem d_Md_rule_45 : decode c_Md_rule 45 = .ok (.ixor, 1) := by decide +kernel
theorem d_Md_rule_46 : decode c_Md_rule 46 = .ok (.iand, 1) := by decide +kernel
theorem d_Md_rule_47 : decode c_Md_rule 47 = .ok (.ifCond .ne 14, 3) := by decide +kernel
theorem d_Md_rule_50 : decode c_Md_rule 50 = .ok (.iload_n 3, 1) := by decide +kernel
theorem d_Md_rule_51 : decode c_Md_rule 51 = .ok (.iconst (-1), 1) := by decide +kernel
theorem d_Md_rule_52 : decode c_Md_rule 52 = .ok (.if_icmp .lt 9, 3) := by decide +kernel
theorem d_Md_rule_55 : decode c_Md_rule 55 = .ok (.iload_n 3, 1) := by decide +kernel
theorem d_Md_rule_56 : decode c_Md_rule 56 = .ok (.bipush 9, 2) := by decide +kernel
theorem d_Md_rule_58 : decode c_Md_rule 58 = .ok (.if_icmp .le 7, 3) := by decide +kernel
theorem d_Md_rule_61 : decode c_Md_rule 61 = .ok (.iconst 2, 1) := by decide +kernel
theorem d_Md_rule_62 : decode c_Md_rule 62 = .ok (.goto 4, 3) := by decide +kernel
theorem d_Md_rule_65 : decode c_Md_rule 65 = .ok (.iconst 0, 1) := by decide +kernel
theorem d_Md_rule_66 : decode c_Md_rule 66 = .ok (.putfield 86, 3) := by decide +kernel
theorem d_Md_rule_69 : decode c_Md_rule 69 = .ok (.aload_n 0, 1) := by decide +kernel
theorem d_Md_rule_70 : decode c_Md_rule 70 = .ok (.getfield 86, 3) := by decide +kernel
theorem d_Md_rule_73 : decode c_Md_rule 73 = .ok (.ifCond .eq 5, 3) := by decide +kernel
theorem d_Md_rule_76 : decode c_Md_rule 76 = .ok (.iconst 0, 1) := by decide +kernel
theorem d_Md_rule_77 : decode c_Md_rule 77 = .ok (.ireturn, 1) := by decide +kernel
theorem d_Md_rule_78 : decode c_Md_rule 78 = .ok (.aload_n 0, 1) := by decide +kernel
theorem d_Md_rule_79 : decode c_Md_rule 79 = .ok (.getfield 129, 3) := by decide +kernel
theorem d_Md_rule_82 : decode c_Md_rule 82 = .ok (.bipush 16, 2) := by decide +kernel
theorem d_Md_rule_84 : decode c_Md_rule 84 = .ok (.if_icmp .ne 5, 3) := by decide +kernel
theorem d_Md_rule_87 : decode c_Md_rule 87 = .ok (.iconst (-1), 1) := by decide +kernel
theorem d_Md_rule_88 : decode c_Md_rule 88 = .ok (.ireturn, 1) := by decide +kernel
theorem d_Md_rule_89 : decode c_Md_rule 89 = .ok (.aload_n 0, 1) := by decide +kernel
theorem d_Md_rule_90 : decode c_Md_rule 90 = .ok (.getfield 31, 3) := by decide +kernel
theorem d_Md_rule_93 : decode c_Md_rule 93 = .ok (.aload_n 0, 1) := by decide +kernel
theorem d_Md_rule_94 : decode c_Md_rule 94 = .ok (.getfield 129, 3) := by decide +kernel
theorem d_Md_rule_97 : decode c_Md_rule 97 = .ok (.iload_n 1, 1) := by decide +kernel
theorem d_Md_rule_98 : decode c_Md_rule 98 = .ok (.iastore, 1) := by decide +kernel
theorem d_Md_rule_99 : decode c_Md_rule 99 = .ok (.aload_n 0, 1) := by decide +kernel
theorem d_Md_rule_100 : decode c_Md_rule 100 = .ok (.getfield 34, 3) := by decide +kernel
theorem d_Md_rule_103 : decode c_Md_rule 103 = .ok (.aload_n 0, 1) := by decide +kernel
theorem d_Md_rule_104 : decode c_Md_rule 104 = .ok (.getfield 129, 3) := by decide +kernel
theorem d_Md_rule_107 : decode c_Md_rule 107 = .ok (.iload_n 2, 1) := by decide +kernel
theorem d_Md_rule_108 : decode c_Md_rule 108 = .ok (.iastore, 1) := by decide +kernel
theorem d_Md_rule_109 : decode c_Md_rule 109 = .ok (.aload_n 0, 1) := by decide +kernel
theorem d_Md_rule_110 : decode c_Md_rule 110 = .ok (.getfield 37, 3) := by decide +kernel
theorem d_Md_rule_113 : decode c_Md_rule 113 = .ok (.aload_n 0, 1) := by decide +kernel
theorem d_Md_rule_114 : decode c_Md_rule 114 = .ok (.getfield 129, 3) := by decide +kernel
theorem d_Md_rule_117 : decode c_Md_rule 117 = .ok (.iload_n 3, 1) := by decide +kernel
theorem d_Md_rule_118 : decode c_Md_rule 118 = .ok (.iastore, 1) := by decide +kernel
theorem d_Md_rule_119 : decode c_Md_rule 119 = .ok (.aload_n 0, 1) := by decide +kernel
theorem d_Md_rule_120 : decode c_Md_rule 120 = .ok (.getfield 40, 3) := by decide +kernel
theorem d_Md_rule_123 : decode c_Md_rule 123 = .ok (.aload_n 0, 1) := by decide +kernel
theorem d_Md_rule_124 : decode c_Md_rule 124 = .ok (.getfield 129, 3) := by decide +kernel
theorem d_Md_rule_127 : decode c_Md_rule 127 = .ok (.iconst 1, 1) := by decide +kernel
theorem d_Md_rule_128 : decode c_Md_rule 128 = .ok (.bastore, 1) := by decide +kernel
theorem d_Md_rule_129 : decode c_Md_rule 129 = .ok (.aload_n 0, 1) := by decide +kernel
theorem d_Md_rule_130 : decode c_Md_rule 130 = .ok (.dup, 1) := by decide +kernel
theorem d_Md_rule_131 : decode c_Md_rule 131 = .ok (.getfield 129, 3) := by decide +kernel
theorem d_Md_rule_134 : decode c_Md_rule 134 = .ok (.iconst 1, 1) := by decide +kernel
theorem d_Md_rule_135 : decode c_Md_rule 135 = .ok (.iadd, 1) := by decide +kernel
theorem d_Md_rule_136 : decode c_Md_rule 136 = .ok (.putfield 129, 3) := by decide +kernel
theorem d_Md_rule_139 : decode c_Md_rule 139 = .ok (.aload_n 0, 1) := by decide +kernel
theorem d_Md_rule_140 : decode c_Md_rule 140 = .ok (.getfield 129, 3) := by decide +kernel
theorem d_Md_rule_143 : decode c_Md_rule 143 = .ok (.iconst 1, 1) := by decide +kernel
theorem d_Md_rule_144 : decode c_Md_rule 144 = .ok (.isub, 1) := by decide +kernel
theorem d_Md_rule_145 : decode c_Md_rule 145 = .ok (.ireturn, 1) := by decide +kernel
theorem d_Md_holds_0 : decode c_Md_holds 0 = .ok (.aload_n 0, 1) := by decide +kernel
theorem d_Md_holds_1 : decode c_Md_holds 1 = .ok (.iload_n 1, 1) := by decide +kernel
theorem d_Md_holds_2 : decode c_Md_holds 2 = .ok (.ifCond .lt 18, 3) := by decide +kernel
theorem d_Md_holds_5 : decode c_Md_holds 5 = .ok (.iload_n 1, 1) := by decide +kernel
theorem d_Md_holds_6 : decode c_Md_holds 6 = .ok (.bipush 9, 2) := by decide +kernel
theorem d_Md_holds_8 : decode c_Md_holds 8 = .ok (.if_icmp .gt 12, 3) := by decide +kernel
theorem d_Md_holds_11 : decode c_Md_holds 11 = .ok (.iload_n 2, 1) := by decide +kernel
theorem d_Md_holds_12 : decode c_Md_holds 12 = .ok (.ifCond .lt 8, 3) := by decide +kernel
theorem d_Md_holds_15 : decode c_Md_holds 15 = .ok (.iload_n 2, 1) := by decide +kernel
theorem d_Md_holds_16 : decode c_Md_holds 16 = .ok (.iconst 2, 1) := by decide +kernel
theorem d_Md_holds_17 : decode c_Md_holds 17 = .ok (.if_icmp .le 7, 3) := by decide +kernel
theorem d_Md_holds_20 : decode c_Md_holds 20 = .ok (.iconst 1, 1) := by decide +kernel
theorem d_Md_holds_21 : decode c_Md_holds 21 = .ok (.goto 4, 3) := by decide +kernel
theorem d_Md_holds_24 : decode c_Md_holds 24 = .ok (.iconst 0, 1) := by decide +kernel
theorem d_Md_holds_25 : decode c_Md_holds 25 = .ok (.putfield 86, 3) := by decide +kernel
theorem d_Md_holds_28 : decode c_Md_holds 28 = .ok (.aload_n 0, 1) := by decide +kernel
theorem d_Md_holds_29 : decode c_Md_holds 29 = .ok (.getfield 86, 3) := by decide +kernel
theorem d_Md_holds_32 : decode c_Md_holds 32 = .ok (.ifCond .eq 5, 3) := by decide +kernel
theorem d_Md_holds_35 : decode c_Md_holds 35 = .ok (.iconst 0, 1) := by decide +kernel
theorem d_Md_holds_36 : decode c_Md_holds 36 = .ok (.ireturn, 1) := by decide +kernel
theorem d_Md_holds_37 : decode c_Md_holds 37 = .ok (.aload_n 0, 1) := by decide +kernel
theorem d_Md_holds_38 : decode c_Md_holds 38 = .ok (.getfield 44, 3) := by decide +kernel
theorem d_Md_holds_41 : decode c_Md_holds 41 = .ok (.iload_n 1, 1) := by decide +kernel
theorem d_Md_holds_42 : decode c_Md_holds 42 = .ok (.iaload, 1) := by decide +kernel
theorem d_Md_holds_43 : decode c_Md_holds 43 = .ok (.iload_n 2, 1) := by decide +kernel
theorem d_Md_holds_44 : decode c_Md_holds 44 = .ok (.if_icmp .eq 7, 3) := by decide +kernel
theorem d_Md_holds_47 : decode c_Md_holds 47 = .ok (.iconst 1, 1) := by decide +kernel
theorem d_Md_holds_48 : decode c_Md_holds 48 = .ok (.goto 4, 3) := by decide +kernel
theorem d_Md_holds_51 : decode c_Md_holds 51 = .ok (.iconst 0, 1) := by decide +kernel
theorem d_Md_holds_52 : decode c_Md_holds 52 = .ok (.istore_n 3, 1) := by decide +kernel
theorem d_Md_holds_53 : decode c_Md_holds 53 = .ok (.aload_n 0, 1) := by decide +kernel
theorem d_Md_holds_54 : decode c_Md_holds 54 = .ok (.getfield 44, 3) := by decide +kernel
theorem d_Md_holds_57 : decode c_Md_holds 57 = .ok (.iload_n 1, 1) := by decide +kernel
theorem d_Md_holds_58 : decode c_Md_holds 58 = .ok (.iload_n 2, 1) := by decide +kernel
theorem d_Md_holds_59 : decode c_Md_holds 59 = .ok (.iastore, 1) := by decide +kernel
theorem d_Md_holds_60 : decode c_Md_holds 60 = .ok (.iload_n 3, 1) := by decide +kernel
theorem d_Md_holds_61 : decode c_Md_holds 61 = .ok (.ireturn, 1) := by decide +kernel
theorem d_Md_choose_0 : decode c_Md_choose 0 = .ok (.aload_n 0, 1) := by decide +kernel
theorem d_Md_choose_1 : decode c_Md_choose 1 = .ok (.aload_n 0, 1) := by decide +kernel
theorem d_Md_choose_2 : decode c_Md_choose 2 = .ok (.iload_n 1, 1) := by decide +kernel
theorem d_Md_choose_3 : decode c_Md_choose 3 = .ok (.invokevirtual 132, 3) := by decide +kernel
theorem d_Md_choose_6 : decode c_Md_choose 6 = .ok (.ifCond .eq 7, 3) := by decide +kernel
theorem d_Md_choose_9 : decode c_Md_choose 9 = .ok (.iconst 0, 1) := by decide +kernel
theorem d_Md_choose_10 : decode c_Md_choose 10 = .ok (.goto 4, 3) := by decide +kernel
theorem d_Md_choose_13 : decode c_Md_choose 13 = .ok (.iconst 1, 1) := by decide +kernel
theorem d_Md_choose_14 : decode c_Md_choose 14 = .ok (.putfield 86, 3) := by decide +kernel
theorem d_Md_choose_17 : decode c_Md_choose 17 = .ok (.aload_n 0, 1) := by decide +kernel
theorem d_Md_choose_18 : decode c_Md_choose 18 = .ok (.getfield 86, 3) := by decide +kernel
theorem d_Md_choose_21 : decode c_Md_choose 21 = .ok (.ifCond .eq 5, 3) := by decide +kernel
theorem d_Md_choose_24 : decode c_Md_choose 24 = .ok (.iconst 0, 1) := by decide +kernel
theorem d_Md_choose_25 : decode c_Md_choose 25 = .ok (.ireturn, 1) := by decide +kernel
theorem d_Md_choose_26 : decode c_Md_choose 26 = .ok (.aload_n 0, 1) := by decide +kernel
theorem d_Md_choose_27 : decode c_Md_choose 27 = .ok (.getfield 40, 3) := by decide +kernel
theorem d_Md_choose_30 : decode c_Md_choose 30 = .ok (.iload_n 1, 1) := by decide +kernel
theorem d_Md_choose_31 : decode c_Md_choose 31 = .ok (.baload, 1) := by decide +kernel
theorem d_Md_choose_32 : decode c_Md_choose 32 = .ok (.iload_n 2, 1) := by decide +kernel
theorem d_Md_choose_33 : decode c_Md_choose 33 = .ok (.if_icmp .eq 7, 3) := by decide +kernel
theorem d_Md_choose_36 : decode c_Md_choose 36 = .ok (.iconst 1, 1) := by decide +kernel
theorem d_Md_choose_37 : decode c_Md_choose 37 = .ok (.goto 4, 3) := by decide +kernel
theorem d_Md_choose_40 : decode c_Md_choose 40 = .ok (.iconst 0, 1) := by decide +kernel
theorem d_Md_choose_41 : decode c_Md_choose 41 = .ok (.istore_n 3, 1) := by decide +kernel
theorem d_Md_choose_42 : decode c_Md_choose 42 = .ok (.aload_n 0, 1) := by decide +kernel
theorem d_Md_choose_43 : decode c_Md_choose 43 = .ok (.getfield 40, 3) := by decide +kernel
theorem d_Md_choose_46 : decode c_Md_choose 46 = .ok (.iload_n 1, 1) := by decide +kernel
theorem d_Md_choose_47 : decode c_Md_choose 47 = .ok (.iload_n 2, 1) := by decide +kernel
theorem d_Md_choose_48 : decode c_Md_choose 48 = .ok (.bastore, 1) := by decide +kernel
theorem d_Md_choose_49 : decode c_Md_choose 49 = .ok (.iload_n 3, 1) := by decide +kernel
theorem d_Md_choose_50 : decode c_Md_choose 50 = .ok (.ireturn, 1) := by decide +kernel
theorem d_Md_isRule_0 : decode c_Md_isRule 0 = .ok (.iload_n 1, 1) := by decide +kernel
theorem d_Md_isRule_1 : decode c_Md_isRule 1 = .ok (.ifCond .lt 15, 3) := by decide +kernel
theorem d_Md_isRule_4 : decode c_Md_isRule 4 = .ok (.iload_n 1, 1) := by decide +kernel
theorem d_Md_isRule_5 : decode c_Md_isRule 5 = .ok (.aload_n 0, 1) := by decide +kernel
theorem d_Md_isRule_6 : decode c_Md_isRule 6 = .ok (.getfield 129, 3) := by decide +kernel
theorem d_Md_isRule_9 : decode c_Md_isRule 9 = .ok (.if_icmp .ge 7, 3) := by decide +kernel
theorem d_Md_isRule_12 : decode c_Md_isRule 12 = .ok (.iconst 1, 1) := by decide +kernel
theorem d_Md_isRule_13 : decode c_Md_isRule 13 = .ok (.goto 4, 3) := by decide +kernel
theorem d_Md_isRule_16 : decode c_Md_isRule 16 = .ok (.iconst 0, 1) := by decide +kernel
theorem d_Md_isRule_17 : decode c_Md_isRule 17 = .ok (.ireturn, 1) := by decide +kernel
theorem d_Md_usable_0 : decode c_Md_usable 0 = .ok (.aload_n 0, 1) := by decide +kernel
theorem d_Md_usable_1 : decode c_Md_usable 1 = .ok (.aload_n 0, 1) := by decide +kernel
theorem d_Md_usable_2 : decode c_Md_usable 2 = .ok (.iload_n 1, 1) := by decide +kernel
theorem d_Md_usable_3 : decode c_Md_usable 3 = .ok (.invokevirtual 132, 3) := by decide +kernel
theorem d_Md_usable_6 : decode c_Md_usable 6 = .ok (.ifCond .eq 7, 3) := by decide +kernel
theorem d_Md_usable_9 : decode c_Md_usable 9 = .ok (.iconst 0, 1) := by decide +kernel
theorem d_Md_usable_10 : decode c_Md_usable 10 = .ok (.goto 4, 3) := by decide +kernel
theorem d_Md_usable_13 : decode c_Md_usable 13 = .ok (.iconst 1, 1) := by decide +kernel
theorem d_Md_usable_14 : decode c_Md_usable 14 = .ok (.putfield 86, 3) := by decide +kernel
theorem d_Md_usable_17 : decode c_Md_usable 17 = .ok (.aload_n 0, 1) := by decide +kernel
theorem d_Md_usable_18 : decode c_Md_usable 18 = .ok (.getfield 86, 3) := by decide +kernel
theorem d_Md_usable_21 : decode c_Md_usable 21 = .ok (.ifCond .ne 15, 3) := by decide +kernel
theorem d_Md_usable_24 : decode c_Md_usable 24 = .ok (.aload_n 0, 1) := by decide +kernel
theorem d_Md_usable_25 : decode c_Md_usable 25 = .ok (.iload_n 1, 1) := by decide +kernel
theorem d_Md_usable_26 : decode c_Md_usable 26 = .ok (.invokevirtual 135, 3) := by decide +kernel
theorem d_Md_usable_29 : decode c_Md_usable 29 = .ok (.ifCond .eq 7, 3) := by decide +kernel
theorem d_Md_usable_32 : decode c_Md_usable 32 = .ok (.iconst 1, 1) := by decide +kernel
theorem d_Md_usable_33 : decode c_Md_usable 33 = .ok (.goto 4, 3) := by decide +kernel
theorem d_Md_usable_36 : decode c_Md_usable 36 = .ok (.iconst 0, 1) := by decide +kernel
theorem d_Md_usable_37 : decode c_Md_usable 37 = .ok (.ireturn, 1) := by decide +kernel
theorem d_Md_may_0 : decode c_Md_may 0 = .ok (.aload_n 0, 1) := by decide +kernel
theorem d_Md_may_1 : decode c_Md_may 1 = .ok (.getfield 40, 3) := by decide +kernel
theorem d_Md_may_4 : decode c_Md_may 4 = .ok (.iload_n 1, 1) := by decide +kernel
theorem d_Md_may_5 : decode c_Md_may 5 = .ok (.baload, 1) := by decide +kernel
theorem d_Md_may_6 : decode c_Md_may 6 = .ok (.ifCond .eq 32, 3) := by decide +kernel
theorem d_Md_may_9 : decode c_Md_may 9 = .ok (.aload_n 0, 1) := by decide +kernel
theorem d_Md_may_10 : decode c_Md_may 10 = .ok (.getfield 37, 3) := by decide +kernel
theorem d_Md_may_13 : decode c_Md_may 13 = .ok (.iload_n 1, 1) := by decide +kernel
theorem d_Md_may_14 : decode c_Md_may 14 = .ok (.iaload, 1) := by decide +kernel
theorem d_Md_may_15 : decode c_Md_may 15 = .ok (.iconst (-1), 1) := by decide +kernel
theorem d_Md_may_16 : decode c_Md_may 16 = .ok (.if_icmp .eq 18, 3) := by decide +kernel
theorem d_Md_may_19 : decode c_Md_may 19 = .ok (.aload_n 0, 1) := by decide +kernel
theorem d_Md_may_20 : decode c_Md_may 20 = .ok (.getfield 44, 3) := by decide +kernel
theorem d_Md_may_23 : decode c_Md_may 23 = .ok (.aload_n 0, 1) := by decide +kernel
theorem d_Md_may_24 : decode c_Md_may 24 = .ok (.getfield 37, 3) := by decide +kernel
theorem d_Md_may_27 : decode c_Md_may 27 = .ok (.iload_n 1, 1) := by decide +kernel
theorem d_Md_may_28 : decode c_Md_may 28 = .ok (.iaload, 1) := by decide +kernel
theorem d_Md_may_29 : decode c_Md_may 29 = .ok (.iaload, 1) := by decide +kernel
theorem d_Md_may_30 : decode c_Md_may 30 = .ok (.iconst 1, 1) := by decide +kernel
theorem d_Md_may_31 : decode c_Md_may 31 = .ok (.if_icmp .ne 7, 3) := by decide +kernel
theorem d_Md_may_34 : decode c_Md_may 34 = .ok (.iconst 1, 1) := by decide +kernel
theorem d_Md_may_35 : decode c_Md_may 35 = .ok (.goto 4, 3) := by decide +kernel
theorem d_Md_may_38 : decode c_Md_may 38 = .ok (.iconst 0, 1) := by decide +kernel
theorem d_Md_may_39 : decode c_Md_may 39 = .ok (.ireturn, 1) := by decide +kernel
theorem d_Md_lessens_0 : decode c_Md_lessens 0 = .ok (.aload_n 0, 1) := by decide +kernel
theorem d_Md_lessens_1 : decode c_Md_lessens 1 = .ok (.aload_n 0, 1) := by decide +kernel
theorem d_Md_lessens_2 : decode c_Md_lessens 2 = .ok (.iload_n 1, 1) := by decide +kernel
theorem d_Md_lessens_3 : decode c_Md_lessens 3 = .ok (.invokevirtual 132, 3) := by decide +kernel
theorem d_Md_lessens_6 : decode c_Md_lessens 6 = .ok (.ifCond .eq 7, 3) := by decide +kernel
theorem d_Md_lessens_9 : decode c_Md_lessens 9 = .ok (.iconst 0, 1) := by decide +kernel
theorem d_Md_lessens_10 : decode c_Md_lessens 10 = .ok (.goto 4, 3) := by decide +kernel
theorem d_Md_lessens_13 : decode c_Md_lessens 13 = .ok (.iconst 1, 1) := by decide +kernel
theorem d_Md_lessens_14 : decode c_Md_lessens 14 = .ok (.putfield 86, 3) := by decide +kernel
theorem d_Md_lessens_17 : decode c_Md_lessens 17 = .ok (.aload_n 0, 1) := by decide +kernel
theorem d_Md_lessens_18 : decode c_Md_lessens 18 = .ok (.getfield 86, 3) := by decide +kernel
theorem d_Md_lessens_21 : decode c_Md_lessens 21 = .ok (.ifCond .ne 26, 3) := by decide +kernel
theorem d_Md_lessens_24 : decode c_Md_lessens 24 = .ok (.aload_n 0, 1) := by decide +kernel
theorem d_Md_lessens_25 : decode c_Md_lessens 25 = .ok (.aload_n 0, 1) := by decide +kernel
theorem d_Md_lessens_26 : decode c_Md_lessens 26 = .ok (.getfield 31, 3) := by decide +kernel
theorem d_Md_lessens_29 : decode c_Md_lessens 29 = .ok (.iload_n 1, 1) := by decide +kernel
theorem d_Md_lessens_30 : decode c_Md_lessens 30 = .ok (.iaload, 1) := by decide +kernel
theorem d_Md_lessens_31 : decode c_Md_lessens 31 = .ok (.aload_n 0, 1) := by decide +kernel
theorem d_Md_lessens_32 : decode c_Md_lessens 32 = .ok (.getfield 34, 3) := by decide +kernel
theorem d_Md_lessens_35 : decode c_Md_lessens 35 = .ok (.iload_n 1, 1) := by decide +kernel
theorem d_Md_lessens_36 : decode c_Md_lessens 36 = .ok (.iaload, 1) := by decide +kernel
theorem d_Md_lessens_37 : decode c_Md_lessens 37 = .ok (.invokevirtual 138, 3) := by decide +kernel
theorem d_Md_lessens_40 : decode c_Md_lessens 40 = .ok (.ifCond .eq 7, 3) := by decide +kernel
theorem d_Md_lessens_43 : decode c_Md_lessens 43 = .ok (.iconst 1, 1) := by decide +kernel
theorem d_Md_lessens_44 : decode c_Md_lessens 44 = .ok (.goto 4, 3) := by decide +kernel
theorem d_Md_lessens_47 : decode c_Md_lessens 47 = .ok (.iconst 0, 1) := by decide +kernel
theorem d_Md_lessens_48 : decode c_Md_lessens 48 = .ok (.ireturn, 1) := by decide +kernel
theorem d_Md_isAbove_0 : decode c_Md_isAbove 0 = .ok (.iload_n 1, 1) := by decide +kernel
theorem d_Md_isAbove_1 : decode c_Md_isAbove 1 = .ok (.istore_n 3, 1) := by decide +kernel
theorem d_Md_isAbove_2 : decode c_Md_isAbove 2 = .ok (.iload_n 2, 1) := by decide +kernel
theorem d_Md_isAbove_3 : decode c_Md_isAbove 3 = .ok (.istore 4, 2) := by decide +kernel
theorem d_Md_isAbove_5 : decode c_Md_isAbove 5 = .ok (.iload_n 3, 1) := by decide +kernel
theorem d_Md_isAbove_6 : decode c_Md_isAbove 6 = .ok (.iload 4, 2) := by decide +kernel
theorem d_Md_isAbove_8 : decode c_Md_isAbove 8 = .ok (.if_icmp .eq 270, 3) := by decide +kernel
theorem d_Md_isAbove_11 : decode c_Md_isAbove 11 = .ok (.aload_n 0, 1) := by decide +kernel
theorem d_Md_isAbove_12 : decode c_Md_isAbove 12 = .ok (.iload_n 3, 1) := by decide +kernel
theorem d_Md_isAbove_13 : decode c_Md_isAbove 13 = .ok (.iload 4, 2) := by decide +kernel
theorem d_Md_isAbove_15 : decode c_Md_isAbove 15 = .ok (.invokevirtual 125, 3) := by decide +kernel
theorem d_Md_isAbove_18 : decode c_Md_isAbove 18 = .ok (.ifCond .eq 260, 3) := by decide +kernel
theorem d_Md_isAbove_21 : decode c_Md_isAbove 21 = .ok (.aload_n 0, 1) := by decide +kernel
theorem d_Md_isAbove_22 : decode c_Md_isAbove 22 = .ok (.getfield 19, 3) := by decide +kernel
theorem d_Md_isAbove_25 : decode c_Md_isAbove 25 = .ok (.iload_n 3, 1) := by decide +kernel
theorem d_Md_isAbove_26 : decode c_Md_isAbove 26 = .ok (.iaload, 1) := by decide +kernel
theorem d_Md_isAbove_27 : decode c_Md_isAbove 27 = .ok (.aload_n 0, 1) := by decide +kernel
theorem d_Md_isAbove_28 : decode c_Md_isAbove 28 = .ok (.getfield 19, 3) := by decide +kernel
theorem d_Md_isAbove_31 : decode c_Md_isAbove 31 = .ok (.iload 4, 2) := by decide +kernel
theorem d_Md_isAbove_33 : decode c_Md_isAbove 33 = .ok (.iaload, 1) := by decide +kernel
theorem d_Md_isAbove_34 : decode c_Md_isAbove 34 = .ok (.if_icmp .eq 25, 3) := by decide +kernel
theorem d_Md_isAbove_37 : decode c_Md_isAbove 37 = .ok (.aload_n 0, 1) := by decide +kernel
theorem d_Md_isAbove_38 : decode c_Md_isAbove 38 = .ok (.getfield 19, 3) := by decide +kernel
theorem d_Md_isAbove_41 : decode c_Md_isAbove 41 = .ok (.iload_n 3, 1) := by decide +kernel
theorem d_Md_isAbove_42 : decode c_Md_isAbove 42 = .ok (.iaload, 1) := by decide +kernel
theorem d_Md_isAbove_43 : decode c_Md_isAbove 43 = .ok (.aload_n 0, 1) := by decide +kernel
theorem d_Md_isAbove_44 : decode c_Md_isAbove 44 = .ok (.getfield 19, 3) := by decide +kernel
theorem d_Md_isAbove_47 : decode c_Md_isAbove 47 = .ok (.iload 4, 2) := by decide +kernel
theorem d_Md_isAbove_49 : decode c_Md_isAbove 49 = .ok (.iaload, 1) := by decide +kernel
theorem d_Md_isAbove_50 : decode c_Md_isAbove 50 = .ok (.if_icmp .le 7, 3) := by decide +kernel
theorem d_Md_isAbove_53 : decode c_Md_isAbove 53 = .ok (.iconst 1, 1) := by decide +kernel
theorem d_Md_isAbove_54 : decode c_Md_isAbove 54 = .ok (.goto 4, 3) := by decide +kernel
theorem d_Md_isAbove_57 : decode c_Md_isAbove 57 = .ok (.iconst 0, 1) := by decide +kernel
theorem d_Md_isAbove_58 : decode c_Md_isAbove 58 = .ok (.ireturn, 1) := by decide +kernel
theorem d_Md_isAbove_59 : decode c_Md_isAbove 59 = .ok (.aload_n 0, 1) := by decide +kernel
theorem d_Md_isAbove_60 : decode c_Md_isAbove 60 = .ok (.getfield 7, 3) := by decide +kernel
theorem d_Md_isAbove_63 : decode c_Md_isAbove 63 = .ok (.iload_n 3, 1) := by decide +kernel
theorem d_Md_isAbove_64 : decode c_Md_isAbove 64 = .ok (.iaload, 1) := by decide +kernel
theorem d_Md_isAbove_65 : decode c_Md_isAbove 65 = .ok (.bipush 100, 2) := by decide +kernel
theorem d_Md_isAbove_67 : decode c_Md_isAbove 67 = .ok (.if_icmp .ge 7, 3) := by decide +kernel
theorem d_Md_isAbove_70 : decode c_Md_isAbove 70 = .ok (.iconst 1, 1) := by decide +kernel
theorem d_Md_isAbove_71 : decode c_Md_isAbove 71 = .ok (.goto 4, 3) := by decide +kernel
theorem d_Md_isAbove_74 : decode c_Md_isAbove 74 = .ok (.iconst 0, 1) := by decide +kernel
theorem d_Md_isAbove_75 : decode c_Md_isAbove 75 = .ok (.istore 5, 2) := by decide +kernel
theorem d_Md_isAbove_77 : decode c_Md_isAbove 77 = .ok (.aload_n 0, 1) := by decide +kernel
theorem d_Md_isAbove_78 : decode c_Md_isAbove 78 = .ok (.getfield 7, 3) := by decide +kernel
theorem d_Md_isAbove_81 : decode c_Md_isAbove 81 = .ok (.iload 4, 2) := by decide +kernel
theorem d_Md_isAbove_83 : decode c_Md_isAbove 83 = .ok (.iaload, 1) := by decide +kernel
theorem d_Md_isAbove_84 : decode c_Md_isAbove 84 = .ok (.bipush 100, 2) := by decide +kernel
theorem d_Md_isAbove_86 : decode c_Md_isAbove 86 = .ok (.if_icmp .ge 7, 3) := by decide +kernel
theorem d_Md_isAbove_89 : decode c_Md_isAbove 89 = .ok (.iconst 1, 1) := by decide +kernel
theorem d_Md_isAbove_90 : decode c_Md_isAbove 90 = .ok (.goto 4, 3) := by decide +kernel
theorem d_Md_isAbove_93 : decode c_Md_isAbove 93 = .ok (.iconst 0, 1) := by decide +kernel
theorem d_Md_isAbove_94 : decode c_Md_isAbove 94 = .ok (.istore 6, 2) := by decide +kernel
theorem d_Md_isAbove_96 : decode c_Md_isAbove 96 = .ok (.aload_n 0, 1) := by decide +kernel
theorem d_Md_isAbove_97 : decode c_Md_isAbove 97 = .ok (.getfield 7, 3) := by decide +kernel
theorem d_Md_isAbove_100 : decode c_Md_isAbove 100 = .ok (.iload_n 3, 1) := by decide +kernel
theorem d_Md_isAbove_101 : decode c_Md_isAbove 101 = .ok (.iaload, 1) := by decide +kernel
theorem d_Md_isAbove_102 : decode c_Md_isAbove 102 = .ok (.sipush 200, 3) := by decide +kernel
theorem d_Md_isAbove_105 : decode c_Md_isAbove 105 = .ok (.if_icmp .ge 16, 3) := by decide +kernel
theorem d_Md_isAbove_108 : decode c_Md_isAbove 108 = .ok (.aload_n 0, 1) := by decide +kernel
theorem d_Md_isAbove_109 : decode c_Md_isAbove 109 = .ok (.getfield 7, 3) := by decide +kernel
theorem d_Md_isAbove_112 : decode c_Md_isAbove 112 = .ok (.iload 4, 2) := by decide +kernel
theorem d_Md_isAbove_114 : decode c_Md_isAbove 114 = .ok (.iaload, 1) := by decide +kernel
theorem d_Md_isAbove_115 : decode c_Md_isAbove 115 = .ok (.sipush 200, 3) := by decide +kernel
theorem d_Md_isAbove_118 : decode c_Md_isAbove 118 = .ok (.if_icmp .lt 5, 3) := by decide +kernel
theorem d_Md_isAbove_121 : decode c_Md_isAbove 121 = .ok (.iconst 0, 1) := by decide +kernel
theorem d_Md_isAbove_122 : decode c_Md_isAbove 122 = .ok (.ireturn, 1) := by decide +kernel
theorem d_Md_isAbove_123 : decode c_Md_isAbove 123 = .ok (.iload 5, 2) := by decide +kernel
theorem d_Md_isAbove_125 : decode c_Md_isAbove 125 = .ok (.ifCond .eq 8, 3) := by decide +kernel
theorem d_Md_isAbove_128 : decode c_Md_isAbove 128 = .ok (.iload 6, 2) := by decide +kernel
theorem d_Md_isAbove_130 : decode c_Md_isAbove 130 = .ok (.ifCond .ne 35, 3) := by decide +kernel
theorem d_Md_isAbove_133 : decode c_Md_isAbove 133 = .ok (.iload 5, 2) := by decide +kernel
theorem d_Md_isAbove_135 : decode c_Md_isAbove 135 = .ok (.ifCond .ne 24, 3) := by decide +kernel
theorem d_Md_isAbove_138 : decode c_Md_isAbove 138 = .ok (.iload 6, 2) := by decide +kernel
theorem d_Md_isAbove_140 : decode c_Md_isAbove 140 = .ok (.ifCond .ne 23, 3) := by decide +kernel
theorem d_Md_isAbove_143 : decode c_Md_isAbove 143 = .ok (.aload_n 0, 1) := by decide +kernel
theorem d_Md_isAbove_144 : decode c_Md_isAbove 144 = .ok (.getfield 7, 3) := by decide +kernel
theorem d_Md_isAbove_147 : decode c_Md_isAbove 147 = .ok (.iload_n 3, 1) := by decide +kernel
theorem d_Md_isAbove_148 : decode c_Md_isAbove 148 = .ok (.iaload, 1) := by decide +kernel
theorem d_Md_isAbove_149 : decode c_Md_isAbove 149 = .ok (.aload_n 0, 1) := by decide +kernel
theorem d_Md_isAbove_150 : decode c_Md_isAbove 150 = .ok (.getfield 7, 3) := by decide +kernel
theorem d_Md_isAbove_153 : decode c_Md_isAbove 153 = .ok (.iload 4, 2) := by decide +kernel
theorem d_Md_isAbove_155 : decode c_Md_isAbove 155 = .ok (.iaload, 1) := by decide +kernel
theorem d_Md_isAbove_156 : decode c_Md_isAbove 156 = .ok (.if_icmp .le 7, 3) := by decide +kernel
theorem d_Md_isAbove_159 : decode c_Md_isAbove 159 = .ok (.iconst 1, 1) := by decide +kernel
theorem d_Md_isAbove_160 : decode c_Md_isAbove 160 = .ok (.goto 4, 3) := by decide +kernel
theorem d_Md_isAbove_163 : decode c_Md_isAbove 163 = .ok (.iconst 0, 1) := by decide +kernel
theorem d_Md_isAbove_164 : decode c_Md_isAbove 164 = .ok (.ireturn, 1) := by decide +kernel
theorem d_Md_isAbove_165 : decode c_Md_isAbove 165 = .ok (.aload_n 0, 1) := by decide +kernel
theorem d_Md_isAbove_166 : decode c_Md_isAbove 166 = .ok (.getfield 7, 3) := by decide +kernel
theorem d_Md_isAbove_169 : decode c_Md_isAbove 169 = .ok (.iload_n 3, 1) := by decide +kernel
theorem d_Md_isAbove_170 : decode c_Md_isAbove 170 = .ok (.iaload, 1) := by decide +kernel
theorem d_Md_isAbove_171 : decode c_Md_isAbove 171 = .ok (.aload_n 0, 1) := by decide +kernel
theorem d_Md_isAbove_172 : decode c_Md_isAbove 172 = .ok (.getfield 7, 3) := by decide +kernel
theorem d_Md_isAbove_175 : decode c_Md_isAbove 175 = .ok (.iload 4, 2) := by decide +kernel
theorem d_Md_isAbove_177 : decode c_Md_isAbove 177 = .ok (.iaload, 1) := by decide +kernel
theorem d_Md_isAbove_178 : decode c_Md_isAbove 178 = .ok (.if_icmp .eq 25, 3) := by decide +kernel
theorem d_Md_isAbove_181 : decode c_Md_isAbove 181 = .ok (.aload_n 0, 1) := by decide +kernel
theorem d_Md_isAbove_182 : decode c_Md_isAbove 182 = .ok (.getfield 7, 3) := by decide +kernel
theorem d_Md_isAbove_185 : decode c_Md_isAbove 185 = .ok (.iload_n 3, 1) := by decide +kernel
theorem d_Md_isAbove_186 : decode c_Md_isAbove 186 = .ok (.iaload, 1) := by decide +kernel
theorem d_Md_isAbove_187 : decode c_Md_isAbove 187 = .ok (.aload_n 0, 1) := by decide +kernel
theorem d_Md_isAbove_188 : decode c_Md_isAbove 188 = .ok (.getfield 7, 3) := by decide +kernel
theorem d_Md_isAbove_191 : decode c_Md_isAbove 191 = .ok (.iload 4, 2) := by decide +kernel
theorem d_Md_isAbove_193 : decode c_Md_isAbove 193 = .ok (.iaload, 1) := by decide +kernel
theorem d_Md_isAbove_194 : decode c_Md_isAbove 194 = .ok (.if_icmp .le 7, 3) := by decide +kernel
theorem d_Md_isAbove_197 : decode c_Md_isAbove 197 = .ok (.iconst 1, 1) := by decide +kernel
theorem d_Md_isAbove_198 : decode c_Md_isAbove 198 = .ok (.goto 4, 3) := by decide +kernel
theorem d_Md_isAbove_201 : decode c_Md_isAbove 201 = .ok (.iconst 0, 1) := by decide +kernel
theorem d_Md_isAbove_202 : decode c_Md_isAbove 202 = .ok (.ireturn, 1) := by decide +kernel
theorem d_Md_isAbove_203 : decode c_Md_isAbove 203 = .ok (.aload_n 0, 1) := by decide +kernel
theorem d_Md_isAbove_204 : decode c_Md_isAbove 204 = .ok (.getfield 13, 3) := by decide +kernel
theorem d_Md_isAbove_207 : decode c_Md_isAbove 207 = .ok (.iload_n 3, 1) := by decide +kernel
theorem d_Md_isAbove_208 : decode c_Md_isAbove 208 = .ok (.iaload, 1) := by decide +kernel
theorem d_Md_isAbove_209 : decode c_Md_isAbove 209 = .ok (.aload_n 0, 1) := by decide +kernel
theorem d_Md_isAbove_210 : decode c_Md_isAbove 210 = .ok (.getfield 13, 3) := by decide +kernel
theorem d_Md_isAbove_213 : decode c_Md_isAbove 213 = .ok (.iload 4, 2) := by decide +kernel
theorem d_Md_isAbove_215 : decode c_Md_isAbove 215 = .ok (.iaload, 1) := by decide +kernel
theorem d_Md_isAbove_216 : decode c_Md_isAbove 216 = .ok (.if_icmp .ne 7, 3) := by decide +kernel
theorem d_Md_isAbove_219 : decode c_Md_isAbove 219 = .ok (.iconst 1, 1) := by decide +kernel
theorem d_Md_isAbove_220 : decode c_Md_isAbove 220 = .ok (.goto 4, 3) := by decide +kernel
theorem d_Md_isAbove_223 : decode c_Md_isAbove 223 = .ok (.iconst 0, 1) := by decide +kernel
theorem d_Md_isAbove_224 : decode c_Md_isAbove 224 = .ok (.istore 7, 2) := by decide +kernel
theorem d_Md_isAbove_226 : decode c_Md_isAbove 226 = .ok (.iload 7, 2) := by decide +kernel
theorem d_Md_isAbove_228 : decode c_Md_isAbove 228 = .ok (.ifCond .eq 12, 3) := by decide +kernel
theorem d_Md_isAbove_231 : decode c_Md_isAbove 231 = .ok (.aload_n 0, 1) := by decide +kernel
theorem d_Md_isAbove_232 : decode c_Md_isAbove 232 = .ok (.getfield 16, 3) := by decide +kernel
theorem d_Md_isAbove_235 : decode c_Md_isAbove 235 = .ok (.iload_n 3, 1) := by decide +kernel
theorem d_Md_isAbove_236 : decode c_Md_isAbove 236 = .ok (.iaload, 1) := by decide +kernel
theorem d_Md_isAbove_237 : decode c_Md_isAbove 237 = .ok (.goto 9, 3) := by decide +kernel
theorem d_Md_isAbove_240 : decode c_Md_isAbove 240 = .ok (.aload_n 0, 1) := by decide +kernel
theorem d_Md_isAbove_241 : decode c_Md_isAbove 241 = .ok (.getfield 13, 3) := by decide +kernel
theorem d_Md_isAbove_244 : decode c_Md_isAbove 244 = .ok (.iload_n 3, 1) := by decide +kernel
theorem d_Md_isAbove_245 : decode c_Md_isAbove 245 = .ok (.iaload, 1) := by decide +kernel
theorem d_Md_isAbove_246 : decode c_Md_isAbove 246 = .ok (.istore 8, 2) := by decide +kernel
theorem d_Md_isAbove_248 : decode c_Md_isAbove 248 = .ok (.iload 7, 2) := by decide +kernel
theorem d_Md_isAbove_250 : decode c_Md_isAbove 250 = .ok (.ifCond .eq 13, 3) := by decide +kernel
theorem d_Md_isAbove_253 : decode c_Md_isAbove 253 = .ok (.aload_n 0, 1) := by decide +kernel
theorem d_Md_isAbove_254 : decode c_Md_isAbove 254 = .ok (.getfield 16, 3) := by decide +kernel
theorem d_Md_isAbove_257 : decode c_Md_isAbove 257 = .ok (.iload 4, 2) := by decide +kernel
theorem d_Md_isAbove_259 : decode c_Md_isAbove 259 = .ok (.iaload, 1) := by decide +kernel
theorem d_Md_isAbove_260 : decode c_Md_isAbove 260 = .ok (.goto 10, 3) := by decide +kernel
theorem d_Md_isAbove_263 : decode c_Md_isAbove 263 = .ok (.aload_n 0, 1) := by decide +kernel
theorem d_Md_isAbove_264 : decode c_Md_isAbove 264 = .ok (.getfield 13, 3) := by decide +kernel
theorem d_Md_isAbove_267 : decode c_Md_isAbove 267 = .ok (.iload 4, 2) := by decide +kernel
theorem d_Md_isAbove_269 : decode c_Md_isAbove 269 = .ok (.iaload, 1) := by decide +kernel
theorem d_Md_isAbove_270 : decode c_Md_isAbove 270 = .ok (.istore 4, 2) := by decide +kernel
theorem d_Md_isAbove_272 : decode c_Md_isAbove 272 = .ok (.iload 8, 2) := by decide +kernel
theorem d_Md_isAbove_274 : decode c_Md_isAbove 274 = .ok (.istore_n 3, 1) := by decide +kernel
theorem d_Md_isAbove_275 : decode c_Md_isAbove 275 = .ok (.goto (-270), 3) := by decide +kernel
theorem d_Md_isAbove_278 : decode c_Md_isAbove 278 = .ok (.iconst 0, 1) := by decide +kernel
theorem d_Md_isAbove_279 : decode c_Md_isAbove 279 = .ok (.ireturn, 1) := by decide +kernel
theorem d_Md_holesAllow_0 : decode c_Md_holesAllow 0 = .ok (.aload_n 0, 1) := by decide +kernel
theorem d_Md_holesAllow_1 : decode c_Md_holesAllow 1 = .ok (.iload_n 1, 1) := by decide +kernel
theorem d_Md_holesAllow_2 : decode c_Md_holesAllow 2 = .ok (.aload_n 0, 1) := by decide +kernel
theorem d_Md_holesAllow_3 : decode c_Md_holesAllow 3 = .ok (.getfield 71, 3) := by decide +kernel
theorem d_Md_holesAllow_6 : decode c_Md_holesAllow 6 = .ok (.invokevirtual 121, 3) := by decide +kernel
theorem d_Md_holesAllow_9 : decode c_Md_holesAllow 9 = .ok (.aload_n 0, 1) := by decide +kernel
theorem d_Md_holesAllow_10 : decode c_Md_holesAllow 10 = .ok (.iload_n 2, 1) := by decide +kernel
theorem d_Md_holesAllow_11 : decode c_Md_holesAllow 11 = .ok (.aload_n 0, 1) := by decide +kernel
theorem d_Md_holesAllow_12 : decode c_Md_holesAllow 12 = .ok (.getfield 74, 3) := by decide +kernel
theorem d_Md_holesAllow_15 : decode c_Md_holesAllow 15 = .ok (.invokevirtual 121, 3) := by decide +kernel
theorem d_Md_holesAllow_18 : decode c_Md_holesAllow 18 = .ok (.iconst 0, 1) := by decide +kernel
theorem d_Md_holesAllow_19 : decode c_Md_holesAllow 19 = .ok (.istore_n 3, 1) := by decide +kernel
theorem d_Md_holesAllow_20 : decode c_Md_holesAllow 20 = .ok (.iload_n 3, 1) := by decide +kernel
theorem d_Md_holesAllow_21 : decode c_Md_holesAllow 21 = .ok (.bipush 6, 2) := by decide +kernel
theorem d_Md_holesAllow_23 : decode c_Md_holesAllow 23 = .ok (.if_icmp .ge 26, 3) := by decide +kernel
theorem d_Md_holesAllow_26 : decode c_Md_holesAllow 26 = .ok (.aload_n 0, 1) := by decide +kernel
theorem d_Md_holesAllow_27 : decode c_Md_holesAllow 27 = .ok (.getfield 71, 3) := by decide +kernel
theorem d_Md_holesAllow_30 : decode c_Md_holesAllow 30 = .ok (.iload_n 3, 1) := by decide +kernel
theorem d_Md_holesAllow_31 : decode c_Md_holesAllow 31 = .ok (.iaload, 1) := by decide +kernel
theorem d_Md_holesAllow_32 : decode c_Md_holesAllow 32 = .ok (.aload_n 0, 1) := by decide +kernel
theorem d_Md_holesAllow_33 : decode c_Md_holesAllow 33 = .ok (.getfield 74, 3) := by decide +kernel
theorem d_Md_holesAllow_36 : decode c_Md_holesAllow 36 = .ok (.iload_n 3, 1) := by decide +kernel
theorem d_Md_holesAllow_37 : decode c_Md_holesAllow 37 = .ok (.iaload, 1) := by decide +kernel
theorem d_Md_holesAllow_38 : decode c_Md_holesAllow 38 = .ok (.if_icmp .ge 5, 3) := by decide +kernel
theorem d_Md_holesAllow_41 : decode c_Md_holesAllow 41 = .ok (.iconst 0, 1) := by decide +kernel
theorem d_Md_holesAllow_42 : decode c_Md_holesAllow 42 = .ok (.ireturn, 1) := by decide +kernel
theorem d_Md_holesAllow_43 : decode c_Md_holesAllow 43 = .ok (.iinc 3 1, 3) := by decide +kernel
theorem d_Md_holesAllow_46 : decode c_Md_holesAllow 46 = .ok (.goto (-26), 3) := by decide +kernel
theorem d_Md_holesAllow_49 : decode c_Md_holesAllow 49 = .ok (.iconst 1, 1) := by decide +kernel
theorem d_Md_holesAllow_50 : decode c_Md_holesAllow 50 = .ok (.ireturn, 1) := by decide +kernel
theorem d_Md_countHoles_0 : decode c_Md_countHoles 0 = .ok (.iconst 0, 1) := by decide +kernel
theorem d_Md_countHoles_1 : decode c_Md_countHoles 1 = .ok (.istore_n 3, 1) := by decide +kernel
theorem d_Md_countHoles_2 : decode c_Md_countHoles 2 = .ok (.iload_n 3, 1) := by decide +kernel
theorem d_Md_countHoles_3 : decode c_Md_countHoles 3 = .ok (.bipush 6, 2) := by decide +kernel
theorem d_Md_countHoles_5 : decode c_Md_countHoles 5 = .ok (.if_icmp .ge 13, 3) := by decide +kernel
theorem d_Md_countHoles_8 : decode c_Md_countHoles 8 = .ok (.aload_n 2, 1) := by decide +kernel
theorem d_Md_countHoles_9 : decode c_Md_countHoles 9 = .ok (.iload_n 3, 1) := by decide +kernel
theorem d_Md_countHoles_10 : decode c_Md_countHoles 10 = .ok (.iconst 0, 1) := by decide +kernel
theorem d_Md_countHoles_11 : decode c_Md_countHoles 11 = .ok (.iastore, 1) := by decide +kernel
theorem d_Md_countHoles_12 : decode c_Md_countHoles 12 = .ok (.iinc 3 1, 3) := by decide +kernel
theorem d_Md_countHoles_15 : decode c_Md_countHoles 15 = .ok (.goto (-13), 3) := by decide +kernel
theorem d_Md_countHoles_18 : decode c_Md_countHoles 18 = .ok (.aload_n 0, 1) := by decide +kernel
theorem d_Md_countHoles_19 : decode c_Md_countHoles 19 = .ok (.iload_n 1, 1) := by decide +kernel
theorem d_Md_countHoles_20 : decode c_Md_countHoles 20 = .ok (.aload_n 0, 1) := by decide +kernel
theorem d_Md_countHoles_21 : decode c_Md_countHoles 21 = .ok (.getfield 59, 3) := by decide +kernel
theorem d_Md_countHoles_24 : decode c_Md_countHoles 24 = .ok (.iconst 0, 1) := by decide +kernel
theorem d_Md_countHoles_25 : decode c_Md_countHoles 25 = .ok (.invokevirtual 117, 3) := by decide +kernel
theorem d_Md_countHoles_28 : decode c_Md_countHoles 28 = .ok (.istore_n 3, 1) := by decide +kernel
theorem d_Md_countHoles_29 : decode c_Md_countHoles 29 = .ok (.iconst 0, 1) := by decide +kernel
theorem d_Md_countHoles_30 : decode c_Md_countHoles 30 = .ok (.istore 4, 2) := by decide +kernel
theorem d_Md_countHoles_32 : decode c_Md_countHoles 32 = .ok (.iload 4, 2) := by decide +kernel
theorem d_Md_countHoles_34 : decode c_Md_countHoles 34 = .ok (.iload_n 3, 1) := by decide +kernel
theorem d_Md_countHoles_35 : decode c_Md_countHoles 35 = .ok (.if_icmp .ge 49, 3) := by decide +kernel
theorem d_Md_countHoles_38 : decode c_Md_countHoles 38 = .ok (.aload_n 0, 1) := by decide +kernel
theorem d_Md_countHoles_39 : decode c_Md_countHoles 39 = .ok (.getfield 7, 3) := by decide +kernel
theorem d_Md_countHoles_42 : decode c_Md_countHoles 42 = .ok (.aload_n 0, 1) := by decide +kernel
theorem d_Md_countHoles_43 : decode c_Md_countHoles 43 = .ok (.getfield 59, 3) := by decide +kernel
theorem d_Md_countHoles_46 : decode c_Md_countHoles 46 = .ok (.iload 4, 2) := by decide +kernel
theorem d_Md_countHoles_48 : decode c_Md_countHoles 48 = .ok (.iaload, 1) := by decide +kernel
theorem d_Md_countHoles_49 : decode c_Md_countHoles 49 = .ok (.iaload, 1) := by decide +kernel
theorem d_Md_countHoles_50 : decode c_Md_countHoles 50 = .ok (.sipush 200, 3) := by decide +kernel
theorem d_Md_countHoles_53 : decode c_Md_countHoles 53 = .ok (.if_icmp .lt 25, 3) := by decide +kernel
theorem d_Md_countHoles_56 : decode c_Md_countHoles 56 = .ok (.aload_n 2, 1) := by decide +kernel
theorem d_Md_countHoles_57 : decode c_Md_countHoles 57 = .ok (.aload_n 0, 1) := by decide +kernel
theorem d_Md_countHoles_58 : decode c_Md_countHoles 58 = .ok (.getfield 7, 3) := by decide +kernel
theorem d_Md_countHoles_61 : decode c_Md_countHoles 61 = .ok (.aload_n 0, 1) := by decide +kernel
theorem d_Md_countHoles_62 : decode c_Md_countHoles 62 = .ok (.getfield 59, 3) := by decide +kernel
theorem d_Md_countHoles_65 : decode c_Md_countHoles 65 = .ok (.iload 4, 2) := by decide +kernel
theorem d_Md_countHoles_67 : decode c_Md_countHoles 67 = .ok (.iaload, 1) := by decide +kernel
theorem d_Md_countHoles_68 : decode c_Md_countHoles 68 = .ok (.iaload, 1) := by decide +kernel
theorem d_Md_countHoles_69 : decode c_Md_countHoles 69 = .ok (.sipush 200, 3) := by decide +kernel
theorem d_Md_countHoles_72 : decode c_Md_countHoles 72 = .ok (.isub, 1) := by decide +kernel
theorem d_Md_countHoles_73 : decode c_Md_countHoles 73 = .ok (.dup2, 1) := by decide +kernel
theorem d_Md_countHoles_74 : decode c_Md_countHoles 74 = .ok (.iaload, 1) := by decide +kernel
theorem d_Md_countHoles_75 : decode c_Md_countHoles 75 = .ok (.iconst 1, 1) := by decide +kernel
theorem d_Md_countHoles_76 : decode c_Md_countHoles 76 = .ok (.iadd, 1) := by decide +kernel
theorem d_Md_countHoles_77 : decode c_Md_countHoles 77 = .ok (.iastore, 1) := by decide +kernel
theorem d_Md_countHoles_78 : decode c_Md_countHoles 78 = .ok (.iinc 4 1, 3) := by decide +kernel
theorem d_Md_countHoles_81 : decode c_Md_countHoles 81 = .ok (.goto (-49), 3) := by decide +kernel
theorem d_Md_countHoles_84 : decode c_Md_countHoles 84 = .ok (.return_, 1) := by decide +kernel
theorem d_Md_lay_0 : decode c_Md_lay 0 = .ok (.iconst 0, 1) := by decide +kernel
theorem d_Md_lay_1 : decode c_Md_lay 1 = .ok (.istore 4, 2) := by decide +kernel
theorem d_Md_lay_3 : decode c_Md_lay 3 = .ok (.iconst 1, 1) := by decide +kernel
theorem d_Md_lay_4 : decode c_Md_lay 4 = .ok (.istore 5, 2) := by decide +kernel
theorem d_Md_lay_6 : decode c_Md_lay 6 = .ok (.aload_n 0, 1) := by decide +kernel
theorem d_Md_lay_7 : decode c_Md_lay 7 = .ok (.getfield 62, 3) := by decide +kernel
theorem d_Md_lay_10 : decode c_Md_lay 10 = .ok (.iconst 0, 1) := by decide +kernel
theorem d_Md_lay_11 : decode c_Md_lay 11 = .ok (.iload_n 1, 1) := by decide +kernel
theorem d_Md_lay_12 : decode c_Md_lay 12 = .ok (.iastore, 1) := by decide +kernel
theorem d_Md_lay_13 : decode c_Md_lay 13 = .ok (.iload 5, 2) := by decide +kernel
theorem d_Md_lay_15 : decode c_Md_lay 15 = .ok (.ifCond .le 88, 3) := by decide +kernel
theorem d_Md_lay_18 : decode c_Md_lay 18 = .ok (.iinc 5 (-1), 3) := by decide +kernel
theorem d_Md_lay_21 : decode c_Md_lay 21 = .ok (.aload_n 0, 1) := by decide +kernel
theorem d_Md_lay_22 : decode c_Md_lay 22 = .ok (.getfield 62, 3) := by decide +kernel
theorem d_Md_lay_25 : decode c_Md_lay 25 = .ok (.iload 5, 2) := by decide +kernel
theorem d_Md_lay_27 : decode c_Md_lay 27 = .ok (.iaload, 1) := by decide +kernel
theorem d_Md_lay_28 : decode c_Md_lay 28 = .ok (.istore 6, 2) := by decide +kernel
theorem d_Md_lay_30 : decode c_Md_lay 30 = .ok (.aload_n 2, 1) := by decide +kernel
theorem d_Md_lay_31 : decode c_Md_lay 31 = .ok (.iload 4, 2) := by decide +kernel
theorem d_Md_lay_33 : decode c_Md_lay 33 = .ok (.iload 6, 2) := by decide +kernel
theorem d_Md_lay_35 : decode c_Md_lay 35 = .ok (.iastore, 1) := by decide +kernel
theorem d_Md_lay_36 : decode c_Md_lay 36 = .ok (.iinc 4 1, 3) := by decide +kernel
theorem d_Md_lay_39 : decode c_Md_lay 39 = .ok (.aload_n 0, 1) := by decide +kernel
theorem d_Md_lay_40 : decode c_Md_lay 40 = .ok (.getfield 7, 3) := by decide +kernel
theorem d_Md_lay_43 : decode c_Md_lay 43 = .ok (.iload 6, 2) := by decide +kernel
theorem d_Md_lay_45 : decode c_Md_lay 45 = .ok (.iaload, 1) := by decide +kernel
theorem d_Md_lay_46 : decode c_Md_lay 46 = .ok (.invokestatic 93, 3) := by decide +kernel
theorem d_Md_lay_49 : decode c_Md_lay 49 = .ok (.iconst 2, 1) := by decide +kernel
theorem d_Md_lay_50 : decode c_Md_lay 50 = .ok (.if_icmp .ne 20, 3) := by decide +kernel
theorem d_Md_lay_53 : decode c_Md_lay 53 = .ok (.aload_n 0, 1) := by decide +kernel
theorem d_Md_lay_54 : decode c_Md_lay 54 = .ok (.getfield 62, 3) := by decide +kernel
theorem d_Md_lay_57 : decode c_Md_lay 57 = .ok (.iload 5, 2) := by decide +kernel
theorem d_Md_lay_59 : decode c_Md_lay 59 = .ok (.aload_n 0, 1) := by decide +kernel
theorem d_Md_lay_60 : decode c_Md_lay 60 = .ok (.getfield 16, 3) := by decide +kernel
theorem d_Md_lay_63 : decode c_Md_lay 63 = .ok (.iload 6, 2) := by decide +kernel
theorem d_Md_lay_65 : decode c_Md_lay 65 = .ok (.iaload, 1) := by decide +kernel
theorem d_Md_lay_66 : decode c_Md_lay 66 = .ok (.iastore, 1) := by decide +kernel
theorem d_Md_lay_67 : decode c_Md_lay 67 = .ok (.iinc 5 1, 3) := by decide +kernel
theorem d_Md_lay_70 : decode c_Md_lay 70 = .ok (.aload_n 0, 1) := by decide +kernel
theorem d_Md_lay_71 : decode c_Md_lay 71 = .ok (.getfield 7, 3) := by decide +kernel
theorem d_Md_lay_74 : decode c_Md_lay 74 = .ok (.iload 6, 2) := by decide +kernel
theorem d_Md_lay_76 : decode c_Md_lay 76 = .ok (.iaload, 1) := by decide +kernel
theorem d_Md_lay_77 : decode c_Md_lay 77 = .ok (.invokestatic 93, 3) := by decide +kernel
theorem d_Md_lay_80 : decode c_Md_lay 80 = .ok (.ifCond .le 20, 3) := by decide +kernel
theorem d_Md_lay_83 : decode c_Md_lay 83 = .ok (.aload_n 0, 1) := by decide +kernel
theorem d_Md_lay_84 : decode c_Md_lay 84 = .ok (.getfield 62, 3) := by decide +kernel
theorem d_Md_lay_87 : decode c_Md_lay 87 = .ok (.iload 5, 2) := by decide +kernel
theorem d_Md_lay_89 : decode c_Md_lay 89 = .ok (.aload_n 0, 1) := by decide +kernel
theorem d_Md_lay_90 : decode c_Md_lay 90 = .ok (.getfield 13, 3) := by decide +kernel
theorem d_Md_lay_93 : decode c_Md_lay 93 = .ok (.iload 6, 2) := by decide +kernel
theorem d_Md_lay_95 : decode c_Md_lay 95 = .ok (.iaload, 1) := by decide +kernel
theorem d_Md_lay_96 : decode c_Md_lay 96 = .ok (.iastore, 1) := by decide +kernel
theorem d_Md_lay_97 : decode c_Md_lay 97 = .ok (.iinc 5 1, 3) := by decide +kernel
theorem d_Md_lay_100 : decode c_Md_lay 100 = .ok (.goto (-87), 3) := by decide +kernel
theorem d_Md_lay_103 : decode c_Md_lay 103 = .ok (.iload_n 3, 1) := by decide +kernel
theorem d_Md_lay_104 : decode c_Md_lay 104 = .ok (.ifCond .eq 9, 3) := by decide +kernel
theorem d_Md_lay_107 : decode c_Md_lay 107 = .ok (.aload_n 0, 1) := by decide +kernel
theorem d_Md_lay_108 : decode c_Md_lay 108 = .ok (.iload 4, 2) := by decide +kernel
theorem d_Md_lay_110 : decode c_Md_lay 110 = .ok (.invokevirtual 113, 3) := by decide +kernel
theorem d_Md_lay_113 : decode c_Md_lay 113 = .ok (.iload 4, 2) := by decide +kernel
theorem d_Md_lay_115 : decode c_Md_lay 115 = .ok (.ireturn, 1) := by decide +kernel
theorem d_Md_findAround_0 : decode c_Md_findAround 0 = .ok (.aload_n 0, 1) := by decide +kernel
theorem d_Md_findAround_1 : decode c_Md_findAround 1 = .ok (.getfield 56, 3) := by decide +kernel
theorem d_Md_findAround_4 : decode c_Md_findAround 4 = .ok (.iconst 0, 1) := by decide +kernel
theorem d_Md_findAround_5 : decode c_Md_findAround 5 = .ok (.iconst (-1), 1) := by decide +kernel
theorem d_Md_findAround_6 : decode c_Md_findAround 6 = .ok (.iastore, 1) := by decide +kernel
theorem d_Md_findAround_7 : decode c_Md_findAround 7 = .ok (.iconst 0, 1) := by decide +kernel
theorem d_Md_findAround_8 : decode c_Md_findAround 8 = .ok (.istore_n 2, 1) := by decide +kernel
theorem d_Md_findAround_9 : decode c_Md_findAround 9 = .ok (.iload_n 2, 1) := by decide +kernel
theorem d_Md_findAround_10 : decode c_Md_findAround 10 = .ok (.iload_n 1, 1) := by decide +kernel
theorem d_Md_findAround_11 : decode c_Md_findAround 11 = .ok (.if_icmp .ge 71, 3) := by decide +kernel
theorem d_Md_findAround_14 : decode c_Md_findAround 14 = .ok (.aload_n 0, 1) := by decide +kernel
theorem d_Md_findAround_15 : decode c_Md_findAround 15 = .ok (.getfield 53, 3) := by decide +kernel
theorem d_Md_findAround_18 : decode c_Md_findAround 18 = .ok (.iload_n 2, 1) := by decide +kernel
theorem d_Md_findAround_19 : decode c_Md_findAround 19 = .ok (.iaload, 1) := by decide +kernel
theorem d_Md_findAround_20 : decode c_Md_findAround 20 = .ok (.istore_n 3, 1) := by decide +kernel
theorem d_Md_findAround_21 : decode c_Md_findAround 21 = .ok (.aload_n 0, 1) := by decide +kernel
theorem d_Md_findAround_22 : decode c_Md_findAround 22 = .ok (.getfield 7, 3) := by decide +kernel
theorem d_Md_findAround_25 : decode c_Md_findAround 25 = .ok (.iload_n 3, 1) := by decide +kernel
theorem d_Md_findAround_26 : decode c_Md_findAround 26 = .ok (.iaload, 1) := by decide +kernel
theorem d_Md_findAround_27 : decode c_Md_findAround 27 = .ok (.invokestatic 93, 3) := by decide +kernel
theorem d_Md_findAround_30 : decode c_Md_findAround 30 = .ok (.ifCond .le 12, 3) := by decide +kernel
theorem d_Md_findAround_33 : decode c_Md_findAround 33 = .ok (.aload_n 0, 1) := by decide +kernel
theorem d_Md_findAround_34 : decode c_Md_findAround 34 = .ok (.getfield 56, 3) := by decide +kernel
theorem d_Md_findAround_37 : decode c_Md_findAround 37 = .ok (.iload_n 2, 1) := by decide +kernel
theorem d_Md_findAround_38 : decode c_Md_findAround 38 = .ok (.iconst 1, 1) := by decide +kernel
theorem d_Md_findAround_39 : decode c_Md_findAround 39 = .ok (.iadd, 1) := by decide +kernel
theorem d_Md_findAround_40 : decode c_Md_findAround 40 = .ok (.iload_n 2, 1) := by decide +kernel
theorem d_Md_findAround_41 : decode c_Md_findAround 41 = .ok (.iastore, 1) := by decide +kernel
theorem d_Md_findAround_42 : decode c_Md_findAround 42 = .ok (.aload_n 0, 1) := by decide +kernel
theorem d_Md_findAround_43 : decode c_Md_findAround 43 = .ok (.getfield 7, 3) := by decide +kernel
theorem d_Md_findAround_46 : decode c_Md_findAround 46 = .ok (.iload_n 3, 1) := by decide +kernel
theorem d_Md_findAround_47 : decode c_Md_findAround 47 = .ok (.iaload, 1) := by decide +kernel
theorem d_Md_findAround_48 : decode c_Md_findAround 48 = .ok (.invokestatic 93, 3) := by decide +kernel
theorem d_Md_findAround_51 : decode c_Md_findAround 51 = .ok (.iconst 2, 1) := by decide +kernel
theorem d_Md_findAround_52 : decode c_Md_findAround 52 = .ok (.if_icmp .ne 24, 3) := by decide +kernel
theorem d_Md_findAround_55 : decode c_Md_findAround 55 = .ok (.aload_n 0, 1) := by decide +kernel
theorem d_Md_findAround_56 : decode c_Md_findAround 56 = .ok (.getfield 56, 3) := by decide +kernel
theorem d_Md_findAround_59 : decode c_Md_findAround 59 = .ok (.iload_n 2, 1) := by decide +kernel
theorem d_Md_findAround_60 : decode c_Md_findAround 60 = .ok (.iconst 1, 1) := by decide +kernel
theorem d_Md_findAround_61 : decode c_Md_findAround 61 = .ok (.iadd, 1) := by decide +kernel
theorem d_Md_findAround_62 : decode c_Md_findAround 62 = .ok (.aload_n 0, 1) := by decide +kernel
theorem d_Md_findAround_63 : decode c_Md_findAround 63 = .ok (.getfield 22, 3) := by decide +kernel
theorem d_Md_findAround_66 : decode c_Md_findAround 66 = .ok (.aload_n 0, 1) := by decide +kernel
theorem d_Md_findAround_67 : decode c_Md_findAround 67 = .ok (.getfield 13, 3) := by decide +kernel
theorem d_Md_findAround_70 : decode c_Md_findAround 70 = .ok (.iload_n 3, 1) := by decide +kernel
theorem d_Md_findAround_71 : decode c_Md_findAround 71 = .ok (.iaload, 1) := by decide +kernel
theorem d_Md_findAround_72 : decode c_Md_findAround 72 = .ok (.iaload, 1) := by decide +kernel
theorem d_Md_findAround_73 : decode c_Md_findAround 73 = .ok (.iadd, 1) := by decide +kernel
theorem d_Md_findAround_74 : decode c_Md_findAround 74 = .ok (.iload_n 2, 1) := by decide +kernel
theorem d_Md_findAround_75 : decode c_Md_findAround 75 = .ok (.iastore, 1) := by decide +kernel
theorem d_Md_findAround_76 : decode c_Md_findAround 76 = .ok (.iinc 2 1, 3) := by decide +kernel
theorem d_Md_findAround_79 : decode c_Md_findAround 79 = .ok (.goto (-70), 3) := by decide +kernel
theorem d_Md_findAround_82 : decode c_Md_findAround 82 = .ok (.return_, 1) := by decide +kernel
theorem d_Md_rewrite_0 : decode c_Md_rewrite 0 = .ok (.aload_n 0, 1) := by decide +kernel
theorem d_Md_rewrite_1 : decode c_Md_rewrite 1 = .ok (.aload_n 0, 1) := by decide +kernel
theorem d_Md_rewrite_2 : decode c_Md_rewrite 2 = .ok (.iload_n 1, 1) := by decide +kernel
theorem d_Md_rewrite_3 : decode c_Md_rewrite 3 = .ok (.invokevirtual 109, 3) := by decide +kernel
theorem d_Md_rewrite_6 : decode c_Md_rewrite 6 = .ok (.ifCond .ne 7, 3) := by decide +kernel
theorem d_Md_rewrite_9 : decode c_Md_rewrite 9 = .ok (.iconst 1, 1) := by decide +kernel
theorem d_Md_rewrite_10 : decode c_Md_rewrite 10 = .ok (.goto 28, 3) := by decide +kernel
theorem d_Md_rewrite_13 : decode c_Md_rewrite 13 = .ok (.aload_n 0, 1) := by decide +kernel
theorem d_Md_rewrite_14 : decode c_Md_rewrite 14 = .ok (.getfield 28, 3) := by decide +kernel
theorem d_Md_rewrite_17 : decode c_Md_rewrite 17 = .ok (.iload_n 1, 1) := by decide +kernel
theorem d_Md_rewrite_18 : decode c_Md_rewrite 18 = .ok (.iaload, 1) := by decide +kernel
theorem d_Md_rewrite_19 : decode c_Md_rewrite 19 = .ok (.ifCond .ne 14, 3) := by decide +kernel
theorem d_Md_rewrite_22 : decode c_Md_rewrite 22 = .ok (.iload_n 2, 1) := by decide +kernel
theorem d_Md_rewrite_23 : decode c_Md_rewrite 23 = .ok (.ifCond .lt 10, 3) := by decide +kernel
theorem d_Md_rewrite_26 : decode c_Md_rewrite 26 = .ok (.iload_n 2, 1) := by decide +kernel
theorem d_Md_rewrite_27 : decode c_Md_rewrite 27 = .ok (.sipush 200, 3) := by decide +kernel
theorem d_Md_rewrite_30 : decode c_Md_rewrite 30 = .ok (.if_icmp .le 7, 3) := by decide +kernel
theorem d_Md_rewrite_33 : decode c_Md_rewrite 33 = .ok (.iconst 2, 1) := by decide +kernel
theorem d_Md_rewrite_34 : decode c_Md_rewrite 34 = .ok (.goto 4, 3) := by decide +kernel
theorem d_Md_rewrite_37 : decode c_Md_rewrite 37 = .ok (.iconst 0, 1) := by decide +kernel
theorem d_Md_rewrite_38 : decode c_Md_rewrite 38 = .ok (.putfield 86, 3) := by decide +kernel
theorem d_Md_rewrite_41 : decode c_Md_rewrite 41 = .ok (.aload_n 0, 1) := by decide +kernel
theorem d_Md_rewrite_42 : decode c_Md_rewrite 42 = .ok (.getfield 86, 3) := by decide +kernel
theorem d_Md_rewrite_45 : decode c_Md_rewrite 45 = .ok (.ifCond .eq 5, 3) := by decide +kernel
theorem d_Md_rewrite_48 : decode c_Md_rewrite 48 = .ok (.iconst 0, 1) := by decide +kernel
theorem d_Md_rewrite_49 : decode c_Md_rewrite 49 = .ok (.ireturn, 1) := by decide +kernel
theorem d_Md_rewrite_50 : decode c_Md_rewrite 50 = .ok (.aload_n 0, 1) := by decide +kernel
theorem d_Md_rewrite_51 : decode c_Md_rewrite 51 = .ok (.iconst 0, 1) := by decide +kernel
theorem d_Md_rewrite_52 : decode c_Md_rewrite 52 = .ok (.invokevirtual 176, 3) := by decide +kernel
theorem d_Md_rewrite_55 : decode c_Md_rewrite 55 = .ok (.aload_n 0, 1) := by decide +kernel
theorem d_Md_rewrite_56 : decode c_Md_rewrite 56 = .ok (.iload_n 1, 1) := by decide +kernel
theorem d_Md_rewrite_57 : decode c_Md_rewrite 57 = .ok (.iload_n 2, 1) := by decide +kernel
theorem d_Md_rewrite_58 : decode c_Md_rewrite 58 = .ok (.invokevirtual 180, 3) := by decide +kernel
theorem d_Md_rewrite_61 : decode c_Md_rewrite 61 = .ok (.istore_n 3, 1) := by decide +kernel
theorem d_Md_rewrite_62 : decode c_Md_rewrite 62 = .ok (.aload_n 0, 1) := by decide +kernel
theorem d_Md_rewrite_63 : decode c_Md_rewrite 63 = .ok (.aload_n 0, 1) := by decide +kernel
theorem d_Md_rewrite_64 : decode c_Md_rewrite 64 = .ok (.getfield 97, 3) := by decide +kernel
theorem d_Md_rewrite_67 : decode c_Md_rewrite 67 = .ok (.ifCond .eq 7, 3) := by decide +kernel
theorem d_Md_rewrite_70 : decode c_Md_rewrite 70 = .ok (.iconst 3, 1) := by decide +kernel
theorem d_Md_rewrite_71 : decode c_Md_rewrite 71 = .ok (.goto 4, 3) := by decide +kernel
theorem d_Md_rewrite_74 : decode c_Md_rewrite 74 = .ok (.iconst 0, 1) := by decide +kernel
theorem d_Md_rewrite_75 : decode c_Md_rewrite 75 = .ok (.putfield 86, 3) := by decide +kernel
theorem d_Md_rewrite_78 : decode c_Md_rewrite 78 = .ok (.aload_n 0, 1) := by decide +kernel
theorem d_Md_rewrite_79 : decode c_Md_rewrite 79 = .ok (.getfield 97, 3) := by decide +kernel
theorem d_Md_rewrite_82 : decode c_Md_rewrite 82 = .ok (.ifCond .eq 5, 3) := by decide +kernel
theorem d_Md_rewrite_85 : decode c_Md_rewrite 85 = .ok (.iconst 0, 1) := by decide +kernel
theorem d_Md_rewrite_86 : decode c_Md_rewrite 86 = .ok (.ireturn, 1) := by decide +kernel
theorem d_Md_rewrite_87 : decode c_Md_rewrite 87 = .ok (.aload_n 0, 1) := by decide +kernel
theorem d_Md_rewrite_88 : decode c_Md_rewrite 88 = .ok (.invokevirtual 183, 3) := by decide +kernel
theorem d_Md_rewrite_91 : decode c_Md_rewrite 91 = .ok (.aload_n 0, 1) := by decide +kernel
theorem d_Md_rewrite_92 : decode c_Md_rewrite 92 = .ok (.aload_n 0, 1) := by decide +kernel
theorem d_Md_rewrite_93 : decode c_Md_rewrite 93 = .ok (.getfield 167, 3) := by decide +kernel
theorem d_Md_rewrite_96 : decode c_Md_rewrite 96 = .ok (.putfield 186, 3) := by decide +kernel
theorem d_Md_rewrite_99 : decode c_Md_rewrite 99 = .ok (.iload_n 3, 1) := by decide +kernel
theorem d_Md_rewrite_100 : decode c_Md_rewrite 100 = .ok (.ireturn, 1) := by decide +kernel
theorem d_Md_lookForRules_0 : decode c_Md_lookForRules 0 = .ok (.iconst 0, 1) := by decide +kernel
theorem d_Md_lookForRules_1 : decode c_Md_lookForRules 1 = .ok (.istore_n 2, 1) := by decide +kernel
theorem d_Md_lookForRules_2 : decode c_Md_lookForRules 2 = .ok (.iload_n 2, 1) := by decide +kernel
theorem d_Md_lookForRules_3 : decode c_Md_lookForRules 3 = .ok (.aload_n 0, 1) := by decide +kernel
theorem d_Md_lookForRules_4 : decode c_Md_lookForRules 4 = .ok (.getfield 129, 3) := by decide +kernel
theorem d_Md_lookForRules_7 : decode c_Md_lookForRules 7 = .ok (.if_icmp .ge 51, 3) := by decide +kernel
theorem d_Md_lookForRules_10 : decode c_Md_lookForRules 10 = .ok (.aload_n 0, 1) := by decide +kernel
theorem d_Md_lookForRules_11 : decode c_Md_lookForRules 11 = .ok (.getfield 83, 3) := by decide +kernel
theorem d_Md_lookForRules_14 : decode c_Md_lookForRules 14 = .ok (.iload_n 2, 1) := by decide +kernel
theorem d_Md_lookForRules_15 : decode c_Md_lookForRules 15 = .ok (.aload_n 0, 1) := by decide +kernel
theorem d_Md_lookForRules_16 : decode c_Md_lookForRules 16 = .ok (.iload_n 2, 1) := by decide +kernel
theorem d_Md_lookForRules_17 : decode c_Md_lookForRules 17 = .ok (.invokevirtual 135, 3) := by decide +kernel
theorem d_Md_lookForRules_20 : decode c_Md_lookForRules 20 = .ok (.ifCond .eq 30, 3) := by decide +kernel
theorem d_Md_lookForRules_23 : decode c_Md_lookForRules 23 = .ok (.iload_n 1, 1) := by decide +kernel
theorem d_Md_lookForRules_24 : decode c_Md_lookForRules 24 = .ok (.ifCond .eq 22, 3) := by decide +kernel
theorem d_Md_lookForRules_27 : decode c_Md_lookForRules 27 = .ok (.aload_n 0, 1) := by decide +kernel
theorem d_Md_lookForRules_28 : decode c_Md_lookForRules 28 = .ok (.aload_n 0, 1) := by decide +kernel
theorem d_Md_lookForRules_29 : decode c_Md_lookForRules 29 = .ok (.getfield 31, 3) := by decide +kernel
theorem d_Md_lookForRules_32 : decode c_Md_lookForRules 32 = .ok (.iload_n 2, 1) := by decide +kernel
theorem d_Md_lookForRules_33 : decode c_Md_lookForRules 33 = .ok (.iaload, 1) := by decide +kernel
theorem d_Md_lookForRules_34 : decode c_Md_lookForRules 34 = .ok (.aload_n 0, 1) := by decide +kernel
theorem d_Md_lookForRules_35 : decode c_Md_lookForRules 35 = .ok (.getfield 34, 3) := by decide +kernel
theorem d_Md_lookForRules_38 : decode c_Md_lookForRules 38 = .ok (.iload_n 2, 1) := by decide +kernel
theorem d_Md_lookForRules_39 : decode c_Md_lookForRules 39 = .ok (.iaload, 1) := by decide +kernel
theorem d_Md_lookForRules_40 : decode c_Md_lookForRules 40 = .ok (.invokevirtual 138, 3) := by decide +kernel
theorem d_Md_lookForRules_43 : decode c_Md_lookForRules 43 = .ok (.ifCond .eq 7, 3) := by decide +kernel
theorem d_Md_lookForRules_46 : decode c_Md_lookForRules 46 = .ok (.iconst 1, 1) := by decide +kernel
theorem d_Md_lookForRules_47 : decode c_Md_lookForRules 47 = .ok (.goto 4, 3) := by decide +kernel
theorem d_Md_lookForRules_50 : decode c_Md_lookForRules 50 = .ok (.iconst 0, 1) := by decide +kernel
theorem d_Md_lookForRules_51 : decode c_Md_lookForRules 51 = .ok (.bastore, 1) := by decide +kernel
theorem d_Md_lookForRules_52 : decode c_Md_lookForRules 52 = .ok (.iinc 2 1, 3) := by decide +kernel
theorem d_Md_lookForRules_55 : decode c_Md_lookForRules 55 = .ok (.goto (-53), 3) := by decide +kernel
theorem d_Md_lookForRules_58 : decode c_Md_lookForRules 58 = .ok (.return_, 1) := by decide +kernel
theorem d_Md_go_0 : decode c_Md_go 0 = .ok (.aload_n 0, 1) := by decide +kernel
theorem d_Md_go_1 : decode c_Md_go 1 = .ok (.getfield 90, 3) := by decide +kernel
theorem d_Md_go_4 : decode c_Md_go 4 = .ok (.istore_n 3, 1) := by decide +kernel
theorem d_Md_go_5 : decode c_Md_go 5 = .ok (.aload_n 0, 1) := by decide +kernel
theorem d_Md_go_6 : decode c_Md_go 6 = .ok (.iconst 0, 1) := by decide +kernel
theorem d_Md_go_7 : decode c_Md_go 7 = .ok (.putfield 97, 3) := by decide +kernel
theorem d_Md_go_10 : decode c_Md_go 10 = .ok (.aload_n 0, 1) := by decide +kernel
theorem d_Md_go_11 : decode c_Md_go 11 = .ok (.iconst 0, 1) := by decide +kernel
theorem d_Md_go_12 : decode c_Md_go 12 = .ok (.putfield 150, 3) := by decide +kernel
theorem d_Md_go_15 : decode c_Md_go 15 = .ok (.aload_n 0, 1) := by decide +kernel
theorem d_Md_go_16 : decode c_Md_go 16 = .ok (.iconst 0, 1) := by decide +kernel
theorem d_Md_go_17 : decode c_Md_go 17 = .ok (.putfield 147, 3) := by decide +kernel
theorem d_Md_go_20 : decode c_Md_go 20 = .ok (.iload_n 1, 1) := by decide +kernel
theorem d_Md_go_21 : decode c_Md_go 21 = .ok (.istore 4, 2) := by decide +kernel
theorem d_Md_go_23 : decode c_Md_go 23 = .ok (.aload_n 0, 1) := by decide +kernel
theorem d_Md_go_24 : decode c_Md_go 24 = .ok (.iload 4, 2) := by decide +kernel
theorem d_Md_go_26 : decode c_Md_go 26 = .ok (.invokevirtual 153, 3) := by decide +kernel
theorem d_Md_go_29 : decode c_Md_go 29 = .ok (.istore 5, 2) := by decide +kernel
theorem d_Md_go_31 : decode c_Md_go 31 = .ok (.iload 5, 2) := by decide +kernel
theorem d_Md_go_33 : decode c_Md_go 33 = .ok (.iconst (-1), 1) := by decide +kernel
theorem d_Md_go_34 : decode c_Md_go 34 = .ok (.if_icmp .eq 94, 3) := by decide +kernel
theorem d_Md_go_37 : decode c_Md_go 37 = .ok (.aload_n 0, 1) := by decide +kernel
theorem d_Md_go_38 : decode c_Md_go 38 = .ok (.getfield 147, 3) := by decide +kernel
theorem d_Md_go_41 : decode c_Md_go 41 = .ok (.iload_n 2, 1) := by decide +kernel
theorem d_Md_go_42 : decode c_Md_go 42 = .ok (.if_icmp .eq 86, 3) := by decide +kernel
theorem d_Md_go_45 : decode c_Md_go 45 = .ok (.aload_n 0, 1) := by decide +kernel
theorem d_Md_go_46 : decode c_Md_go 46 = .ok (.getfield 97, 3) := by decide +kernel
theorem d_Md_go_49 : decode c_Md_go 49 = .ok (.ifCond .ne 79, 3) := by decide +kernel
theorem d_Md_go_52 : decode c_Md_go 52 = .ok (.aload_n 0, 1) := by decide +kernel
theorem d_Md_go_53 : decode c_Md_go 53 = .ok (.iload 5, 2) := by decide +kernel
theorem d_Md_go_55 : decode c_Md_go 55 = .ok (.invokevirtual 144, 3) := by decide +kernel
theorem d_Md_go_58 : decode c_Md_go 58 = .ok (.istore 6, 2) := by decide +kernel
theorem d_Md_go_60 : decode c_Md_go 60 = .ok (.aload_n 0, 1) := by decide +kernel
theorem d_Md_go_61 : decode c_Md_go 61 = .ok (.aload_n 0, 1) := by decide +kernel
theorem d_Md_go_62 : decode c_Md_go 62 = .ok (.getfield 34, 3) := by decide +kernel
theorem d_Md_go_65 : decode c_Md_go 65 = .ok (.iload 6, 2) := by decide +kernel
theorem d_Md_go_67 : decode c_Md_go 67 = .ok (.iaload, 1) := by decide +kernel
theorem d_Md_go_68 : decode c_Md_go 68 = .ok (.invokevirtual 156, 3) := by decide +kernel
theorem d_Md_go_71 : decode c_Md_go 71 = .ok (.istore 7, 2) := by decide +kernel
theorem d_Md_go_73 : decode c_Md_go 73 = .ok (.aload_n 0, 1) := by decide +kernel
theorem d_Md_go_74 : decode c_Md_go 74 = .ok (.getfield 97, 3) := by decide +kernel
theorem d_Md_go_77 : decode c_Md_go 77 = .ok (.ifCond .eq 7, 3) := by decide +kernel
theorem d_Md_go_80 : decode c_Md_go 80 = .ok (.iconst (-1), 1) := by decide +kernel
theorem d_Md_go_81 : decode c_Md_go 81 = .ok (.goto 11, 3) := by decide +kernel
theorem d_Md_go_84 : decode c_Md_go 84 = .ok (.aload_n 0, 1) := by decide +kernel
theorem d_Md_go_85 : decode c_Md_go 85 = .ok (.iload 5, 2) := by decide +kernel
theorem d_Md_go_87 : decode c_Md_go 87 = .ok (.iload 7, 2) := by decide +kernel
theorem d_Md_go_89 : decode c_Md_go 89 = .ok (.invokevirtual 159, 3) := by decide +kernel
theorem d_Md_go_92 : decode c_Md_go 92 = .ok (.istore 8, 2) := by decide +kernel
theorem d_Md_go_94 : decode c_Md_go 94 = .ok (.aload_n 0, 1) := by decide +kernel
theorem d_Md_go_95 : decode c_Md_go 95 = .ok (.getfield 97, 3) := by decide +kernel
theorem d_Md_go_98 : decode c_Md_go 98 = .ok (.ifCond .ne 27, 3) := by decide +kernel
theorem d_Md_go_101 : decode c_Md_go 101 = .ok (.aload_n 0, 1) := by decide +kernel
theorem d_Md_go_102 : decode c_Md_go 102 = .ok (.iload 6, 2) := by decide +kernel
theorem d_Md_go_104 : decode c_Md_go 104 = .ok (.iload 5, 2) := by decide +kernel
theorem d_Md_go_106 : decode c_Md_go 106 = .ok (.iload 4, 2) := by decide +kernel
theorem d_Md_go_108 : decode c_Md_go 108 = .ok (.iload 8, 2) := by decide +kernel
theorem d_Md_go_110 : decode c_Md_go 110 = .ok (.invokevirtual 163, 3) := by decide +kernel
theorem d_Md_go_113 : decode c_Md_go 113 = .ok (.iload 8, 2) := by decide +kernel
theorem d_Md_go_115 : decode c_Md_go 115 = .ok (.istore 4, 2) := by decide +kernel
theorem d_Md_go_117 : decode c_Md_go 117 = .ok (.aload_n 0, 1) := by decide +kernel
theorem d_Md_go_118 : decode c_Md_go 118 = .ok (.iload 4, 2) := by decide +kernel
theorem d_Md_go_120 : decode c_Md_go 120 = .ok (.invokevirtual 153, 3) := by decide +kernel
theorem d_Md_go_123 : decode c_Md_go 123 = .ok (.istore 5, 2) := by decide +kernel
theorem d_Md_go_125 : decode c_Md_go 125 = .ok (.goto (-94), 3) := by decide +kernel
theorem d_Md_go_128 : decode c_Md_go 128 = .ok (.aload_n 0, 1) := by decide +kernel
theorem d_Md_go_129 : decode c_Md_go 129 = .ok (.getfield 97, 3) := by decide +kernel
theorem d_Md_go_132 : decode c_Md_go 132 = .ok (.ifCond .eq 11, 3) := by decide +kernel
theorem d_Md_go_135 : decode c_Md_go 135 = .ok (.aload_n 0, 1) := by decide +kernel
theorem d_Md_go_136 : decode c_Md_go 136 = .ok (.iload_n 3, 1) := by decide +kernel
theorem d_Md_go_137 : decode c_Md_go 137 = .ok (.putfield 90, 3) := by decide +kernel
theorem d_Md_go_140 : decode c_Md_go 140 = .ok (.goto 18, 3) := by decide +kernel
theorem d_Md_go_143 : decode c_Md_go 143 = .ok (.aload_n 0, 1) := by decide +kernel
theorem d_Md_go_144 : decode c_Md_go 144 = .ok (.iload 5, 2) := by decide +kernel
theorem d_Md_go_146 : decode c_Md_go 146 = .ok (.iconst (-1), 1) := by decide +kernel
theorem d_Md_go_147 : decode c_Md_go 147 = .ok (.if_icmp .eq 7, 3) := by decide +kernel
theorem d_Md_go_150 : decode c_Md_go 150 = .ok (.iconst 1, 1) := by decide +kernel
theorem d_Md_go_151 : decode c_Md_go 151 = .ok (.goto 4, 3) := by decide +kernel
theorem d_Md_go_154 : decode c_Md_go 154 = .ok (.iconst 0, 1) := by decide +kernel
theorem d_Md_go_155 : decode c_Md_go 155 = .ok (.putfield 167, 3) := by decide +kernel
theorem d_Md_go_158 : decode c_Md_go 158 = .ok (.iload 4, 2) := by decide +kernel
theorem d_Md_go_160 : decode c_Md_go 160 = .ok (.ireturn, 1) := by decide +kernel
theorem d_Md_placeOf_0 : decode c_Md_placeOf 0 = .ok (.aload_n 0, 1) := by decide +kernel
theorem d_Md_placeOf_1 : decode c_Md_placeOf 1 = .ok (.iload_n 1, 1) := by decide +kernel
theorem d_Md_placeOf_2 : decode c_Md_placeOf 2 = .ok (.aload_n 0, 1) := by decide +kernel
theorem d_Md_placeOf_3 : decode c_Md_placeOf 3 = .ok (.getfield 53, 3) := by decide +kernel
theorem d_Md_placeOf_6 : decode c_Md_placeOf 6 = .ok (.iconst 1, 1) := by decide +kernel
theorem d_Md_placeOf_7 : decode c_Md_placeOf 7 = .ok (.invokevirtual 117, 3) := by decide +kernel
theorem d_Md_placeOf_10 : decode c_Md_placeOf 10 = .ok (.istore_n 2, 1) := by decide +kernel
theorem d_Md_placeOf_11 : decode c_Md_placeOf 11 = .ok (.aload_n 0, 1) := by decide +kernel
theorem d_Md_placeOf_12 : decode c_Md_placeOf 12 = .ok (.getfield 80, 3) := by decide +kernel
theorem d_Md_placeOf_15 : decode c_Md_placeOf 15 = .ok (.iconst 0, 1) := by decide +kernel
theorem d_Md_placeOf_16 : decode c_Md_placeOf 16 = .ok (.iconst 0, 1) := by decide +kernel
theorem d_Md_placeOf_17 : decode c_Md_placeOf 17 = .ok (.iastore, 1) := by decide +kernel
theorem d_Md_placeOf_18 : decode c_Md_placeOf 18 = .ok (.iconst 0, 1) := by decide +kernel
theorem d_Md_placeOf_19 : decode c_Md_placeOf 19 = .ok (.istore_n 3, 1) := by decide +kernel
theorem d_Md_placeOf_20 : decode c_Md_placeOf 20 = .ok (.iload_n 3, 1) := by decide +kernel
theorem d_Md_placeOf_21 : decode c_Md_placeOf 21 = .ok (.iload_n 2, 1) := by decide +kernel
theorem d_Md_placeOf_22 : decode c_Md_placeOf 22 = .ok (.if_icmp .ge 58, 3) := by decide +kernel
theorem d_Md_placeOf_25 : decode c_Md_placeOf 25 = .ok (.aload_n 0, 1) := by decide +kernel
theorem d_Md_placeOf_26 : decode c_Md_placeOf 26 = .ok (.getfield 77, 3) := by decide +kernel
theorem d_Md_placeOf_29 : decode c_Md_placeOf 29 = .ok (.iload_n 3, 1) := by decide +kernel
theorem d_Md_placeOf_30 : decode c_Md_placeOf 30 = .ok (.aload_n 0, 1) := by decide +kernel
theorem d_Md_placeOf_31 : decode c_Md_placeOf 31 = .ok (.iload_n 3, 1) := by decide +kernel
theorem d_Md_placeOf_32 : decode c_Md_placeOf 32 = .ok (.invokevirtual 144, 3) := by decide +kernel
theorem d_Md_placeOf_35 : decode c_Md_placeOf 35 = .ok (.iconst (-1), 1) := by decide +kernel
theorem d_Md_placeOf_36 : decode c_Md_placeOf 36 = .ok (.if_icmp .eq 7, 3) := by decide +kernel
theorem d_Md_placeOf_39 : decode c_Md_placeOf 39 = .ok (.iconst 1, 1) := by decide +kernel
theorem d_Md_placeOf_40 : decode c_Md_placeOf 40 = .ok (.goto 4, 3) := by decide +kernel
theorem d_Md_placeOf_43 : decode c_Md_placeOf 43 = .ok (.iconst 0, 1) := by decide +kernel
theorem d_Md_placeOf_44 : decode c_Md_placeOf 44 = .ok (.bastore, 1) := by decide +kernel
theorem d_Md_placeOf_45 : decode c_Md_placeOf 45 = .ok (.aload_n 0, 1) := by decide +kernel
theorem d_Md_placeOf_46 : decode c_Md_placeOf 46 = .ok (.getfield 80, 3) := by decide +kernel
theorem d_Md_placeOf_49 : decode c_Md_placeOf 49 = .ok (.iload_n 3, 1) := by decide +kernel
theorem d_Md_placeOf_50 : decode c_Md_placeOf 50 = .ok (.iconst 1, 1) := by decide +kernel
theorem d_Md_placeOf_51 : decode c_Md_placeOf 51 = .ok (.iadd, 1) := by decide +kernel
theorem d_Md_placeOf_52 : decode c_Md_placeOf 52 = .ok (.aload_n 0, 1) := by decide +kernel
theorem d_Md_placeOf_53 : decode c_Md_placeOf 53 = .ok (.getfield 80, 3) := by decide +kernel
theorem d_Md_placeOf_56 : decode c_Md_placeOf 56 = .ok (.iload_n 3, 1) := by decide +kernel
theorem d_Md_placeOf_57 : decode c_Md_placeOf 57 = .ok (.iaload, 1) := by decide +kernel
theorem d_Md_placeOf_58 : decode c_Md_placeOf 58 = .ok (.aload_n 0, 1) := by decide +kernel
theorem d_Md_placeOf_59 : decode c_Md_placeOf 59 = .ok (.getfield 77, 3) := by decide +kernel
theorem d_Md_placeOf_62 : decode c_Md_placeOf 62 = .ok (.iload_n 3, 1) := by decide +kernel
theorem d_Md_placeOf_63 : decode c_Md_placeOf 63 = .ok (.baload, 1) := by decide +kernel
theorem d_Md_placeOf_64 : decode c_Md_placeOf 64 = .ok (.ifCond .eq 7, 3) := by decide +kernel
theorem d_Md_placeOf_67 : decode c_Md_placeOf 67 = .ok (.iconst 1, 1) := by decide +kernel
theorem d_Md_placeOf_68 : decode c_Md_placeOf 68 = .ok (.goto 4, 3) := by decide +kernel
theorem d_Md_placeOf_71 : decode c_Md_placeOf 71 = .ok (.iconst 0, 1) := by decide +kernel
theorem d_Md_placeOf_72 : decode c_Md_placeOf 72 = .ok (.iadd, 1) := by decide +kernel
theorem d_Md_placeOf_73 : decode c_Md_placeOf 73 = .ok (.iastore, 1) := by decide +kernel
theorem d_Md_placeOf_74 : decode c_Md_placeOf 74 = .ok (.iinc 3 1, 3) := by decide +kernel
theorem d_Md_placeOf_77 : decode c_Md_placeOf 77 = .ok (.goto (-57), 3) := by decide +kernel
theorem d_Md_placeOf_80 : decode c_Md_placeOf 80 = .ok (.iconst 0, 1) := by decide +kernel
theorem d_Md_placeOf_81 : decode c_Md_placeOf 81 = .ok (.istore_n 3, 1) := by decide +kernel
theorem d_Md_placeOf_82 : decode c_Md_placeOf 82 = .ok (.iload_n 3, 1) := by decide +kernel
theorem d_Md_placeOf_83 : decode c_Md_placeOf 83 = .ok (.iload_n 2, 1) := by decide +kernel
theorem d_Md_placeOf_84 : decode c_Md_placeOf 84 = .ok (.if_icmp .ge 49, 3) := by decide +kernel
theorem d_Md_placeOf_87 : decode c_Md_placeOf 87 = .ok (.aload_n 0, 1) := by decide +kernel
theorem d_Md_placeOf_88 : decode c_Md_placeOf 88 = .ok (.getfield 77, 3) := by decide +kernel
theorem d_Md_placeOf_91 : decode c_Md_placeOf 91 = .ok (.iload_n 3, 1) := by decide +kernel
theorem d_Md_placeOf_92 : decode c_Md_placeOf 92 = .ok (.baload, 1) := by decide +kernel
theorem d_Md_placeOf_93 : decode c_Md_placeOf 93 = .ok (.ifCond .eq 34, 3) := by decide +kernel
theorem d_Md_placeOf_96 : decode c_Md_placeOf 96 = .ok (.aload_n 0, 1) := by decide +kernel
theorem d_Md_placeOf_97 : decode c_Md_placeOf 97 = .ok (.getfield 80, 3) := by decide +kernel
theorem d_Md_placeOf_100 : decode c_Md_placeOf 100 = .ok (.iload_n 3, 1) := by decide +kernel
theorem d_Md_placeOf_101 : decode c_Md_placeOf 101 = .ok (.aload_n 0, 1) := by decide +kernel
theorem d_Md_placeOf_102 : decode c_Md_placeOf 102 = .ok (.getfield 22, 3) := by decide +kernel
theorem d_Md_placeOf_105 : decode c_Md_placeOf 105 = .ok (.aload_n 0, 1) := by decide +kernel
theorem d_Md_placeOf_106 : decode c_Md_placeOf 106 = .ok (.getfield 53, 3) := by decide +kernel
theorem d_Md_placeOf_109 : decode c_Md_placeOf 109 = .ok (.iload_n 3, 1) := by decide +kernel
theorem d_Md_placeOf_110 : decode c_Md_placeOf 110 = .ok (.iaload, 1) := by decide +kernel
theorem d_Md_placeOf_111 : decode c_Md_placeOf 111 = .ok (.iaload, 1) := by decide +kernel
theorem d_Md_placeOf_112 : decode c_Md_placeOf 112 = .ok (.iadd, 1) := by decide +kernel
theorem d_Md_placeOf_113 : decode c_Md_placeOf 113 = .ok (.iaload, 1) := by decide +kernel
theorem d_Md_placeOf_114 : decode c_Md_placeOf 114 = .ok (.aload_n 0, 1) := by decide +kernel
theorem d_Md_placeOf_115 : decode c_Md_placeOf 115 = .ok (.getfield 80, 3) := by decide +kernel
theorem d_Md_placeOf_118 : decode c_Md_placeOf 118 = .ok (.iload_n 3, 1) := by decide +kernel
theorem d_Md_placeOf_119 : decode c_Md_placeOf 119 = .ok (.iconst 1, 1) := by decide +kernel
theorem d_Md_placeOf_120 : decode c_Md_placeOf 120 = .ok (.iadd, 1) := by decide +kernel
theorem d_Md_placeOf_121 : decode c_Md_placeOf 121 = .ok (.iaload, 1) := by decide +kernel
theorem d_Md_placeOf_122 : decode c_Md_placeOf 122 = .ok (.if_icmp .ne 5, 3) := by decide +kernel
theorem d_Md_placeOf_125 : decode c_Md_placeOf 125 = .ok (.iload_n 3, 1) := by decide +kernel
theorem d_Md_placeOf_126 : decode c_Md_placeOf 126 = .ok (.ireturn, 1) := by decide +kernel
theorem d_Md_placeOf_127 : decode c_Md_placeOf 127 = .ok (.iinc 3 1, 3) := by decide +kernel
theorem d_Md_placeOf_130 : decode c_Md_placeOf 130 = .ok (.goto (-48), 3) := by decide +kernel
theorem d_Md_placeOf_133 : decode c_Md_placeOf 133 = .ok (.iconst (-1), 1) := by decide +kernel
theorem d_Md_placeOf_134 : decode c_Md_placeOf 134 = .ok (.ireturn, 1) := by decide +kernel
theorem d_Md_ruleAt_0 : decode c_Md_ruleAt 0 = .ok (.iconst 0, 1) := by decide +kernel
theorem d_Md_ruleAt_1 : decode c_Md_ruleAt 1 = .ok (.istore_n 2, 1) := by decide +kernel
theorem d_Md_ruleAt_2 : decode c_Md_ruleAt 2 = .ok (.iload_n 2, 1) := by decide +kernel
theorem d_Md_ruleAt_3 : decode c_Md_ruleAt 3 = .ok (.aload_n 0, 1) := by decide +kernel
theorem d_Md_ruleAt_4 : decode c_Md_ruleAt 4 = .ok (.getfield 129, 3) := by decide +kernel
theorem d_Md_ruleAt_7 : decode c_Md_ruleAt 7 = .ok (.if_icmp .ge 34, 3) := by decide +kernel
theorem d_Md_ruleAt_10 : decode c_Md_ruleAt 10 = .ok (.aload_n 0, 1) := by decide +kernel
theorem d_Md_ruleAt_11 : decode c_Md_ruleAt 11 = .ok (.getfield 83, 3) := by decide +kernel
theorem d_Md_ruleAt_14 : decode c_Md_ruleAt 14 = .ok (.iload_n 2, 1) := by decide +kernel
theorem d_Md_ruleAt_15 : decode c_Md_ruleAt 15 = .ok (.baload, 1) := by decide +kernel
theorem d_Md_ruleAt_16 : decode c_Md_ruleAt 16 = .ok (.ifCond .eq 19, 3) := by decide +kernel
theorem d_Md_ruleAt_19 : decode c_Md_ruleAt 19 = .ok (.aload_n 0, 1) := by decide +kernel
theorem d_Md_ruleAt_20 : decode c_Md_ruleAt 20 = .ok (.aload_n 0, 1) := by decide +kernel
theorem d_Md_ruleAt_21 : decode c_Md_ruleAt 21 = .ok (.getfield 31, 3) := by decide +kernel
theorem d_Md_ruleAt_24 : decode c_Md_ruleAt 24 = .ok (.iload_n 2, 1) := by decide +kernel
theorem d_Md_ruleAt_25 : decode c_Md_ruleAt 25 = .ok (.iaload, 1) := by decide +kernel
theorem d_Md_ruleAt_26 : decode c_Md_ruleAt 26 = .ok (.iload_n 1, 1) := by decide +kernel
theorem d_Md_ruleAt_27 : decode c_Md_ruleAt 27 = .ok (.invokevirtual 141, 3) := by decide +kernel
theorem d_Md_ruleAt_30 : decode c_Md_ruleAt 30 = .ok (.ifCond .eq 5, 3) := by decide +kernel
theorem d_Md_ruleAt_33 : decode c_Md_ruleAt 33 = .ok (.iload_n 2, 1) := by decide +kernel
theorem d_Md_ruleAt_34 : decode c_Md_ruleAt 34 = .ok (.ireturn, 1) := by decide +kernel
theorem d_Md_ruleAt_35 : decode c_Md_ruleAt 35 = .ok (.iinc 2 1, 3) := by decide +kernel
theorem d_Md_ruleAt_38 : decode c_Md_ruleAt 38 = .ok (.goto (-36), 3) := by decide +kernel
theorem d_Md_ruleAt_41 : decode c_Md_ruleAt 41 = .ok (.iconst (-1), 1) := by decide +kernel
theorem d_Md_ruleAt_42 : decode c_Md_ruleAt 42 = .ok (.ireturn, 1) := by decide +kernel
theorem d_Md_matches_0 : decode c_Md_matches 0 = .ok (.iconst 0, 1) := by decide +kernel
theorem d_Md_matches_1 : decode c_Md_matches 1 = .ok (.istore_n 3, 1) := by decide +kernel
theorem d_Md_matches_2 : decode c_Md_matches 2 = .ok (.iload_n 3, 1) := by decide +kernel
theorem d_Md_matches_3 : decode c_Md_matches 3 = .ok (.bipush 6, 2) := by decide +kernel
theorem d_Md_matches_5 : decode c_Md_matches 5 = .ok (.if_icmp .ge 16, 3) := by decide +kernel
theorem d_Md_matches_8 : decode c_Md_matches 8 = .ok (.aload_n 0, 1) := by decide +kernel
theorem d_Md_matches_9 : decode c_Md_matches 9 = .ok (.getfield 65, 3) := by decide +kernel
theorem d_Md_matches_12 : decode c_Md_matches 12 = .ok (.iload_n 3, 1) := by decide +kernel
theorem d_Md_matches_13 : decode c_Md_matches 13 = .ok (.iconst (-1), 1) := by decide +kernel
theorem d_Md_matches_14 : decode c_Md_matches 14 = .ok (.iastore, 1) := by decide +kernel
theorem d_Md_matches_15 : decode c_Md_matches 15 = .ok (.iinc 3 1, 3) := by decide +kernel
theorem d_Md_matches_18 : decode c_Md_matches 18 = .ok (.goto (-16), 3) := by decide +kernel
theorem d_Md_matches_21 : decode c_Md_matches 21 = .ok (.aload_n 0, 1) := by decide +kernel
theorem d_Md_matches_22 : decode c_Md_matches 22 = .ok (.iload_n 1, 1) := by decide +kernel
theorem d_Md_matches_23 : decode c_Md_matches 23 = .ok (.aload_n 0, 1) := by decide +kernel
theorem d_Md_matches_24 : decode c_Md_matches 24 = .ok (.getfield 59, 3) := by decide +kernel
theorem d_Md_matches_27 : decode c_Md_matches 27 = .ok (.iconst 0, 1) := by decide +kernel
theorem d_Md_matches_28 : decode c_Md_matches 28 = .ok (.invokevirtual 117, 3) := by decide +kernel
theorem d_Md_matches_31 : decode c_Md_matches 31 = .ok (.istore_n 3, 1) := by decide +kernel
theorem d_Md_matches_32 : decode c_Md_matches 32 = .ok (.iload_n 2, 1) := by decide +kernel
theorem d_Md_matches_33 : decode c_Md_matches 33 = .ok (.istore 4, 2) := by decide +kernel
theorem d_Md_matches_35 : decode c_Md_matches 35 = .ok (.iconst 0, 1) := by decide +kernel
theorem d_Md_matches_36 : decode c_Md_matches 36 = .ok (.istore 5, 2) := by decide +kernel
theorem d_Md_matches_38 : decode c_Md_matches 38 = .ok (.iload 5, 2) := by decide +kernel
theorem d_Md_matches_40 : decode c_Md_matches 40 = .ok (.iload_n 3, 1) := by decide +kernel
theorem d_Md_matches_41 : decode c_Md_matches 41 = .ok (.if_icmp .ge 124, 3) := by decide +kernel
theorem d_Md_matches_44 : decode c_Md_matches 44 = .ok (.aload_n 0, 1) := by decide +kernel
theorem d_Md_matches_45 : decode c_Md_matches 45 = .ok (.getfield 59, 3) := by decide +kernel
theorem d_Md_matches_48 : decode c_Md_matches 48 = .ok (.iload 5, 2) := by decide +kernel
theorem d_Md_matches_50 : decode c_Md_matches 50 = .ok (.iaload, 1) := by decide +kernel
theorem d_Md_matches_51 : decode c_Md_matches 51 = .ok (.istore 6, 2) := by decide +kernel
theorem d_Md_matches_53 : decode c_Md_matches 53 = .ok (.aload_n 0, 1) := by decide +kernel
theorem d_Md_matches_54 : decode c_Md_matches 54 = .ok (.getfield 53, 3) := by decide +kernel
theorem d_Md_matches_57 : decode c_Md_matches 57 = .ok (.iload 4, 2) := by decide +kernel
theorem d_Md_matches_59 : decode c_Md_matches 59 = .ok (.iaload, 1) := by decide +kernel
theorem d_Md_matches_60 : decode c_Md_matches 60 = .ok (.istore 7, 2) := by decide +kernel
theorem d_Md_matches_62 : decode c_Md_matches 62 = .ok (.aload_n 0, 1) := by decide +kernel
theorem d_Md_matches_63 : decode c_Md_matches 63 = .ok (.getfield 7, 3) := by decide +kernel
theorem d_Md_matches_66 : decode c_Md_matches 66 = .ok (.iload 6, 2) := by decide +kernel
theorem d_Md_matches_68 : decode c_Md_matches 68 = .ok (.iaload, 1) := by decide +kernel
theorem d_Md_matches_69 : decode c_Md_matches 69 = .ok (.sipush 200, 3) := by decide +kernel
theorem d_Md_matches_72 : decode c_Md_matches 72 = .ok (.if_icmp .lt 65, 3) := by decide +kernel
theorem d_Md_matches_75 : decode c_Md_matches 75 = .ok (.aload_n 0, 1) := by decide +kernel
theorem d_Md_matches_76 : decode c_Md_matches 76 = .ok (.getfield 7, 3) := by decide +kernel
theorem d_Md_matches_79 : decode c_Md_matches 79 = .ok (.iload 6, 2) := by decide +kernel
theorem d_Md_matches_81 : decode c_Md_matches 81 = .ok (.iaload, 1) := by decide +kernel
theorem d_Md_matches_82 : decode c_Md_matches 82 = .ok (.sipush 200, 3) := by decide +kernel
theorem d_Md_matches_85 : decode c_Md_matches 85 = .ok (.isub, 1) := by decide +kernel
theorem d_Md_matches_86 : decode c_Md_matches 86 = .ok (.istore 8, 2) := by decide +kernel
theorem d_Md_matches_88 : decode c_Md_matches 88 = .ok (.aload_n 0, 1) := by decide +kernel
theorem d_Md_matches_89 : decode c_Md_matches 89 = .ok (.getfield 65, 3) := by decide +kernel
theorem d_Md_matches_92 : decode c_Md_matches 92 = .ok (.iload 8, 2) := by decide +kernel
theorem d_Md_matches_94 : decode c_Md_matches 94 = .ok (.iaload, 1) := by decide +kernel
theorem d_Md_matches_95 : decode c_Md_matches 95 = .ok (.iconst (-1), 1) := by decide +kernel
theorem d_Md_matches_96 : decode c_Md_matches 96 = .ok (.if_icmp .eq 17, 3) := by decide +kernel
theorem d_Md_matches_99 : decode c_Md_matches 99 = .ok (.aload_n 0, 1) := by decide +kernel
theorem d_Md_matches_100 : decode c_Md_matches 100 = .ok (.getfield 65, 3) := by decide +kernel
theorem d_Md_matches_103 : decode c_Md_matches 103 = .ok (.iload 8, 2) := by decide +kernel
theorem d_Md_matches_105 : decode c_Md_matches 105 = .ok (.iaload, 1) := by decide +kernel
theorem d_Md_matches_106 : decode c_Md_matches 106 = .ok (.iload 7, 2) := by decide +kernel
theorem d_Md_matches_108 : decode c_Md_matches 108 = .ok (.if_icmp .eq 5, 3) := by decide +kernel
theorem d_Md_matches_111 : decode c_Md_matches 111 = .ok (.iconst 0, 1) := by decide +kernel
theorem d_Md_matches_112 : decode c_Md_matches 112 = .ok (.ireturn, 1) := by decide +kernel
theorem d_Md_matches_113 : decode c_Md_matches 113 = .ok (.aload_n 0, 1) := by decide +kernel
theorem d_Md_matches_114 : decode c_Md_matches 114 = .ok (.getfield 65, 3) := by decide +kernel
theorem d_Md_matches_117 : decode c_Md_matches 117 = .ok (.iload 8, 2) := by decide +kernel
theorem d_Md_matches_119 : decode c_Md_matches 119 = .ok (.iload 7, 2) := by decide +kernel
theorem d_Md_matches_121 : decode c_Md_matches 121 = .ok (.iastore, 1) := by decide +kernel
theorem d_Md_matches_122 : decode c_Md_matches 122 = .ok (.iload 4, 2) := by decide +kernel
theorem d_Md_matches_124 : decode c_Md_matches 124 = .ok (.aload_n 0, 1) := by decide +kernel
theorem d_Md_matches_125 : decode c_Md_matches 125 = .ok (.getfield 22, 3) := by decide +kernel
theorem d_Md_matches_128 : decode c_Md_matches 128 = .ok (.iload 7, 2) := by decide +kernel
theorem d_Md_matches_130 : decode c_Md_matches 130 = .ok (.iaload, 1) := by decide +kernel
theorem d_Md_matches_131 : decode c_Md_matches 131 = .ok (.iadd, 1) := by decide +kernel
theorem d_Md_matches_132 : decode c_Md_matches 132 = .ok (.istore 4, 2) := by decide +kernel
theorem d_Md_matches_134 : decode c_Md_matches 134 = .ok (.goto 25, 3) := by decide +kernel
theorem d_Md_matches_137 : decode c_Md_matches 137 = .ok (.aload_n 0, 1) := by decide +kernel
theorem d_Md_matches_138 : decode c_Md_matches 138 = .ok (.getfield 7, 3) := by decide +kernel
theorem d_Md_matches_141 : decode c_Md_matches 141 = .ok (.iload 6, 2) := by decide +kernel
theorem d_Md_matches_143 : decode c_Md_matches 143 = .ok (.iaload, 1) := by decide +kernel
theorem d_Md_matches_144 : decode c_Md_matches 144 = .ok (.aload_n 0, 1) := by decide +kernel
theorem d_Md_matches_145 : decode c_Md_matches 145 = .ok (.getfield 7, 3) := by decide +kernel
theorem d_Md_matches_148 : decode c_Md_matches 148 = .ok (.iload 7, 2) := by decide +kernel
theorem d_Md_matches_150 : decode c_Md_matches 150 = .ok (.iaload, 1) := by decide +kernel
theorem d_Md_matches_151 : decode c_Md_matches 151 = .ok (.if_icmp .eq 5, 3) := by decide +kernel
theorem d_Md_matches_154 : decode c_Md_matches 154 = .ok (.iconst 0, 1) := by decide +kernel
theorem d_Md_matches_155 : decode c_Md_matches 155 = .ok (.ireturn, 1) := by decide +kernel
theorem d_Md_matches_156 : decode c_Md_matches 156 = .ok (.iinc 4 1, 3) := by decide +kernel
theorem d_Md_matches_159 : decode c_Md_matches 159 = .ok (.iinc 5 1, 3) := by decide +kernel
theorem d_Md_matches_162 : decode c_Md_matches 162 = .ok (.goto (-124), 3) := by decide +kernel
theorem d_Md_matches_165 : decode c_Md_matches 165 = .ok (.iconst 1, 1) := by decide +kernel
theorem d_Md_matches_166 : decode c_Md_matches 166 = .ok (.ireturn, 1) := by decide +kernel
theorem d_Md_build_0 : decode c_Md_build 0 = .ok (.iconst 1, 1) := by decide +kernel
theorem d_Md_build_1 : decode c_Md_build 1 = .ok (.istore_n 2, 1) := by decide +kernel
theorem d_Md_build_2 : decode c_Md_build 2 = .ok (.iconst 0, 1) := by decide +kernel
theorem d_Md_build_3 : decode c_Md_build 3 = .ok (.istore_n 3, 1) := by decide +kernel
theorem d_Md_build_4 : decode c_Md_build 4 = .ok (.aload_n 0, 1) := by decide +kernel
theorem d_Md_build_5 : decode c_Md_build 5 = .ok (.getfield 62, 3) := by decide +kernel
theorem d_Md_build_8 : decode c_Md_build 8 = .ok (.iconst 0, 1) := by decide +kernel
theorem d_Md_build_9 : decode c_Md_build 9 = .ok (.iload_n 1, 1) := by decide +kernel
theorem d_Md_build_10 : decode c_Md_build 10 = .ok (.iastore, 1) := by decide +kernel
theorem d_Md_build_11 : decode c_Md_build 11 = .ok (.iload_n 2, 1) := by decide +kernel
theorem d_Md_build_12 : decode c_Md_build 12 = .ok (.ifCond .le 210, 3) := by decide +kernel
theorem d_Md_build_15 : decode c_Md_build 15 = .ok (.aload_n 0, 1) := by decide +kernel
theorem d_Md_build_16 : decode c_Md_build 16 = .ok (.getfield 97, 3) := by decide +kernel
theorem d_Md_build_19 : decode c_Md_build 19 = .ok (.ifCond .ne 203, 3) := by decide +kernel
theorem d_Md_build_22 : decode c_Md_build 22 = .ok (.iinc 2 (-1), 3) := by decide +kernel
theorem d_Md_build_25 : decode c_Md_build 25 = .ok (.aload_n 0, 1) := by decide +kernel
theorem d_Md_build_26 : decode c_Md_build 26 = .ok (.getfield 62, 3) := by decide +kernel
theorem d_Md_build_29 : decode c_Md_build 29 = .ok (.iload_n 2, 1) := by decide +kernel
theorem d_Md_build_30 : decode c_Md_build 30 = .ok (.iaload, 1) := by decide +kernel
theorem d_Md_build_31 : decode c_Md_build 31 = .ok (.istore 4, 2) := by decide +kernel
theorem d_Md_build_33 : decode c_Md_build 33 = .ok (.iload 4, 2) := by decide +kernel
theorem d_Md_build_35 : decode c_Md_build 35 = .ok (.ifCond .ge 66, 3) := by decide +kernel
theorem d_Md_build_38 : decode c_Md_build 38 = .ok (.aload_n 0, 1) := by decide +kernel
theorem d_Md_build_39 : decode c_Md_build 39 = .ok (.getfield 7, 3) := by decide +kernel
theorem d_Md_build_42 : decode c_Md_build 42 = .ok (.iconst (-1), 1) := by decide +kernel
theorem d_Md_build_43 : decode c_Md_build 43 = .ok (.iload 4, 2) := by decide +kernel
theorem d_Md_build_45 : decode c_Md_build 45 = .ok (.isub, 1) := by decide +kernel
theorem d_Md_build_46 : decode c_Md_build 46 = .ok (.iaload, 1) := by decide +kernel
theorem d_Md_build_47 : decode c_Md_build 47 = .ok (.istore 5, 2) := by decide +kernel
theorem d_Md_build_49 : decode c_Md_build 49 = .ok (.iconst (-1), 1) := by decide +kernel
theorem d_Md_build_50 : decode c_Md_build 50 = .ok (.istore 6, 2) := by decide +kernel
theorem d_Md_build_52 : decode c_Md_build 52 = .ok (.iload 5, 2) := by decide +kernel
theorem d_Md_build_54 : decode c_Md_build 54 = .ok (.invokestatic 93, 3) := by decide +kernel
theorem d_Md_build_57 : decode c_Md_build 57 = .ok (.iconst 2, 1) := by decide +kernel
theorem d_Md_build_58 : decode c_Md_build 58 = .ok (.if_icmp .ne 14, 3) := by decide +kernel
theorem d_Md_build_61 : decode c_Md_build 61 = .ok (.iinc 3 (-1), 3) := by decide +kernel
theorem d_Md_build_64 : decode c_Md_build 64 = .ok (.aload_n 0, 1) := by decide +kernel
theorem d_Md_build_65 : decode c_Md_build 65 = .ok (.getfield 68, 3) := by decide +kernel
theorem d_Md_build_68 : decode c_Md_build 68 = .ok (.iload_n 3, 1) := by decide +kernel
theorem d_Md_build_69 : decode c_Md_build 69 = .ok (.iaload, 1) := by decide +kernel
theorem d_Md_build_70 : decode c_Md_build 70 = .ok (.istore 6, 2) := by decide +kernel
theorem d_Md_build_72 : decode c_Md_build 72 = .ok (.iinc 3 (-1), 3) := by decide +kernel
theorem d_Md_build_75 : decode c_Md_build 75 = .ok (.aload_n 0, 1) := by decide +kernel
theorem d_Md_build_76 : decode c_Md_build 76 = .ok (.getfield 68, 3) := by decide +kernel
theorem d_Md_build_79 : decode c_Md_build 79 = .ok (.iload_n 3, 1) := by decide +kernel
theorem d_Md_build_80 : decode c_Md_build 80 = .ok (.aload_n 0, 1) := by decide +kernel
theorem d_Md_build_81 : decode c_Md_build 81 = .ok (.iload 5, 2) := by decide +kernel
theorem d_Md_build_83 : decode c_Md_build 83 = .ok (.aload_n 0, 1) := by decide +kernel
theorem d_Md_build_84 : decode c_Md_build 84 = .ok (.getfield 68, 3) := by decide +kernel
theorem d_Md_build_87 : decode c_Md_build 87 = .ok (.iload_n 3, 1) := by decide +kernel
theorem d_Md_build_88 : decode c_Md_build 88 = .ok (.iaload, 1) := by decide +kernel
theorem d_Md_build_89 : decode c_Md_build 89 = .ok (.iload 6, 2) := by decide +kernel
theorem d_Md_build_91 : decode c_Md_build 91 = .ok (.invokevirtual 101, 3) := by decide +kernel
theorem d_Md_build_94 : decode c_Md_build 94 = .ok (.iastore, 1) := by decide +kernel
theorem d_Md_build_95 : decode c_Md_build 95 = .ok (.iinc 3 1, 3) := by decide +kernel
theorem d_Md_build_98 : decode c_Md_build 98 = .ok (.goto 121, 3) := by decide +kernel
theorem d_Md_build_101 : decode c_Md_build 101 = .ok (.aload_n 0, 1) := by decide +kernel
theorem d_Md_build_102 : decode c_Md_build 102 = .ok (.getfield 7, 3) := by decide +kernel
theorem d_Md_build_105 : decode c_Md_build 105 = .ok (.iload 4, 2) := by decide +kernel
theorem d_Md_build_107 : decode c_Md_build 107 = .ok (.iaload, 1) := by decide +kernel
theorem d_Md_build_108 : decode c_Md_build 108 = .ok (.invokestatic 93, 3) := by decide +kernel
theorem d_Md_build_111 : decode c_Md_build 111 = .ok (.ifCond .ne 49, 3) := by decide +kernel
theorem d_Md_build_114 : decode c_Md_build 114 = .ok (.aload_n 0, 1) := by decide +kernel
theorem d_Md_build_115 : decode c_Md_build 115 = .ok (.getfield 68, 3) := by decide +kernel
theorem d_Md_build_118 : decode c_Md_build 118 = .ok (.iload_n 3, 1) := by decide +kernel
theorem d_Md_build_119 : decode c_Md_build 119 = .ok (.aload_n 0, 1) := by decide +kernel
theorem d_Md_build_120 : decode c_Md_build 120 = .ok (.getfield 7, 3) := by decide +kernel
theorem d_Md_build_123 : decode c_Md_build 123 = .ok (.iload 4, 2) := by decide +kernel
theorem d_Md_build_125 : decode c_Md_build 125 = .ok (.iaload, 1) := by decide +kernel
theorem d_Md_build_126 : decode c_Md_build 126 = .ok (.sipush 200, 3) := by decide +kernel
theorem d_Md_build_129 : decode c_Md_build 129 = .ok (.if_icmp .lt 22, 3) := by decide +kernel
theorem d_Md_build_132 : decode c_Md_build 132 = .ok (.aload_n 0, 1) := by decide +kernel
theorem d_Md_build_133 : decode c_Md_build 133 = .ok (.getfield 65, 3) := by decide +kernel
theorem d_Md_build_136 : decode c_Md_build 136 = .ok (.aload_n 0, 1) := by decide +kernel
theorem d_Md_build_137 : decode c_Md_build 137 = .ok (.getfield 7, 3) := by decide +kernel
theorem d_Md_build_140 : decode c_Md_build 140 = .ok (.iload 4, 2) := by decide +kernel
theorem d_Md_build_142 : decode c_Md_build 142 = .ok (.iaload, 1) := by decide +kernel
theorem d_Md_build_143 : decode c_Md_build 143 = .ok (.sipush 200, 3) := by decide +kernel
theorem d_Md_build_146 : decode c_Md_build 146 = .ok (.isub, 1) := by decide +kernel
theorem d_Md_build_147 : decode c_Md_build 147 = .ok (.iaload, 1) := by decide +kernel
theorem d_Md_build_148 : decode c_Md_build 148 = .ok (.goto 5, 3) := by decide +kernel
theorem d_Md_build_151 : decode c_Md_build 151 = .ok (.iload 4, 2) := by decide +kernel
theorem d_Md_build_153 : decode c_Md_build 153 = .ok (.iastore, 1) := by decide +kernel
theorem d_Md_build_154 : decode c_Md_build 154 = .ok (.iinc 3 1, 3) := by decide +kernel
theorem d_Md_build_157 : decode c_Md_build 157 = .ok (.goto 62, 3) := by decide +kernel
theorem d_Md_build_160 : decode c_Md_build 160 = .ok (.aload_n 0, 1) := by decide +kernel
theorem d_Md_build_161 : decode c_Md_build 161 = .ok (.getfield 62, 3) := by decide +kernel
theorem d_Md_build_164 : decode c_Md_build 164 = .ok (.iload_n 2, 1) := by decide +kernel
theorem d_Md_build_165 : decode c_Md_build 165 = .ok (.iconst (-1), 1) := by decide +kernel
theorem d_Md_build_166 : decode c_Md_build 166 = .ok (.iload 4, 2) := by decide +kernel
theorem d_Md_build_168 : decode c_Md_build 168 = .ok (.isub, 1) := by decide +kernel
theorem d_Md_build_169 : decode c_Md_build 169 = .ok (.iastore, 1) := by decide +kernel
theorem d_Md_build_170 : decode c_Md_build 170 = .ok (.iinc 2 1, 3) := by decide +kernel
theorem d_Md_build_173 : decode c_Md_build 173 = .ok (.aload_n 0, 1) := by decide +kernel
theorem d_Md_build_174 : decode c_Md_build 174 = .ok (.getfield 7, 3) := by decide +kernel
theorem d_Md_build_177 : decode c_Md_build 177 = .ok (.iload 4, 2) := by decide +kernel
theorem d_Md_build_179 : decode c_Md_build 179 = .ok (.iaload, 1) := by decide +kernel
theorem d_Md_build_180 : decode c_Md_build 180 = .ok (.invokestatic 93, 3) := by decide +kernel
theorem d_Md_build_183 : decode c_Md_build 183 = .ok (.iconst 2, 1) := by decide +kernel
theorem d_Md_build_184 : decode c_Md_build 184 = .ok (.if_icmp .ne 19, 3) := by decide +kernel
theorem d_Md_build_187 : decode c_Md_build 187 = .ok (.aload_n 0, 1) := by decide +kernel
theorem d_Md_build_188 : decode c_Md_build 188 = .ok (.getfield 62, 3) := by decide +kernel
theorem d_Md_build_191 : decode c_Md_build 191 = .ok (.iload_n 2, 1) := by decide +kernel
theorem d_Md_build_192 : decode c_Md_build 192 = .ok (.aload_n 0, 1) := by decide +kernel
theorem d_Md_build_193 : decode c_Md_build 193 = .ok (.getfield 16, 3) := by decide +kernel
theorem d_Md_build_196 : decode c_Md_build 196 = .ok (.iload 4, 2) := by decide +kernel
theorem d_Md_build_198 : decode c_Md_build 198 = .ok (.iaload, 1) := by decide +kernel
theorem d_Md_build_199 : decode c_Md_build 199 = .ok (.iastore, 1) := by decide +kernel
theorem d_Md_build_200 : decode c_Md_build 200 = .ok (.iinc 2 1, 3) := by decide +kernel
theorem d_Md_build_203 : decode c_Md_build 203 = .ok (.aload_n 0, 1) := by decide +kernel
theorem d_Md_build_204 : decode c_Md_build 204 = .ok (.getfield 62, 3) := by decide +kernel
theorem d_Md_build_207 : decode c_Md_build 207 = .ok (.iload_n 2, 1) := by decide +kernel
theorem d_Md_build_208 : decode c_Md_build 208 = .ok (.aload_n 0, 1) := by decide +kernel
theorem d_Md_build_209 : decode c_Md_build 209 = .ok (.getfield 13, 3) := by decide +kernel
theorem d_Md_build_212 : decode c_Md_build 212 = .ok (.iload 4, 2) := by decide +kernel
theorem d_Md_build_214 : decode c_Md_build 214 = .ok (.iaload, 1) := by decide +kernel
theorem d_Md_build_215 : decode c_Md_build 215 = .ok (.iastore, 1) := by decide +kernel
theorem d_Md_build_216 : decode c_Md_build 216 = .ok (.iinc 2 1, 3) := by decide +kernel
theorem d_Md_build_219 : decode c_Md_build 219 = .ok (.goto (-208), 3) := by decide +kernel
theorem d_Md_build_222 : decode c_Md_build 222 = .ok (.aload_n 0, 1) := by decide +kernel
theorem d_Md_build_223 : decode c_Md_build 223 = .ok (.getfield 97, 3) := by decide +kernel
theorem d_Md_build_226 : decode c_Md_build 226 = .ok (.ifCond .eq 7, 3) := by decide +kernel
theorem d_Md_build_229 : decode c_Md_build 229 = .ok (.iconst (-1), 1) := by decide +kernel
theorem d_Md_build_230 : decode c_Md_build 230 = .ok (.goto 9, 3) := by decide +kernel
theorem d_Md_build_233 : decode c_Md_build 233 = .ok (.aload_n 0, 1) := by decide +kernel
theorem d_Md_build_234 : decode c_Md_build 234 = .ok (.getfield 68, 3) := by decide +kernel
theorem d_Md_build_237 : decode c_Md_build 237 = .ok (.iconst 0, 1) := by decide +kernel
theorem d_Md_build_238 : decode c_Md_build 238 = .ok (.iaload, 1) := by decide +kernel
theorem d_Md_build_239 : decode c_Md_build 239 = .ok (.ireturn, 1) := by decide +kernel
theorem d_Md_replace_0 : decode c_Md_replace 0 = .ok (.iload_n 2, 1) := by decide +kernel
theorem d_Md_replace_1 : decode c_Md_replace 1 = .ok (.istore_n 3, 1) := by decide +kernel
theorem d_Md_replace_2 : decode c_Md_replace 2 = .ok (.iload_n 1, 1) := by decide +kernel
theorem d_Md_replace_3 : decode c_Md_replace 3 = .ok (.istore 4, 2) := by decide +kernel
theorem d_Md_replace_5 : decode c_Md_replace 5 = .ok (.aload_n 0, 1) := by decide +kernel
theorem d_Md_replace_6 : decode c_Md_replace 6 = .ok (.getfield 56, 3) := by decide +kernel
theorem d_Md_replace_9 : decode c_Md_replace 9 = .ok (.iload 4, 2) := by decide +kernel
theorem d_Md_replace_11 : decode c_Md_replace 11 = .ok (.iaload, 1) := by decide +kernel
theorem d_Md_replace_12 : decode c_Md_replace 12 = .ok (.iconst (-1), 1) := by decide +kernel
theorem d_Md_replace_13 : decode c_Md_replace 13 = .ok (.if_icmp .eq 95, 3) := by decide +kernel
theorem d_Md_replace_16 : decode c_Md_replace 16 = .ok (.aload_n 0, 1) := by decide +kernel
theorem d_Md_replace_17 : decode c_Md_replace 17 = .ok (.getfield 97, 3) := by decide +kernel
theorem d_Md_replace_20 : decode c_Md_replace 20 = .ok (.ifCond .ne 88, 3) := by decide +kernel
theorem d_Md_replace_23 : decode c_Md_replace 23 = .ok (.aload_n 0, 1) := by decide +kernel
theorem d_Md_replace_24 : decode c_Md_replace 24 = .ok (.getfield 56, 3) := by decide +kernel
theorem d_Md_replace_27 : decode c_Md_replace 27 = .ok (.iload 4, 2) := by decide +kernel
theorem d_Md_replace_29 : decode c_Md_replace 29 = .ok (.iaload, 1) := by decide +kernel
theorem d_Md_replace_30 : decode c_Md_replace 30 = .ok (.istore 5, 2) := by decide +kernel
theorem d_Md_replace_32 : decode c_Md_replace 32 = .ok (.aload_n 0, 1) := by decide +kernel
theorem d_Md_replace_33 : decode c_Md_replace 33 = .ok (.getfield 53, 3) := by decide +kernel
theorem d_Md_replace_36 : decode c_Md_replace 36 = .ok (.iload 5, 2) := by decide +kernel
theorem d_Md_replace_38 : decode c_Md_replace 38 = .ok (.iaload, 1) := by decide +kernel
theorem d_Md_replace_39 : decode c_Md_replace 39 = .ok (.istore 6, 2) := by decide +kernel
theorem d_Md_replace_41 : decode c_Md_replace 41 = .ok (.iload 4, 2) := by decide +kernel
theorem d_Md_replace_43 : decode c_Md_replace 43 = .ok (.iload 5, 2) := by decide +kernel
theorem d_Md_replace_45 : decode c_Md_replace 45 = .ok (.iconst 1, 1) := by decide +kernel
theorem d_Md_replace_46 : decode c_Md_replace 46 = .ok (.iadd, 1) := by decide +kernel
theorem d_Md_replace_47 : decode c_Md_replace 47 = .ok (.if_icmp .ne 7, 3) := by decide +kernel
theorem d_Md_replace_50 : decode c_Md_replace 50 = .ok (.iconst 1, 1) := by decide +kernel
theorem d_Md_replace_51 : decode c_Md_replace 51 = .ok (.goto 4, 3) := by decide +kernel
theorem d_Md_replace_54 : decode c_Md_replace 54 = .ok (.iconst 0, 1) := by decide +kernel
theorem d_Md_replace_55 : decode c_Md_replace 55 = .ok (.istore 7, 2) := by decide +kernel
theorem d_Md_replace_57 : decode c_Md_replace 57 = .ok (.aload_n 0, 1) := by decide +kernel
theorem d_Md_replace_58 : decode c_Md_replace 58 = .ok (.aload_n 0, 1) := by decide +kernel
theorem d_Md_replace_59 : decode c_Md_replace 59 = .ok (.getfield 7, 3) := by decide +kernel
theorem d_Md_replace_62 : decode c_Md_replace 62 = .ok (.iload 6, 2) := by decide +kernel
theorem d_Md_replace_64 : decode c_Md_replace 64 = .ok (.iaload, 1) := by decide +kernel
theorem d_Md_replace_65 : decode c_Md_replace 65 = .ok (.iload 7, 2) := by decide +kernel
theorem d_Md_replace_67 : decode c_Md_replace 67 = .ok (.ifCond .eq 7, 3) := by decide +kernel
theorem d_Md_replace_70 : decode c_Md_replace 70 = .ok (.iload_n 3, 1) := by decide +kernel
theorem d_Md_replace_71 : decode c_Md_replace 71 = .ok (.goto 10, 3) := by decide +kernel
theorem d_Md_replace_74 : decode c_Md_replace 74 = .ok (.aload_n 0, 1) := by decide +kernel
theorem d_Md_replace_75 : decode c_Md_replace 75 = .ok (.getfield 13, 3) := by decide +kernel
theorem d_Md_replace_78 : decode c_Md_replace 78 = .ok (.iload 6, 2) := by decide +kernel
theorem d_Md_replace_80 : decode c_Md_replace 80 = .ok (.iaload, 1) := by decide +kernel
theorem d_Md_replace_81 : decode c_Md_replace 81 = .ok (.iload 7, 2) := by decide +kernel
theorem d_Md_replace_83 : decode c_Md_replace 83 = .ok (.ifCond .eq 13, 3) := by decide +kernel
theorem d_Md_replace_86 : decode c_Md_replace 86 = .ok (.aload_n 0, 1) := by decide +kernel
theorem d_Md_replace_87 : decode c_Md_replace 87 = .ok (.getfield 16, 3) := by decide +kernel
theorem d_Md_replace_90 : decode c_Md_replace 90 = .ok (.iload 6, 2) := by decide +kernel
theorem d_Md_replace_92 : decode c_Md_replace 92 = .ok (.iaload, 1) := by decide +kernel
theorem d_Md_replace_93 : decode c_Md_replace 93 = .ok (.goto 4, 3) := by decide +kernel
theorem d_Md_replace_96 : decode c_Md_replace 96 = .ok (.iload_n 3, 1) := by decide +kernel
theorem d_Md_replace_97 : decode c_Md_replace 97 = .ok (.invokevirtual 101, 3) := by decide +kernel
theorem d_Md_replace_100 : decode c_Md_replace 100 = .ok (.istore_n 3, 1) := by decide +kernel
theorem d_Md_replace_101 : decode c_Md_replace 101 = .ok (.iload 5, 2) := by decide +kernel
theorem d_Md_replace_103 : decode c_Md_replace 103 = .ok (.istore 4, 2) := by decide +kernel
theorem d_Md_replace_105 : decode c_Md_replace 105 = .ok (.goto (-100), 3) := by decide +kernel
theorem d_Md_replace_108 : decode c_Md_replace 108 = .ok (.iload_n 3, 1) := by decide +kernel
theorem d_Md_replace_109 : decode c_Md_replace 109 = .ok (.ireturn, 1) := by decide +kernel
theorem d_Md_keep_0 : decode c_Md_keep 0 = .ok (.aload_n 0, 1) := by decide +kernel
theorem d_Md_keep_1 : decode c_Md_keep 1 = .ok (.dup, 1) := by decide +kernel
theorem d_Md_keep_2 : decode c_Md_keep 2 = .ok (.getfield 147, 3) := by decide +kernel
theorem d_Md_keep_5 : decode c_Md_keep 5 = .ok (.iconst 1, 1) := by decide +kernel
theorem d_Md_keep_6 : decode c_Md_keep 6 = .ok (.iadd, 1) := by decide +kernel
theorem d_Md_keep_7 : decode c_Md_keep 7 = .ok (.putfield 147, 3) := by decide +kernel
theorem d_Md_keep_10 : decode c_Md_keep 10 = .ok (.aload_n 0, 1) := by decide +kernel
theorem d_Md_keep_11 : decode c_Md_keep 11 = .ok (.getfield 150, 3) := by decide +kernel
theorem d_Md_keep_14 : decode c_Md_keep 14 = .ok (.sipush 200, 3) := by decide +kernel
theorem d_Md_keep_17 : decode c_Md_keep 17 = .ok (.if_icmp .ne 4, 3) := by decide +kernel
theorem d_Md_keep_20 : decode c_Md_keep 20 = .ok (.return_, 1) := by decide +kernel
theorem d_Md_keep_21 : decode c_Md_keep 21 = .ok (.aload_n 0, 1) := by decide +kernel
theorem d_Md_keep_22 : decode c_Md_keep 22 = .ok (.getfield 50, 3) := by decide +kernel
theorem d_Md_keep_25 : decode c_Md_keep 25 = .ok (.iconst 4, 1) := by decide +kernel
theorem d_Md_keep_26 : decode c_Md_keep 26 = .ok (.aload_n 0, 1) := by decide +kernel
theorem d_Md_keep_27 : decode c_Md_keep 27 = .ok (.getfield 150, 3) := by decide +kernel
theorem d_Md_keep_30 : decode c_Md_keep 30 = .ok (.imul, 1) := by decide +kernel
theorem d_Md_keep_31 : decode c_Md_keep 31 = .ok (.iload_n 1, 1) := by decide +kernel
theorem d_Md_keep_32 : decode c_Md_keep 32 = .ok (.iastore, 1) := by decide +kernel
theorem d_Md_keep_33 : decode c_Md_keep 33 = .ok (.aload_n 0, 1) := by decide +kernel
theorem d_Md_keep_34 : decode c_Md_keep 34 = .ok (.getfield 50, 3) := by decide +kernel
theorem d_Md_keep_37 : decode c_Md_keep 37 = .ok (.iconst 4, 1) := by decide +kernel
theorem d_Md_keep_38 : decode c_Md_keep 38 = .ok (.aload_n 0, 1) := by decide +kernel
theorem d_Md_keep_39 : decode c_Md_keep 39 = .ok (.getfield 150, 3) := by decide +kernel
theorem d_Md_keep_42 : decode c_Md_keep 42 = .ok (.imul, 1) := by decide +kernel
theorem d_Md_keep_43 : decode c_Md_keep 43 = .ok (.iconst 1, 1) := by decide +kernel
theorem d_Md_keep_44 : decode c_Md_keep 44 = .ok (.iadd, 1) := by decide +kernel
theorem d_Md_keep_45 : decode c_Md_keep 45 = .ok (.iload_n 2, 1) := by decide +kernel
theorem d_Md_keep_46 : decode c_Md_keep 46 = .ok (.iastore, 1) := by decide +kernel
theorem d_Md_keep_47 : decode c_Md_keep 47 = .ok (.aload_n 0, 1) := by decide +kernel
theorem d_Md_keep_48 : decode c_Md_keep 48 = .ok (.getfield 50, 3) := by decide +kernel
theorem d_Md_keep_51 : decode c_Md_keep 51 = .ok (.iconst 4, 1) := by decide +kernel
theorem d_Md_keep_52 : decode c_Md_keep 52 = .ok (.aload_n 0, 1) := by decide +kernel
theorem d_Md_keep_53 : decode c_Md_keep 53 = .ok (.getfield 150, 3) := by decide +kernel
theorem d_Md_keep_56 : decode c_Md_keep 56 = .ok (.imul, 1) := by decide +kernel
theorem d_Md_keep_57 : decode c_Md_keep 57 = .ok (.iconst 2, 1) := by decide +kernel
theorem d_Md_keep_58 : decode c_Md_keep 58 = .ok (.iadd, 1) := by decide +kernel
theorem d_Md_keep_59 : decode c_Md_keep 59 = .ok (.iload_n 3, 1) := by decide +kernel
theorem d_Md_keep_60 : decode c_Md_keep 60 = .ok (.iastore, 1) := by decide +kernel
theorem d_Md_keep_61 : decode c_Md_keep 61 = .ok (.aload_n 0, 1) := by decide +kernel
theorem d_Md_keep_62 : decode c_Md_keep 62 = .ok (.getfield 50, 3) := by decide +kernel
theorem d_Md_keep_65 : decode c_Md_keep 65 = .ok (.iconst 4, 1) := by decide +kernel
theorem d_Md_keep_66 : decode c_Md_keep 66 = .ok (.aload_n 0, 1) := by decide +kernel
theorem d_Md_keep_67 : decode c_Md_keep 67 = .ok (.getfield 150, 3) := by decide +kernel
theorem d_Md_keep_70 : decode c_Md_keep 70 = .ok (.imul, 1) := by decide +kernel
theorem d_Md_keep_71 : decode c_Md_keep 71 = .ok (.iconst 3, 1) := by decide +kernel
theorem d_Md_keep_72 : decode c_Md_keep 72 = .ok (.iadd, 1) := by decide +kernel
theorem d_Md_keep_73 : decode c_Md_keep 73 = .ok (.iload 4, 2) := by decide +kernel
theorem d_Md_keep_75 : decode c_Md_keep 75 = .ok (.iastore, 1) := by decide +kernel
theorem d_Md_keep_76 : decode c_Md_keep 76 = .ok (.aload_n 0, 1) := by decide +kernel
theorem d_Md_keep_77 : decode c_Md_keep 77 = .ok (.dup, 1) := by decide +kernel
theorem d_Md_keep_78 : decode c_Md_keep 78 = .ok (.getfield 150, 3) := by decide +kernel
theorem d_Md_keep_81 : decode c_Md_keep 81 = .ok (.iconst 1, 1) := by decide +kernel
theorem d_Md_keep_82 : decode c_Md_keep 82 = .ok (.iadd, 1) := by decide +kernel
theorem d_Md_keep_83 : decode c_Md_keep 83 = .ok (.putfield 150, 3) := by decide +kernel
theorem d_Md_keep_86 : decode c_Md_keep 86 = .ok (.return_, 1) := by decide +kernel
theorem d_Md_take_0 : decode c_Md_take 0 = .ok (.iconst 0, 1) := by decide +kernel
theorem d_Md_take_1 : decode c_Md_take 1 = .ok (.istore_n 1, 1) := by decide +kernel
theorem d_Md_take_2 : decode c_Md_take 2 = .ok (.iload_n 1, 1) := by decide +kernel
theorem d_Md_take_3 : decode c_Md_take 3 = .ok (.iconst 4, 1) := by decide +kernel
theorem d_Md_take_4 : decode c_Md_take 4 = .ok (.aload_n 0, 1) := by decide +kernel
theorem d_Md_take_5 : decode c_Md_take 5 = .ok (.getfield 150, 3) := by decide +kernel
theorem d_Md_take_8 : decode c_Md_take 8 = .ok (.imul, 1) := by decide +kernel
theorem d_Md_take_9 : decode c_Md_take 9 = .ok (.if_icmp .ge 21, 3) := by decide +kernel
theorem d_Md_take_12 : decode c_Md_take 12 = .ok (.aload_n 0, 1) := by decide +kernel
theorem d_Md_take_13 : decode c_Md_take 13 = .ok (.getfield 47, 3) := by decide +kernel
theorem d_Md_take_16 : decode c_Md_take 16 = .ok (.iload_n 1, 1) := by decide +kernel
theorem d_Md_take_17 : decode c_Md_take 17 = .ok (.aload_n 0, 1) := by decide +kernel
theorem d_Md_take_18 : decode c_Md_take 18 = .ok (.getfield 50, 3) := by decide +kernel
theorem d_Md_take_21 : decode c_Md_take 21 = .ok (.iload_n 1, 1) := by decide +kernel
theorem d_Md_take_22 : decode c_Md_take 22 = .ok (.iaload, 1) := by decide +kernel
theorem d_Md_take_23 : decode c_Md_take 23 = .ok (.iastore, 1) := by decide +kernel
theorem d_Md_take_24 : decode c_Md_take 24 = .ok (.iinc 1 1, 3) := by decide +kernel
theorem d_Md_take_27 : decode c_Md_take 27 = .ok (.goto (-25), 3) := by decide +kernel
theorem d_Md_take_30 : decode c_Md_take 30 = .ok (.aload_n 0, 1) := by decide +kernel
theorem d_Md_take_31 : decode c_Md_take 31 = .ok (.aload_n 0, 1) := by decide +kernel
theorem d_Md_take_32 : decode c_Md_take 32 = .ok (.getfield 150, 3) := by decide +kernel
theorem d_Md_take_35 : decode c_Md_take 35 = .ok (.putfield 170, 3) := by decide +kernel
theorem d_Md_take_38 : decode c_Md_take 38 = .ok (.aload_n 0, 1) := by decide +kernel
theorem d_Md_take_39 : decode c_Md_take 39 = .ok (.aload_n 0, 1) := by decide +kernel
theorem d_Md_take_40 : decode c_Md_take 40 = .ok (.getfield 147, 3) := by decide +kernel
theorem d_Md_take_43 : decode c_Md_take 43 = .ok (.putfield 173, 3) := by decide +kernel
theorem d_Md_take_46 : decode c_Md_take 46 = .ok (.return_, 1) := by decide +kernel
theorem d_Md_normal_0 : decode c_Md_normal 0 = .ok (.aload_n 0, 1) := by decide +kernel
theorem d_Md_normal_1 : decode c_Md_normal 1 = .ok (.aload_n 0, 1) := by decide +kernel
theorem d_Md_normal_2 : decode c_Md_normal 2 = .ok (.iload_n 1, 1) := by decide +kernel
theorem d_Md_normal_3 : decode c_Md_normal 3 = .ok (.invokevirtual 109, 3) := by decide +kernel
theorem d_Md_normal_6 : decode c_Md_normal 6 = .ok (.ifCond .ne 7, 3) := by decide +kernel
theorem d_Md_normal_9 : decode c_Md_normal 9 = .ok (.iconst 1, 1) := by decide +kernel
theorem d_Md_normal_10 : decode c_Md_normal 10 = .ok (.goto 17, 3) := by decide +kernel
theorem d_Md_normal_13 : decode c_Md_normal 13 = .ok (.aload_n 0, 1) := by decide +kernel
theorem d_Md_normal_14 : decode c_Md_normal 14 = .ok (.getfield 28, 3) := by decide +kernel
theorem d_Md_normal_17 : decode c_Md_normal 17 = .ok (.iload_n 1, 1) := by decide +kernel
theorem d_Md_normal_18 : decode c_Md_normal 18 = .ok (.iaload, 1) := by decide +kernel
theorem d_Md_normal_19 : decode c_Md_normal 19 = .ok (.ifCond .eq 7, 3) := by decide +kernel
theorem d_Md_normal_22 : decode c_Md_normal 22 = .ok (.iconst 2, 1) := by decide +kernel
theorem d_Md_normal_23 : decode c_Md_normal 23 = .ok (.goto 4, 3) := by decide +kernel
theorem d_Md_normal_26 : decode c_Md_normal 26 = .ok (.iconst 0, 1) := by decide +kernel
theorem d_Md_normal_27 : decode c_Md_normal 27 = .ok (.putfield 86, 3) := by decide +kernel
theorem d_Md_normal_30 : decode c_Md_normal 30 = .ok (.aload_n 0, 1) := by decide +kernel
theorem d_Md_normal_31 : decode c_Md_normal 31 = .ok (.getfield 86, 3) := by decide +kernel
theorem d_Md_normal_34 : decode c_Md_normal 34 = .ok (.ifCond .eq 5, 3) := by decide +kernel
theorem d_Md_normal_37 : decode c_Md_normal 37 = .ok (.iconst 0, 1) := by decide +kernel
theorem d_Md_normal_38 : decode c_Md_normal 38 = .ok (.ireturn, 1) := by decide +kernel
theorem d_Md_normal_39 : decode c_Md_normal 39 = .ok (.aload_n 0, 1) := by decide +kernel
theorem d_Md_normal_40 : decode c_Md_normal 40 = .ok (.iconst 1, 1) := by decide +kernel
theorem d_Md_normal_41 : decode c_Md_normal 41 = .ok (.invokevirtual 176, 3) := by decide +kernel
theorem d_Md_normal_44 : decode c_Md_normal 44 = .ok (.aload_n 0, 1) := by decide +kernel
theorem d_Md_normal_45 : decode c_Md_normal 45 = .ok (.iload_n 1, 1) := by decide +kernel
theorem d_Md_normal_46 : decode c_Md_normal 46 = .ok (.iconst (-1), 1) := by decide +kernel
theorem d_Md_normal_47 : decode c_Md_normal 47 = .ok (.invokevirtual 180, 3) := by decide +kernel
theorem d_Md_normal_50 : decode c_Md_normal 50 = .ok (.istore_n 2, 1) := by decide +kernel
theorem d_Md_normal_51 : decode c_Md_normal 51 = .ok (.aload_n 0, 1) := by decide +kernel
theorem d_Md_normal_52 : decode c_Md_normal 52 = .ok (.aload_n 0, 1) := by decide +kernel
theorem d_Md_normal_53 : decode c_Md_normal 53 = .ok (.getfield 97, 3) := by decide +kernel
theorem d_Md_normal_56 : decode c_Md_normal 56 = .ok (.ifCond .eq 7, 3) := by decide +kernel
theorem d_Md_normal_59 : decode c_Md_normal 59 = .ok (.iconst 3, 1) := by decide +kernel
theorem d_Md_normal_60 : decode c_Md_normal 60 = .ok (.goto 4, 3) := by decide +kernel
theorem d_Md_normal_63 : decode c_Md_normal 63 = .ok (.iconst 0, 1) := by decide +kernel
theorem d_Md_normal_64 : decode c_Md_normal 64 = .ok (.putfield 86, 3) := by decide +kernel
theorem d_Md_normal_67 : decode c_Md_normal 67 = .ok (.aload_n 0, 1) := by decide +kernel
theorem d_Md_normal_68 : decode c_Md_normal 68 = .ok (.getfield 97, 3) := by decide +kernel
theorem d_Md_normal_71 : decode c_Md_normal 71 = .ok (.ifCond .eq 5, 3) := by decide +kernel
theorem d_Md_normal_74 : decode c_Md_normal 74 = .ok (.iconst 0, 1) := by decide +kernel
theorem d_Md_normal_75 : decode c_Md_normal 75 = .ok (.ireturn, 1) := by decide +kernel
theorem d_Md_normal_76 : decode c_Md_normal 76 = .ok (.aload_n 0, 1) := by decide +kernel
theorem d_Md_normal_77 : decode c_Md_normal 77 = .ok (.invokevirtual 183, 3) := by decide +kernel
theorem d_Md_normal_80 : decode c_Md_normal 80 = .ok (.iload_n 2, 1) := by decide +kernel
theorem d_Md_normal_81 : decode c_Md_normal 81 = .ok (.ireturn, 1) := by decide +kernel
theorem d_Md_joins_0 : decode c_Md_joins 0 = .ok (.aload_n 0, 1) := by decide +kernel
theorem d_Md_joins_1 : decode c_Md_joins 1 = .ok (.aload_n 0, 1) := by decide +kernel
theorem d_Md_joins_2 : decode c_Md_joins 2 = .ok (.iload_n 1, 1) := by decide +kernel
theorem d_Md_joins_3 : decode c_Md_joins 3 = .ok (.invokevirtual 109, 3) := by decide +kernel
theorem d_Md_joins_6 : decode c_Md_joins 6 = .ok (.ifCond .eq 11, 3) := by decide +kernel
theorem d_Md_joins_9 : decode c_Md_joins 9 = .ok (.aload_n 0, 1) := by decide +kernel
theorem d_Md_joins_10 : decode c_Md_joins 10 = .ok (.iload_n 2, 1) := by decide +kernel
theorem d_Md_joins_11 : decode c_Md_joins 11 = .ok (.invokevirtual 109, 3) := by decide +kernel
theorem d_Md_joins_14 : decode c_Md_joins 14 = .ok (.ifCond .ne 7, 3) := by decide +kernel
theorem d_Md_joins_17 : decode c_Md_joins 17 = .ok (.iconst 1, 1) := by decide +kernel
theorem d_Md_joins_18 : decode c_Md_joins 18 = .ok (.goto 26, 3) := by decide +kernel
theorem d_Md_joins_21 : decode c_Md_joins 21 = .ok (.aload_n 0, 1) := by decide +kernel
theorem d_Md_joins_22 : decode c_Md_joins 22 = .ok (.getfield 28, 3) := by decide +kernel
theorem d_Md_joins_25 : decode c_Md_joins 25 = .ok (.iload_n 1, 1) := by decide +kernel
theorem d_Md_joins_26 : decode c_Md_joins 26 = .ok (.iaload, 1) := by decide +kernel
theorem d_Md_joins_27 : decode c_Md_joins 27 = .ok (.ifCond .ne 12, 3) := by decide +kernel
theorem d_Md_joins_30 : decode c_Md_joins 30 = .ok (.aload_n 0, 1) := by decide +kernel
theorem d_Md_joins_31 : decode c_Md_joins 31 = .ok (.getfield 28, 3) := by decide +kernel
theorem d_Md_joins_34 : decode c_Md_joins 34 = .ok (.iload_n 2, 1) := by decide +kernel
theorem d_Md_joins_35 : decode c_Md_joins 35 = .ok (.iaload, 1) := by decide +kernel
theorem d_Md_joins_36 : decode c_Md_joins 36 = .ok (.ifCond .eq 7, 3) := by decide +kernel
theorem d_Md_joins_39 : decode c_Md_joins 39 = .ok (.iconst 2, 1) := by decide +kernel
theorem d_Md_joins_40 : decode c_Md_joins 40 = .ok (.goto 4, 3) := by decide +kernel
theorem d_Md_joins_43 : decode c_Md_joins 43 = .ok (.iconst 0, 1) := by decide +kernel
theorem d_Md_joins_44 : decode c_Md_joins 44 = .ok (.putfield 86, 3) := by decide +kernel
theorem d_Md_joins_47 : decode c_Md_joins 47 = .ok (.aload_n 0, 1) := by decide +kernel
theorem d_Md_joins_48 : decode c_Md_joins 48 = .ok (.getfield 86, 3) := by decide +kernel
theorem d_Md_joins_51 : decode c_Md_joins 51 = .ok (.ifCond .eq 5, 3) := by decide +kernel
theorem d_Md_joins_54 : decode c_Md_joins 54 = .ok (.iconst 0, 1) := by decide +kernel
theorem d_Md_joins_55 : decode c_Md_joins 55 = .ok (.ireturn, 1) := by decide +kernel
theorem d_Md_joins_56 : decode c_Md_joins 56 = .ok (.aload_n 0, 1) := by decide +kernel
theorem d_Md_joins_57 : decode c_Md_joins 57 = .ok (.getfield 90, 3) := by decide +kernel
theorem d_Md_joins_60 : decode c_Md_joins 60 = .ok (.istore_n 3, 1) := by decide +kernel
theorem d_Md_joins_61 : decode c_Md_joins 61 = .ok (.aload_n 0, 1) := by decide +kernel
theorem d_Md_joins_62 : decode c_Md_joins 62 = .ok (.iconst 1, 1) := by decide +kernel
theorem d_Md_joins_63 : decode c_Md_joins 63 = .ok (.invokevirtual 176, 3) := by decide +kernel
theorem d_Md_joins_66 : decode c_Md_joins 66 = .ok (.aload_n 0, 1) := by decide +kernel
theorem d_Md_joins_67 : decode c_Md_joins 67 = .ok (.iload_n 1, 1) := by decide +kernel
theorem d_Md_joins_68 : decode c_Md_joins 68 = .ok (.iconst (-1), 1) := by decide +kernel
theorem d_Md_joins_69 : decode c_Md_joins 69 = .ok (.invokevirtual 180, 3) := by decide +kernel
theorem d_Md_joins_72 : decode c_Md_joins 72 = .ok (.istore 4, 2) := by decide +kernel
theorem d_Md_joins_74 : decode c_Md_joins 74 = .ok (.aload_n 0, 1) := by decide +kernel
theorem d_Md_joins_75 : decode c_Md_joins 75 = .ok (.getfield 97, 3) := by decide +kernel
theorem d_Md_joins_78 : decode c_Md_joins 78 = .ok (.ifCond .eq 7, 3) := by decide +kernel
theorem d_Md_joins_81 : decode c_Md_joins 81 = .ok (.iconst (-1), 1) := by decide +kernel
theorem d_Md_joins_82 : decode c_Md_joins 82 = .ok (.goto 9, 3) := by decide +kernel
theorem d_Md_joins_85 : decode c_Md_joins 85 = .ok (.aload_n 0, 1) := by decide +kernel
theorem d_Md_joins_86 : decode c_Md_joins 86 = .ok (.iload_n 2, 1) := by decide +kernel
theorem d_Md_joins_87 : decode c_Md_joins 87 = .ok (.iconst (-1), 1) := by decide +kernel
theorem d_Md_joins_88 : decode c_Md_joins 88 = .ok (.invokevirtual 180, 3) := by decide +kernel
theorem d_Md_joins_91 : decode c_Md_joins 91 = .ok (.istore 5, 2) := by decide +kernel
theorem d_Md_joins_93 : decode c_Md_joins 93 = .ok (.aload_n 0, 1) := by decide +kernel
theorem d_Md_joins_94 : decode c_Md_joins 94 = .ok (.aload_n 0, 1) := by decide +kernel
theorem d_Md_joins_95 : decode c_Md_joins 95 = .ok (.getfield 97, 3) := by decide +kernel
theorem d_Md_joins_98 : decode c_Md_joins 98 = .ok (.ifCond .eq 7, 3) := by decide +kernel
theorem d_Md_joins_101 : decode c_Md_joins 101 = .ok (.iconst 3, 1) := by decide +kernel
theorem d_Md_joins_102 : decode c_Md_joins 102 = .ok (.goto 4, 3) := by decide +kernel
theorem d_Md_joins_105 : decode c_Md_joins 105 = .ok (.iconst 0, 1) := by decide +kernel
theorem d_Md_joins_106 : decode c_Md_joins 106 = .ok (.putfield 86, 3) := by decide +kernel
theorem d_Md_joins_109 : decode c_Md_joins 109 = .ok (.aload_n 0, 1) := by decide +kernel
theorem d_Md_joins_110 : decode c_Md_joins 110 = .ok (.getfield 97, 3) := by decide +kernel
theorem d_Md_joins_113 : decode c_Md_joins 113 = .ok (.ifCond .eq 8, 3) := by decide +kernel
theorem d_Md_joins_116 : decode c_Md_joins 116 = .ok (.aload_n 0, 1) := by decide +kernel
theorem d_Md_joins_117 : decode c_Md_joins 117 = .ok (.iload_n 3, 1) := by decide +kernel
theorem d_Md_joins_118 : decode c_Md_joins 118 = .ok (.putfield 90, 3) := by decide +kernel
theorem d_Md_joins_121 : decode c_Md_joins 121 = .ok (.aload_n 0, 1) := by decide +kernel
theorem d_Md_joins_122 : decode c_Md_joins 122 = .ok (.getfield 97, 3) := by decide +kernel
theorem d_Md_joins_125 : decode c_Md_joins 125 = .ok (.ifCond .ne 14, 3) := by decide +kernel
theorem d_Md_joins_128 : decode c_Md_joins 128 = .ok (.iload 4, 2) := by decide +kernel
theorem d_Md_joins_130 : decode c_Md_joins 130 = .ok (.iload 5, 2) := by decide +kernel
theorem d_Md_joins_132 : decode c_Md_joins 132 = .ok (.if_icmp .ne 7, 3) := by decide +kernel
theorem d_Md_joins_135 : decode c_Md_joins 135 = .ok (.iconst 1, 1) := by decide +kernel
theorem d_Md_joins_136 : decode c_Md_joins 136 = .ok (.goto 4, 3) := by decide +kernel
theorem d_Md_joins_139 : decode c_Md_joins 139 = .ok (.iconst 0, 1) := by decide +kernel
theorem d_Md_joins_140 : decode c_Md_joins 140 = .ok (.ireturn, 1) := by decide +kernel
theorem d_Md_spent_0 : decode c_Md_spent 0 = .ok (.aload_n 0, 1) := by decide +kernel
theorem d_Md_spent_1 : decode c_Md_spent 1 = .ok (.iconst 0, 1) := by decide +kernel
theorem d_Md_spent_2 : decode c_Md_spent 2 = .ok (.putfield 86, 3) := by decide +kernel
theorem d_Md_spent_5 : decode c_Md_spent 5 = .ok (.aload_n 0, 1) := by decide +kernel
theorem d_Md_spent_6 : decode c_Md_spent 6 = .ok (.getfield 186, 3) := by decide +kernel
theorem d_Md_spent_9 : decode c_Md_spent 9 = .ok (.ireturn, 1) := by decide +kernel
theorem d_Md_row_0 : decode c_Md_row 0 = .ok (.aload_n 0, 1) := by decide +kernel
theorem d_Md_row_1 : decode c_Md_row 1 = .ok (.iload_n 1, 1) := by decide +kernel
theorem d_Md_row_2 : decode c_Md_row 2 = .ok (.ifCond .lt 11, 3) := by decide +kernel
theorem d_Md_row_5 : decode c_Md_row 5 = .ok (.iload_n 1, 1) := by decide +kernel
theorem d_Md_row_6 : decode c_Md_row 6 = .ok (.aload_n 0, 1) := by decide +kernel
theorem d_Md_row_7 : decode c_Md_row 7 = .ok (.getfield 170, 3) := by decide +kernel
theorem d_Md_row_10 : decode c_Md_row 10 = .ok (.if_icmp .lt 7, 3) := by decide +kernel
theorem d_Md_row_13 : decode c_Md_row 13 = .ok (.iconst 1, 1) := by decide +kernel
theorem d_Md_row_14 : decode c_Md_row 14 = .ok (.goto 17, 3) := by decide +kernel
theorem d_Md_row_17 : decode c_Md_row 17 = .ok (.iload_n 2, 1) := by decide +kernel
theorem d_Md_row_18 : decode c_Md_row 18 = .ok (.ifCond .lt 8, 3) := by decide +kernel
theorem d_Md_row_21 : decode c_Md_row 21 = .ok (.iload_n 2, 1) := by decide +kernel
theorem d_Md_row_22 : decode c_Md_row 22 = .ok (.iconst 3, 1) := by decide +kernel
theorem d_Md_row_23 : decode c_Md_row 23 = .ok (.if_icmp .le 7, 3) := by decide +kernel
theorem d_Md_row_26 : decode c_Md_row 26 = .ok (.iconst 2, 1) := by decide +kernel
theorem d_Md_row_27 : decode c_Md_row 27 = .ok (.goto 4, 3) := by decide +kernel
theorem d_Md_row_30 : decode c_Md_row 30 = .ok (.iconst 0, 1) := by decide +kernel
theorem d_Md_row_31 : decode c_Md_row 31 = .ok (.putfield 86, 3) := by decide +kernel
theorem d_Md_row_34 : decode c_Md_row 34 = .ok (.aload_n 0, 1) := by decide +kernel
theorem d_Md_row_35 : decode c_Md_row 35 = .ok (.getfield 86, 3) := by decide +kernel
theorem d_Md_row_38 : decode c_Md_row 38 = .ok (.ifCond .eq 7, 3) := by decide +kernel
theorem d_Md_row_41 : decode c_Md_row 41 = .ok (.iconst 0, 1) := by decide +kernel
theorem d_Md_row_42 : decode c_Md_row 42 = .ok (.goto 13, 3) := by decide +kernel
theorem d_Md_row_45 : decode c_Md_row 45 = .ok (.aload_n 0, 1) := by decide +kernel
theorem d_Md_row_46 : decode c_Md_row 46 = .ok (.getfield 47, 3) := by decide +kernel
theorem d_Md_row_49 : decode c_Md_row 49 = .ok (.iconst 4, 1) := by decide +kernel
theorem d_Md_row_50 : decode c_Md_row 50 = .ok (.iload_n 1, 1) := by decide +kernel
theorem d_Md_row_51 : decode c_Md_row 51 = .ok (.imul, 1) := by decide +kernel
theorem d_Md_row_52 : decode c_Md_row 52 = .ok (.iload_n 2, 1) := by decide +kernel
theorem d_Md_row_53 : decode c_Md_row 53 = .ok (.iadd, 1) := by decide +kernel
theorem d_Md_row_54 : decode c_Md_row 54 = .ok (.iaload, 1) := by decide +kernel
theorem d_Md_row_55 : decode c_Md_row 55 = .ok (.ireturn, 1) := by decide +kernel
theorem d_Md_steps_0 : decode c_Md_steps 0 = .ok (.aload_n 0, 1) := by decide +kernel
theorem d_Md_steps_1 : decode c_Md_steps 1 = .ok (.iconst 0, 1) := by decide +kernel
theorem d_Md_steps_2 : decode c_Md_steps 2 = .ok (.putfield 86, 3) := by decide +kernel
theorem d_Md_steps_5 : decode c_Md_steps 5 = .ok (.aload_n 0, 1) := by decide +kernel
theorem d_Md_steps_6 : decode c_Md_steps 6 = .ok (.getfield 173, 3) := by decide +kernel
theorem d_Md_steps_9 : decode c_Md_steps 9 = .ok (.ireturn, 1) := by decide +kernel
theorem d_Md_domain_0 : decode c_Md_domain 0 = .ok (.aload_n 0, 1) := by decide +kernel
theorem d_Md_domain_1 : decode c_Md_domain 1 = .ok (.iconst 0, 1) := by decide +kernel
theorem d_Md_domain_2 : decode c_Md_domain 2 = .ok (.putfield 86, 3) := by decide +kernel
theorem d_Md_domain_5 : decode c_Md_domain 5 = .ok (.iconst 0, 1) := by decide +kernel
theorem d_Md_domain_6 : decode c_Md_domain 6 = .ok (.istore_n 1, 1) := by decide +kernel
theorem d_Md_domain_7 : decode c_Md_domain 7 = .ok (.iconst 0, 1) := by decide +kernel
theorem d_Md_domain_8 : decode c_Md_domain 8 = .ok (.istore_n 2, 1) := by decide +kernel
theorem d_Md_domain_9 : decode c_Md_domain 9 = .ok (.iload_n 2, 1) := by decide +kernel
theorem d_Md_domain_10 : decode c_Md_domain 10 = .ok (.aload_n 0, 1) := by decide +kernel
theorem d_Md_domain_11 : decode c_Md_domain 11 = .ok (.getfield 170, 3) := by decide +kernel
theorem d_Md_domain_14 : decode c_Md_domain 14 = .ok (.if_icmp .ge 44, 3) := by decide +kernel
theorem d_Md_domain_17 : decode c_Md_domain 17 = .ok (.aload_n 0, 1) := by decide +kernel
theorem d_Md_domain_18 : decode c_Md_domain 18 = .ok (.getfield 37, 3) := by decide +kernel
theorem d_Md_domain_21 : decode c_Md_domain 21 = .ok (.aload_n 0, 1) := by decide +kernel
theorem d_Md_domain_22 : decode c_Md_domain 22 = .ok (.getfield 47, 3) := by decide +kernel
theorem d_Md_domain_25 : decode c_Md_domain 25 = .ok (.iconst 4, 1) := by decide +kernel
theorem d_Md_domain_26 : decode c_Md_domain 26 = .ok (.iload_n 2, 1) := by decide +kernel
theorem d_Md_domain_27 : decode c_Md_domain 27 = .ok (.imul, 1) := by decide +kernel
theorem d_Md_domain_28 : decode c_Md_domain 28 = .ok (.iaload, 1) := by decide +kernel
theorem d_Md_domain_29 : decode c_Md_domain 29 = .ok (.iaload, 1) := by decide +kernel
theorem d_Md_domain_30 : decode c_Md_domain 30 = .ok (.iconst (-1), 1) := by decide +kernel
theorem d_Md_domain_31 : decode c_Md_domain 31 = .ok (.if_icmp .eq 21, 3) := by decide +kernel
theorem d_Md_domain_34 : decode c_Md_domain 34 = .ok (.iload_n 1, 1) := by decide +kernel
theorem d_Md_domain_35 : decode c_Md_domain 35 = .ok (.iconst 1, 1) := by decide +kernel
theorem d_Md_domain_36 : decode c_Md_domain 36 = .ok (.aload_n 0, 1) := by decide +kernel
theorem d_Md_domain_37 : decode c_Md_domain 37 = .ok (.getfield 37, 3) := by decide +kernel
theorem d_Md_domain_40 : decode c_Md_domain 40 = .ok (.aload_n 0, 1) := by decide +kernel
theorem d_Md_domain_41 : decode c_Md_domain 41 = .ok (.getfield 47, 3) := by decide +kernel
theorem d_Md_domain_44 : decode c_Md_domain 44 = .ok (.iconst 4, 1) := by decide +kernel
theorem d_Md_domain_45 : decode c_Md_domain 45 = .ok (.iload_n 2, 1) := by decide +kernel
theorem d_Md_domain_46 : decode c_Md_domain 46 = .ok (.imul, 1) := by decide +kernel
theorem d_Md_domain_47 : decode c_Md_domain 47 = .ok (.iaload, 1) := by decide +kernel
theorem d_Md_domain_48 : decode c_Md_domain 48 = .ok (.iaload, 1) := by decide +kernel
theorem d_Md_domain_49 : decode c_Md_domain 49 = .ok (.ishl, 1) := by decide +kernel
theorem d_Md_domain_50 : decode c_Md_domain 50 = .ok (.ior, 1) := by decide +kernel
theorem d_Md_domain_51 : decode c_Md_domain 51 = .ok (.istore_n 1, 1) := by decide +kernel
theorem d_Md_domain_52 : decode c_Md_domain 52 = .ok (.iinc 2 1, 3) := by decide +kernel
theorem d_Md_domain_55 : decode c_Md_domain 55 = .ok (.goto (-46), 3) := by decide +kernel
theorem d_Md_domain_58 : decode c_Md_domain 58 = .ok (.iload_n 1, 1) := by decide +kernel
theorem d_Md_domain_59 : decode c_Md_domain 59 = .ok (.ireturn, 1) := by decide +kernel
theorem d_Md_above_0 : decode c_Md_above 0 = .ok (.aload_n 0, 1) := by decide +kernel
theorem d_Md_above_1 : decode c_Md_above 1 = .ok (.aload_n 0, 1) := by decide +kernel
theorem d_Md_above_2 : decode c_Md_above 2 = .ok (.iload_n 1, 1) := by decide +kernel
theorem d_Md_above_3 : decode c_Md_above 3 = .ok (.invokevirtual 109, 3) := by decide +kernel
theorem d_Md_above_6 : decode c_Md_above 6 = .ok (.ifCond .eq 15, 3) := by decide +kernel
theorem d_Md_above_9 : decode c_Md_above 9 = .ok (.aload_n 0, 1) := by decide +kernel
theorem d_Md_above_10 : decode c_Md_above 10 = .ok (.iload_n 2, 1) := by decide +kernel
theorem d_Md_above_11 : decode c_Md_above 11 = .ok (.invokevirtual 109, 3) := by decide +kernel
theorem d_Md_above_14 : decode c_Md_above 14 = .ok (.ifCond .eq 7, 3) := by decide +kernel
theorem d_Md_above_17 : decode c_Md_above 17 = .ok (.iconst 0, 1) := by decide +kernel
theorem d_Md_above_18 : decode c_Md_above 18 = .ok (.goto 4, 3) := by decide +kernel
theorem d_Md_above_21 : decode c_Md_above 21 = .ok (.iconst 1, 1) := by decide +kernel
theorem d_Md_above_22 : decode c_Md_above 22 = .ok (.putfield 86, 3) := by decide +kernel
theorem d_Md_above_25 : decode c_Md_above 25 = .ok (.aload_n 0, 1) := by decide +kernel
theorem d_Md_above_26 : decode c_Md_above 26 = .ok (.getfield 86, 3) := by decide +kernel
theorem d_Md_above_29 : decode c_Md_above 29 = .ok (.ifCond .ne 16, 3) := by decide +kernel
theorem d_Md_above_32 : decode c_Md_above 32 = .ok (.aload_n 0, 1) := by decide +kernel
theorem d_Md_above_33 : decode c_Md_above 33 = .ok (.iload_n 1, 1) := by decide +kernel
theorem d_Md_above_34 : decode c_Md_above 34 = .ok (.iload_n 2, 1) := by decide +kernel
theorem d_Md_above_35 : decode c_Md_above 35 = .ok (.invokevirtual 138, 3) := by decide +kernel
theorem d_Md_above_38 : decode c_Md_above 38 = .ok (.ifCond .eq 7, 3) := by decide +kernel
theorem d_Md_above_41 : decode c_Md_above 41 = .ok (.iconst 1, 1) := by decide +kernel
theorem d_Md_above_42 : decode c_Md_above 42 = .ok (.goto 4, 3) := by decide +kernel
theorem d_Md_above_45 : decode c_Md_above 45 = .ok (.iconst 0, 1) := by decide +kernel
theorem d_Md_above_46 : decode c_Md_above 46 = .ok (.ireturn, 1) := by decide +kernel
theorem d_Md_measure_0 : decode c_Md_measure 0 = .ok (.aload_n 0, 1) := by decide +kernel
theorem d_Md_measure_1 : decode c_Md_measure 1 = .ok (.aload_n 0, 1) := by decide +kernel
theorem d_Md_measure_2 : decode c_Md_measure 2 = .ok (.iload_n 1, 1) := by decide +kernel
theorem d_Md_measure_3 : decode c_Md_measure 3 = .ok (.invokevirtual 109, 3) := by decide +kernel
theorem d_Md_measure_6 : decode c_Md_measure 6 = .ok (.ifCond .ne 7, 3) := by decide +kernel
theorem d_Md_measure_9 : decode c_Md_measure 9 = .ok (.iconst 1, 1) := by decide +kernel
theorem d_Md_measure_10 : decode c_Md_measure 10 = .ok (.goto 17, 3) := by decide +kernel
theorem d_Md_measure_13 : decode c_Md_measure 13 = .ok (.iload_n 2, 1) := by decide +kernel
theorem d_Md_measure_14 : decode c_Md_measure 14 = .ok (.ifCond .lt 8, 3) := by decide +kernel
theorem d_Md_measure_17 : decode c_Md_measure 17 = .ok (.iload_n 2, 1) := by decide +kernel
theorem d_Md_measure_18 : decode c_Md_measure 18 = .ok (.iconst 3, 1) := by decide +kernel
theorem d_Md_measure_19 : decode c_Md_measure 19 = .ok (.if_icmp .le 7, 3) := by decide +kernel
theorem d_Md_measure_22 : decode c_Md_measure 22 = .ok (.iconst 2, 1) := by decide +kernel
theorem d_Md_measure_23 : decode c_Md_measure 23 = .ok (.goto 4, 3) := by decide +kernel
theorem d_Md_measure_26 : decode c_Md_measure 26 = .ok (.iconst 0, 1) := by decide +kernel
theorem d_Md_measure_27 : decode c_Md_measure 27 = .ok (.putfield 86, 3) := by decide +kernel
theorem d_Md_measure_30 : decode c_Md_measure 30 = .ok (.aload_n 0, 1) := by decide +kernel
theorem d_Md_measure_31 : decode c_Md_measure 31 = .ok (.getfield 86, 3) := by decide +kernel
theorem d_Md_measure_34 : decode c_Md_measure 34 = .ok (.ifCond .eq 5, 3) := by decide +kernel
theorem d_Md_measure_37 : decode c_Md_measure 37 = .ok (.iconst 0, 1) := by decide +kernel
theorem d_Md_measure_38 : decode c_Md_measure 38 = .ok (.ireturn, 1) := by decide +kernel
theorem d_Md_measure_39 : decode c_Md_measure 39 = .ok (.iload_n 2, 1) := by decide +kernel
theorem d_Md_measure_40 : decode c_Md_measure 40 = .ok (.ifCond .ne 12, 3) := by decide +kernel
theorem d_Md_measure_43 : decode c_Md_measure 43 = .ok (.aload_n 0, 1) := by decide +kernel
theorem d_Md_measure_44 : decode c_Md_measure 44 = .ok (.getfield 19, 3) := by decide +kernel
theorem d_Md_measure_47 : decode c_Md_measure 47 = .ok (.iload_n 1, 1) := by decide +kernel
theorem d_Md_measure_48 : decode c_Md_measure 48 = .ok (.iaload, 1) := by decide +kernel
theorem d_Md_measure_49 : decode c_Md_measure 49 = .ok (.goto 37, 3) := by decide +kernel
theorem d_Md_measure_52 : decode c_Md_measure 52 = .ok (.iload_n 2, 1) := by decide +kernel
theorem d_Md_measure_53 : decode c_Md_measure 53 = .ok (.iconst 1, 1) := by decide +kernel
theorem d_Md_measure_54 : decode c_Md_measure 54 = .ok (.if_icmp .ne 12, 3) := by decide +kernel
theorem d_Md_measure_57 : decode c_Md_measure 57 = .ok (.aload_n 0, 1) := by decide +kernel
theorem d_Md_measure_58 : decode c_Md_measure 58 = .ok (.getfield 22, 3) := by decide +kernel
theorem d_Md_measure_61 : decode c_Md_measure 61 = .ok (.iload_n 1, 1) := by decide +kernel
theorem d_Md_measure_62 : decode c_Md_measure 62 = .ok (.iaload, 1) := by decide +kernel
theorem d_Md_measure_63 : decode c_Md_measure 63 = .ok (.goto 23, 3) := by decide +kernel
theorem d_Md_measure_66 : decode c_Md_measure 66 = .ok (.iload_n 2, 1) := by decide +kernel
theorem d_Md_measure_67 : decode c_Md_measure 67 = .ok (.iconst 2, 1) := by decide +kernel
theorem d_Md_measure_68 : decode c_Md_measure 68 = .ok (.if_icmp .ne 12, 3) := by decide +kernel
theorem d_Md_measure_71 : decode c_Md_measure 71 = .ok (.aload_n 0, 1) := by decide +kernel
theorem d_Md_measure_72 : decode c_Md_measure 72 = .ok (.getfield 25, 3) := by decide +kernel
theorem d_Md_measure_75 : decode c_Md_measure 75 = .ok (.iload_n 1, 1) := by decide +kernel
theorem d_Md_measure_76 : decode c_Md_measure 76 = .ok (.iaload, 1) := by decide +kernel
theorem d_Md_measure_77 : decode c_Md_measure 77 = .ok (.goto 9, 3) := by decide +kernel
theorem d_Md_measure_80 : decode c_Md_measure 80 = .ok (.aload_n 0, 1) := by decide +kernel
theorem d_Md_measure_81 : decode c_Md_measure 81 = .ok (.getfield 28, 3) := by decide +kernel
theorem d_Md_measure_84 : decode c_Md_measure 84 = .ok (.iload_n 1, 1) := by decide +kernel
theorem d_Md_measure_85 : decode c_Md_measure 85 = .ok (.iaload, 1) := by decide +kernel
theorem d_Md_measure_86 : decode c_Md_measure 86 = .ok (.ireturn, 1) := by decide +kernel
theorem d_Md_at_0 : decode c_Md_at 0 = .ok (.aload_n 0, 1) := by decide +kernel
theorem d_Md_at_1 : decode c_Md_at 1 = .ok (.aload_n 0, 1) := by decide +kernel
theorem d_Md_at_2 : decode c_Md_at 2 = .ok (.iload_n 1, 1) := by decide +kernel
theorem d_Md_at_3 : decode c_Md_at 3 = .ok (.invokevirtual 109, 3) := by decide +kernel
theorem d_Md_at_6 : decode c_Md_at 6 = .ok (.ifCond .eq 7, 3) := by decide +kernel
theorem d_Md_at_9 : decode c_Md_at 9 = .ok (.iconst 0, 1) := by decide +kernel
theorem d_Md_at_10 : decode c_Md_at 10 = .ok (.goto 4, 3) := by decide +kernel
theorem d_Md_at_13 : decode c_Md_at 13 = .ok (.iconst 1, 1) := by decide +kernel
theorem d_Md_at_14 : decode c_Md_at 14 = .ok (.putfield 86, 3) := by decide +kernel
theorem d_Md_at_17 : decode c_Md_at 17 = .ok (.aload_n 0, 1) := by decide +kernel
theorem d_Md_at_18 : decode c_Md_at 18 = .ok (.getfield 86, 3) := by decide +kernel
theorem d_Md_at_21 : decode c_Md_at 21 = .ok (.ifCond .eq 5, 3) := by decide +kernel
theorem d_Md_at_24 : decode c_Md_at 24 = .ok (.iconst 0, 1) := by decide +kernel
theorem d_Md_at_25 : decode c_Md_at 25 = .ok (.ireturn, 1) := by decide +kernel
theorem d_Md_at_26 : decode c_Md_at 26 = .ok (.aload_n 0, 1) := by decide +kernel
theorem d_Md_at_27 : decode c_Md_at 27 = .ok (.iload_n 1, 1) := by decide +kernel
theorem d_Md_at_28 : decode c_Md_at 28 = .ok (.aload_n 0, 1) := by decide +kernel
theorem d_Md_at_29 : decode c_Md_at 29 = .ok (.getfield 53, 3) := by decide +kernel
theorem d_Md_at_32 : decode c_Md_at 32 = .ok (.iconst 0, 1) := by decide +kernel
theorem d_Md_at_33 : decode c_Md_at 33 = .ok (.invokevirtual 117, 3) := by decide +kernel
theorem d_Md_at_36 : decode c_Md_at 36 = .ok (.istore_n 3, 1) := by decide +kernel
theorem d_Md_at_37 : decode c_Md_at 37 = .ok (.iload_n 2, 1) := by decide +kernel
theorem d_Md_at_38 : decode c_Md_at 38 = .ok (.ifCond .lt 8, 3) := by decide +kernel
theorem d_Md_at_41 : decode c_Md_at 41 = .ok (.iload_n 2, 1) := by decide +kernel
theorem d_Md_at_42 : decode c_Md_at 42 = .ok (.iload_n 3, 1) := by decide +kernel
theorem d_Md_at_43 : decode c_Md_at 43 = .ok (.if_icmp .lt 7, 3) := by decide +kernel
theorem d_Md_at_46 : decode c_Md_at 46 = .ok (.iconst (-1), 1) := by decide +kernel
theorem d_Md_at_47 : decode c_Md_at 47 = .ok (.goto 9, 3) := by decide +kernel
theorem d_Md_at_50 : decode c_Md_at 50 = .ok (.aload_n 0, 1) := by decide +kernel
theorem d_Md_at_51 : decode c_Md_at 51 = .ok (.getfield 53, 3) := by decide +kernel
theorem d_Md_at_54 : decode c_Md_at 54 = .ok (.iload_n 2, 1) := by decide +kernel
theorem d_Md_at_55 : decode c_Md_at 55 = .ok (.iaload, 1) := by decide +kernel
theorem d_Md_at_56 : decode c_Md_at 56 = .ok (.ireturn, 1) := by decide +kernel
theorem d_Md_head_0 : decode c_Md_head 0 = .ok (.aload_n 0, 1) := by decide +kernel
theorem d_Md_head_1 : decode c_Md_head 1 = .ok (.aload_n 0, 1) := by decide +kernel
theorem d_Md_head_2 : decode c_Md_head 2 = .ok (.iload_n 1, 1) := by decide +kernel
theorem d_Md_head_3 : decode c_Md_head 3 = .ok (.invokevirtual 109, 3) := by decide +kernel
theorem d_Md_head_6 : decode c_Md_head 6 = .ok (.ifCond .eq 7, 3) := by decide +kernel
theorem d_Md_head_9 : decode c_Md_head 9 = .ok (.iconst 0, 1) := by decide +kernel
theorem d_Md_head_10 : decode c_Md_head 10 = .ok (.goto 4, 3) := by decide +kernel
theorem d_Md_head_13 : decode c_Md_head 13 = .ok (.iconst 1, 1) := by decide +kernel
theorem d_Md_head_14 : decode c_Md_head 14 = .ok (.putfield 86, 3) := by decide +kernel
theorem d_Md_head_17 : decode c_Md_head 17 = .ok (.aload_n 0, 1) := by decide +kernel
theorem d_Md_head_18 : decode c_Md_head 18 = .ok (.getfield 86, 3) := by decide +kernel
theorem d_Md_head_21 : decode c_Md_head 21 = .ok (.ifCond .eq 5, 3) := by decide +kernel
theorem d_Md_head_24 : decode c_Md_head 24 = .ok (.iconst 0, 1) := by decide +kernel
theorem d_Md_head_25 : decode c_Md_head 25 = .ok (.ireturn, 1) := by decide +kernel
theorem d_Md_head_26 : decode c_Md_head 26 = .ok (.aload_n 0, 1) := by decide +kernel
theorem d_Md_head_27 : decode c_Md_head 27 = .ok (.getfield 7, 3) := by decide +kernel
theorem d_Md_head_30 : decode c_Md_head 30 = .ok (.iload_n 1, 1) := by decide +kernel
theorem d_Md_head_31 : decode c_Md_head 31 = .ok (.iaload, 1) := by decide +kernel
theorem d_Md_head_32 : decode c_Md_head 32 = .ok (.sipush 200, 3) := by decide +kernel
theorem d_Md_head_35 : decode c_Md_head 35 = .ok (.if_icmp .lt 19, 3) := by decide +kernel
theorem d_Md_head_38 : decode c_Md_head 38 = .ok (.bipush 100, 2) := by decide +kernel
theorem d_Md_head_40 : decode c_Md_head 40 = .ok (.aload_n 0, 1) := by decide +kernel
theorem d_Md_head_41 : decode c_Md_head 41 = .ok (.getfield 7, 3) := by decide +kernel
theorem d_Md_head_44 : decode c_Md_head 44 = .ok (.iload_n 1, 1) := by decide +kernel
theorem d_Md_head_45 : decode c_Md_head 45 = .ok (.iaload, 1) := by decide +kernel
theorem d_Md_head_46 : decode c_Md_head 46 = .ok (.iadd, 1) := by decide +kernel
theorem d_Md_head_47 : decode c_Md_head 47 = .ok (.sipush 200, 3) := by decide +kernel
theorem d_Md_head_50 : decode c_Md_head 50 = .ok (.isub, 1) := by decide +kernel
theorem d_Md_head_51 : decode c_Md_head 51 = .ok (.goto 34, 3) := by decide +kernel
theorem d_Md_head_54 : decode c_Md_head 54 = .ok (.aload_n 0, 1) := by decide +kernel
theorem d_Md_head_55 : decode c_Md_head 55 = .ok (.getfield 7, 3) := by decide +kernel
theorem d_Md_head_58 : decode c_Md_head 58 = .ok (.iload_n 1, 1) := by decide +kernel
theorem d_Md_head_59 : decode c_Md_head 59 = .ok (.iaload, 1) := by decide +kernel
theorem d_Md_head_60 : decode c_Md_head 60 = .ok (.bipush 100, 2) := by decide +kernel
theorem d_Md_head_62 : decode c_Md_head 62 = .ok (.if_icmp .lt 17, 3) := by decide +kernel
theorem d_Md_head_65 : decode c_Md_head 65 = .ok (.iconst (-1), 1) := by decide +kernel
theorem d_Md_head_66 : decode c_Md_head 66 = .ok (.aload_n 0, 1) := by decide +kernel
theorem d_Md_head_67 : decode c_Md_head 67 = .ok (.getfield 7, 3) := by decide +kernel
theorem d_Md_head_70 : decode c_Md_head 70 = .ok (.iload_n 1, 1) := by decide +kernel
theorem d_Md_head_71 : decode c_Md_head 71 = .ok (.iaload, 1) := by decide +kernel
theorem d_Md_head_72 : decode c_Md_head 72 = .ok (.bipush 100, 2) := by decide +kernel
theorem d_Md_head_74 : decode c_Md_head 74 = .ok (.isub, 1) := by decide +kernel
theorem d_Md_head_75 : decode c_Md_head 75 = .ok (.isub, 1) := by decide +kernel
theorem d_Md_head_76 : decode c_Md_head 76 = .ok (.goto 9, 3) := by decide +kernel
theorem d_Md_head_79 : decode c_Md_head 79 = .ok (.aload_n 0, 1) := by decide +kernel
theorem d_Md_head_80 : decode c_Md_head 80 = .ok (.getfield 7, 3) := by decide +kernel
theorem d_Md_head_83 : decode c_Md_head 83 = .ok (.iload_n 1, 1) := by decide +kernel
theorem d_Md_head_84 : decode c_Md_head 84 = .ok (.iaload, 1) := by decide +kernel
theorem d_Md_head_85 : decode c_Md_head 85 = .ok (.ireturn, 1) := by decide +kernel
theorem d_Md_count_0 : decode c_Md_count 0 = .ok (.aload_n 0, 1) := by decide +kernel
theorem d_Md_count_1 : decode c_Md_count 1 = .ok (.iconst 0, 1) := by decide +kernel
theorem d_Md_count_2 : decode c_Md_count 2 = .ok (.putfield 86, 3) := by decide +kernel
theorem d_Md_count_5 : decode c_Md_count 5 = .ok (.iload_n 1, 1) := by decide +kernel
theorem d_Md_count_6 : decode c_Md_count 6 = .ok (.ifCond .ne 10, 3) := by decide +kernel
theorem d_Md_count_9 : decode c_Md_count 9 = .ok (.aload_n 0, 1) := by decide +kernel
theorem d_Md_count_10 : decode c_Md_count 10 = .ok (.getfield 90, 3) := by decide +kernel
theorem d_Md_count_13 : decode c_Md_count 13 = .ok (.goto 28, 3) := by decide +kernel
theorem d_Md_count_16 : decode c_Md_count 16 = .ok (.iload_n 1, 1) := by decide +kernel
theorem d_Md_count_17 : decode c_Md_count 17 = .ok (.iconst 1, 1) := by decide +kernel
theorem d_Md_count_18 : decode c_Md_count 18 = .ok (.if_icmp .ne 10, 3) := by decide +kernel
theorem d_Md_count_21 : decode c_Md_count 21 = .ok (.aload_n 0, 1) := by decide +kernel
theorem d_Md_count_22 : decode c_Md_count 22 = .ok (.getfield 129, 3) := by decide +kernel
theorem d_Md_count_25 : decode c_Md_count 25 = .ok (.goto 16, 3) := by decide +kernel
theorem d_Md_count_28 : decode c_Md_count 28 = .ok (.iload_n 1, 1) := by decide +kernel
theorem d_Md_count_29 : decode c_Md_count 29 = .ok (.iconst 2, 1) := by decide +kernel
theorem d_Md_count_30 : decode c_Md_count 30 = .ok (.if_icmp .ne 10, 3) := by decide +kernel
theorem d_Md_count_33 : decode c_Md_count 33 = .ok (.aload_n 0, 1) := by decide +kernel
theorem d_Md_count_34 : decode c_Md_count 34 = .ok (.getfield 170, 3) := by decide +kernel
theorem d_Md_count_37 : decode c_Md_count 37 = .ok (.goto 4, 3) := by decide +kernel
theorem d_Md_count_40 : decode c_Md_count 40 = .ok (.iconst (-1), 1) := by decide +kernel
theorem d_Md_count_41 : decode c_Md_count 41 = .ok (.ireturn, 1) := by decide +kernel
end
section
/-! ONE list of words for all methods; what a place of a pool means -/
def xTs : List Cond := lw_tbl.filter goodWord
theorem xw_mem {w : Cond} (i : Nat) (h : tables_1[i]? = some w) (hg : goodWord w = true) : w ∈ xTs := List.mem_filter.mpr ⟨List.mem_append_right _ (List.mem_of_getElem? h), hg⟩
theorem xw_sel {w : Cond} (i : Nat) (h : (k2_sels lw_privs)[i]? = some w) (hg : goodWord w = true) : w ∈ xTs := List.mem_filter.mpr ⟨List.mem_append_left _ (List.mem_of_getElem? h), hg⟩
/-- a field by its place in the pool of own: it is the fi-th of the ci-th of ours -/
def xFld (own : String) (index ci fi : Nat) (fin : Bool) (ty : FieldType) : Prop := ∃ (C : String) (T : u_T) (N : Nat) (ty0 : Nat → FieldType), vwCl[ci]? = some (C, T, N) ∧ (∀ w ∈ u_ws C T N, w ∈ xTs) ∧ fi < N ∧ Cond.fieldLink own index (T fi).1 (T fi).2.1 (T fi).2.2.1 ∈ xTs ∧ parseFieldDescriptor (T fi).2.2.1 = some ty ∧ (T fi).2.2.2 = fin ∧ (∀ k, k < N → parseFieldDescriptor (T k).2.2.1 = some (ty0 k)) ∧ (∀ a, a < N → ∀ b, b < N → a ≠ b → (T a).2.1 ≠ (T b).2.1) ∧ (fin = true → (T fi).1 = own)
/-- enough of it for a read -/
def xFldR (own : String) (index ci fi : Nat) : Prop := ∃ (C : String) (T : u_T) (N : Nat), vwCl[ci]? = some (C, T, N) ∧ (∀ w ∈ u_ws C T N, w ∈ xTs) ∧ fi < N ∧ Cond.fieldLink own index (T fi).1 (T fi).2.1 (T fi).2.2.1 ∈ xTs
/-- a method by its place in the pool of own -/
def xMw (own : String) (index : Nat) (y : MethodName) (bytes : ByteArray) (maxL : Nat) (ret : Option FieldType) (k : Nat) : Prop := (y.cls ≠ "java/lang/invoke/MethodHandle" ∧ y.cls ≠ "java/lang/invoke/VarHandle" ∧ (parseMethodDescriptor y.desc).map (fun d => d.parameters.length) = some k) ∧ Cond.methodLink own index y ∈ xTs ∧ Cond.initialized y.cls ∈ xTs ∧ Cond.code y bytes maxL ret ∈ xTs
end
section
/-! words by their places -/
theorem xin_Ro : ∀ w ∈ u_ws R_Ro T_Ro 2, w ∈ xTs := by decide +kernel
theorem xin_Ru : ∀ w ∈ u_ws R_Ru T_Ru 7, w ∈ xTs := by decide +kernel
theorem xin_Rn : ∀ w ∈ u_ws R_Rn T_Rn 12, w ∈ xTs := by decide +kernel
theorem xin_Tr : ∀ w ∈ u_ws R_Tr T_Tr 11, w ∈ xTs := by decide +kernel
theorem xin_RS : ∀ w ∈ u_ws R_RS T_RS 7, w ∈ xTs := by decide +kernel
theorem xin_Md : ∀ w ∈ u_ws R_Md T_Md 35, w ∈ xTs := by decide +kernel
theorem xf_Tr_9 : xFld R_Tr 9 3 0 true (.array .int) := ⟨R_Tr, T_Tr, 11, t_Tr, rfl, xin_Tr, by decide, xw_mem 32 (by decide +kernel) (by decide +kernel), by decide +kernel, rfl, tk_Tr, n_Tr, fun _ => rfl⟩
theorem xf_Tr_15 : xFld R_Tr 15 3 1 true (.array .int) := ⟨R_Tr, T_Tr, 11, t_Tr, rfl, xin_Tr, by decide, xw_mem 35 (by decide +kernel) (by decide +kernel), by decide +kernel, rfl, tk_Tr, n_Tr, fun _ => rfl⟩
theorem xf_Tr_18 : xFld R_Tr 18 3 2 true (.array .int) := ⟨R_Tr, T_Tr, 11, t_Tr, rfl, xin_Tr, by decide, xw_mem 37 (by decide +kernel) (by decide +kernel), by decide +kernel, rfl, tk_Tr, n_Tr, fun _ => rfl⟩
theorem xf_Tr_21 : xFld R_Tr 21 3 3 true (.array .int) := ⟨R_Tr, T_Tr, 11, t_Tr, rfl, xin_Tr, by decide, xw_mem 39 (by decide +kernel) (by decide +kernel), by decide +kernel, rfl, tk_Tr, n_Tr, fun _ => rfl⟩
theorem xf_Tr_24 : xFld R_Tr 24 3 4 true (.array .int) := ⟨R_Tr, T_Tr, 11, t_Tr, rfl, xin_Tr, by decide, xw_mem 42 (by decide +kernel) (by decide +kernel), by decide +kernel, rfl, tk_Tr, n_Tr, fun _ => rfl⟩
theorem xf_Tr_27 : xFld R_Tr 27 3 5 true (.array .int) := ⟨R_Tr, T_Tr, 11, t_Tr, rfl, xin_Tr, by decide, xw_mem 45 (by decide +kernel) (by decide +kernel), by decide +kernel, rfl, tk_Tr, n_Tr, fun _ => rfl⟩
theorem xf_Tr_30 : xFld R_Tr 30 3 6 true (.array .int) := ⟨R_Tr, T_Tr, 11, t_Tr, rfl, xin_Tr, by decide, xw_mem 47 (by decide +kernel) (by decide +kernel), by decide +kernel, rfl, tk_Tr, n_Tr, fun _ => rfl⟩
theorem xf_Tr_33 : xFld R_Tr 33 3 7 true (.array .int) := ⟨R_Tr, T_Tr, 11, t_Tr, rfl, xin_Tr, by decide, xw_mem 50 (by decide +kernel) (by decide +kernel), by decide +kernel, rfl, tk_Tr, n_Tr, fun _ => rfl⟩
theorem xf_Tr_36 : xFld R_Tr 36 3 8 true (.array .int) := ⟨R_Tr, T_Tr, 11, t_Tr, rfl, xin_Tr, by decide, xw_mem 51 (by decide +kernel) (by decide +kernel), by decide +kernel, rfl, tk_Tr, n_Tr, fun _ => rfl⟩
theorem xf_Tr_39 : xFld R_Tr 39 3 9 true (.array .int) := ⟨R_Tr, T_Tr, 11, t_Tr, rfl, xin_Tr, by decide, xw_mem 52 (by decide +kernel) (by decide +kernel), by decide +kernel, rfl, tk_Tr, n_Tr, fun _ => rfl⟩
theorem xf_Tr_42 : xFld R_Tr 42 3 10 false .int := ⟨R_Tr, T_Tr, 11, t_Tr, rfl, xin_Tr, by decide, xw_mem 53 (by decide +kernel) (by decide +kernel), by decide +kernel, rfl, tk_Tr, n_Tr, fun _ => rfl⟩
theorem xf_RS_110 : xFld R_RS 110 3 10 false .int := ⟨R_Tr, T_Tr, 11, t_Tr, rfl, xin_Tr, by decide, xw_mem 54 (by decide +kernel) (by decide +kernel), by decide +kernel, rfl, tk_Tr, n_Tr, fun h => by cases h⟩
theorem xf_Ru_9 : xFld R_Ru 9 1 0 true (.array .int) := ⟨R_Ru, T_Ru, 7, t_Ru, rfl, xin_Ru, by decide, xw_mem 86 (by decide +kernel) (by decide +kernel), by decide +kernel, rfl, tk_Ru, n_Ru, fun _ => rfl⟩
theorem xf_Ru_15 : xFld R_Ru 15 1 1 true (.array .int) := ⟨R_Ru, T_Ru, 7, t_Ru, rfl, xin_Ru, by decide, xw_mem 88 (by decide +kernel) (by decide +kernel), by decide +kernel, rfl, tk_Ru, n_Ru, fun _ => rfl⟩
theorem xf_Ru_18 : xFld R_Ru 18 1 2 true (.array .int) := ⟨R_Ru, T_Ru, 7, t_Ru, rfl, xin_Ru, by decide, xw_mem 90 (by decide +kernel) (by decide +kernel), by decide +kernel, rfl, tk_Ru, n_Ru, fun _ => rfl⟩
theorem xf_Ru_21 : xFld R_Ru 21 1 3 true (.array .boolean) := ⟨R_Ru, T_Ru, 7, t_Ru, rfl, xin_Ru, by decide, xw_mem 92 (by decide +kernel) (by decide +kernel), by decide +kernel, rfl, tk_Ru, n_Ru, fun _ => rfl⟩
theorem xf_Ru_25 : xFld R_Ru 25 1 4 true (.array .boolean) := ⟨R_Ru, T_Ru, 7, t_Ru, rfl, xin_Ru, by decide, xw_mem 95 (by decide +kernel) (by decide +kernel), by decide +kernel, rfl, tk_Ru, n_Ru, fun _ => rfl⟩
theorem xf_Ru_28 : xFld R_Ru 28 1 5 true (.array .int) := ⟨R_Ru, T_Ru, 7, t_Ru, rfl, xin_Ru, by decide, xw_mem 97 (by decide +kernel) (by decide +kernel), by decide +kernel, rfl, tk_Ru, n_Ru, fun _ => rfl⟩
theorem xf_Ru_31 : xFld R_Ru 31 1 6 false .int := ⟨R_Ru, T_Ru, 7, t_Ru, rfl, xin_Ru, by decide, xw_mem 99 (by decide +kernel) (by decide +kernel), by decide +kernel, rfl, tk_Ru, n_Ru, fun _ => rfl⟩
theorem xf_Rn_80 : xFld R_Rn 80 1 6 false .int := ⟨R_Ru, T_Ru, 7, t_Ru, rfl, xin_Ru, by decide, xw_mem 100 (by decide +kernel) (by decide +kernel), by decide +kernel, rfl, tk_Ru, n_Ru, fun h => by cases h⟩
theorem xf_RS_164 : xFld R_RS 164 1 6 false .int := ⟨R_Ru, T_Ru, 7, t_Ru, rfl, xin_Ru, by decide, xw_mem 101 (by decide +kernel) (by decide +kernel), by decide +kernel, rfl, tk_Ru, n_Ru, fun h => by cases h⟩
theorem xf_Rn_45 : xFld R_Rn 45 2 0 true (.object "RuleSteps$Trees") := ⟨R_Rn, T_Rn, 12, t_Rn, rfl, xin_Rn, by decide, xw_mem 124 (by decide +kernel) (by decide +kernel), by decide +kernel, rfl, tk_Rn, n_Rn, fun _ => rfl⟩
theorem xf_Rn_49 : xFld R_Rn 49 2 1 true (.object "RuleSteps$Rules") := ⟨R_Rn, T_Rn, 12, t_Rn, rfl, xin_Rn, by decide, xw_mem 125 (by decide +kernel) (by decide +kernel), by decide +kernel, rfl, tk_Rn, n_Rn, fun _ => rfl⟩
theorem xf_Rn_9 : xFld R_Rn 9 2 2 true (.array .boolean) := ⟨R_Rn, T_Rn, 12, t_Rn, rfl, xin_Rn, by decide, xw_mem 126 (by decide +kernel) (by decide +kernel), by decide +kernel, rfl, tk_Rn, n_Rn, fun _ => rfl⟩
theorem xf_Rn_15 : xFld R_Rn 15 2 3 true (.array .int) := ⟨R_Rn, T_Rn, 12, t_Rn, rfl, xin_Rn, by decide, xw_mem 127 (by decide +kernel) (by decide +kernel), by decide +kernel, rfl, tk_Rn, n_Rn, fun _ => rfl⟩
theorem xf_Rn_19 : xFld R_Rn 19 2 4 true (.array .int) := ⟨R_Rn, T_Rn, 12, t_Rn, rfl, xin_Rn, by decide, xw_mem 128 (by decide +kernel) (by decide +kernel), by decide +kernel, rfl, tk_Rn, n_Rn, fun _ => rfl⟩
theorem xf_Rn_22 : xFld R_Rn 22 2 5 false .int := ⟨R_Rn, T_Rn, 12, t_Rn, rfl, xin_Rn, by decide, xw_mem 129 (by decide +kernel) (by decide +kernel), by decide +kernel, rfl, tk_Rn, n_Rn, fun _ => rfl⟩
theorem xf_Rn_26 : xFld R_Rn 26 2 6 false .int := ⟨R_Rn, T_Rn, 12, t_Rn, rfl, xin_Rn, by decide, xw_mem 130 (by decide +kernel) (by decide +kernel), by decide +kernel, rfl, tk_Rn, n_Rn, fun _ => rfl⟩
theorem xf_Rn_29 : xFld R_Rn 29 2 7 false .int := ⟨R_Rn, T_Rn, 12, t_Rn, rfl, xin_Rn, by decide, xw_mem 131 (by decide +kernel) (by decide +kernel), by decide +kernel, rfl, tk_Rn, n_Rn, fun _ => rfl⟩
theorem xf_Rn_32 : xFld R_Rn 32 2 8 true (.array .int) := ⟨R_Rn, T_Rn, 12, t_Rn, rfl, xin_Rn, by decide, xw_mem 132 (by decide +kernel) (by decide +kernel), by decide +kernel, rfl, tk_Rn, n_Rn, fun _ => rfl⟩
theorem xf_Rn_35 : xFld R_Rn 35 2 9 true (.array .boolean) := ⟨R_Rn, T_Rn, 12, t_Rn, rfl, xin_Rn, by decide, xw_mem 133 (by decide +kernel) (by decide +kernel), by decide +kernel, rfl, tk_Rn, n_Rn, fun _ => rfl⟩
theorem xf_Rn_38 : xFld R_Rn 38 2 10 false .int := ⟨R_Rn, T_Rn, 12, t_Rn, rfl, xin_Rn, by decide, xw_mem 134 (by decide +kernel) (by decide +kernel), by decide +kernel, rfl, tk_Rn, n_Rn, fun _ => rfl⟩
theorem xf_RS_179 : xFld R_RS 179 2 10 false .int := ⟨R_Rn, T_Rn, 12, t_Rn, rfl, xin_Rn, by decide, xw_mem 135 (by decide +kernel) (by decide +kernel), by decide +kernel, rfl, tk_Rn, n_Rn, fun h => by cases h⟩
theorem xf_Rn_41 : xFld R_Rn 41 2 11 false .boolean := ⟨R_Rn, T_Rn, 12, t_Rn, rfl, xin_Rn, by decide, xw_mem 136 (by decide +kernel) (by decide +kernel), by decide +kernel, rfl, tk_Rn, n_Rn, fun _ => rfl⟩
theorem xf_RS_124 : xFld R_RS 124 2 11 false .boolean := ⟨R_Rn, T_Rn, 12, t_Rn, rfl, xin_Rn, by decide, xw_mem 137 (by decide +kernel) (by decide +kernel), by decide +kernel, rfl, tk_Rn, n_Rn, fun h => by cases h⟩
theorem xf_Ro_9 : xFld R_Ro 9 0 0 true (.array .int) := ⟨R_Ro, T_Ro, 2, t_Ro, rfl, xin_Ro, by decide, xw_mem 169 (by decide +kernel) (by decide +kernel), by decide +kernel, rfl, tk_Ro, n_Ro, fun _ => rfl⟩
theorem xf_Ro_15 : xFld R_Ro 15 0 1 false .int := ⟨R_Ro, T_Ro, 2, t_Ro, rfl, xin_Ro, by decide, xw_mem 170 (by decide +kernel) (by decide +kernel), by decide +kernel, rfl, tk_Ro, n_Ro, fun _ => rfl⟩
theorem xf_Rn_57 : xFld R_Rn 57 0 1 false .int := ⟨R_Ro, T_Ro, 2, t_Ro, rfl, xin_Ro, by decide, xw_mem 171 (by decide +kernel) (by decide +kernel), by decide +kernel, rfl, tk_Ro, n_Ro, fun h => by cases h⟩
theorem xf_RS_127 : xFld R_RS 127 0 1 false .int := ⟨R_Ro, T_Ro, 2, t_Ro, rfl, xin_Ro, by decide, xw_mem 172 (by decide +kernel) (by decide +kernel), by decide +kernel, rfl, tk_Ro, n_Ro, fun h => by cases h⟩
theorem xf_RS_10 : xFld R_RS 10 4 0 true (.object "RuleSteps$Trees") := ⟨R_RS, T_RS, 7, t_RS, rfl, xin_RS, by decide, xw_mem 178 (by decide +kernel) (by decide +kernel), by decide +kernel, rfl, tk_RS, n_RS, fun _ => rfl⟩
theorem xf_RS_19 : xFld R_RS 19 4 1 true (.object "RuleSteps$Rules") := ⟨R_RS, T_RS, 7, t_RS, rfl, xin_RS, by decide, xw_mem 179 (by decide +kernel) (by decide +kernel), by decide +kernel, rfl, tk_RS, n_RS, fun _ => rfl⟩
theorem xf_RS_28 : xFld R_RS 28 4 2 true (.object "RuleSteps$Runner") := ⟨R_RS, T_RS, 7, t_RS, rfl, xin_RS, by decide, xw_mem 180 (by decide +kernel) (by decide +kernel), by decide +kernel, rfl, tk_RS, n_RS, fun _ => rfl⟩
theorem xf_RS_35 : xFld R_RS 35 4 3 false (.object "RuleSteps$Rows") := ⟨R_RS, T_RS, 7, t_RS, rfl, xin_RS, by decide, xw_mem 181 (by decide +kernel) (by decide +kernel), by decide +kernel, rfl, tk_RS, n_RS, fun _ => rfl⟩
theorem xf_RS_39 : xFld R_RS 39 4 4 false (.object "RuleSteps$Rows") := ⟨R_RS, T_RS, 7, t_RS, rfl, xin_RS, by decide, xw_mem 182 (by decide +kernel) (by decide +kernel), by decide +kernel, rfl, tk_RS, n_RS, fun _ => rfl⟩
theorem xf_RS_42 : xFld R_RS 42 4 5 false .int := ⟨R_RS, T_RS, 7, t_RS, rfl, xin_RS, by decide, xw_mem 183 (by decide +kernel) (by decide +kernel), by decide +kernel, rfl, tk_RS, n_RS, fun _ => rfl⟩
theorem xf_RS_46 : xFld R_RS 46 4 6 false .boolean := ⟨R_RS, T_RS, 7, t_RS, rfl, xin_RS, by decide, xw_mem 184 (by decide +kernel) (by decide +kernel), by decide +kernel, rfl, tk_RS, n_RS, fun _ => rfl⟩
theorem xf_Md_90 : xFld R_Md 90 5 0 false .int := ⟨R_Md, T_Md, 35, t_Md, rfl, xin_Md, by decide, xw_mem 586 (by decide +kernel) (by decide +kernel), by decide +kernel, rfl, tk_Md, n_Md, fun _ => rfl⟩
theorem xf_Md_7 : xFld R_Md 7 5 1 true (.array .int) := ⟨R_Md, T_Md, 35, t_Md, rfl, xin_Md, by decide, xw_mem 587 (by decide +kernel) (by decide +kernel), by decide +kernel, rfl, tk_Md, n_Md, fun _ => rfl⟩
theorem xf_Md_13 : xFld R_Md 13 5 2 true (.array .int) := ⟨R_Md, T_Md, 35, t_Md, rfl, xin_Md, by decide, xw_mem 588 (by decide +kernel) (by decide +kernel), by decide +kernel, rfl, tk_Md, n_Md, fun _ => rfl⟩
theorem xf_Md_16 : xFld R_Md 16 5 3 true (.array .int) := ⟨R_Md, T_Md, 35, t_Md, rfl, xin_Md, by decide, xw_mem 589 (by decide +kernel) (by decide +kernel), by decide +kernel, rfl, tk_Md, n_Md, fun _ => rfl⟩
theorem xf_Md_19 : xFld R_Md 19 5 4 true (.array .int) := ⟨R_Md, T_Md, 35, t_Md, rfl, xin_Md, by decide, xw_mem 590 (by decide +kernel) (by decide +kernel), by decide +kernel, rfl, tk_Md, n_Md, fun _ => rfl⟩
theorem xf_Md_22 : xFld R_Md 22 5 5 true (.array .int) := ⟨R_Md, T_Md, 35, t_Md, rfl, xin_Md, by decide, xw_mem 591 (by decide +kernel) (by decide +kernel), by decide +kernel, rfl, tk_Md, n_Md, fun _ => rfl⟩
theorem xf_Md_25 : xFld R_Md 25 5 6 true (.array .int) := ⟨R_Md, T_Md, 35, t_Md, rfl, xin_Md, by decide, xw_mem 592 (by decide +kernel) (by decide +kernel), by decide +kernel, rfl, tk_Md, n_Md, fun _ => rfl⟩
theorem xf_Md_28 : xFld R_Md 28 5 7 true (.array .int) := ⟨R_Md, T_Md, 35, t_Md, rfl, xin_Md, by decide, xw_mem 593 (by decide +kernel) (by decide +kernel), by decide +kernel, rfl, tk_Md, n_Md, fun _ => rfl⟩
theorem xf_Md_129 : xFld R_Md 129 5 8 false .int := ⟨R_Md, T_Md, 35, t_Md, rfl, xin_Md, by decide, xw_mem 594 (by decide +kernel) (by decide +kernel), by decide +kernel, rfl, tk_Md, n_Md, fun _ => rfl⟩
theorem xf_Md_31 : xFld R_Md 31 5 9 true (.array .int) := ⟨R_Md, T_Md, 35, t_Md, rfl, xin_Md, by decide, xw_mem 595 (by decide +kernel) (by decide +kernel), by decide +kernel, rfl, tk_Md, n_Md, fun _ => rfl⟩
theorem xf_Md_34 : xFld R_Md 34 5 10 true (.array .int) := ⟨R_Md, T_Md, 35, t_Md, rfl, xin_Md, by decide, xw_mem 596 (by decide +kernel) (by decide +kernel), by decide +kernel, rfl, tk_Md, n_Md, fun _ => rfl⟩
theorem xf_Md_37 : xFld R_Md 37 5 11 true (.array .int) := ⟨R_Md, T_Md, 35, t_Md, rfl, xin_Md, by decide, xw_mem 597 (by decide +kernel) (by decide +kernel), by decide +kernel, rfl, tk_Md, n_Md, fun _ => rfl⟩
theorem xf_Md_40 : xFld R_Md 40 5 12 true (.array .boolean) := ⟨R_Md, T_Md, 35, t_Md, rfl, xin_Md, by decide, xw_mem 598 (by decide +kernel) (by decide +kernel), by decide +kernel, rfl, tk_Md, n_Md, fun _ => rfl⟩
theorem xf_Md_44 : xFld R_Md 44 5 13 true (.array .int) := ⟨R_Md, T_Md, 35, t_Md, rfl, xin_Md, by decide, xw_mem 599 (by decide +kernel) (by decide +kernel), by decide +kernel, rfl, tk_Md, n_Md, fun _ => rfl⟩
theorem xf_Md_170 : xFld R_Md 170 5 14 false .int := ⟨R_Md, T_Md, 35, t_Md, rfl, xin_Md, by decide, xw_mem 600 (by decide +kernel) (by decide +kernel), by decide +kernel, rfl, tk_Md, n_Md, fun _ => rfl⟩
theorem xf_Md_173 : xFld R_Md 173 5 15 false .int := ⟨R_Md, T_Md, 35, t_Md, rfl, xin_Md, by decide, xw_mem 601 (by decide +kernel) (by decide +kernel), by decide +kernel, rfl, tk_Md, n_Md, fun _ => rfl⟩
theorem xf_Md_47 : xFld R_Md 47 5 16 true (.array .int) := ⟨R_Md, T_Md, 35, t_Md, rfl, xin_Md, by decide, xw_mem 602 (by decide +kernel) (by decide +kernel), by decide +kernel, rfl, tk_Md, n_Md, fun _ => rfl⟩
theorem xf_Md_150 : xFld R_Md 150 5 17 false .int := ⟨R_Md, T_Md, 35, t_Md, rfl, xin_Md, by decide, xw_mem 603 (by decide +kernel) (by decide +kernel), by decide +kernel, rfl, tk_Md, n_Md, fun _ => rfl⟩
theorem xf_Md_147 : xFld R_Md 147 5 18 false .int := ⟨R_Md, T_Md, 35, t_Md, rfl, xin_Md, by decide, xw_mem 604 (by decide +kernel) (by decide +kernel), by decide +kernel, rfl, tk_Md, n_Md, fun _ => rfl⟩
theorem xf_Md_50 : xFld R_Md 50 5 19 true (.array .int) := ⟨R_Md, T_Md, 35, t_Md, rfl, xin_Md, by decide, xw_mem 605 (by decide +kernel) (by decide +kernel), by decide +kernel, rfl, tk_Md, n_Md, fun _ => rfl⟩
theorem xf_Md_186 : xFld R_Md 186 5 20 false .boolean := ⟨R_Md, T_Md, 35, t_Md, rfl, xin_Md, by decide, xw_mem 606 (by decide +kernel) (by decide +kernel), by decide +kernel, rfl, tk_Md, n_Md, fun _ => rfl⟩
theorem xf_Md_97 : xFld R_Md 97 5 21 false .boolean := ⟨R_Md, T_Md, 35, t_Md, rfl, xin_Md, by decide, xw_mem 607 (by decide +kernel) (by decide +kernel), by decide +kernel, rfl, tk_Md, n_Md, fun _ => rfl⟩
theorem xf_Md_86 : xFld R_Md 86 5 22 false .int := ⟨R_Md, T_Md, 35, t_Md, rfl, xin_Md, by decide, xw_mem 608 (by decide +kernel) (by decide +kernel), by decide +kernel, rfl, tk_Md, n_Md, fun _ => rfl⟩
theorem xf_Md_53 : xFld R_Md 53 5 23 true (.array .int) := ⟨R_Md, T_Md, 35, t_Md, rfl, xin_Md, by decide, xw_mem 609 (by decide +kernel) (by decide +kernel), by decide +kernel, rfl, tk_Md, n_Md, fun _ => rfl⟩
theorem xf_Md_56 : xFld R_Md 56 5 24 true (.array .int) := ⟨R_Md, T_Md, 35, t_Md, rfl, xin_Md, by decide, xw_mem 610 (by decide +kernel) (by decide +kernel), by decide +kernel, rfl, tk_Md, n_Md, fun _ => rfl⟩
theorem xf_Md_59 : xFld R_Md 59 5 25 true (.array .int) := ⟨R_Md, T_Md, 35, t_Md, rfl, xin_Md, by decide, xw_mem 611 (by decide +kernel) (by decide +kernel), by decide +kernel, rfl, tk_Md, n_Md, fun _ => rfl⟩
theorem xf_Md_62 : xFld R_Md 62 5 26 true (.array .int) := ⟨R_Md, T_Md, 35, t_Md, rfl, xin_Md, by decide, xw_mem 612 (by decide +kernel) (by decide +kernel), by decide +kernel, rfl, tk_Md, n_Md, fun _ => rfl⟩
theorem xf_Md_65 : xFld R_Md 65 5 27 true (.array .int) := ⟨R_Md, T_Md, 35, t_Md, rfl, xin_Md, by decide, xw_mem 613 (by decide +kernel) (by decide +kernel), by decide +kernel, rfl, tk_Md, n_Md, fun _ => rfl⟩
theorem xf_Md_68 : xFld R_Md 68 5 28 true (.array .int) := ⟨R_Md, T_Md, 35, t_Md, rfl, xin_Md, by decide, xw_mem 614 (by decide +kernel) (by decide +kernel), by decide +kernel, rfl, tk_Md, n_Md, fun _ => rfl⟩
theorem xf_Md_71 : xFld R_Md 71 5 29 true (.array .int) := ⟨R_Md, T_Md, 35, t_Md, rfl, xin_Md, by decide, xw_mem 615 (by decide +kernel) (by decide +kernel), by decide +kernel, rfl, tk_Md, n_Md, fun _ => rfl⟩
theorem xf_Md_74 : xFld R_Md 74 5 30 true (.array .int) := ⟨R_Md, T_Md, 35, t_Md, rfl, xin_Md, by decide, xw_mem 616 (by decide +kernel) (by decide +kernel), by decide +kernel, rfl, tk_Md, n_Md, fun _ => rfl⟩
theorem xf_Md_77 : xFld R_Md 77 5 31 true (.array .boolean) := ⟨R_Md, T_Md, 35, t_Md, rfl, xin_Md, by decide, xw_mem 617 (by decide +kernel) (by decide +kernel), by decide +kernel, rfl, tk_Md, n_Md, fun _ => rfl⟩
theorem xf_Md_80 : xFld R_Md 80 5 32 true (.array .int) := ⟨R_Md, T_Md, 35, t_Md, rfl, xin_Md, by decide, xw_mem 618 (by decide +kernel) (by decide +kernel), by decide +kernel, rfl, tk_Md, n_Md, fun _ => rfl⟩
theorem xf_Md_83 : xFld R_Md 83 5 33 true (.array .boolean) := ⟨R_Md, T_Md, 35, t_Md, rfl, xin_Md, by decide, xw_mem 619 (by decide +kernel) (by decide +kernel), by decide +kernel, rfl, tk_Md, n_Md, fun _ => rfl⟩
theorem xf_Md_167 : xFld R_Md 167 5 34 false .boolean := ⟨R_Md, T_Md, 35, t_Md, rfl, xin_Md, by decide, xw_mem 620 (by decide +kernel) (by decide +kernel), by decide +kernel, rfl, tk_Md, n_Md, fun _ => rfl⟩
theorem xg_Tr_9 : xFldR R_Tr 9 3 0 := ⟨R_Tr, T_Tr, 11, rfl, xin_Tr, by decide, xw_mem 32 (by decide +kernel) (by decide +kernel)⟩
theorem xg_Rn_107 : xFldR R_Rn 107 3 0 := ⟨R_Tr, T_Tr, 11, rfl, xin_Tr, by decide, xw_mem 33 (by decide +kernel) (by decide +kernel)⟩
theorem xg_RS_161 : xFldR R_RS 161 3 0 := ⟨R_Tr, T_Tr, 11, rfl, xin_Tr, by decide, xw_mem 34 (by decide +kernel) (by decide +kernel)⟩
theorem xg_Tr_15 : xFldR R_Tr 15 3 1 := ⟨R_Tr, T_Tr, 11, rfl, xin_Tr, by decide, xw_mem 35 (by decide +kernel) (by decide +kernel)⟩
theorem xg_Rn_89 : xFldR R_Rn 89 3 1 := ⟨R_Tr, T_Tr, 11, rfl, xin_Tr, by decide, xw_mem 36 (by decide +kernel) (by decide +kernel)⟩
theorem xg_Tr_18 : xFldR R_Tr 18 3 2 := ⟨R_Tr, T_Tr, 11, rfl, xin_Tr, by decide, xw_mem 37 (by decide +kernel) (by decide +kernel)⟩
theorem xg_Rn_94 : xFldR R_Rn 94 3 2 := ⟨R_Tr, T_Tr, 11, rfl, xin_Tr, by decide, xw_mem 38 (by decide +kernel) (by decide +kernel)⟩
theorem xg_Tr_21 : xFldR R_Tr 21 3 3 := ⟨R_Tr, T_Tr, 11, rfl, xin_Tr, by decide, xw_mem 39 (by decide +kernel) (by decide +kernel)⟩
theorem xg_Rn_110 : xFldR R_Rn 110 3 3 := ⟨R_Tr, T_Tr, 11, rfl, xin_Tr, by decide, xw_mem 40 (by decide +kernel) (by decide +kernel)⟩
theorem xg_RS_149 : xFldR R_RS 149 3 3 := ⟨R_Tr, T_Tr, 11, rfl, xin_Tr, by decide, xw_mem 41 (by decide +kernel) (by decide +kernel)⟩
theorem xg_Tr_24 : xFldR R_Tr 24 3 4 := ⟨R_Tr, T_Tr, 11, rfl, xin_Tr, by decide, xw_mem 42 (by decide +kernel) (by decide +kernel)⟩
theorem xg_Rn_136 : xFldR R_Rn 136 3 4 := ⟨R_Tr, T_Tr, 11, rfl, xin_Tr, by decide, xw_mem 43 (by decide +kernel) (by decide +kernel)⟩
theorem xg_RS_152 : xFldR R_RS 152 3 4 := ⟨R_Tr, T_Tr, 11, rfl, xin_Tr, by decide, xw_mem 44 (by decide +kernel) (by decide +kernel)⟩
theorem xg_Tr_27 : xFldR R_Tr 27 3 5 := ⟨R_Tr, T_Tr, 11, rfl, xin_Tr, by decide, xw_mem 45 (by decide +kernel) (by decide +kernel)⟩
theorem xg_RS_155 : xFldR R_RS 155 3 5 := ⟨R_Tr, T_Tr, 11, rfl, xin_Tr, by decide, xw_mem 46 (by decide +kernel) (by decide +kernel)⟩
theorem xg_Tr_30 : xFldR R_Tr 30 3 6 := ⟨R_Tr, T_Tr, 11, rfl, xin_Tr, by decide, xw_mem 47 (by decide +kernel) (by decide +kernel)⟩
theorem xg_RS_77 : xFldR R_RS 77 3 6 := ⟨R_Tr, T_Tr, 11, rfl, xin_Tr, by decide, xw_mem 48 (by decide +kernel) (by decide +kernel)⟩
theorem xg_Rn_116 : xFldR R_Rn 116 3 6 := ⟨R_Tr, T_Tr, 11, rfl, xin_Tr, by decide, xw_mem 49 (by decide +kernel) (by decide +kernel)⟩
theorem xg_Tr_33 : xFldR R_Tr 33 3 7 := ⟨R_Tr, T_Tr, 11, rfl, xin_Tr, by decide, xw_mem 50 (by decide +kernel) (by decide +kernel)⟩
theorem xg_Tr_36 : xFldR R_Tr 36 3 8 := ⟨R_Tr, T_Tr, 11, rfl, xin_Tr, by decide, xw_mem 51 (by decide +kernel) (by decide +kernel)⟩
theorem xg_Tr_39 : xFldR R_Tr 39 3 9 := ⟨R_Tr, T_Tr, 11, rfl, xin_Tr, by decide, xw_mem 52 (by decide +kernel) (by decide +kernel)⟩
theorem xg_Tr_42 : xFldR R_Tr 42 3 10 := ⟨R_Tr, T_Tr, 11, rfl, xin_Tr, by decide, xw_mem 53 (by decide +kernel) (by decide +kernel)⟩
theorem xg_RS_110 : xFldR R_RS 110 3 10 := ⟨R_Tr, T_Tr, 11, rfl, xin_Tr, by decide, xw_mem 54 (by decide +kernel) (by decide +kernel)⟩
theorem xg_Ru_9 : xFldR R_Ru 9 1 0 := ⟨R_Ru, T_Ru, 7, rfl, xin_Ru, by decide, xw_mem 86 (by decide +kernel) (by decide +kernel)⟩
theorem xg_Rn_100 : xFldR R_Rn 100 1 0 := ⟨R_Ru, T_Ru, 7, rfl, xin_Ru, by decide, xw_mem 87 (by decide +kernel) (by decide +kernel)⟩
theorem xg_Ru_15 : xFldR R_Ru 15 1 1 := ⟨R_Ru, T_Ru, 7, rfl, xin_Ru, by decide, xw_mem 88 (by decide +kernel) (by decide +kernel)⟩
theorem xg_Rn_126 : xFldR R_Rn 126 1 1 := ⟨R_Ru, T_Ru, 7, rfl, xin_Ru, by decide, xw_mem 89 (by decide +kernel) (by decide +kernel)⟩
theorem xg_Ru_18 : xFldR R_Ru 18 1 2 := ⟨R_Ru, T_Ru, 7, rfl, xin_Ru, by decide, xw_mem 90 (by decide +kernel) (by decide +kernel)⟩
theorem xg_RS_138 : xFldR R_RS 138 1 2 := ⟨R_Ru, T_Ru, 7, rfl, xin_Ru, by decide, xw_mem 91 (by decide +kernel) (by decide +kernel)⟩
theorem xg_Ru_21 : xFldR R_Ru 21 1 3 := ⟨R_Ru, T_Ru, 7, rfl, xin_Ru, by decide, xw_mem 92 (by decide +kernel) (by decide +kernel)⟩
theorem xg_Rn_86 : xFldR R_Rn 86 1 3 := ⟨R_Ru, T_Ru, 7, rfl, xin_Ru, by decide, xw_mem 93 (by decide +kernel) (by decide +kernel)⟩
theorem xg_RS_141 : xFldR R_RS 141 1 3 := ⟨R_Ru, T_Ru, 7, rfl, xin_Ru, by decide, xw_mem 94 (by decide +kernel) (by decide +kernel)⟩
theorem xg_Ru_25 : xFldR R_Ru 25 1 4 := ⟨R_Ru, T_Ru, 7, rfl, xin_Ru, by decide, xw_mem 95 (by decide +kernel) (by decide +kernel)⟩
theorem xg_RS_101 : xFldR R_RS 101 1 4 := ⟨R_Ru, T_Ru, 7, rfl, xin_Ru, by decide, xw_mem 96 (by decide +kernel) (by decide +kernel)⟩
theorem xg_Ru_28 : xFldR R_Ru 28 1 5 := ⟨R_Ru, T_Ru, 7, rfl, xin_Ru, by decide, xw_mem 97 (by decide +kernel) (by decide +kernel)⟩
theorem xg_RS_95 : xFldR R_RS 95 1 5 := ⟨R_Ru, T_Ru, 7, rfl, xin_Ru, by decide, xw_mem 98 (by decide +kernel) (by decide +kernel)⟩
theorem xg_Ru_31 : xFldR R_Ru 31 1 6 := ⟨R_Ru, T_Ru, 7, rfl, xin_Ru, by decide, xw_mem 99 (by decide +kernel) (by decide +kernel)⟩
theorem xg_Rn_80 : xFldR R_Rn 80 1 6 := ⟨R_Ru, T_Ru, 7, rfl, xin_Ru, by decide, xw_mem 100 (by decide +kernel) (by decide +kernel)⟩
theorem xg_RS_164 : xFldR R_RS 164 1 6 := ⟨R_Ru, T_Ru, 7, rfl, xin_Ru, by decide, xw_mem 101 (by decide +kernel) (by decide +kernel)⟩
theorem xg_Rn_45 : xFldR R_Rn 45 2 0 := ⟨R_Rn, T_Rn, 12, rfl, xin_Rn, by decide, xw_mem 124 (by decide +kernel) (by decide +kernel)⟩
theorem xg_Rn_49 : xFldR R_Rn 49 2 1 := ⟨R_Rn, T_Rn, 12, rfl, xin_Rn, by decide, xw_mem 125 (by decide +kernel) (by decide +kernel)⟩
theorem xg_Rn_9 : xFldR R_Rn 9 2 2 := ⟨R_Rn, T_Rn, 12, rfl, xin_Rn, by decide, xw_mem 126 (by decide +kernel) (by decide +kernel)⟩
theorem xg_Rn_15 : xFldR R_Rn 15 2 3 := ⟨R_Rn, T_Rn, 12, rfl, xin_Rn, by decide, xw_mem 127 (by decide +kernel) (by decide +kernel)⟩
theorem xg_Rn_19 : xFldR R_Rn 19 2 4 := ⟨R_Rn, T_Rn, 12, rfl, xin_Rn, by decide, xw_mem 128 (by decide +kernel) (by decide +kernel)⟩
theorem xg_Rn_22 : xFldR R_Rn 22 2 5 := ⟨R_Rn, T_Rn, 12, rfl, xin_Rn, by decide, xw_mem 129 (by decide +kernel) (by decide +kernel)⟩
theorem xg_Rn_26 : xFldR R_Rn 26 2 6 := ⟨R_Rn, T_Rn, 12, rfl, xin_Rn, by decide, xw_mem 130 (by decide +kernel) (by decide +kernel)⟩
theorem xg_Rn_29 : xFldR R_Rn 29 2 7 := ⟨R_Rn, T_Rn, 12, rfl, xin_Rn, by decide, xw_mem 131 (by decide +kernel) (by decide +kernel)⟩
theorem xg_Rn_32 : xFldR R_Rn 32 2 8 := ⟨R_Rn, T_Rn, 12, rfl, xin_Rn, by decide, xw_mem 132 (by decide +kernel) (by decide +kernel)⟩
theorem xg_Rn_35 : xFldR R_Rn 35 2 9 := ⟨R_Rn, T_Rn, 12, rfl, xin_Rn, by decide, xw_mem 133 (by decide +kernel) (by decide +kernel)⟩
theorem xg_Rn_38 : xFldR R_Rn 38 2 10 := ⟨R_Rn, T_Rn, 12, rfl, xin_Rn, by decide, xw_mem 134 (by decide +kernel) (by decide +kernel)⟩
theorem xg_RS_179 : xFldR R_RS 179 2 10 := ⟨R_Rn, T_Rn, 12, rfl, xin_Rn, by decide, xw_mem 135 (by decide +kernel) (by decide +kernel)⟩
theorem xg_Rn_41 : xFldR R_Rn 41 2 11 := ⟨R_Rn, T_Rn, 12, rfl, xin_Rn, by decide, xw_mem 136 (by decide +kernel) (by decide +kernel)⟩
theorem xg_RS_124 : xFldR R_RS 124 2 11 := ⟨R_Rn, T_Rn, 12, rfl, xin_Rn, by decide, xw_mem 137 (by decide +kernel) (by decide +kernel)⟩
theorem xg_Ro_9 : xFldR R_Ro 9 0 0 := ⟨R_Ro, T_Ro, 2, rfl, xin_Ro, by decide, xw_mem 169 (by decide +kernel) (by decide +kernel)⟩
theorem xg_Ro_15 : xFldR R_Ro 15 0 1 := ⟨R_Ro, T_Ro, 2, rfl, xin_Ro, by decide, xw_mem 170 (by decide +kernel) (by decide +kernel)⟩
theorem xg_Rn_57 : xFldR R_Rn 57 0 1 := ⟨R_Ro, T_Ro, 2, rfl, xin_Ro, by decide, xw_mem 171 (by decide +kernel) (by decide +kernel)⟩
theorem xg_RS_127 : xFldR R_RS 127 0 1 := ⟨R_Ro, T_Ro, 2, rfl, xin_Ro, by decide, xw_mem 172 (by decide +kernel) (by decide +kernel)⟩
theorem xg_RS_10 : xFldR R_RS 10 4 0 := ⟨R_RS, T_RS, 7, rfl, xin_RS, by decide, xw_mem 178 (by decide +kernel) (by decide +kernel)⟩
theorem xg_RS_19 : xFldR R_RS 19 4 1 := ⟨R_RS, T_RS, 7, rfl, xin_RS, by decide, xw_mem 179 (by decide +kernel) (by decide +kernel)⟩
theorem xg_RS_28 : xFldR R_RS 28 4 2 := ⟨R_RS, T_RS, 7, rfl, xin_RS, by decide, xw_mem 180 (by decide +kernel) (by decide +kernel)⟩
theorem xg_RS_35 : xFldR R_RS 35 4 3 := ⟨R_RS, T_RS, 7, rfl, xin_RS, by decide, xw_mem 181 (by decide +kernel) (by decide +kernel)⟩
theorem xg_RS_39 : xFldR R_RS 39 4 4 := ⟨R_RS, T_RS, 7, rfl, xin_RS, by decide, xw_mem 182 (by decide +kernel) (by decide +kernel)⟩
theorem xg_RS_42 : xFldR R_RS 42 4 5 := ⟨R_RS, T_RS, 7, rfl, xin_RS, by decide, xw_mem 183 (by decide +kernel) (by decide +kernel)⟩
theorem xg_RS_46 : xFldR R_RS 46 4 6 := ⟨R_RS, T_RS, 7, rfl, xin_RS, by decide, xw_mem 184 (by decide +kernel) (by decide +kernel)⟩
theorem xg_Md_90 : xFldR R_Md 90 5 0 := ⟨R_Md, T_Md, 35, rfl, xin_Md, by decide, xw_mem 586 (by decide +kernel) (by decide +kernel)⟩
theorem xg_Md_7 : xFldR R_Md 7 5 1 := ⟨R_Md, T_Md, 35, rfl, xin_Md, by decide, xw_mem 587 (by decide +kernel) (by decide +kernel)⟩
theorem xg_Md_13 : xFldR R_Md 13 5 2 := ⟨R_Md, T_Md, 35, rfl, xin_Md, by decide, xw_mem 588 (by decide +kernel) (by decide +kernel)⟩
theorem xg_Md_16 : xFldR R_Md 16 5 3 := ⟨R_Md, T_Md, 35, rfl, xin_Md, by decide, xw_mem 589 (by decide +kernel) (by decide +kernel)⟩
theorem xg_Md_19 : xFldR R_Md 19 5 4 := ⟨R_Md, T_Md, 35, rfl, xin_Md, by decide, xw_mem 590 (by decide +kernel) (by decide +kernel)⟩
theorem xg_Md_22 : xFldR R_Md 22 5 5 := ⟨R_Md, T_Md, 35, rfl, xin_Md, by decide, xw_mem 591 (by decide +kernel) (by decide +kernel)⟩
theorem xg_Md_25 : xFldR R_Md 25 5 6 := ⟨R_Md, T_Md, 35, rfl, xin_Md, by decide, xw_mem 592 (by decide +kernel) (by decide +kernel)⟩
theorem xg_Md_28 : xFldR R_Md 28 5 7 := ⟨R_Md, T_Md, 35, rfl, xin_Md, by decide, xw_mem 593 (by decide +kernel) (by decide +kernel)⟩
theorem xg_Md_129 : xFldR R_Md 129 5 8 := ⟨R_Md, T_Md, 35, rfl, xin_Md, by decide, xw_mem 594 (by decide +kernel) (by decide +kernel)⟩
theorem xg_Md_31 : xFldR R_Md 31 5 9 := ⟨R_Md, T_Md, 35, rfl, xin_Md, by decide, xw_mem 595 (by decide +kernel) (by decide +kernel)⟩
theorem xg_Md_34 : xFldR R_Md 34 5 10 := ⟨R_Md, T_Md, 35, rfl, xin_Md, by decide, xw_mem 596 (by decide +kernel) (by decide +kernel)⟩
theorem xg_Md_37 : xFldR R_Md 37 5 11 := ⟨R_Md, T_Md, 35, rfl, xin_Md, by decide, xw_mem 597 (by decide +kernel) (by decide +kernel)⟩
theorem xg_Md_40 : xFldR R_Md 40 5 12 := ⟨R_Md, T_Md, 35, rfl, xin_Md, by decide, xw_mem 598 (by decide +kernel) (by decide +kernel)⟩
theorem xg_Md_44 : xFldR R_Md 44 5 13 := ⟨R_Md, T_Md, 35, rfl, xin_Md, by decide, xw_mem 599 (by decide +kernel) (by decide +kernel)⟩
theorem xg_Md_170 : xFldR R_Md 170 5 14 := ⟨R_Md, T_Md, 35, rfl, xin_Md, by decide, xw_mem 600 (by decide +kernel) (by decide +kernel)⟩
theorem xg_Md_173 : xFldR R_Md 173 5 15 := ⟨R_Md, T_Md, 35, rfl, xin_Md, by decide, xw_mem 601 (by decide +kernel) (by decide +kernel)⟩
theorem xg_Md_47 : xFldR R_Md 47 5 16 := ⟨R_Md, T_Md, 35, rfl, xin_Md, by decide, xw_mem 602 (by decide +kernel) (by decide +kernel)⟩
theorem xg_Md_150 : xFldR R_Md 150 5 17 := ⟨R_Md, T_Md, 35, rfl, xin_Md, by decide, xw_mem 603 (by decide +kernel) (by decide +kernel)⟩
theorem xg_Md_147 : xFldR R_Md 147 5 18 := ⟨R_Md, T_Md, 35, rfl, xin_Md, by decide, xw_mem 604 (by decide +kernel) (by decide +kernel)⟩
theorem xg_Md_50 : xFldR R_Md 50 5 19 := ⟨R_Md, T_Md, 35, rfl, xin_Md, by decide, xw_mem 605 (by decide +kernel) (by decide +kernel)⟩
theorem xg_Md_186 : xFldR R_Md 186 5 20 := ⟨R_Md, T_Md, 35, rfl, xin_Md, by decide, xw_mem 606 (by decide +kernel) (by decide +kernel)⟩
theorem xg_Md_97 : xFldR R_Md 97 5 21 := ⟨R_Md, T_Md, 35, rfl, xin_Md, by decide, xw_mem 607 (by decide +kernel) (by decide +kernel)⟩
theorem xg_Md_86 : xFldR R_Md 86 5 22 := ⟨R_Md, T_Md, 35, rfl, xin_Md, by decide, xw_mem 608 (by decide +kernel) (by decide +kernel)⟩
theorem xg_Md_53 : xFldR R_Md 53 5 23 := ⟨R_Md, T_Md, 35, rfl, xin_Md, by decide, xw_mem 609 (by decide +kernel) (by decide +kernel)⟩
theorem xg_Md_56 : xFldR R_Md 56 5 24 := ⟨R_Md, T_Md, 35, rfl, xin_Md, by decide, xw_mem 610 (by decide +kernel) (by decide +kernel)⟩
theorem xg_Md_59 : xFldR R_Md 59 5 25 := ⟨R_Md, T_Md, 35, rfl, xin_Md, by decide, xw_mem 611 (by decide +kernel) (by decide +kernel)⟩
theorem xg_Md_62 : xFldR R_Md 62 5 26 := ⟨R_Md, T_Md, 35, rfl, xin_Md, by decide, xw_mem 612 (by decide +kernel) (by decide +kernel)⟩
theorem xg_Md_65 : xFldR R_Md 65 5 27 := ⟨R_Md, T_Md, 35, rfl, xin_Md, by decide, xw_mem 613 (by decide +kernel) (by decide +kernel)⟩
theorem xg_Md_68 : xFldR R_Md 68 5 28 := ⟨R_Md, T_Md, 35, rfl, xin_Md, by decide, xw_mem 614 (by decide +kernel) (by decide +kernel)⟩
theorem xg_Md_71 : xFldR R_Md 71 5 29 := ⟨R_Md, T_Md, 35, rfl, xin_Md, by decide, xw_mem 615 (by decide +kernel) (by decide +kernel)⟩
theorem xg_Md_74 : xFldR R_Md 74 5 30 := ⟨R_Md, T_Md, 35, rfl, xin_Md, by decide, xw_mem 616 (by decide +kernel) (by decide +kernel)⟩
theorem xg_Md_77 : xFldR R_Md 77 5 31 := ⟨R_Md, T_Md, 35, rfl, xin_Md, by decide, xw_mem 617 (by decide +kernel) (by decide +kernel)⟩
theorem xg_Md_80 : xFldR R_Md 80 5 32 := ⟨R_Md, T_Md, 35, rfl, xin_Md, by decide, xw_mem 618 (by decide +kernel) (by decide +kernel)⟩
theorem xg_Md_83 : xFldR R_Md 83 5 33 := ⟨R_Md, T_Md, 35, rfl, xin_Md, by decide, xw_mem 619 (by decide +kernel) (by decide +kernel)⟩
theorem xg_Md_167 : xFldR R_Md 167 5 34 := ⟨R_Md, T_Md, 35, rfl, xin_Md, by decide, xw_mem 620 (by decide +kernel) (by decide +kernel)⟩
theorem xm_La_69 : xMw R_La 69 y_RS_init c_RS_init 1 none 0 := ⟨⟨by decide +kernel, by decide +kernel, by decide +kernel⟩, xw_mem 17 (by decide +kernel) (by decide +kernel), xw_mem 1 (by decide +kernel) (by decide +kernel), xw_mem 19 (by decide +kernel) (by decide +kernel)⟩
theorem xm_RS_9 : xMw R_RS 9 y_Tr_init c_Tr_init 1 none 0 := ⟨⟨by decide +kernel, by decide +kernel, by decide +kernel⟩, xw_mem 25 (by decide +kernel) (by decide +kernel), xw_mem 2 (by decide +kernel) (by decide +kernel), xw_mem 27 (by decide +kernel) (by decide +kernel)⟩
theorem xm_Tr_46 : xMw R_Tr 46 y_Ar_fill c_Ar_fill 4 none 2 := ⟨⟨by decide +kernel, by decide +kernel, by decide +kernel⟩, xw_mem 29 (by decide +kernel) (by decide +kernel), xw_mem 3 (by decide +kernel) (by decide +kernel), xw_mem 31 (by decide +kernel) (by decide +kernel)⟩
theorem xm_RS_18 : xMw R_RS 18 y_Ru_init c_Ru_init 1 none 0 := ⟨⟨by decide +kernel, by decide +kernel, by decide +kernel⟩, xw_mem 81 (by decide +kernel) (by decide +kernel), xw_mem 4 (by decide +kernel) (by decide +kernel), xw_mem 83 (by decide +kernel) (by decide +kernel)⟩
theorem xm_Ru_35 : xMw R_Ru 35 y_Ar_fill c_Ar_fill 4 none 2 := ⟨⟨by decide +kernel, by decide +kernel, by decide +kernel⟩, xw_mem 85 (by decide +kernel) (by decide +kernel), xw_mem 3 (by decide +kernel) (by decide +kernel), xw_mem 31 (by decide +kernel) (by decide +kernel)⟩
theorem xm_RS_25 : xMw R_RS 25 y_Rn_init c_Rn_init 3 none 2 := ⟨⟨by decide +kernel, by decide +kernel, by decide +kernel⟩, xw_mem 120 (by decide +kernel) (by decide +kernel), xw_mem 5 (by decide +kernel) (by decide +kernel), xw_mem 122 (by decide +kernel) (by decide +kernel)⟩
theorem xm_La_110 : xMw R_La 110 y_RS_spent c_RS_spent 1 (some .boolean) 0 := ⟨⟨by decide +kernel, by decide +kernel, by decide +kernel⟩, xw_mem 200 (by decide +kernel) (by decide +kernel), xw_mem 1 (by decide +kernel) (by decide +kernel), xw_mem 203 (by decide +kernel) (by decide +kernel)⟩
theorem xm_La_118 : xMw R_La 118 y_RS_steps c_RS_steps 1 (some .int) 0 := ⟨⟨by decide +kernel, by decide +kernel, by decide +kernel⟩, xw_mem 204 (by decide +kernel) (by decide +kernel), xw_mem 1 (by decide +kernel) (by decide +kernel), xw_mem 207 (by decide +kernel) (by decide +kernel)⟩
theorem xm_La_122 : xMw R_La 122 y_RS_domain c_RS_domain 4 (some .int) 0 := ⟨⟨by decide +kernel, by decide +kernel, by decide +kernel⟩, xw_mem 208 (by decide +kernel) (by decide +kernel), xw_mem 1 (by decide +kernel) (by decide +kernel), xw_mem 211 (by decide +kernel) (by decide +kernel)⟩
theorem xm_RS_135 : xMw R_RS 135 y_Ro_cell c_Ro_cell 3 (some .int) 2 := ⟨⟨by decide +kernel, by decide +kernel, by decide +kernel⟩, xw_mem 212 (by decide +kernel) (by decide +kernel), xw_mem 6 (by decide +kernel) (by decide +kernel), xw_mem 215 (by decide +kernel) (by decide +kernel)⟩
theorem xm_La_144 : xMw R_La 144 y_RS_count c_RS_count 2 (some .int) 1 := ⟨⟨by decide +kernel, by decide +kernel, by decide +kernel⟩, xw_mem 216 (by decide +kernel) (by decide +kernel), xw_mem 1 (by decide +kernel) (by decide +kernel), xw_mem 219 (by decide +kernel) (by decide +kernel)⟩
theorem xm_La_7 : xMw R_La 7 y_RS_leaf c_RS_leaf 2 (some .int) 1 := ⟨⟨by decide +kernel, by decide +kernel, by decide +kernel⟩, xw_mem 225 (by decide +kernel) (by decide +kernel), xw_mem 1 (by decide +kernel) (by decide +kernel), xw_mem 228 (by decide +kernel) (by decide +kernel)⟩
theorem xm_RS_57 : xMw R_RS 57 y_Tr_numberOf c_Tr_numberOf 7 (some .int) 3 := ⟨⟨by decide +kernel, by decide +kernel, by decide +kernel⟩, xw_mem 297 (by decide +kernel) (by decide +kernel), xw_mem 2 (by decide +kernel) (by decide +kernel), xw_mem 300 (by decide +kernel) (by decide +kernel)⟩
theorem xm_Tr_52 : xMw R_Tr 52 y_Tr_slotOf c_Tr_slotOf 4 (some .int) 3 := ⟨⟨by decide +kernel, by decide +kernel, by decide +kernel⟩, xw_mem 301 (by decide +kernel) (by decide +kernel), xw_mem 2 (by decide +kernel) (by decide +kernel), xw_mem 304 (by decide +kernel) (by decide +kernel)⟩
theorem xm_Tr_56 : xMw R_Tr 56 y_Tr_enter c_Tr_enter 8 (some .int) 3 := ⟨⟨by decide +kernel, by decide +kernel, by decide +kernel⟩, xw_mem 305 (by decide +kernel) (by decide +kernel), xw_mem 2 (by decide +kernel) (by decide +kernel), xw_mem 308 (by decide +kernel) (by decide +kernel)⟩
theorem xm_Tr_59 : xMw R_Tr 59 y_Tr_ownWeight c_Tr_ownWeight 2 (some .int) 1 := ⟨⟨by decide +kernel, by decide +kernel, by decide +kernel⟩, xw_mem 309 (by decide +kernel) (by decide +kernel), xw_mem 2 (by decide +kernel) (by decide +kernel), xw_mem 312 (by decide +kernel) (by decide +kernel)⟩
theorem xm_Tr_63 : xMw R_Tr 63 y_Tr_valueOf c_Tr_valueOf 4 (some .int) 3 := ⟨⟨by decide +kernel, by decide +kernel, by decide +kernel⟩, xw_mem 313 (by decide +kernel) (by decide +kernel), xw_mem 2 (by decide +kernel) (by decide +kernel), xw_mem 316 (by decide +kernel) (by decide +kernel)⟩
theorem xm_Tr_73 : xMw R_Tr 73 y_Tr_noteHoles c_Tr_noteHoles 5 none 1 := ⟨⟨by decide +kernel, by decide +kernel, by decide +kernel⟩, xw_mem 320 (by decide +kernel) (by decide +kernel), xw_mem 2 (by decide +kernel) (by decide +kernel), xw_mem 323 (by decide +kernel) (by decide +kernel)⟩
theorem xm_Tr_77 : xMw R_Tr 77 y_Tr_holeCount c_Tr_holeCount 3 (some .int) 2 := ⟨⟨by decide +kernel, by decide +kernel, by decide +kernel⟩, xw_mem 324 (by decide +kernel) (by decide +kernel), xw_mem 2 (by decide +kernel) (by decide +kernel), xw_mem 327 (by decide +kernel) (by decide +kernel)⟩
theorem xm_RS_61 : xMw R_RS 61 y_RS_needMade c_RS_needMade 1 (some .int) 1 := ⟨⟨by decide +kernel, by decide +kernel, by decide +kernel⟩, xw_mem 328 (by decide +kernel) (by decide +kernel), xw_mem 1 (by decide +kernel) (by decide +kernel), xw_mem 330 (by decide +kernel) (by decide +kernel)⟩
theorem xm_La_17 : xMw R_La 17 y_RS_hole c_RS_hole 2 (some .int) 1 := ⟨⟨by decide +kernel, by decide +kernel, by decide +kernel⟩, xw_mem 350 (by decide +kernel) (by decide +kernel), xw_mem 1 (by decide +kernel) (by decide +kernel), xw_mem 353 (by decide +kernel) (by decide +kernel)⟩
theorem xm_La_20 : xMw R_La 20 y_RS_node c_RS_node 5 (some .int) 3 := ⟨⟨by decide +kernel, by decide +kernel, by decide +kernel⟩, xw_mem 359 (by decide +kernel) (by decide +kernel), xw_mem 1 (by decide +kernel) (by decide +kernel), xw_mem 362 (by decide +kernel) (by decide +kernel)⟩
theorem xm_RS_67 : xMw R_RS 67 y_RS_needTree c_RS_needTree 2 none 1 := ⟨⟨by decide +kernel, by decide +kernel, by decide +kernel⟩, xw_mem 363 (by decide +kernel) (by decide +kernel), xw_mem 1 (by decide +kernel) (by decide +kernel), xw_mem 366 (by decide +kernel) (by decide +kernel)⟩
theorem xm_La_26 : xMw R_La 26 y_RS_rule c_RS_rule 4 (some .int) 3 := ⟨⟨by decide +kernel, by decide +kernel, by decide +kernel⟩, xw_mem 387 (by decide +kernel) (by decide +kernel), xw_mem 1 (by decide +kernel) (by decide +kernel), xw_mem 390 (by decide +kernel) (by decide +kernel)⟩
theorem xm_RS_73 : xMw R_RS 73 y_Tr_isNode c_Tr_isNode 2 (some .boolean) 1 := ⟨⟨by decide +kernel, by decide +kernel, by decide +kernel⟩, xw_mem 391 (by decide +kernel) (by decide +kernel), xw_mem 2 (by decide +kernel) (by decide +kernel), xw_mem 394 (by decide +kernel) (by decide +kernel)⟩
theorem xm_RS_85 : xMw R_RS 85 y_Tr_isAbove c_Tr_isAbove 7 (some .boolean) 2 := ⟨⟨by decide +kernel, by decide +kernel, by decide +kernel⟩, xw_mem 397 (by decide +kernel) (by decide +kernel), xw_mem 2 (by decide +kernel) (by decide +kernel), xw_mem 400 (by decide +kernel) (by decide +kernel)⟩
theorem xm_Tr_84 : xMw R_Tr 84 y_Tr_hasHolesOf c_Tr_hasHolesOf 4 (some .boolean) 2 := ⟨⟨by decide +kernel, by decide +kernel, by decide +kernel⟩, xw_mem 401 (by decide +kernel) (by decide +kernel), xw_mem 2 (by decide +kernel) (by decide +kernel), xw_mem 404 (by decide +kernel) (by decide +kernel)⟩
theorem xm_Tr_80 : xMw R_Tr 80 y_Tr_isNode c_Tr_isNode 2 (some .boolean) 1 := ⟨⟨by decide +kernel, by decide +kernel, by decide +kernel⟩, xw_mem 405 (by decide +kernel) (by decide +kernel), xw_mem 2 (by decide +kernel) (by decide +kernel), xw_mem 394 (by decide +kernel) (by decide +kernel)⟩
theorem xm_Tr_88 : xMw R_Tr 88 y_Tr_isLeaf c_Tr_isLeaf 2 (some .boolean) 1 := ⟨⟨by decide +kernel, by decide +kernel, by decide +kernel⟩, xw_mem 406 (by decide +kernel) (by decide +kernel), xw_mem 2 (by decide +kernel) (by decide +kernel), xw_mem 409 (by decide +kernel) (by decide +kernel)⟩
theorem xm_RS_89 : xMw R_RS 89 y_Ru_add c_Ru_add 6 (some .int) 4 := ⟨⟨by decide +kernel, by decide +kernel, by decide +kernel⟩, xw_mem 410 (by decide +kernel) (by decide +kernel), xw_mem 4 (by decide +kernel) (by decide +kernel), xw_mem 413 (by decide +kernel) (by decide +kernel)⟩
theorem xm_La_29 : xMw R_La 29 y_RS_holds c_RS_holds 4 (some .boolean) 2 := ⟨⟨by decide +kernel, by decide +kernel, by decide +kernel⟩, xw_mem 417 (by decide +kernel) (by decide +kernel), xw_mem 1 (by decide +kernel) (by decide +kernel), xw_mem 420 (by decide +kernel) (by decide +kernel)⟩
theorem xm_La_33 : xMw R_La 33 y_RS_choose c_RS_choose 4 (some .boolean) 2 := ⟨⟨by decide +kernel, by decide +kernel, by decide +kernel⟩, xw_mem 425 (by decide +kernel) (by decide +kernel), xw_mem 1 (by decide +kernel) (by decide +kernel), xw_mem 428 (by decide +kernel) (by decide +kernel)⟩
theorem xm_RS_98 : xMw R_RS 98 y_RS_needRule c_RS_needRule 2 none 1 := ⟨⟨by decide +kernel, by decide +kernel, by decide +kernel⟩, xw_mem 429 (by decide +kernel) (by decide +kernel), xw_mem 1 (by decide +kernel) (by decide +kernel), xw_mem 432 (by decide +kernel) (by decide +kernel)⟩
theorem xm_La_37 : xMw R_La 37 y_RS_rewrite c_RS_rewrite 5 (some .int) 2 := ⟨⟨by decide +kernel, by decide +kernel, by decide +kernel⟩, xw_mem 437 (by decide +kernel) (by decide +kernel), xw_mem 1 (by decide +kernel) (by decide +kernel), xw_mem 440 (by decide +kernel) (by decide +kernel)⟩
theorem xm_RS_105 : xMw R_RS 105 y_RS_needPlain c_RS_needPlain 2 none 1 := ⟨⟨by decide +kernel, by decide +kernel, by decide +kernel⟩, xw_mem 441 (by decide +kernel) (by decide +kernel), xw_mem 1 (by decide +kernel) (by decide +kernel), xw_mem 444 (by decide +kernel) (by decide +kernel)⟩
theorem xm_RS_113 : xMw R_RS 113 y_Rn_run c_Rn_run 7 (some .int) 4 := ⟨⟨by decide +kernel, by decide +kernel, by decide +kernel⟩, xw_mem 447 (by decide +kernel) (by decide +kernel), xw_mem 5 (by decide +kernel) (by decide +kernel), xw_mem 450 (by decide +kernel) (by decide +kernel)⟩
theorem xm_Rn_53 : xMw R_Rn 53 y_Rn_begin c_Rn_begin 3 none 1 := ⟨⟨by decide +kernel, by decide +kernel, by decide +kernel⟩, xw_mem 451 (by decide +kernel) (by decide +kernel), xw_mem 5 (by decide +kernel) (by decide +kernel), xw_mem 454 (by decide +kernel) (by decide +kernel)⟩
theorem xm_Rn_74 : xMw R_Rn 74 y_Ar_fill c_Ar_fill 4 none 2 := ⟨⟨by decide +kernel, by decide +kernel, by decide +kernel⟩, xw_mem 455 (by decide +kernel) (by decide +kernel), xw_mem 3 (by decide +kernel) (by decide +kernel), xw_mem 31 (by decide +kernel) (by decide +kernel)⟩
theorem xm_Rn_83 : xMw R_Rn 83 y_Ru_mayBeUsed c_Ru_mayBeUsed 2 (some .boolean) 1 := ⟨⟨by decide +kernel, by decide +kernel, by decide +kernel⟩, xw_mem 456 (by decide +kernel) (by decide +kernel), xw_mem 4 (by decide +kernel) (by decide +kernel), xw_mem 459 (by decide +kernel) (by decide +kernel)⟩
theorem xm_Rn_62 : xMw R_Rn 62 y_Rn_canStep c_Rn_canStep 3 (some .boolean) 1 := ⟨⟨by decide +kernel, by decide +kernel, by decide +kernel⟩, xw_mem 460 (by decide +kernel) (by decide +kernel), xw_mem 5 (by decide +kernel) (by decide +kernel), xw_mem 463 (by decide +kernel) (by decide +kernel)⟩
theorem xm_Rn_97 : xMw R_Rn 97 y_Rn_lowestRule c_Rn_lowestRule 3 (some .int) 1 := ⟨⟨by decide +kernel, by decide +kernel, by decide +kernel⟩, xw_mem 464 (by decide +kernel) (by decide +kernel), xw_mem 5 (by decide +kernel) (by decide +kernel), xw_mem 467 (by decide +kernel) (by decide +kernel)⟩
theorem xm_Rn_103 : xMw R_Rn 103 y_Rn_matches c_Rn_matches 3 (some .boolean) 2 := ⟨⟨by decide +kernel, by decide +kernel, by decide +kernel⟩, xw_mem 468 (by decide +kernel) (by decide +kernel), xw_mem 5 (by decide +kernel) (by decide +kernel), xw_mem 471 (by decide +kernel) (by decide +kernel)⟩
theorem xm_Rn_113 : xMw R_Rn 113 y_Rn_fits c_Rn_fits 4 (some .boolean) 2 := ⟨⟨by decide +kernel, by decide +kernel, by decide +kernel⟩, xw_mem 472 (by decide +kernel) (by decide +kernel), xw_mem 5 (by decide +kernel) (by decide +kernel), xw_mem 475 (by decide +kernel) (by decide +kernel)⟩
theorem xm_Rn_119 : xMw R_Rn 119 y_Rn_bind c_Rn_bind 3 (some .boolean) 2 := ⟨⟨by decide +kernel, by decide +kernel, by decide +kernel⟩, xw_mem 476 (by decide +kernel) (by decide +kernel), xw_mem 5 (by decide +kernel) (by decide +kernel), xw_mem 479 (by decide +kernel) (by decide +kernel)⟩
theorem xm_Rn_66 : xMw R_Rn 66 y_Rn_step c_Rn_step 8 (some .int) 1 := ⟨⟨by decide +kernel, by decide +kernel, by decide +kernel⟩, xw_mem 480 (by decide +kernel) (by decide +kernel), xw_mem 5 (by decide +kernel) (by decide +kernel), xw_mem 483 (by decide +kernel) (by decide +kernel)⟩
theorem xm_Rn_122 : xMw R_Rn 122 y_Rn_seek c_Rn_seek 4 none 1 := ⟨⟨by decide +kernel, by decide +kernel, by decide +kernel⟩, xw_mem 484 (by decide +kernel) (by decide +kernel), xw_mem 5 (by decide +kernel) (by decide +kernel), xw_mem 487 (by decide +kernel) (by decide +kernel)⟩
theorem xm_Rn_129 : xMw R_Rn 129 y_Rn_filled c_Rn_filled 5 (some .int) 1 := ⟨⟨by decide +kernel, by decide +kernel, by decide +kernel⟩, xw_mem 488 (by decide +kernel) (by decide +kernel), xw_mem 5 (by decide +kernel) (by decide +kernel), xw_mem 491 (by decide +kernel) (by decide +kernel)⟩
theorem xm_Rn_132 : xMw R_Rn 132 y_Tr_numberOf c_Tr_numberOf 7 (some .int) 3 := ⟨⟨by decide +kernel, by decide +kernel, by decide +kernel⟩, xw_mem 492 (by decide +kernel) (by decide +kernel), xw_mem 2 (by decide +kernel) (by decide +kernel), xw_mem 300 (by decide +kernel) (by decide +kernel)⟩
theorem xm_Rn_70 : xMw R_Rn 70 y_Ro_add c_Ro_add 6 none 4 := ⟨⟨by decide +kernel, by decide +kernel, by decide +kernel⟩, xw_mem 493 (by decide +kernel) (by decide +kernel), xw_mem 6 (by decide +kernel) (by decide +kernel), xw_mem 496 (by decide +kernel) (by decide +kernel)⟩
theorem xm_RS_117 : xMw R_RS 117 y_RS_needRun c_RS_needRun 3 (some .int) 2 := ⟨⟨by decide +kernel, by decide +kernel, by decide +kernel⟩, xw_mem 497 (by decide +kernel) (by decide +kernel), xw_mem 1 (by decide +kernel) (by decide +kernel), xw_mem 500 (by decide +kernel) (by decide +kernel)⟩
theorem xm_RS_176 : xMw R_RS 176 y_Tr_shrinkTo c_Tr_shrinkTo 2 none 1 := ⟨⟨by decide +kernel, by decide +kernel, by decide +kernel⟩, xw_mem 501 (by decide +kernel) (by decide +kernel), xw_mem 2 (by decide +kernel) (by decide +kernel), xw_mem 504 (by decide +kernel) (by decide +kernel)⟩
theorem xm_RS_121 : xMw R_RS 121 y_RS_keepRun c_RS_keepRun 2 none 0 := ⟨⟨by decide +kernel, by decide +kernel, by decide +kernel⟩, xw_mem 505 (by decide +kernel) (by decide +kernel), xw_mem 1 (by decide +kernel) (by decide +kernel), xw_mem 508 (by decide +kernel) (by decide +kernel)⟩
theorem xm_La_41 : xMw R_La 41 y_RS_normal c_RS_normal 4 (some .int) 1 := ⟨⟨by decide +kernel, by decide +kernel, by decide +kernel⟩, xw_mem 512 (by decide +kernel) (by decide +kernel), xw_mem 1 (by decide +kernel) (by decide +kernel), xw_mem 515 (by decide +kernel) (by decide +kernel)⟩
theorem xm_La_44 : xMw R_La 44 y_RS_joins c_RS_joins 6 (some .boolean) 2 := ⟨⟨by decide +kernel, by decide +kernel, by decide +kernel⟩, xw_mem 519 (by decide +kernel) (by decide +kernel), xw_mem 1 (by decide +kernel) (by decide +kernel), xw_mem 522 (by decide +kernel) (by decide +kernel)⟩
theorem xm_La_47 : xMw R_La 47 y_RS_row c_RS_row 3 (some .int) 2 := ⟨⟨by decide +kernel, by decide +kernel, by decide +kernel⟩, xw_mem 526 (by decide +kernel) (by decide +kernel), xw_mem 1 (by decide +kernel) (by decide +kernel), xw_mem 529 (by decide +kernel) (by decide +kernel)⟩
theorem xm_La_50 : xMw R_La 50 y_RS_lessens c_RS_lessens 2 (some .boolean) 1 := ⟨⟨by decide +kernel, by decide +kernel, by decide +kernel⟩, xw_mem 535 (by decide +kernel) (by decide +kernel), xw_mem 1 (by decide +kernel) (by decide +kernel), xw_mem 538 (by decide +kernel) (by decide +kernel)⟩
theorem xm_La_54 : xMw R_La 54 y_RS_usable c_RS_usable 2 (some .boolean) 1 := ⟨⟨by decide +kernel, by decide +kernel, by decide +kernel⟩, xw_mem 542 (by decide +kernel) (by decide +kernel), xw_mem 1 (by decide +kernel) (by decide +kernel), xw_mem 545 (by decide +kernel) (by decide +kernel)⟩
theorem xm_RS_144 : xMw R_RS 144 y_Ru_mayBeUsed c_Ru_mayBeUsed 2 (some .boolean) 1 := ⟨⟨by decide +kernel, by decide +kernel, by decide +kernel⟩, xw_mem 546 (by decide +kernel) (by decide +kernel), xw_mem 4 (by decide +kernel) (by decide +kernel), xw_mem 459 (by decide +kernel) (by decide +kernel)⟩
theorem xm_La_57 : xMw R_La 57 y_RS_above c_RS_above 3 (some .boolean) 2 := ⟨⟨by decide +kernel, by decide +kernel, by decide +kernel⟩, xw_mem 550 (by decide +kernel) (by decide +kernel), xw_mem 1 (by decide +kernel) (by decide +kernel), xw_mem 553 (by decide +kernel) (by decide +kernel)⟩
theorem xm_La_60 : xMw R_La 60 y_RS_measure c_RS_measure 3 (some .int) 2 := ⟨⟨by decide +kernel, by decide +kernel, by decide +kernel⟩, xw_mem 557 (by decide +kernel) (by decide +kernel), xw_mem 1 (by decide +kernel) (by decide +kernel), xw_mem 560 (by decide +kernel) (by decide +kernel)⟩
theorem xm_La_63 : xMw R_La 63 y_RS_at c_RS_at 3 (some .int) 2 := ⟨⟨by decide +kernel, by decide +kernel, by decide +kernel⟩, xw_mem 565 (by decide +kernel) (by decide +kernel), xw_mem 1 (by decide +kernel) (by decide +kernel), xw_mem 568 (by decide +kernel) (by decide +kernel)⟩
theorem xm_RS_158 : xMw R_RS 158 y_Tr_treeAt c_Tr_treeAt 6 (some .int) 2 := ⟨⟨by decide +kernel, by decide +kernel, by decide +kernel⟩, xw_mem 569 (by decide +kernel) (by decide +kernel), xw_mem 2 (by decide +kernel) (by decide +kernel), xw_mem 572 (by decide +kernel) (by decide +kernel)⟩
theorem xm_La_66 : xMw R_La 66 y_RS_head c_RS_head 2 (some .int) 1 := ⟨⟨by decide +kernel, by decide +kernel, by decide +kernel⟩, xw_mem 576 (by decide +kernel) (by decide +kernel), xw_mem 1 (by decide +kernel) (by decide +kernel), xw_mem 579 (by decide +kernel) (by decide +kernel)⟩
theorem xm_La_72 : xMw R_La 72 y_Md_init c_Md_init 2 none 0 := ⟨⟨by decide +kernel, by decide +kernel, by decide +kernel⟩, xw_mem 582 (by decide +kernel) (by decide +kernel), xw_mem 7 (by decide +kernel) (by decide +kernel), xw_mem 584 (by decide +kernel) (by decide +kernel)⟩
theorem xm_La_79 : xMw R_La 79 y_Md_thrown c_Md_thrown 1 (some .int) 0 := ⟨⟨by decide +kernel, by decide +kernel, by decide +kernel⟩, xw_mem 692 (by decide +kernel) (by decide +kernel), xw_mem 7 (by decide +kernel) (by decide +kernel), xw_mem 695 (by decide +kernel) (by decide +kernel)⟩
theorem xm_La_78 : xMw R_La 78 y_Md_leaf c_Md_leaf 2 (some .int) 1 := ⟨⟨by decide +kernel, by decide +kernel, by decide +kernel⟩, xw_mem 696 (by decide +kernel) (by decide +kernel), xw_mem 7 (by decide +kernel) (by decide +kernel), xw_mem 699 (by decide +kernel) (by decide +kernel)⟩
theorem xm_Md_105 : xMw R_Md 105 y_Md_ask c_Md_ask 6 (some .int) 4 := ⟨⟨by decide +kernel, by decide +kernel, by decide +kernel⟩, xw_mem 700 (by decide +kernel) (by decide +kernel), xw_mem 7 (by decide +kernel) (by decide +kernel), xw_mem 703 (by decide +kernel) (by decide +kernel)⟩
theorem xm_Md_101 : xMw R_Md 101 y_Md_tree c_Md_tree 9 (some .int) 3 := ⟨⟨by decide +kernel, by decide +kernel, by decide +kernel⟩, xw_mem 704 (by decide +kernel) (by decide +kernel), xw_mem 7 (by decide +kernel) (by decide +kernel), xw_mem 707 (by decide +kernel) (by decide +kernel)⟩
theorem xm_Md_93 : xMw R_Md 93 y_Md_parts c_Md_parts 1 (some .int) 1 := ⟨⟨by decide +kernel, by decide +kernel, by decide +kernel⟩, xw_mem 708 (by decide +kernel) (by decide +kernel), xw_mem 7 (by decide +kernel) (by decide +kernel), xw_mem 710 (by decide +kernel) (by decide +kernel)⟩
theorem xm_La_85 : xMw R_La 85 y_Md_hole c_Md_hole 2 (some .int) 1 := ⟨⟨by decide +kernel, by decide +kernel, by decide +kernel⟩, xw_mem 711 (by decide +kernel) (by decide +kernel), xw_mem 7 (by decide +kernel) (by decide +kernel), xw_mem 714 (by decide +kernel) (by decide +kernel)⟩
theorem xm_La_89 : xMw R_La 89 y_Md_node c_Md_node 6 (some .int) 3 := ⟨⟨by decide +kernel, by decide +kernel, by decide +kernel⟩, xw_mem 715 (by decide +kernel) (by decide +kernel), xw_mem 7 (by decide +kernel) (by decide +kernel), xw_mem 718 (by decide +kernel) (by decide +kernel)⟩
theorem xm_Md_109 : xMw R_Md 109 y_Md_isTree c_Md_isTree 2 (some .boolean) 1 := ⟨⟨by decide +kernel, by decide +kernel, by decide +kernel⟩, xw_mem 719 (by decide +kernel) (by decide +kernel), xw_mem 7 (by decide +kernel) (by decide +kernel), xw_mem 722 (by decide +kernel) (by decide +kernel)⟩
theorem xm_La_92 : xMw R_La 92 y_Md_rule c_Md_rule 4 (some .int) 3 := ⟨⟨by decide +kernel, by decide +kernel, by decide +kernel⟩, xw_mem 723 (by decide +kernel) (by decide +kernel), xw_mem 7 (by decide +kernel) (by decide +kernel), xw_mem 726 (by decide +kernel) (by decide +kernel)⟩
theorem xm_La_96 : xMw R_La 96 y_Md_holds c_Md_holds 4 (some .boolean) 2 := ⟨⟨by decide +kernel, by decide +kernel, by decide +kernel⟩, xw_mem 727 (by decide +kernel) (by decide +kernel), xw_mem 7 (by decide +kernel) (by decide +kernel), xw_mem 730 (by decide +kernel) (by decide +kernel)⟩
theorem xm_La_100 : xMw R_La 100 y_Md_choose c_Md_choose 4 (some .boolean) 2 := ⟨⟨by decide +kernel, by decide +kernel, by decide +kernel⟩, xw_mem 731 (by decide +kernel) (by decide +kernel), xw_mem 7 (by decide +kernel) (by decide +kernel), xw_mem 734 (by decide +kernel) (by decide +kernel)⟩
theorem xm_Md_132 : xMw R_Md 132 y_Md_isRule c_Md_isRule 2 (some .boolean) 1 := ⟨⟨by decide +kernel, by decide +kernel, by decide +kernel⟩, xw_mem 735 (by decide +kernel) (by decide +kernel), xw_mem 7 (by decide +kernel) (by decide +kernel), xw_mem 738 (by decide +kernel) (by decide +kernel)⟩
theorem xm_La_131 : xMw R_La 131 y_Md_usable c_Md_usable 2 (some .boolean) 1 := ⟨⟨by decide +kernel, by decide +kernel, by decide +kernel⟩, xw_mem 739 (by decide +kernel) (by decide +kernel), xw_mem 7 (by decide +kernel) (by decide +kernel), xw_mem 742 (by decide +kernel) (by decide +kernel)⟩
theorem xm_Md_135 : xMw R_Md 135 y_Md_may c_Md_may 2 (some .boolean) 1 := ⟨⟨by decide +kernel, by decide +kernel, by decide +kernel⟩, xw_mem 743 (by decide +kernel) (by decide +kernel), xw_mem 7 (by decide +kernel) (by decide +kernel), xw_mem 746 (by decide +kernel) (by decide +kernel)⟩
theorem xm_La_128 : xMw R_La 128 y_Md_lessens c_Md_lessens 2 (some .boolean) 1 := ⟨⟨by decide +kernel, by decide +kernel, by decide +kernel⟩, xw_mem 747 (by decide +kernel) (by decide +kernel), xw_mem 7 (by decide +kernel) (by decide +kernel), xw_mem 750 (by decide +kernel) (by decide +kernel)⟩
theorem xm_Md_138 : xMw R_Md 138 y_Md_isAbove c_Md_isAbove 9 (some .boolean) 2 := ⟨⟨by decide +kernel, by decide +kernel, by decide +kernel⟩, xw_mem 751 (by decide +kernel) (by decide +kernel), xw_mem 7 (by decide +kernel) (by decide +kernel), xw_mem 754 (by decide +kernel) (by decide +kernel)⟩
theorem xm_Md_125 : xMw R_Md 125 y_Md_holesAllow c_Md_holesAllow 4 (some .boolean) 2 := ⟨⟨by decide +kernel, by decide +kernel, by decide +kernel⟩, xw_mem 755 (by decide +kernel) (by decide +kernel), xw_mem 7 (by decide +kernel) (by decide +kernel), xw_mem 758 (by decide +kernel) (by decide +kernel)⟩
theorem xm_Md_121 : xMw R_Md 121 y_Md_countHoles c_Md_countHoles 5 none 2 := ⟨⟨by decide +kernel, by decide +kernel, by decide +kernel⟩, xw_mem 759 (by decide +kernel) (by decide +kernel), xw_mem 7 (by decide +kernel) (by decide +kernel), xw_mem 762 (by decide +kernel) (by decide +kernel)⟩
theorem xm_Md_117 : xMw R_Md 117 y_Md_lay c_Md_lay 7 (some .int) 3 := ⟨⟨by decide +kernel, by decide +kernel, by decide +kernel⟩, xw_mem 763 (by decide +kernel) (by decide +kernel), xw_mem 7 (by decide +kernel) (by decide +kernel), xw_mem 766 (by decide +kernel) (by decide +kernel)⟩
theorem xm_Md_113 : xMw R_Md 113 y_Md_findAround c_Md_findAround 4 none 1 := ⟨⟨by decide +kernel, by decide +kernel, by decide +kernel⟩, xw_mem 767 (by decide +kernel) (by decide +kernel), xw_mem 7 (by decide +kernel) (by decide +kernel), xw_mem 770 (by decide +kernel) (by decide +kernel)⟩
theorem xm_La_103 : xMw R_La 103 y_Md_rewrite c_Md_rewrite 4 (some .int) 2 := ⟨⟨by decide +kernel, by decide +kernel, by decide +kernel⟩, xw_mem 771 (by decide +kernel) (by decide +kernel), xw_mem 7 (by decide +kernel) (by decide +kernel), xw_mem 774 (by decide +kernel) (by decide +kernel)⟩
theorem xm_Md_176 : xMw R_Md 176 y_Md_lookForRules c_Md_lookForRules 3 none 1 := ⟨⟨by decide +kernel, by decide +kernel, by decide +kernel⟩, xw_mem 775 (by decide +kernel) (by decide +kernel), xw_mem 7 (by decide +kernel) (by decide +kernel), xw_mem 778 (by decide +kernel) (by decide +kernel)⟩
theorem xm_Md_180 : xMw R_Md 180 y_Md_go c_Md_go 9 (some .int) 2 := ⟨⟨by decide +kernel, by decide +kernel, by decide +kernel⟩, xw_mem 779 (by decide +kernel) (by decide +kernel), xw_mem 7 (by decide +kernel) (by decide +kernel), xw_mem 782 (by decide +kernel) (by decide +kernel)⟩
theorem xm_Md_153 : xMw R_Md 153 y_Md_placeOf c_Md_placeOf 4 (some .int) 1 := ⟨⟨by decide +kernel, by decide +kernel, by decide +kernel⟩, xw_mem 783 (by decide +kernel) (by decide +kernel), xw_mem 7 (by decide +kernel) (by decide +kernel), xw_mem 786 (by decide +kernel) (by decide +kernel)⟩
theorem xm_Md_144 : xMw R_Md 144 y_Md_ruleAt c_Md_ruleAt 3 (some .int) 1 := ⟨⟨by decide +kernel, by decide +kernel, by decide +kernel⟩, xw_mem 787 (by decide +kernel) (by decide +kernel), xw_mem 7 (by decide +kernel) (by decide +kernel), xw_mem 790 (by decide +kernel) (by decide +kernel)⟩
theorem xm_Md_141 : xMw R_Md 141 y_Md_matches c_Md_matches 9 (some .boolean) 2 := ⟨⟨by decide +kernel, by decide +kernel, by decide +kernel⟩, xw_mem 791 (by decide +kernel) (by decide +kernel), xw_mem 7 (by decide +kernel) (by decide +kernel), xw_mem 794 (by decide +kernel) (by decide +kernel)⟩
theorem xm_Md_156 : xMw R_Md 156 y_Md_build c_Md_build 7 (some .int) 1 := ⟨⟨by decide +kernel, by decide +kernel, by decide +kernel⟩, xw_mem 795 (by decide +kernel) (by decide +kernel), xw_mem 7 (by decide +kernel) (by decide +kernel), xw_mem 798 (by decide +kernel) (by decide +kernel)⟩
theorem xm_Md_159 : xMw R_Md 159 y_Md_replace c_Md_replace 8 (some .int) 2 := ⟨⟨by decide +kernel, by decide +kernel, by decide +kernel⟩, xw_mem 799 (by decide +kernel) (by decide +kernel), xw_mem 7 (by decide +kernel) (by decide +kernel), xw_mem 802 (by decide +kernel) (by decide +kernel)⟩
theorem xm_Md_163 : xMw R_Md 163 y_Md_keep c_Md_keep 5 none 4 := ⟨⟨by decide +kernel, by decide +kernel, by decide +kernel⟩, xw_mem 803 (by decide +kernel) (by decide +kernel), xw_mem 7 (by decide +kernel) (by decide +kernel), xw_mem 806 (by decide +kernel) (by decide +kernel)⟩
theorem xm_Md_183 : xMw R_Md 183 y_Md_take c_Md_take 2 none 0 := ⟨⟨by decide +kernel, by decide +kernel, by decide +kernel⟩, xw_mem 807 (by decide +kernel) (by decide +kernel), xw_mem 7 (by decide +kernel) (by decide +kernel), xw_mem 810 (by decide +kernel) (by decide +kernel)⟩
theorem xm_La_106 : xMw R_La 106 y_Md_normal c_Md_normal 3 (some .int) 1 := ⟨⟨by decide +kernel, by decide +kernel, by decide +kernel⟩, xw_mem 811 (by decide +kernel) (by decide +kernel), xw_mem 7 (by decide +kernel) (by decide +kernel), xw_mem 814 (by decide +kernel) (by decide +kernel)⟩
theorem xm_La_109 : xMw R_La 109 y_Md_joins c_Md_joins 6 (some .boolean) 2 := ⟨⟨by decide +kernel, by decide +kernel, by decide +kernel⟩, xw_mem 815 (by decide +kernel) (by decide +kernel), xw_mem 7 (by decide +kernel) (by decide +kernel), xw_mem 818 (by decide +kernel) (by decide +kernel)⟩
theorem xm_La_114 : xMw R_La 114 y_Md_spent c_Md_spent 1 (some .boolean) 0 := ⟨⟨by decide +kernel, by decide +kernel, by decide +kernel⟩, xw_mem 819 (by decide +kernel) (by decide +kernel), xw_mem 7 (by decide +kernel) (by decide +kernel), xw_mem 822 (by decide +kernel) (by decide +kernel)⟩
theorem xm_La_117 : xMw R_La 117 y_Md_row c_Md_row 3 (some .int) 2 := ⟨⟨by decide +kernel, by decide +kernel, by decide +kernel⟩, xw_mem 823 (by decide +kernel) (by decide +kernel), xw_mem 7 (by decide +kernel) (by decide +kernel), xw_mem 826 (by decide +kernel) (by decide +kernel)⟩
theorem xm_La_121 : xMw R_La 121 y_Md_steps c_Md_steps 1 (some .int) 0 := ⟨⟨by decide +kernel, by decide +kernel, by decide +kernel⟩, xw_mem 827 (by decide +kernel) (by decide +kernel), xw_mem 7 (by decide +kernel) (by decide +kernel), xw_mem 830 (by decide +kernel) (by decide +kernel)⟩
theorem xm_La_125 : xMw R_La 125 y_Md_domain c_Md_domain 3 (some .int) 0 := ⟨⟨by decide +kernel, by decide +kernel, by decide +kernel⟩, xw_mem 831 (by decide +kernel) (by decide +kernel), xw_mem 7 (by decide +kernel) (by decide +kernel), xw_mem 834 (by decide +kernel) (by decide +kernel)⟩
theorem xm_La_134 : xMw R_La 134 y_Md_above c_Md_above 3 (some .boolean) 2 := ⟨⟨by decide +kernel, by decide +kernel, by decide +kernel⟩, xw_mem 835 (by decide +kernel) (by decide +kernel), xw_mem 7 (by decide +kernel) (by decide +kernel), xw_mem 838 (by decide +kernel) (by decide +kernel)⟩
theorem xm_La_137 : xMw R_La 137 y_Md_measure c_Md_measure 3 (some .int) 2 := ⟨⟨by decide +kernel, by decide +kernel, by decide +kernel⟩, xw_mem 839 (by decide +kernel) (by decide +kernel), xw_mem 7 (by decide +kernel) (by decide +kernel), xw_mem 842 (by decide +kernel) (by decide +kernel)⟩
theorem xm_La_140 : xMw R_La 140 y_Md_at c_Md_at 4 (some .int) 2 := ⟨⟨by decide +kernel, by decide +kernel, by decide +kernel⟩, xw_mem 843 (by decide +kernel) (by decide +kernel), xw_mem 7 (by decide +kernel) (by decide +kernel), xw_mem 846 (by decide +kernel) (by decide +kernel)⟩
theorem xm_La_143 : xMw R_La 143 y_Md_head c_Md_head 2 (some .int) 1 := ⟨⟨by decide +kernel, by decide +kernel, by decide +kernel⟩, xw_mem 847 (by decide +kernel) (by decide +kernel), xw_mem 7 (by decide +kernel) (by decide +kernel), xw_mem 850 (by decide +kernel) (by decide +kernel)⟩
theorem xm_La_147 : xMw R_La 147 y_Md_count c_Md_count 2 (some .int) 1 := ⟨⟨by decide +kernel, by decide +kernel, by decide +kernel⟩, xw_mem 851 (by decide +kernel) (by decide +kernel), xw_mem 7 (by decide +kernel) (by decide +kernel), xw_mem 854 (by decide +kernel) (by decide +kernel)⟩
theorem x2_RS_init : y_RS_init.name = "<init>" ∧ Cond.instanceMethod y_RS_init ∈ xTs := ⟨rfl, xw_mem 18 (by decide +kernel) (by decide +kernel)⟩
theorem x2_Tr_init : y_Tr_init.name = "<init>" ∧ Cond.instanceMethod y_Tr_init ∈ xTs := ⟨rfl, xw_mem 26 (by decide +kernel) (by decide +kernel)⟩
theorem x2_Ar_fill : Cond.static y_Ar_fill ∈ xTs := xw_mem 30 (by decide +kernel) (by decide +kernel)
theorem x2_Ru_init : y_Ru_init.name = "<init>" ∧ Cond.instanceMethod y_Ru_init ∈ xTs := ⟨rfl, xw_mem 82 (by decide +kernel) (by decide +kernel)⟩
theorem x2_Rn_init : y_Rn_init.name = "<init>" ∧ Cond.instanceMethod y_Rn_init ∈ xTs := ⟨rfl, xw_mem 121 (by decide +kernel) (by decide +kernel)⟩
theorem x2_Ro_init : y_Ro_init.name = "<init>" ∧ Cond.instanceMethod y_Ro_init ∈ xTs := ⟨rfl, xw_mem 166 (by decide +kernel) (by decide +kernel)⟩
theorem x2_RS_spent : Cond.instanceMethod y_RS_spent ∈ xTs ∧ Cond.selects y_RS_spent.cls y_RS_spent y_RS_spent ∈ xTs := ⟨xw_mem 201 (by decide +kernel) (by decide +kernel), xw_mem 202 (by decide +kernel) (by decide +kernel)⟩
theorem x2_RS_steps : Cond.instanceMethod y_RS_steps ∈ xTs ∧ Cond.selects y_RS_steps.cls y_RS_steps y_RS_steps ∈ xTs := ⟨xw_mem 205 (by decide +kernel) (by decide +kernel), xw_mem 206 (by decide +kernel) (by decide +kernel)⟩
theorem x2_RS_domain : Cond.instanceMethod y_RS_domain ∈ xTs ∧ Cond.selects y_RS_domain.cls y_RS_domain y_RS_domain ∈ xTs := ⟨xw_mem 209 (by decide +kernel) (by decide +kernel), xw_mem 210 (by decide +kernel) (by decide +kernel)⟩
theorem x2_Ro_cell : Cond.instanceMethod y_Ro_cell ∈ xTs ∧ Cond.selects y_Ro_cell.cls y_Ro_cell y_Ro_cell ∈ xTs := ⟨xw_mem 213 (by decide +kernel) (by decide +kernel), xw_mem 214 (by decide +kernel) (by decide +kernel)⟩
theorem x2_RS_count : Cond.instanceMethod y_RS_count ∈ xTs ∧ Cond.selects y_RS_count.cls y_RS_count y_RS_count ∈ xTs := ⟨xw_mem 217 (by decide +kernel) (by decide +kernel), xw_mem 218 (by decide +kernel) (by decide +kernel)⟩
theorem x2_La_leaf : Cond.static y_La_leaf ∈ xTs := xw_mem 221 (by decide +kernel) (by decide +kernel)
theorem x2_RS_leaf : Cond.instanceMethod y_RS_leaf ∈ xTs ∧ Cond.selects y_RS_leaf.cls y_RS_leaf y_RS_leaf ∈ xTs := ⟨xw_mem 226 (by decide +kernel) (by decide +kernel), xw_mem 227 (by decide +kernel) (by decide +kernel)⟩
theorem x2_Tr_numberOf : Cond.instanceMethod y_Tr_numberOf ∈ xTs ∧ Cond.selects y_Tr_numberOf.cls y_Tr_numberOf y_Tr_numberOf ∈ xTs := ⟨xw_mem 298 (by decide +kernel) (by decide +kernel), xw_mem 299 (by decide +kernel) (by decide +kernel)⟩
theorem x2_Tr_slotOf : Cond.instanceMethod y_Tr_slotOf ∈ xTs ∧ Cond.selects y_Tr_slotOf.cls y_Tr_slotOf y_Tr_slotOf ∈ xTs := ⟨xw_mem 303 (by decide +kernel) (by decide +kernel), xw_sel 1 (by decide +kernel) (by decide +kernel)⟩
theorem x2_Tr_enter : Cond.instanceMethod y_Tr_enter ∈ xTs ∧ Cond.selects y_Tr_enter.cls y_Tr_enter y_Tr_enter ∈ xTs := ⟨xw_mem 307 (by decide +kernel) (by decide +kernel), xw_sel 2 (by decide +kernel) (by decide +kernel)⟩
theorem x2_Tr_ownWeight : Cond.instanceMethod y_Tr_ownWeight ∈ xTs ∧ Cond.selects y_Tr_ownWeight.cls y_Tr_ownWeight y_Tr_ownWeight ∈ xTs := ⟨xw_mem 311 (by decide +kernel) (by decide +kernel), xw_sel 3 (by decide +kernel) (by decide +kernel)⟩
theorem x2_Tr_valueOf : Cond.instanceMethod y_Tr_valueOf ∈ xTs ∧ Cond.selects y_Tr_valueOf.cls y_Tr_valueOf y_Tr_valueOf ∈ xTs := ⟨xw_mem 315 (by decide +kernel) (by decide +kernel), xw_sel 4 (by decide +kernel) (by decide +kernel)⟩
theorem x2_Tr_noteHoles : Cond.instanceMethod y_Tr_noteHoles ∈ xTs ∧ Cond.selects y_Tr_noteHoles.cls y_Tr_noteHoles y_Tr_noteHoles ∈ xTs := ⟨xw_mem 322 (by decide +kernel) (by decide +kernel), xw_sel 5 (by decide +kernel) (by decide +kernel)⟩
theorem x2_Tr_holeCount : Cond.instanceMethod y_Tr_holeCount ∈ xTs ∧ Cond.selects y_Tr_holeCount.cls y_Tr_holeCount y_Tr_holeCount ∈ xTs := ⟨xw_mem 326 (by decide +kernel) (by decide +kernel), xw_sel 6 (by decide +kernel) (by decide +kernel)⟩
theorem x2_RS_needMade : Cond.static y_RS_needMade ∈ xTs := xw_mem 329 (by decide +kernel) (by decide +kernel)
theorem x2_La_hole : Cond.static y_La_hole ∈ xTs := xw_mem 348 (by decide +kernel) (by decide +kernel)
theorem x2_RS_hole : Cond.instanceMethod y_RS_hole ∈ xTs ∧ Cond.selects y_RS_hole.cls y_RS_hole y_RS_hole ∈ xTs := ⟨xw_mem 351 (by decide +kernel) (by decide +kernel), xw_mem 352 (by decide +kernel) (by decide +kernel)⟩
theorem x2_La_node : Cond.static y_La_node ∈ xTs := xw_mem 356 (by decide +kernel) (by decide +kernel)
theorem x2_RS_node : Cond.instanceMethod y_RS_node ∈ xTs ∧ Cond.selects y_RS_node.cls y_RS_node y_RS_node ∈ xTs := ⟨xw_mem 360 (by decide +kernel) (by decide +kernel), xw_mem 361 (by decide +kernel) (by decide +kernel)⟩
theorem x2_RS_needTree : Cond.instanceMethod y_RS_needTree ∈ xTs ∧ Cond.selects y_RS_needTree.cls y_RS_needTree y_RS_needTree ∈ xTs := ⟨xw_mem 365 (by decide +kernel) (by decide +kernel), xw_sel 7 (by decide +kernel) (by decide +kernel)⟩
theorem x2_La_rule : Cond.static y_La_rule ∈ xTs := xw_mem 385 (by decide +kernel) (by decide +kernel)
theorem x2_RS_rule : Cond.instanceMethod y_RS_rule ∈ xTs ∧ Cond.selects y_RS_rule.cls y_RS_rule y_RS_rule ∈ xTs := ⟨xw_mem 388 (by decide +kernel) (by decide +kernel), xw_mem 389 (by decide +kernel) (by decide +kernel)⟩
theorem x2_Tr_isNode : Cond.instanceMethod y_Tr_isNode ∈ xTs ∧ Cond.selects y_Tr_isNode.cls y_Tr_isNode y_Tr_isNode ∈ xTs := ⟨xw_mem 392 (by decide +kernel) (by decide +kernel), xw_mem 393 (by decide +kernel) (by decide +kernel)⟩
theorem x2_Tr_isAbove : Cond.instanceMethod y_Tr_isAbove ∈ xTs ∧ Cond.selects y_Tr_isAbove.cls y_Tr_isAbove y_Tr_isAbove ∈ xTs := ⟨xw_mem 398 (by decide +kernel) (by decide +kernel), xw_mem 399 (by decide +kernel) (by decide +kernel)⟩
theorem x2_Tr_hasHolesOf : Cond.instanceMethod y_Tr_hasHolesOf ∈ xTs ∧ Cond.selects y_Tr_hasHolesOf.cls y_Tr_hasHolesOf y_Tr_hasHolesOf ∈ xTs := ⟨xw_mem 403 (by decide +kernel) (by decide +kernel), xw_sel 8 (by decide +kernel) (by decide +kernel)⟩
theorem x2_Tr_isLeaf : Cond.instanceMethod y_Tr_isLeaf ∈ xTs ∧ Cond.selects y_Tr_isLeaf.cls y_Tr_isLeaf y_Tr_isLeaf ∈ xTs := ⟨xw_mem 407 (by decide +kernel) (by decide +kernel), xw_mem 408 (by decide +kernel) (by decide +kernel)⟩
theorem x2_Ru_add : Cond.instanceMethod y_Ru_add ∈ xTs ∧ Cond.selects y_Ru_add.cls y_Ru_add y_Ru_add ∈ xTs := ⟨xw_mem 411 (by decide +kernel) (by decide +kernel), xw_mem 412 (by decide +kernel) (by decide +kernel)⟩
theorem x2_La_holds : Cond.static y_La_holds ∈ xTs := xw_mem 415 (by decide +kernel) (by decide +kernel)
theorem x2_RS_holds : Cond.instanceMethod y_RS_holds ∈ xTs ∧ Cond.selects y_RS_holds.cls y_RS_holds y_RS_holds ∈ xTs := ⟨xw_mem 418 (by decide +kernel) (by decide +kernel), xw_mem 419 (by decide +kernel) (by decide +kernel)⟩
theorem x2_La_choose : Cond.static y_La_choose ∈ xTs := xw_mem 423 (by decide +kernel) (by decide +kernel)
theorem x2_RS_choose : Cond.instanceMethod y_RS_choose ∈ xTs ∧ Cond.selects y_RS_choose.cls y_RS_choose y_RS_choose ∈ xTs := ⟨xw_mem 426 (by decide +kernel) (by decide +kernel), xw_mem 427 (by decide +kernel) (by decide +kernel)⟩
theorem x2_RS_needRule : Cond.instanceMethod y_RS_needRule ∈ xTs ∧ Cond.selects y_RS_needRule.cls y_RS_needRule y_RS_needRule ∈ xTs := ⟨xw_mem 431 (by decide +kernel) (by decide +kernel), xw_sel 9 (by decide +kernel) (by decide +kernel)⟩
theorem x2_La_rewrite : Cond.static y_La_rewrite ∈ xTs := xw_mem 435 (by decide +kernel) (by decide +kernel)
theorem x2_RS_rewrite : Cond.instanceMethod y_RS_rewrite ∈ xTs ∧ Cond.selects y_RS_rewrite.cls y_RS_rewrite y_RS_rewrite ∈ xTs := ⟨xw_mem 438 (by decide +kernel) (by decide +kernel), xw_mem 439 (by decide +kernel) (by decide +kernel)⟩
theorem x2_RS_needPlain : Cond.instanceMethod y_RS_needPlain ∈ xTs ∧ Cond.selects y_RS_needPlain.cls y_RS_needPlain y_RS_needPlain ∈ xTs := ⟨xw_mem 443 (by decide +kernel) (by decide +kernel), xw_sel 10 (by decide +kernel) (by decide +kernel)⟩
theorem x2_Rn_run : Cond.instanceMethod y_Rn_run ∈ xTs ∧ Cond.selects y_Rn_run.cls y_Rn_run y_Rn_run ∈ xTs := ⟨xw_mem 448 (by decide +kernel) (by decide +kernel), xw_mem 449 (by decide +kernel) (by decide +kernel)⟩
theorem x2_Rn_begin : Cond.instanceMethod y_Rn_begin ∈ xTs ∧ Cond.selects y_Rn_begin.cls y_Rn_begin y_Rn_begin ∈ xTs := ⟨xw_mem 453 (by decide +kernel) (by decide +kernel), xw_sel 11 (by decide +kernel) (by decide +kernel)⟩
theorem x2_Ru_mayBeUsed : Cond.instanceMethod y_Ru_mayBeUsed ∈ xTs ∧ Cond.selects y_Ru_mayBeUsed.cls y_Ru_mayBeUsed y_Ru_mayBeUsed ∈ xTs := ⟨xw_mem 457 (by decide +kernel) (by decide +kernel), xw_mem 458 (by decide +kernel) (by decide +kernel)⟩
theorem x2_Rn_canStep : Cond.instanceMethod y_Rn_canStep ∈ xTs ∧ Cond.selects y_Rn_canStep.cls y_Rn_canStep y_Rn_canStep ∈ xTs := ⟨xw_mem 462 (by decide +kernel) (by decide +kernel), xw_sel 12 (by decide +kernel) (by decide +kernel)⟩
theorem x2_Rn_lowestRule : Cond.instanceMethod y_Rn_lowestRule ∈ xTs ∧ Cond.selects y_Rn_lowestRule.cls y_Rn_lowestRule y_Rn_lowestRule ∈ xTs := ⟨xw_mem 466 (by decide +kernel) (by decide +kernel), xw_sel 13 (by decide +kernel) (by decide +kernel)⟩
theorem x2_Rn_matches : Cond.instanceMethod y_Rn_matches ∈ xTs ∧ Cond.selects y_Rn_matches.cls y_Rn_matches y_Rn_matches ∈ xTs := ⟨xw_mem 470 (by decide +kernel) (by decide +kernel), xw_sel 14 (by decide +kernel) (by decide +kernel)⟩
theorem x2_Rn_fits : Cond.instanceMethod y_Rn_fits ∈ xTs ∧ Cond.selects y_Rn_fits.cls y_Rn_fits y_Rn_fits ∈ xTs := ⟨xw_mem 474 (by decide +kernel) (by decide +kernel), xw_sel 15 (by decide +kernel) (by decide +kernel)⟩
theorem x2_Rn_bind : Cond.instanceMethod y_Rn_bind ∈ xTs ∧ Cond.selects y_Rn_bind.cls y_Rn_bind y_Rn_bind ∈ xTs := ⟨xw_mem 478 (by decide +kernel) (by decide +kernel), xw_sel 16 (by decide +kernel) (by decide +kernel)⟩
theorem x2_Rn_step : Cond.instanceMethod y_Rn_step ∈ xTs ∧ Cond.selects y_Rn_step.cls y_Rn_step y_Rn_step ∈ xTs := ⟨xw_mem 482 (by decide +kernel) (by decide +kernel), xw_sel 17 (by decide +kernel) (by decide +kernel)⟩
theorem x2_Rn_seek : Cond.instanceMethod y_Rn_seek ∈ xTs ∧ Cond.selects y_Rn_seek.cls y_Rn_seek y_Rn_seek ∈ xTs := ⟨xw_mem 486 (by decide +kernel) (by decide +kernel), xw_sel 18 (by decide +kernel) (by decide +kernel)⟩
theorem x2_Rn_filled : Cond.instanceMethod y_Rn_filled ∈ xTs ∧ Cond.selects y_Rn_filled.cls y_Rn_filled y_Rn_filled ∈ xTs := ⟨xw_mem 490 (by decide +kernel) (by decide +kernel), xw_sel 19 (by decide +kernel) (by decide +kernel)⟩
theorem x2_Ro_add : Cond.instanceMethod y_Ro_add ∈ xTs ∧ Cond.selects y_Ro_add.cls y_Ro_add y_Ro_add ∈ xTs := ⟨xw_mem 494 (by decide +kernel) (by decide +kernel), xw_mem 495 (by decide +kernel) (by decide +kernel)⟩
theorem x2_RS_needRun : Cond.instanceMethod y_RS_needRun ∈ xTs ∧ Cond.selects y_RS_needRun.cls y_RS_needRun y_RS_needRun ∈ xTs := ⟨xw_mem 499 (by decide +kernel) (by decide +kernel), xw_sel 20 (by decide +kernel) (by decide +kernel)⟩
theorem x2_Tr_shrinkTo : Cond.instanceMethod y_Tr_shrinkTo ∈ xTs ∧ Cond.selects y_Tr_shrinkTo.cls y_Tr_shrinkTo y_Tr_shrinkTo ∈ xTs := ⟨xw_mem 502 (by decide +kernel) (by decide +kernel), xw_mem 503 (by decide +kernel) (by decide +kernel)⟩
theorem x2_RS_keepRun : Cond.instanceMethod y_RS_keepRun ∈ xTs ∧ Cond.selects y_RS_keepRun.cls y_RS_keepRun y_RS_keepRun ∈ xTs := ⟨xw_mem 507 (by decide +kernel) (by decide +kernel), xw_sel 21 (by decide +kernel) (by decide +kernel)⟩
theorem x2_La_normal : Cond.static y_La_normal ∈ xTs := xw_mem 510 (by decide +kernel) (by decide +kernel)
theorem x2_RS_normal : Cond.instanceMethod y_RS_normal ∈ xTs ∧ Cond.selects y_RS_normal.cls y_RS_normal y_RS_normal ∈ xTs := ⟨xw_mem 513 (by decide +kernel) (by decide +kernel), xw_mem 514 (by decide +kernel) (by decide +kernel)⟩
theorem x2_La_joins : Cond.static y_La_joins ∈ xTs := xw_mem 517 (by decide +kernel) (by decide +kernel)
theorem x2_RS_joins : Cond.instanceMethod y_RS_joins ∈ xTs ∧ Cond.selects y_RS_joins.cls y_RS_joins y_RS_joins ∈ xTs := ⟨xw_mem 520 (by decide +kernel) (by decide +kernel), xw_mem 521 (by decide +kernel) (by decide +kernel)⟩
theorem x2_La_row : Cond.static y_La_row ∈ xTs := xw_mem 524 (by decide +kernel) (by decide +kernel)
theorem x2_RS_row : Cond.instanceMethod y_RS_row ∈ xTs ∧ Cond.selects y_RS_row.cls y_RS_row y_RS_row ∈ xTs := ⟨xw_mem 527 (by decide +kernel) (by decide +kernel), xw_mem 528 (by decide +kernel) (by decide +kernel)⟩
theorem x2_La_lessens : Cond.static y_La_lessens ∈ xTs := xw_mem 533 (by decide +kernel) (by decide +kernel)
theorem x2_RS_lessens : Cond.instanceMethod y_RS_lessens ∈ xTs ∧ Cond.selects y_RS_lessens.cls y_RS_lessens y_RS_lessens ∈ xTs := ⟨xw_mem 536 (by decide +kernel) (by decide +kernel), xw_mem 537 (by decide +kernel) (by decide +kernel)⟩
theorem x2_La_usable : Cond.static y_La_usable ∈ xTs := xw_mem 540 (by decide +kernel) (by decide +kernel)
theorem x2_RS_usable : Cond.instanceMethod y_RS_usable ∈ xTs ∧ Cond.selects y_RS_usable.cls y_RS_usable y_RS_usable ∈ xTs := ⟨xw_mem 543 (by decide +kernel) (by decide +kernel), xw_mem 544 (by decide +kernel) (by decide +kernel)⟩
theorem x2_La_above : Cond.static y_La_above ∈ xTs := xw_mem 548 (by decide +kernel) (by decide +kernel)
theorem x2_RS_above : Cond.instanceMethod y_RS_above ∈ xTs ∧ Cond.selects y_RS_above.cls y_RS_above y_RS_above ∈ xTs := ⟨xw_mem 551 (by decide +kernel) (by decide +kernel), xw_mem 552 (by decide +kernel) (by decide +kernel)⟩
theorem x2_La_measure : Cond.static y_La_measure ∈ xTs := xw_mem 555 (by decide +kernel) (by decide +kernel)
theorem x2_RS_measure : Cond.instanceMethod y_RS_measure ∈ xTs ∧ Cond.selects y_RS_measure.cls y_RS_measure y_RS_measure ∈ xTs := ⟨xw_mem 558 (by decide +kernel) (by decide +kernel), xw_mem 559 (by decide +kernel) (by decide +kernel)⟩
theorem x2_La_at : Cond.static y_La_at ∈ xTs := xw_mem 563 (by decide +kernel) (by decide +kernel)
theorem x2_RS_at : Cond.instanceMethod y_RS_at ∈ xTs ∧ Cond.selects y_RS_at.cls y_RS_at y_RS_at ∈ xTs := ⟨xw_mem 566 (by decide +kernel) (by decide +kernel), xw_mem 567 (by decide +kernel) (by decide +kernel)⟩
theorem x2_Tr_treeAt : Cond.instanceMethod y_Tr_treeAt ∈ xTs ∧ Cond.selects y_Tr_treeAt.cls y_Tr_treeAt y_Tr_treeAt ∈ xTs := ⟨xw_mem 570 (by decide +kernel) (by decide +kernel), xw_mem 571 (by decide +kernel) (by decide +kernel)⟩
theorem x2_La_head : Cond.static y_La_head ∈ xTs := xw_mem 574 (by decide +kernel) (by decide +kernel)
theorem x2_RS_head : Cond.instanceMethod y_RS_head ∈ xTs ∧ Cond.selects y_RS_head.cls y_RS_head y_RS_head ∈ xTs := ⟨xw_mem 577 (by decide +kernel) (by decide +kernel), xw_mem 578 (by decide +kernel) (by decide +kernel)⟩
theorem x2_Md_init : y_Md_init.name = "<init>" ∧ Cond.instanceMethod y_Md_init ∈ xTs := ⟨rfl, xw_mem 583 (by decide +kernel) (by decide +kernel)⟩
theorem x2_Md_thrown : Cond.instanceMethod y_Md_thrown ∈ xTs ∧ Cond.selects y_Md_thrown.cls y_Md_thrown y_Md_thrown ∈ xTs := ⟨xw_mem 693 (by decide +kernel) (by decide +kernel), xw_mem 694 (by decide +kernel) (by decide +kernel)⟩
theorem x2_Md_leaf : Cond.instanceMethod y_Md_leaf ∈ xTs ∧ Cond.selects y_Md_leaf.cls y_Md_leaf y_Md_leaf ∈ xTs := ⟨xw_mem 697 (by decide +kernel) (by decide +kernel), xw_mem 698 (by decide +kernel) (by decide +kernel)⟩
theorem x2_Md_ask : Cond.instanceMethod y_Md_ask ∈ xTs ∧ Cond.selects y_Md_ask.cls y_Md_ask y_Md_ask ∈ xTs := ⟨xw_mem 702 (by decide +kernel) (by decide +kernel), xw_sel 22 (by decide +kernel) (by decide +kernel)⟩
theorem x2_Md_tree : Cond.instanceMethod y_Md_tree ∈ xTs ∧ Cond.selects y_Md_tree.cls y_Md_tree y_Md_tree ∈ xTs := ⟨xw_mem 706 (by decide +kernel) (by decide +kernel), xw_sel 23 (by decide +kernel) (by decide +kernel)⟩
theorem x2_Md_parts : Cond.static y_Md_parts ∈ xTs := xw_mem 709 (by decide +kernel) (by decide +kernel)
theorem x2_Md_hole : Cond.instanceMethod y_Md_hole ∈ xTs ∧ Cond.selects y_Md_hole.cls y_Md_hole y_Md_hole ∈ xTs := ⟨xw_mem 712 (by decide +kernel) (by decide +kernel), xw_mem 713 (by decide +kernel) (by decide +kernel)⟩
theorem x2_Md_node : Cond.instanceMethod y_Md_node ∈ xTs ∧ Cond.selects y_Md_node.cls y_Md_node y_Md_node ∈ xTs := ⟨xw_mem 716 (by decide +kernel) (by decide +kernel), xw_mem 717 (by decide +kernel) (by decide +kernel)⟩
theorem x2_Md_isTree : Cond.instanceMethod y_Md_isTree ∈ xTs ∧ Cond.selects y_Md_isTree.cls y_Md_isTree y_Md_isTree ∈ xTs := ⟨xw_mem 721 (by decide +kernel) (by decide +kernel), xw_sel 24 (by decide +kernel) (by decide +kernel)⟩
theorem x2_Md_rule : Cond.instanceMethod y_Md_rule ∈ xTs ∧ Cond.selects y_Md_rule.cls y_Md_rule y_Md_rule ∈ xTs := ⟨xw_mem 724 (by decide +kernel) (by decide +kernel), xw_mem 725 (by decide +kernel) (by decide +kernel)⟩
theorem x2_Md_holds : Cond.instanceMethod y_Md_holds ∈ xTs ∧ Cond.selects y_Md_holds.cls y_Md_holds y_Md_holds ∈ xTs := ⟨xw_mem 728 (by decide +kernel) (by decide +kernel), xw_mem 729 (by decide +kernel) (by decide +kernel)⟩
theorem x2_Md_choose : Cond.instanceMethod y_Md_choose ∈ xTs ∧ Cond.selects y_Md_choose.cls y_Md_choose y_Md_choose ∈ xTs := ⟨xw_mem 732 (by decide +kernel) (by decide +kernel), xw_mem 733 (by decide +kernel) (by decide +kernel)⟩
theorem x2_Md_isRule : Cond.instanceMethod y_Md_isRule ∈ xTs ∧ Cond.selects y_Md_isRule.cls y_Md_isRule y_Md_isRule ∈ xTs := ⟨xw_mem 737 (by decide +kernel) (by decide +kernel), xw_sel 25 (by decide +kernel) (by decide +kernel)⟩
theorem x2_Md_usable : Cond.instanceMethod y_Md_usable ∈ xTs ∧ Cond.selects y_Md_usable.cls y_Md_usable y_Md_usable ∈ xTs := ⟨xw_mem 740 (by decide +kernel) (by decide +kernel), xw_mem 741 (by decide +kernel) (by decide +kernel)⟩
theorem x2_Md_may : Cond.instanceMethod y_Md_may ∈ xTs ∧ Cond.selects y_Md_may.cls y_Md_may y_Md_may ∈ xTs := ⟨xw_mem 745 (by decide +kernel) (by decide +kernel), xw_sel 26 (by decide +kernel) (by decide +kernel)⟩
theorem x2_Md_lessens : Cond.instanceMethod y_Md_lessens ∈ xTs ∧ Cond.selects y_Md_lessens.cls y_Md_lessens y_Md_lessens ∈ xTs := ⟨xw_mem 748 (by decide +kernel) (by decide +kernel), xw_mem 749 (by decide +kernel) (by decide +kernel)⟩
theorem x2_Md_isAbove : Cond.instanceMethod y_Md_isAbove ∈ xTs ∧ Cond.selects y_Md_isAbove.cls y_Md_isAbove y_Md_isAbove ∈ xTs := ⟨xw_mem 753 (by decide +kernel) (by decide +kernel), xw_sel 27 (by decide +kernel) (by decide +kernel)⟩
theorem x2_Md_holesAllow : Cond.instanceMethod y_Md_holesAllow ∈ xTs ∧ Cond.selects y_Md_holesAllow.cls y_Md_holesAllow y_Md_holesAllow ∈ xTs := ⟨xw_mem 757 (by decide +kernel) (by decide +kernel), xw_sel 28 (by decide +kernel) (by decide +kernel)⟩
theorem x2_Md_countHoles : Cond.instanceMethod y_Md_countHoles ∈ xTs ∧ Cond.selects y_Md_countHoles.cls y_Md_countHoles y_Md_countHoles ∈ xTs := ⟨xw_mem 761 (by decide +kernel) (by decide +kernel), xw_sel 29 (by decide +kernel) (by decide +kernel)⟩
theorem x2_Md_lay : Cond.instanceMethod y_Md_lay ∈ xTs ∧ Cond.selects y_Md_lay.cls y_Md_lay y_Md_lay ∈ xTs := ⟨xw_mem 765 (by decide +kernel) (by decide +kernel), xw_sel 30 (by decide +kernel) (by decide +kernel)⟩
theorem x2_Md_findAround : Cond.instanceMethod y_Md_findAround ∈ xTs ∧ Cond.selects y_Md_findAround.cls y_Md_findAround y_Md_findAround ∈ xTs := ⟨xw_mem 769 (by decide +kernel) (by decide +kernel), xw_sel 31 (by decide +kernel) (by decide +kernel)⟩
theorem x2_Md_rewrite : Cond.instanceMethod y_Md_rewrite ∈ xTs ∧ Cond.selects y_Md_rewrite.cls y_Md_rewrite y_Md_rewrite ∈ xTs := ⟨xw_mem 772 (by decide +kernel) (by decide +kernel), xw_mem 773 (by decide +kernel) (by decide +kernel)⟩
theorem x2_Md_lookForRules : Cond.instanceMethod y_Md_lookForRules ∈ xTs ∧ Cond.selects y_Md_lookForRules.cls y_Md_lookForRules y_Md_lookForRules ∈ xTs := ⟨xw_mem 777 (by decide +kernel) (by decide +kernel), xw_sel 32 (by decide +kernel) (by decide +kernel)⟩
theorem x2_Md_go : Cond.instanceMethod y_Md_go ∈ xTs ∧ Cond.selects y_Md_go.cls y_Md_go y_Md_go ∈ xTs := ⟨xw_mem 781 (by decide +kernel) (by decide +kernel), xw_sel 33 (by decide +kernel) (by decide +kernel)⟩
theorem x2_Md_placeOf : Cond.instanceMethod y_Md_placeOf ∈ xTs ∧ Cond.selects y_Md_placeOf.cls y_Md_placeOf y_Md_placeOf ∈ xTs := ⟨xw_mem 785 (by decide +kernel) (by decide +kernel), xw_sel 34 (by decide +kernel) (by decide +kernel)⟩
theorem x2_Md_ruleAt : Cond.instanceMethod y_Md_ruleAt ∈ xTs ∧ Cond.selects y_Md_ruleAt.cls y_Md_ruleAt y_Md_ruleAt ∈ xTs := ⟨xw_mem 789 (by decide +kernel) (by decide +kernel), xw_sel 35 (by decide +kernel) (by decide +kernel)⟩
theorem x2_Md_matches : Cond.instanceMethod y_Md_matches ∈ xTs ∧ Cond.selects y_Md_matches.cls y_Md_matches y_Md_matches ∈ xTs := ⟨xw_mem 793 (by decide +kernel) (by decide +kernel), xw_sel 36 (by decide +kernel) (by decide +kernel)⟩
theorem x2_Md_build : Cond.instanceMethod y_Md_build ∈ xTs ∧ Cond.selects y_Md_build.cls y_Md_build y_Md_build ∈ xTs := ⟨xw_mem 797 (by decide +kernel) (by decide +kernel), xw_sel 37 (by decide +kernel) (by decide +kernel)⟩
theorem x2_Md_replace : Cond.instanceMethod y_Md_replace ∈ xTs ∧ Cond.selects y_Md_replace.cls y_Md_replace y_Md_replace ∈ xTs := ⟨xw_mem 801 (by decide +kernel) (by decide +kernel), xw_sel 38 (by decide +kernel) (by decide +kernel)⟩
theorem x2_Md_keep : Cond.instanceMethod y_Md_keep ∈ xTs ∧ Cond.selects y_Md_keep.cls y_Md_keep y_Md_keep ∈ xTs := ⟨xw_mem 805 (by decide +kernel) (by decide +kernel), xw_sel 39 (by decide +kernel) (by decide +kernel)⟩
theorem x2_Md_take : Cond.instanceMethod y_Md_take ∈ xTs ∧ Cond.selects y_Md_take.cls y_Md_take y_Md_take ∈ xTs := ⟨xw_mem 809 (by decide +kernel) (by decide +kernel), xw_sel 40 (by decide +kernel) (by decide +kernel)⟩
theorem x2_Md_normal : Cond.instanceMethod y_Md_normal ∈ xTs ∧ Cond.selects y_Md_normal.cls y_Md_normal y_Md_normal ∈ xTs := ⟨xw_mem 812 (by decide +kernel) (by decide +kernel), xw_mem 813 (by decide +kernel) (by decide +kernel)⟩
theorem x2_Md_joins : Cond.instanceMethod y_Md_joins ∈ xTs ∧ Cond.selects y_Md_joins.cls y_Md_joins y_Md_joins ∈ xTs := ⟨xw_mem 816 (by decide +kernel) (by decide +kernel), xw_mem 817 (by decide +kernel) (by decide +kernel)⟩
theorem x2_Md_spent : Cond.instanceMethod y_Md_spent ∈ xTs ∧ Cond.selects y_Md_spent.cls y_Md_spent y_Md_spent ∈ xTs := ⟨xw_mem 820 (by decide +kernel) (by decide +kernel), xw_mem 821 (by decide +kernel) (by decide +kernel)⟩
theorem x2_Md_row : Cond.instanceMethod y_Md_row ∈ xTs ∧ Cond.selects y_Md_row.cls y_Md_row y_Md_row ∈ xTs := ⟨xw_mem 824 (by decide +kernel) (by decide +kernel), xw_mem 825 (by decide +kernel) (by decide +kernel)⟩
theorem x2_Md_steps : Cond.instanceMethod y_Md_steps ∈ xTs ∧ Cond.selects y_Md_steps.cls y_Md_steps y_Md_steps ∈ xTs := ⟨xw_mem 828 (by decide +kernel) (by decide +kernel), xw_mem 829 (by decide +kernel) (by decide +kernel)⟩
theorem x2_Md_domain : Cond.instanceMethod y_Md_domain ∈ xTs ∧ Cond.selects y_Md_domain.cls y_Md_domain y_Md_domain ∈ xTs := ⟨xw_mem 832 (by decide +kernel) (by decide +kernel), xw_mem 833 (by decide +kernel) (by decide +kernel)⟩
theorem x2_Md_above : Cond.instanceMethod y_Md_above ∈ xTs ∧ Cond.selects y_Md_above.cls y_Md_above y_Md_above ∈ xTs := ⟨xw_mem 836 (by decide +kernel) (by decide +kernel), xw_mem 837 (by decide +kernel) (by decide +kernel)⟩
theorem x2_Md_measure : Cond.instanceMethod y_Md_measure ∈ xTs ∧ Cond.selects y_Md_measure.cls y_Md_measure y_Md_measure ∈ xTs := ⟨xw_mem 840 (by decide +kernel) (by decide +kernel), xw_mem 841 (by decide +kernel) (by decide +kernel)⟩
theorem x2_Md_at : Cond.instanceMethod y_Md_at ∈ xTs ∧ Cond.selects y_Md_at.cls y_Md_at y_Md_at ∈ xTs := ⟨xw_mem 844 (by decide +kernel) (by decide +kernel), xw_mem 845 (by decide +kernel) (by decide +kernel)⟩
theorem x2_Md_head : Cond.instanceMethod y_Md_head ∈ xTs ∧ Cond.selects y_Md_head.cls y_Md_head y_Md_head ∈ xTs := ⟨xw_mem 848 (by decide +kernel) (by decide +kernel), xw_mem 849 (by decide +kernel) (by decide +kernel)⟩
theorem x2_Md_count : Cond.instanceMethod y_Md_count ∈ xTs ∧ Cond.selects y_Md_count.cls y_Md_count y_Md_count ∈ xTs := ⟨xw_mem 852 (by decide +kernel) (by decide +kernel), xw_mem 853 (by decide +kernel) (by decide +kernel)⟩
theorem xobj_RS_1 : Cond.methodLink R_RS 1 objectInit ∈ xTs ∧ Cond.instanceMethod objectInit ∈ xTs ∧ Cond.code objectInit ⟨#[0xb1]⟩ 1 none ∈ xTs := ⟨xw_mem 20 (by decide +kernel) (by decide +kernel), xw_mem 21 (by decide +kernel) (by decide +kernel), xw_mem 22 (by decide +kernel) (by decide +kernel)⟩
theorem xobj_Tr_3 : Cond.methodLink R_Tr 3 objectInit ∈ xTs ∧ Cond.instanceMethod objectInit ∈ xTs ∧ Cond.code objectInit ⟨#[0xb1]⟩ 1 none ∈ xTs := ⟨xw_mem 28 (by decide +kernel) (by decide +kernel), xw_mem 21 (by decide +kernel) (by decide +kernel), xw_mem 22 (by decide +kernel) (by decide +kernel)⟩
theorem xobj_Ru_3 : Cond.methodLink R_Ru 3 objectInit ∈ xTs ∧ Cond.instanceMethod objectInit ∈ xTs ∧ Cond.code objectInit ⟨#[0xb1]⟩ 1 none ∈ xTs := ⟨xw_mem 84 (by decide +kernel) (by decide +kernel), xw_mem 21 (by decide +kernel) (by decide +kernel), xw_mem 22 (by decide +kernel) (by decide +kernel)⟩
theorem xobj_Rn_3 : Cond.methodLink R_Rn 3 objectInit ∈ xTs ∧ Cond.instanceMethod objectInit ∈ xTs ∧ Cond.code objectInit ⟨#[0xb1]⟩ 1 none ∈ xTs := ⟨xw_mem 123 (by decide +kernel) (by decide +kernel), xw_mem 21 (by decide +kernel) (by decide +kernel), xw_mem 22 (by decide +kernel) (by decide +kernel)⟩
theorem xobj_Ro_3 : Cond.methodLink R_Ro 3 objectInit ∈ xTs ∧ Cond.instanceMethod objectInit ∈ xTs ∧ Cond.code objectInit ⟨#[0xb1]⟩ 1 none ∈ xTs := ⟨xw_mem 168 (by decide +kernel) (by decide +kernel), xw_mem 21 (by decide +kernel) (by decide +kernel), xw_mem 22 (by decide +kernel) (by decide +kernel)⟩
theorem xmax_Tr_67 : Cond.methodLink R_Tr 67 Lib.Math.max.name ∈ xTs ∧ Cond.static Lib.Math.max.name ∈ xTs ∧ Cond.initialized "java/lang/Math" ∈ xTs ∧ Cond.code Lib.Math.max.name Lib.Math.max.code 2 (some .int) ∈ xTs := ⟨xw_mem 317 (by decide +kernel) (by decide +kernel), xw_mem 318 (by decide +kernel) (by decide +kernel), xw_mem 12 (by decide +kernel) (by decide +kernel), xw_mem 319 (by decide +kernel) (by decide +kernel)⟩
theorem xobj_Md_1 : Cond.methodLink R_Md 1 objectInit ∈ xTs ∧ Cond.instanceMethod objectInit ∈ xTs ∧ Cond.code objectInit ⟨#[0xb1]⟩ 1 none ∈ xTs := ⟨xw_mem 585 (by decide +kernel) (by decide +kernel), xw_mem 21 (by decide +kernel) (by decide +kernel), xw_mem 22 (by decide +kernel) (by decide +kernel)⟩
end
section
/-! what every walk knows: ONE list of words, the array classes, and what of the start's heap a throw needs -/
def xA (base : Nat) : Nat → Prop := fun q => base ≤ q
def xtys (cA : Nat → ClassId) : List (ClassId × FieldType) := [(cA 0, .int), (cA 1, .boolean), (cA 2, .long)]
def xStr : List (Nat × String) := [(52, "no such name of a leaf"), (173, "too many trees, or too deep or heavy a one"), (65, "no such name of a hole"), (165, "no such tree"), (71, "no such head, or a part too many"), (81, "the trees make no rule"), (83, "no such condition"), (93, "no such condition or answer"), (167, "no such rule"), (169, "the tree isn't plain"), (108, "no such number of steps"), (130, "no such row"), (133, "a row has no such cell"), (147, "no such measure")]
/-- exceptions that are no others -/
def xNc : List (String × String) := [("java/lang/IllegalArgumentException", "java/lang/IllegalStateException"), ("java/lang/IllegalArgumentException", "java/lang/IndexOutOfBoundsException"), ("java/lang/IllegalStateException", "java/lang/IllegalArgumentException"), ("java/lang/IllegalStateException", "java/lang/IndexOutOfBoundsException"), ("java/lang/IndexOutOfBoundsException", "java/lang/IllegalArgumentException"), ("java/lang/IndexOutOfBoundsException", "java/lang/IllegalStateException")]
def xSup : List String := ["java/lang/RuntimeException", "java/lang/Exception", "java/lang/Throwable"]
def xEs : List String := ["java/lang/IllegalArgumentException", "java/lang/IllegalStateException", "java/lang/IndexOutOfBoundsException"]
def XGl (base : Nat) (s : State) : Prop := vx_Zq Bundle.tN "UNASSIGNED_STACK" Bundle.steD (xA base) s s.heap ∧ vx_Zq Bundle.tN "SUPPRESSED_SENTINEL" Bundle.listD (xA base) s s.heap ∧ (∀ q ∈ xStr, ∃ sa : Nat, vk_R R_RS q.1 q.2 sa s) ∧ va_Nw (.methodLinkNest R_RS 34 y_Ro_init R_RS) s ∧ (∀ q ∈ xNc, va_Nc q.1 q.2 s) ∧ (∀ q ∈ xEs, va_Nw (.castable q q) s) ∧ (∀ q ∈ xSup, va_Nw (.declares ⟨q, "<init>", "(Ljava/lang/String;)V"⟩) s)
theorem XGl.warm {base : Nat} {s U : State} (h : XGl base s) (hW : s.WarmedH U.vm) (hq : ∀ q : Nat, q < s.heap.size → ¬ xA base q → U.heap[q]? = s.heap[q]?) : XGl base U :=
  ⟨vx_Zq.moved hW.alike (h.1.kept hq), vx_Zq.moved hW.alike (h.2.1.kept hq), fun q hq9 => by obtain ⟨sa, h9⟩ := h.2.2.1 q hq9; exact ⟨sa, vk_R.warm hW h9⟩, va_Nw.warmM hW h.2.2.2.1, fun q hq9 => va_Nc.moved hW.alike (h.2.2.2.2.1 q hq9), fun q hq9 => va_Nw.warmC hW (h.2.2.2.2.2.1 q hq9), fun q hq9 => va_Nw.warmD hW (h.2.2.2.2.2.2 q hq9)⟩
theorem XGl.calling {base : Nat} {U : State} {g : JFrame} {mk : MethodId} {a : Array Value} (h : XGl base U) : XGl base (U.calling g mk a) :=
  ⟨vx_Zq.moved (u := U) (U := U.calling g mk a) (Vm.Alike.refl U.vm) h.1, vx_Zq.moved (u := U) (U := U.calling g mk a) (Vm.Alike.refl U.vm) h.2.1, fun q hq9 => by obtain ⟨sa, h9⟩ := h.2.2.1 q hq9; exact ⟨sa, vk_R.same (u := U) (U := U.calling g mk a) rfl h9⟩, va_Nw.same (u := U) (U := U.calling g mk a) rfl rfl h.2.2.2.1, fun q hq9 => va_Nc.moved (u := U) (U := U.calling g mk a) (Vm.Alike.refl U.vm) (h.2.2.2.2.1 q hq9), fun q hq9 => va_Nw.same (u := U) (U := U.calling g mk a) rfl rfl (h.2.2.2.2.2.1 q hq9), fun q hq9 => va_Nw.same (u := U) (U := U.calling g mk a) rfl rfl (h.2.2.2.2.2.2 q hq9)⟩
end
section
/-! The X-layer: a world is a number of cells n, their addresses ad, their contents w (functions of the place); locals are a function; numbers are zI z with z : Int. -/
def zI (z : Int) : Int32 := Int32.ofInt z
theorem zI_toInt {z : Int} (h : -2147483648 ≤ z ∧ z < 2147483648) : (zI z).toInt = z := Int32.toInt_ofInt_of_le (by simpa using h.1) (by simpa using h.2)
theorem zI_of (x : Int32) : zI x.toInt = x := Int32.ofInt_toInt x
theorem zI_rng (x : Int32) : -2147483648 ≤ x.toInt ∧ x.toInt < 2147483648 := ⟨by simpa using x.le_toInt, by simpa using x.toInt_lt⟩
theorem zI_add (x y : Int) : zI x + zI y = zI (x + y) := (Int32.ofInt_add x y).symm
theorem zI_sub (x y : Int) : zI x - zI y = zI (x - y) := (Int32.ofInt_sub x y).symm
theorem zI_mul (x y : Int) : zI x * zI y = zI (x * y) := (Int32.ofInt_mul x y).symm
theorem zI_le {x y : Int} (hx : -2147483648 ≤ x ∧ x < 2147483648) (hy : -2147483648 ≤ y ∧ y < 2147483648) : zI x ≤ zI y ↔ x ≤ y := by
  rw [Int32.le_iff_toInt_le, zI_toInt hx, zI_toInt hy]
theorem zI_lt {x y : Int} (hx : -2147483648 ≤ x ∧ x < 2147483648) (hy : -2147483648 ≤ y ∧ y < 2147483648) : zI x < zI y ↔ x < y := by
  rw [Int32.lt_iff_toInt_lt, zI_toInt hx, zI_toInt hy]
theorem zI_inj {x y : Int} (hx : -2147483648 ≤ x ∧ x < 2147483648) (hy : -2147483648 ≤ y ∧ y < 2147483648) : zI x = zI y ↔ x = y :=
  ⟨fun h => by have := congrArg Int32.toInt h; rwa [zI_toInt hx, zI_toInt hy] at this, fun h => by rw [h]⟩
theorem zI_0 : zI 0 = 0 := rfl
theorem zI_nat (k : Nat) : Int32.ofNat k = zI (k : Int) := Int32.ofInt_eq_ofNat.symm
theorem zI_nI (k : Nat) : nI k = zI (k : Int) := zI_nat k
theorem zI_clamp {z : Int} (h : 0 ≤ z ∧ z < 2147483648) : (zI z).toNatClampNeg = z.toNat := Int32.toNatClampNeg_ofInt_of_le (by omega) (by omega)
theorem zI_in {z : Int} {N : Nat} (h : 0 ≤ z ∧ z < N) (hN : N < 2147483648) : vp_in (zI z) N := by
  rintro (q | q)
  · rw [show (0 : Int32) = zI 0 from rfl, zI_lt (by omega) (by omega)] at q
    omega
  · rw [zI_clamp (by omega)] at q
    omega
theorem zI_rem {x y : Int} (hx : -2147483648 < x ∧ x < 2147483648) (hy : 0 < y ∧ y < 2147483648) : zI x - zI x / zI y * zI y = zI (x.tmod y) := by
  apply Int32.toInt_inj.mp
  rw [rem_toInt, zI_toInt (by omega), zI_toInt (by omega), zI_toInt]
  have h1 := Int.lt_tmod_of_pos x hy.1
  have h2 := Int.tmod_lt_of_pos x hy.1
  omega
/-! worlds -/
def xws (n : Nat) (ad : Nat → Nat) (w : Nat → va_E) : va_W := (List.range n).map fun k => (ad k, w k)
theorem xws_at {n k : Nat} {ad : Nat → Nat} {w : Nat → va_E} {e : va_E} (hk : k < n) (hw : w k = e) : (xws n ad w)[k]? = some (ad k, e) := by
  simp [xws, hk, hw]
theorem xws_set {n k : Nat} {ad : Nat → Nat} {w : Nat → va_E} {e : va_E} : (xws n ad w).set k (ad k, e) = xws n ad (va_up w k e) := by
  apply List.ext_getElem?
  intro j
  by_cases hj : j < n
  · by_cases h : k = j
    · subst h
      simp [xws, va_up, hj]
    · rw [List.getElem?_set_ne h]
      simp [xws, va_up, hj, Ne.symm h]
  · rw [List.getElem?_eq_none (by simp [xws]; omega), List.getElem?_eq_none (by simp [xws]; omega)]
theorem xws_push {n : Nat} {ad : Nat → Nat} {w : Nat → va_E} {q : Nat} {e : va_E} : xws n ad w ++ [(q, e)] = xws (n + 1) (va_up ad n q) (va_up w n e) := by
  unfold xws
  rw [List.range_succ, List.map_append]
  congr 1
  · apply List.map_congr_left
    intro k hk
    have : k ≠ n := by have := List.mem_range.mp hk; omega
    simp [va_up, this]
  · simp [va_up]
/-! locals -/
def xlv (ls : Array Slot) (nL : Nat) (lv : Nat → Option Value) : Prop := ls.size = nL ∧ lv_wf ls ∧ ∀ (i : Nat) (v : Value), lv i = some v → v.category = 1 ∧ ls[i]? = some (.val v)
def xll (nL : Nat) (lv : Nat → Option Value) : List (Nat × Value) := (List.range nL).filterMap fun i => (lv i).map fun v => (i, v)
theorem xlv_has {ls : Array Slot} {nL : Nat} {lv : Nat → Option Value} (h : xlv ls nL lv) : lv_has ls nL (xll nL lv) := by
  refine ⟨h.1, h.2.1, fun q hq => ?_⟩
  obtain ⟨i, -, hi⟩ := List.mem_filterMap.mp hq
  cases hv : lv i with
  | none => rw [hv] at hi; cases hi
  | some v => rw [hv] at hi; cases hi; exact (h.2.2 i v hv).2
theorem xlv_put {ls ls' : Array Slot} {nL i : Nat} {lv : Nat → Option Value} {v : Value} (h : xlv ls nL lv) (hv : v.category = 1)
    (h' : lv_has ls' nL ((i, v) :: (xll nL lv).filter (fun q => !(q.1 == i) && !(q.1 + 1 == i && q.2.category == 2)))) : xlv ls' nL (va_up lv i (some v)) := by
  refine ⟨h'.1, h'.2.1, fun j u hu => ?_⟩
  by_cases hj : j = i
  · subst hj
    simp [va_up] at hu
    subst hu
    exact ⟨hv, h'.2.2 (j, v) List.mem_cons_self⟩
  · simp [va_up, hj] at hu
    obtain ⟨h1, h2⟩ := h.2.2 j u hu
    have hjl : j < nL := by have := lv_lt h2; rw [h.1] at this; exact this
    refine ⟨h1, h'.2.2 (j, u) (List.mem_cons_of_mem _ (List.mem_filter.mpr ⟨List.mem_filterMap.mpr ⟨j, List.mem_range.mpr hjl, by rw [hu]; rfl⟩, ?_⟩))⟩
    simp [hj, h1]
theorem xlv_args {ls : Array Slot} {nL : Nat} {av : List Value} (hc : ∀ v ∈ av, v.category = 1) (h : lv_has ls nL (lv_args 0 av)) : xlv ls nL (fun i => av[i]?) := by
  have key : ∀ (vs : List Value) (k j : Nat) (u : Value), (∀ v ∈ vs, v.category = 1) → vs[j]? = some u → (k + j, u) ∈ lv_args k vs := by
    intro vs
    induction vs with
    | nil => intro k j u _ hu; simp at hu
    | cons v vs ih =>
      intro k j u hcs hu
      have hv1 : v.category = 1 := hcs v List.mem_cons_self
      cases j with
      | zero => simp at hu; subst hu; simp [lv_args]
      | succ j =>
        simp at hu
        have := ih (k + 1) j u (fun x hx => hcs x (List.mem_cons_of_mem _ hx)) hu
        simp only [lv_args, hv1]
        refine List.mem_cons_of_mem _ ?_
        rw [if_neg (by decide), show k + (j + 1) = k + 1 + j by omega]
        exact this
  refine ⟨h.1, h.2.1, fun i v hv => ?_⟩
  have hm := key av 0 i v hc hv
  rw [Nat.zero_add] at hm
  exact ⟨hc v (List.mem_of_getElem? hv), h.2.2 (i, v) hm⟩

/-! the judgement -/
abbrev xG := Program × Launch × Env × Room × State × MethodId × Array Value × List Frame × Method × Code × (State → Prop) × Nat × va_G × Nat
def XW (G : xG) (n : Nat) (ad : Nat → Nat) (w : Nat → va_E) (a b pc : Nat) (lv : Nat → Option Value) (st : List Value) : Prop := match G with
  | (p, l, e, R, s, m, args, below, meth, c, Q, nL, D, base) => ∀ (H : Heap) (locs : List Loc) (ls : Array Slot), va_P D vwCl (xws n ad w) H → va_D (xA base) (xws n ad w) → va_S (xA base) s.heap H locs → xlv ls nL lv → W p l e R s m args below meth c H locs a b Q (F0 m pc ls st)
/-- what is known of a walk: its code, its tables' words, its room -/
def XC (G : xG) (L : Launch) (D9 : va_G) (cA : Nat → ClassId) (base9 : Nat) (cc : ByteArray) (nL9 : Nat) (own : String) (R9 : Room) : Prop := match G with
  | (p, l, _, R, s, m, args, _, meth, c, _, nL, D, base) => l = L ∧ D = D9 ∧ base = base9 ∧ nL = nL9 ∧ R = R9 ∧ p.tables.exec = Jvm.exec ∧ c.code = cc ∧ c.maxLocals = nL ∧ s.vm.findClass own = some m.cls ∧ (∀ w ∈ xTs, w.before args s = true) ∧ va_K D vwCl (xtys cA) s ∧ meth.locks = false ∧ base ≤ s.heap.size ∧ XGl base s
section XL
variable {G : xG} {L : Launch} {D : va_G} {cA : Nat → ClassId} {base : Nat} {cc : ByteArray} {nL : Nat} {own : String} {R : Room}
variable {n : Nat} {ad : Nat → Nat} {w : Nat → va_E} {a b pc : Nat} {lv : Nat → Option Value} {st : List Value}
/-- an instruction that touches the frame alone -/
theorem xr_lift (C : XC G L D cA base cc nL own R) {pc' : Nat} {lv' : Nat → Option Value} {st' : List Value}
    (h : ∀ (p : Program) (l : Launch) (e : Env) (R : Room) (s : State) (m : MethodId) (args : Array Value) (below : List Frame) (meth : Method) (c : Code) (Q : State → Prop) (H : Heap) (locs : List Loc) (ls : Array Slot), p.tables.exec = Jvm.exec → c.code = cc → xlv ls nL lv →
      (∀ ls' : Array Slot, xlv ls' nL lv' → W p l e R s m args below meth c H locs a b Q (F0 m pc' ls' st')) → W p l e R s m args below meth c H locs a b Q (F0 m pc ls st))
    (K : XW G n ad w a b pc' lv' st') : XW G n ad w a b pc lv st := by
  obtain ⟨p, l, e, R1, s, m, args, below, meth, c, Q, nL1, D1, base1⟩ := G
  obtain ⟨rfl, rfl, rfl, rfl, rfl, hx, hb, -⟩ := C
  intro H locs ls hP hD hS hl
  exact h p l e R1 s m args below meth c Q H locs ls hx hb hl (fun ls' hl' => K H locs ls' hP hD hS hl')
/-- .. that branches -/
theorem xr_lift2 (C : XC G L D cA base cc nL own R) {ct cf : Prop} {pt pf : Nat} {st' : List Value}
    (h : ∀ (p : Program) (l : Launch) (e : Env) (R : Room) (s : State) (m : MethodId) (args : Array Value) (below : List Frame) (meth : Method) (c : Code) (Q : State → Prop) (H : Heap) (locs : List Loc) (ls : Array Slot), p.tables.exec = Jvm.exec → c.code = cc →
      (ct → W p l e R s m args below meth c H locs a b Q (F0 m pt ls st')) → (cf → W p l e R s m args below meth c H locs a b Q (F0 m pf ls st')) → W p l e R s m args below meth c H locs a b Q (F0 m pc ls st))
    (Kt : ct → XW G n ad w a b pt lv st') (Kf : cf → XW G n ad w a b pf lv st') : XW G n ad w a b pc lv st := by
  obtain ⟨p, l, e, R1, s, m, args, below, meth, c, Q, nL1, D1, base1⟩ := G
  obtain ⟨rfl, rfl, rfl, rfl, rfl, hx, hb, -⟩ := C
  intro H locs ls hP hD hS hl
  exact h p l e R1 s m args below meth c Q H locs ls hx hb (fun c1 => Kt c1 H locs ls hP hD hS hl) (fun c1 => Kf c1 H locs ls hP hD hS hl)
theorem xr_widen {a2 b2 : Nat} (h1 : a ≤ a2) (h2 : b ≤ b2) (K : XW G n ad w a2 b2 pc lv st) : XW G n ad w a b pc lv st := by
  obtain ⟨p, l, e, R1, s, m, args, below, meth, c, Q, nL1, D1, base1⟩ := G
  intro H locs ls hP hD hS hl
  exact W.widen h1 h2 (K H locs ls hP hD hS hl)

theorem xr_iconst (C : XC G L D cA base cc nL own R) {z : Int} (d : decode cc pc = .ok (.iconst z, 1)) (K : XW G n ad w a b (pc + 1) lv (.int (zI z) :: st)) : XW G n ad w a b pc lv st :=
  xr_lift C (fun _ _ _ _ _ _ _ _ _ _ _ _ _ ls hx hb hl k => lv_iconst hx hb d rfl (k ls hl)) K
theorem xr_bipush (C : XC G L D cA base cc nL own R) {z : Int} (d : decode cc pc = .ok (.bipush z, 2)) (hv : (Int8.ofInt z).toInt32 = zI z) (K : XW G n ad w a b (pc + 2) lv (.int (zI z) :: st)) : XW G n ad w a b pc lv st :=
  xr_lift C (fun _ _ _ _ _ _ _ _ _ _ _ _ _ ls hx hb hl k => lv_bipush hx hb d hv (k ls hl)) K
theorem xr_sipush (C : XC G L D cA base cc nL own R) {z : Int} (d : decode cc pc = .ok (.sipush z, 3)) (hv : (Int16.ofInt z).toInt32 = zI z) (K : XW G n ad w a b (pc + 3) lv (.int (zI z) :: st)) : XW G n ad w a b pc lv st :=
  xr_lift C (fun _ _ _ _ _ _ _ _ _ _ _ _ _ ls hx hb hl k => lv_sipush hx hb d hv (k ls hl)) K
theorem xr_lconst (C : XC G L D cA base cc nL own R) {z : Fin 2} (d : decode cc pc = .ok (.lconst z, 1)) (K : XW G n ad w a b (pc + 1) lv (.long (Int64.ofNat (z : Nat)) :: st)) : XW G n ad w a b pc lv st :=
  xr_lift C (fun _ _ _ _ _ _ _ _ _ _ _ _ _ ls hx hb hl k => lv_lconst hx hb d rfl (k ls hl)) K
theorem xr_iload_n (C : XC G L D cA base cc nL own R) (i : Nat) {k9 : Fin 4} {x : Int32} (d : decode cc pc = .ok (.iload_n k9, 1)) (hi : (k9 : Nat) = i) (hv : lv i = some (.int x)) (K : XW G n ad w a b (pc + 1) lv (.int x :: st)) : XW G n ad w a b pc lv st :=
  xr_lift C (fun _ _ _ _ _ _ _ _ _ _ _ _ _ ls hx hb hl k => lv_iload_n hx hb d hi (hl.2.2 _ _ hv).2 (k ls hl)) K
theorem xr_iload (C : XC G L D cA base cc nL own R) {i : Nat} {x : Int32} (d : decode cc pc = .ok (.iload i, 2)) (hv : lv i = some (.int x)) (K : XW G n ad w a b (pc + 2) lv (.int x :: st)) : XW G n ad w a b pc lv st :=
  xr_lift C (fun _ _ _ _ _ _ _ _ _ _ _ _ _ ls hx hb hl k => lv_iload hx hb d (hl.2.2 _ _ hv).2 (k ls hl)) K
theorem xr_aload_n (C : XC G L D cA base cc nL own R) (i : Nat) {k9 : Fin 4} {x : Nat} (d : decode cc pc = .ok (.aload_n k9, 1)) (hi : (k9 : Nat) = i) (hv : lv i = some (.ref x)) (K : XW G n ad w a b (pc + 1) lv (.ref x :: st)) : XW G n ad w a b pc lv st :=
  xr_lift C (fun _ _ _ _ _ _ _ _ _ _ _ _ _ ls hx hb hl k => lv_aload_n hx hb d hi (hl.2.2 _ _ hv).2 (k ls hl)) K
theorem xr_aload (C : XC G L D cA base cc nL own R) {i : Nat} {x : Nat} (d : decode cc pc = .ok (.aload i, 2)) (hv : lv i = some (.ref x)) (K : XW G n ad w a b (pc + 2) lv (.ref x :: st)) : XW G n ad w a b pc lv st :=
  xr_lift C (fun _ _ _ _ _ _ _ _ _ _ _ _ _ ls hx hb hl k => lv_aload hx hb d (hl.2.2 _ _ hv).2 (k ls hl)) K
theorem xr_istore_n (C : XC G L D cA base cc nL own R) (i : Nat) {k9 : Fin 4} {x : Int32} (d : decode cc pc = .ok (.istore_n k9, 1)) (hi : (k9 : Nat) = i) (hn : i < nL) (K : XW G n ad w a b (pc + 1) (va_up lv i (some (.int x))) st) : XW G n ad w a b pc lv (.int x :: st) :=
  xr_lift C (fun _ _ _ _ _ _ _ _ _ _ _ _ _ ls hx hb hl k => lv_istore_n hx hb d hi (xlv_has hl) hn rfl (fun ls9 h9 => k ls9 (xlv_put hl rfl h9))) K
theorem xr_istore (C : XC G L D cA base cc nL own R) {i : Nat} {x : Int32} (d : decode cc pc = .ok (.istore i, 2)) (hn : i < nL) (K : XW G n ad w a b (pc + 2) (va_up lv i (some (.int x))) st) : XW G n ad w a b pc lv (.int x :: st) :=
  xr_lift C (fun _ _ _ _ _ _ _ _ _ _ _ _ _ ls hx hb hl k => lv_istore hx hb d (xlv_has hl) hn rfl (fun ls9 h9 => k ls9 (xlv_put hl rfl h9))) K
theorem xr_astore_n (C : XC G L D cA base cc nL own R) (i : Nat) {k9 : Fin 4} {x : Nat} (d : decode cc pc = .ok (.astore_n k9, 1)) (hi : (k9 : Nat) = i) (hn : i < nL) (K : XW G n ad w a b (pc + 1) (va_up lv i (some (.ref x))) st) : XW G n ad w a b pc lv (.ref x :: st) :=
  xr_lift C (fun _ _ _ _ _ _ _ _ _ _ _ _ _ ls hx hb hl k => lv_astore_n hx hb d hi (xlv_has hl) hn rfl (fun ls9 h9 => k ls9 (xlv_put hl rfl h9))) K
theorem xr_astore (C : XC G L D cA base cc nL own R) {i : Nat} {x : Nat} (d : decode cc pc = .ok (.astore i, 2)) (hn : i < nL) (K : XW G n ad w a b (pc + 2) (va_up lv i (some (.ref x))) st) : XW G n ad w a b pc lv (.ref x :: st) :=
  xr_lift C (fun _ _ _ _ _ _ _ _ _ _ _ _ _ ls hx hb hl k => lv_astore hx hb d (xlv_has hl) hn rfl (fun ls9 h9 => k ls9 (xlv_put hl rfl h9))) K
theorem xll_at {nL i : Nat} {lv : Nat → Option Value} {v : Value} (hi : i < nL) (hv : lv i = some v) : ∃ k : Nat, (xll nL lv)[k]? = some (i, v) :=
  List.getElem?_of_mem (List.mem_filterMap.mpr ⟨i, List.mem_range.mpr hi, by rw [hv]; rfl⟩)
theorem xr_iinc (C : XC G L D cA base cc nL own R) {i : Nat} {z x : Int} (d : decode cc pc = .ok (.iinc i z, 3)) (hn : i < nL) (hv : lv i = some (.int (zI x))) (K : XW G n ad w a b (pc + 3) (va_up lv i (some (.int (zI (x + z))))) st) : XW G n ad w a b pc lv st :=
  xr_lift C (fun _ _ _ _ _ _ _ _ _ _ _ _ _ ls hx hb hl k => by
    obtain ⟨k9, hk9⟩ := xll_at hn hv
    exact lv_iinc hx hb d (xlv_has hl) hk9 (zI_add x z) hn rfl (fun ls9 h9 => k ls9 (xlv_put hl rfl h9))) K
theorem xr_iadd (C : XC G L D cA base cc nL own R) {x y : Int32} (d : decode cc pc = .ok (.iadd, 1)) (K : XW G n ad w a b (pc + 1) lv (.int (x + y) :: st)) : XW G n ad w a b pc lv (.int y :: .int x :: st) :=
  xr_lift C (fun _ _ _ _ _ _ _ _ _ _ _ _ _ ls hx hb hl k => lv_iadd hx hb d (k ls hl)) K
theorem xr_isub (C : XC G L D cA base cc nL own R) {x y : Int32} (d : decode cc pc = .ok (.isub, 1)) (K : XW G n ad w a b (pc + 1) lv (.int (x - y) :: st)) : XW G n ad w a b pc lv (.int y :: .int x :: st) :=
  xr_lift C (fun _ _ _ _ _ _ _ _ _ _ _ _ _ ls hx hb hl k => lv_isub hx hb d (k ls hl)) K
theorem xr_imul (C : XC G L D cA base cc nL own R) {x y : Int32} (d : decode cc pc = .ok (.imul, 1)) (K : XW G n ad w a b (pc + 1) lv (.int (x * y) :: st)) : XW G n ad w a b pc lv (.int y :: .int x :: st) :=
  xr_lift C (fun _ _ _ _ _ _ _ _ _ _ _ _ _ ls hx hb hl k => lv_imul hx hb d (k ls hl)) K
theorem xr_iand (C : XC G L D cA base cc nL own R) {x y : Int32} (d : decode cc pc = .ok (.iand, 1)) (K : XW G n ad w a b (pc + 1) lv (.int (x &&& y) :: st)) : XW G n ad w a b pc lv (.int y :: .int x :: st) :=
  xr_lift C (fun _ _ _ _ _ _ _ _ _ _ _ _ _ ls hx hb hl k => lv_iand hx hb d (k ls hl)) K
theorem xr_ior (C : XC G L D cA base cc nL own R) {x y : Int32} (d : decode cc pc = .ok (.ior, 1)) (K : XW G n ad w a b (pc + 1) lv (.int (x ||| y) :: st)) : XW G n ad w a b pc lv (.int y :: .int x :: st) :=
  xr_lift C (fun _ _ _ _ _ _ _ _ _ _ _ _ _ ls hx hb hl k => lv_ior hx hb d (k ls hl)) K
theorem xr_ixor (C : XC G L D cA base cc nL own R) {x y : Int32} (d : decode cc pc = .ok (.ixor, 1)) (K : XW G n ad w a b (pc + 1) lv (.int (x ^^^ y) :: st)) : XW G n ad w a b pc lv (.int y :: .int x :: st) :=
  xr_lift C (fun _ _ _ _ _ _ _ _ _ _ _ _ _ ls hx hb hl k => lv_ixor hx hb d (k ls hl)) K
theorem xr_ishl (C : XC G L D cA base cc nL own R) {x y : Int32} (d : decode cc pc = .ok (.ishl, 1)) (K : XW G n ad w a b (pc + 1) lv (.int (x <<< (y &&& 31)) :: st)) : XW G n ad w a b pc lv (.int y :: .int x :: st) :=
  xr_lift C (fun _ _ _ _ _ _ _ _ _ _ _ _ _ ls hx hb hl k => lv_ishl hx hb d (k ls hl)) K
theorem xr_ishr (C : XC G L D cA base cc nL own R) {x y : Int32} (d : decode cc pc = .ok (.ishr, 1)) (K : XW G n ad w a b (pc + 1) lv (.int (x >>> (y &&& 31)) :: st)) : XW G n ad w a b pc lv (.int y :: .int x :: st) :=
  xr_lift C (fun _ _ _ _ _ _ _ _ _ _ _ _ _ ls hx hb hl k => lv_ishr hx hb d (k ls hl)) K
theorem xz_iadd (C : XC G L D cA base cc nL own R) {x y : Int} (d : decode cc pc = .ok (.iadd, 1)) (K : XW G n ad w a b (pc + 1) lv (.int (zI (x + y)) :: st)) : XW G n ad w a b pc lv (.int (zI y) :: .int (zI x) :: st) :=
  xr_iadd C d (by rw [zI_add]; exact K)
theorem xz_isub (C : XC G L D cA base cc nL own R) {x y : Int} (d : decode cc pc = .ok (.isub, 1)) (K : XW G n ad w a b (pc + 1) lv (.int (zI (x - y)) :: st)) : XW G n ad w a b pc lv (.int (zI y) :: .int (zI x) :: st) :=
  xr_isub C d (by rw [zI_sub]; exact K)
theorem xz_imul (C : XC G L D cA base cc nL own R) {x y : Int} (d : decode cc pc = .ok (.imul, 1)) (K : XW G n ad w a b (pc + 1) lv (.int (zI (x * y)) :: st)) : XW G n ad w a b pc lv (.int (zI y) :: .int (zI x) :: st) :=
  xr_imul C d (by rw [zI_mul]; exact K)
theorem xz_irem (C : XC G L D cA base cc nL own R) {x y : Int} (d : decode cc pc = .ok (.irem, 1)) (hx9 : -2147483648 < x ∧ x < 2147483648) (hy9 : 0 < y ∧ y < 2147483648) (K : XW G n ad w a b (pc + 1) lv (.int (zI (x.tmod y)) :: st)) : XW G n ad w a b pc lv (.int (zI y) :: .int (zI x) :: st) :=
  xr_lift C (fun _ _ _ _ _ _ _ _ _ _ _ _ _ ls hx hb hl k => lv_irem hx hb d (fun q => by rw [← zI_0, zI_inj (by omega) (by omega)] at q; omega) (by rw [zI_rem hx9 hy9]; exact k ls hl)) K
theorem xr_i2l (C : XC G L D cA base cc nL own R) {x : Int32} (d : decode cc pc = .ok (.i2l, 1)) (K : XW G n ad w a b (pc + 1) lv (.long x.toInt64 :: st)) : XW G n ad w a b pc lv (.int x :: st) :=
  xr_lift C (fun _ _ _ _ _ _ _ _ _ _ _ _ _ ls hx hb hl k => lv_i2l hx hb d rfl (k ls hl)) K
theorem xr_lcmp (C : XC G L D cA base cc nL own R) {x y : Int64} (d : decode cc pc = .ok (.lcmp, 1)) (K : XW G n ad w a b (pc + 1) lv (.int (lg_cmp x y) :: st)) : XW G n ad w a b pc lv (.long y :: .long x :: st) :=
  xr_lift C (fun _ _ _ _ _ _ _ _ _ _ _ _ _ ls hx hb hl k => W.lcmp hx hb d (k ls hl)) K
theorem xr_dup (C : XC G L D cA base cc nL own R) {v : Value} (hc : v.category = 1) (d : decode cc pc = .ok (.dup, 1)) (K : XW G n ad w a b (pc + 1) lv (v :: v :: st)) : XW G n ad w a b pc lv (v :: st) :=
  xr_lift C (fun _ _ _ _ _ _ _ _ _ _ _ _ _ ls hx hb hl k => lv_dup hx hb d hc (k ls hl)) K
theorem xr_pop (C : XC G L D cA base cc nL own R) {v : Value} (hc : v.category = 1) (d : decode cc pc = .ok (.pop, 1)) (K : XW G n ad w a b (pc + 1) lv (st)) : XW G n ad w a b pc lv (v :: st) :=
  xr_lift C (fun _ _ _ _ _ _ _ _ _ _ _ _ _ ls hx hb hl k => lv_pop hx hb d hc (k ls hl)) K
theorem xr_dup_x1 (C : XC G L D cA base cc nL own R) {v u : Value} (hc : v.category = 1) (hc2 : u.category = 1) (d : decode cc pc = .ok (.dup_x1, 1)) (K : XW G n ad w a b (pc + 1) lv (v :: u :: v :: st)) : XW G n ad w a b pc lv (v :: u :: st) :=
  xr_lift C (fun _ _ _ _ _ _ _ _ _ _ _ _ _ ls hx hb hl k => lv_dup_x1 hx hb d hc hc2 (k ls hl)) K
theorem xr_dup_x2 (C : XC G L D cA base cc nL own R) {v u t : Value} (hc : v.category = 1) (hc2 : u.category = 1) (hc3 : t.category = 1) (d : decode cc pc = .ok (.dup_x2, 1)) (K : XW G n ad w a b (pc + 1) lv (v :: u :: t :: v :: st)) : XW G n ad w a b pc lv (v :: u :: t :: st) :=
  xr_lift C (fun _ _ _ _ _ _ _ _ _ _ _ _ _ ls hx hb hl k => lv_dup_x2 hx hb d hc hc2 hc3 (k ls hl)) K
theorem xr_dup2 (C : XC G L D cA base cc nL own R) {v u : Value} (hc : v.category = 1) (hc2 : u.category = 1) (d : decode cc pc = .ok (.dup2, 1)) (K : XW G n ad w a b (pc + 1) lv (v :: u :: v :: u :: st)) : XW G n ad w a b pc lv (v :: u :: st) :=
  xr_lift C (fun _ _ _ _ _ _ _ _ _ _ _ _ _ ls hx hb hl k => lv_dup2_11 hx hb d hc hc2 (k ls hl)) K
theorem xr_if_eq (C : XC G L D cA base cc nL own R) {x : Int32} {off : Int} {tgt : Nat} (d : decode cc pc = .ok (.ifCond .eq off, 3)) (ht : (pc : Int) + off = (tgt : Int)) (Kt : x = 0 → XW G n ad w a b tgt lv st) (Kf : ¬ x = 0 → XW G n ad w a b (pc + 3) lv st) : XW G n ad w a b pc lv (.int x :: st) :=
  xr_lift2 C (fun _ _ _ _ _ _ _ _ _ _ _ _ _ ls hx hb kt kf => lv_if_eq hx hb d ht kt kf) Kt Kf
theorem xr_icmp_eq (C : XC G L D cA base cc nL own R) {x y : Int32} {off : Int} {tgt : Nat} (d : decode cc pc = .ok (.if_icmp .eq off, 3)) (ht : (pc : Int) + off = (tgt : Int)) (Kt : x = y → XW G n ad w a b tgt lv st) (Kf : ¬ x = y → XW G n ad w a b (pc + 3) lv st) : XW G n ad w a b pc lv (.int y :: .int x :: st) :=
  xr_lift2 C (fun _ _ _ _ _ _ _ _ _ _ _ _ _ ls hx hb kt kf => lv_icmp_eq hx hb d ht kt kf) Kt Kf
theorem xz_if_eq (C : XC G L D cA base cc nL own R) {x : Int} {off : Int} {tgt : Nat} (d : decode cc pc = .ok (.ifCond .eq off, 3)) (ht : (pc : Int) + off = (tgt : Int)) (hx9 : -2147483648 ≤ x ∧ x < 2147483648) (Kt : x = 0 → XW G n ad w a b tgt lv st) (Kf : ¬ x = 0 → XW G n ad w a b (pc + 3) lv st) : XW G n ad w a b pc lv (.int (zI x) :: st) :=
  xr_if_eq C d ht (fun q => Kt ((show _ ↔ _ from zI_inj hx9 (by omega)).mp q)) (fun q => Kf (fun h => q ((show _ ↔ _ from zI_inj hx9 (by omega)).mpr h)))
theorem xz_icmp_eq (C : XC G L D cA base cc nL own R) {x y : Int} {off : Int} {tgt : Nat} (d : decode cc pc = .ok (.if_icmp .eq off, 3)) (ht : (pc : Int) + off = (tgt : Int)) (hx9 : -2147483648 ≤ x ∧ x < 2147483648) (hy9 : -2147483648 ≤ y ∧ y < 2147483648) (Kt : x = y → XW G n ad w a b tgt lv st) (Kf : ¬ x = y → XW G n ad w a b (pc + 3) lv st) : XW G n ad w a b pc lv (.int (zI y) :: .int (zI x) :: st) :=
  xr_icmp_eq C d ht (fun q => Kt ((zI_inj hx9 hy9).mp q)) (fun q => Kf (fun h => q ((zI_inj hx9 hy9).mpr h)))
theorem xr_if_ne (C : XC G L D cA base cc nL own R) {x : Int32} {off : Int} {tgt : Nat} (d : decode cc pc = .ok (.ifCond .ne off, 3)) (ht : (pc : Int) + off = (tgt : Int)) (Kt : ¬ x = 0 → XW G n ad w a b tgt lv st) (Kf : x = 0 → XW G n ad w a b (pc + 3) lv st) : XW G n ad w a b pc lv (.int x :: st) :=
  xr_lift2 C (fun _ _ _ _ _ _ _ _ _ _ _ _ _ ls hx hb kt kf => lv_if_ne hx hb d ht kt kf) Kt Kf
theorem xr_icmp_ne (C : XC G L D cA base cc nL own R) {x y : Int32} {off : Int} {tgt : Nat} (d : decode cc pc = .ok (.if_icmp .ne off, 3)) (ht : (pc : Int) + off = (tgt : Int)) (Kt : ¬ x = y → XW G n ad w a b tgt lv st) (Kf : x = y → XW G n ad w a b (pc + 3) lv st) : XW G n ad w a b pc lv (.int y :: .int x :: st) :=
  xr_lift2 C (fun _ _ _ _ _ _ _ _ _ _ _ _ _ ls hx hb kt kf => lv_icmp_ne hx hb d ht kt kf) Kt Kf
theorem xz_if_ne (C : XC G L D cA base cc nL own R) {x : Int} {off : Int} {tgt : Nat} (d : decode cc pc = .ok (.ifCond .ne off, 3)) (ht : (pc : Int) + off = (tgt : Int)) (hx9 : -2147483648 ≤ x ∧ x < 2147483648) (Kt : ¬ x = 0 → XW G n ad w a b tgt lv st) (Kf : x = 0 → XW G n ad w a b (pc + 3) lv st) : XW G n ad w a b pc lv (.int (zI x) :: st) :=
  xr_if_ne C d ht (fun q => Kt (fun h => q ((show _ ↔ _ from zI_inj hx9 (by omega)).mpr h))) (fun q => Kf ((show _ ↔ _ from zI_inj hx9 (by omega)).mp q))
theorem xz_icmp_ne (C : XC G L D cA base cc nL own R) {x y : Int} {off : Int} {tgt : Nat} (d : decode cc pc = .ok (.if_icmp .ne off, 3)) (ht : (pc : Int) + off = (tgt : Int)) (hx9 : -2147483648 ≤ x ∧ x < 2147483648) (hy9 : -2147483648 ≤ y ∧ y < 2147483648) (Kt : ¬ x = y → XW G n ad w a b tgt lv st) (Kf : x = y → XW G n ad w a b (pc + 3) lv st) : XW G n ad w a b pc lv (.int (zI y) :: .int (zI x) :: st) :=
  xr_icmp_ne C d ht (fun q => Kt (fun h => q ((zI_inj hx9 hy9).mpr h))) (fun q => Kf ((zI_inj hx9 hy9).mp q))
theorem xr_if_lt (C : XC G L D cA base cc nL own R) {x : Int32} {off : Int} {tgt : Nat} (d : decode cc pc = .ok (.ifCond .lt off, 3)) (ht : (pc : Int) + off = (tgt : Int)) (Kt : x < 0 → XW G n ad w a b tgt lv st) (Kf : ¬ x < 0 → XW G n ad w a b (pc + 3) lv st) : XW G n ad w a b pc lv (.int x :: st) :=
  xr_lift2 C (fun _ _ _ _ _ _ _ _ _ _ _ _ _ ls hx hb kt kf => lv_if_lt hx hb d ht kt kf) Kt Kf
theorem xr_icmp_lt (C : XC G L D cA base cc nL own R) {x y : Int32} {off : Int} {tgt : Nat} (d : decode cc pc = .ok (.if_icmp .lt off, 3)) (ht : (pc : Int) + off = (tgt : Int)) (Kt : x < y → XW G n ad w a b tgt lv st) (Kf : ¬ x < y → XW G n ad w a b (pc + 3) lv st) : XW G n ad w a b pc lv (.int y :: .int x :: st) :=
  xr_lift2 C (fun _ _ _ _ _ _ _ _ _ _ _ _ _ ls hx hb kt kf => lv_icmp_lt hx hb d ht kt kf) Kt Kf
theorem xz_if_lt (C : XC G L D cA base cc nL own R) {x : Int} {off : Int} {tgt : Nat} (d : decode cc pc = .ok (.ifCond .lt off, 3)) (ht : (pc : Int) + off = (tgt : Int)) (hx9 : -2147483648 ≤ x ∧ x < 2147483648) (Kt : x < 0 → XW G n ad w a b tgt lv st) (Kf : ¬ x < 0 → XW G n ad w a b (pc + 3) lv st) : XW G n ad w a b pc lv (.int (zI x) :: st) :=
  xr_if_lt C d ht (fun q => Kt ((show _ ↔ _ from zI_lt hx9 (by omega)).mp q)) (fun q => Kf (fun h => q ((show _ ↔ _ from zI_lt hx9 (by omega)).mpr h)))
theorem xz_icmp_lt (C : XC G L D cA base cc nL own R) {x y : Int} {off : Int} {tgt : Nat} (d : decode cc pc = .ok (.if_icmp .lt off, 3)) (ht : (pc : Int) + off = (tgt : Int)) (hx9 : -2147483648 ≤ x ∧ x < 2147483648) (hy9 : -2147483648 ≤ y ∧ y < 2147483648) (Kt : x < y → XW G n ad w a b tgt lv st) (Kf : ¬ x < y → XW G n ad w a b (pc + 3) lv st) : XW G n ad w a b pc lv (.int (zI y) :: .int (zI x) :: st) :=
  xr_icmp_lt C d ht (fun q => Kt ((zI_lt hx9 hy9).mp q)) (fun q => Kf (fun h => q ((zI_lt hx9 hy9).mpr h)))
theorem xr_if_ge (C : XC G L D cA base cc nL own R) {x : Int32} {off : Int} {tgt : Nat} (d : decode cc pc = .ok (.ifCond .ge off, 3)) (ht : (pc : Int) + off = (tgt : Int)) (Kt : 0 ≤ x → XW G n ad w a b tgt lv st) (Kf : ¬ 0 ≤ x → XW G n ad w a b (pc + 3) lv st) : XW G n ad w a b pc lv (.int x :: st) :=
  xr_lift2 C (fun _ _ _ _ _ _ _ _ _ _ _ _ _ ls hx hb kt kf => lv_if_ge hx hb d ht kt kf) Kt Kf
theorem xr_icmp_ge (C : XC G L D cA base cc nL own R) {x y : Int32} {off : Int} {tgt : Nat} (d : decode cc pc = .ok (.if_icmp .ge off, 3)) (ht : (pc : Int) + off = (tgt : Int)) (Kt : y ≤ x → XW G n ad w a b tgt lv st) (Kf : ¬ y ≤ x → XW G n ad w a b (pc + 3) lv st) : XW G n ad w a b pc lv (.int y :: .int x :: st) :=
  xr_lift2 C (fun _ _ _ _ _ _ _ _ _ _ _ _ _ ls hx hb kt kf => lv_icmp_ge hx hb d ht kt kf) Kt Kf
theorem xz_if_ge (C : XC G L D cA base cc nL own R) {x : Int} {off : Int} {tgt : Nat} (d : decode cc pc = .ok (.ifCond .ge off, 3)) (ht : (pc : Int) + off = (tgt : Int)) (hx9 : -2147483648 ≤ x ∧ x < 2147483648) (Kt : 0 ≤ x → XW G n ad w a b tgt lv st) (Kf : ¬ 0 ≤ x → XW G n ad w a b (pc + 3) lv st) : XW G n ad w a b pc lv (.int (zI x) :: st) :=
  xr_if_ge C d ht (fun q => Kt ((show _ ↔ _ from zI_le (by omega) hx9).mp q)) (fun q => Kf (fun h => q ((show _ ↔ _ from zI_le (by omega) hx9).mpr h)))
theorem xz_icmp_ge (C : XC G L D cA base cc nL own R) {x y : Int} {off : Int} {tgt : Nat} (d : decode cc pc = .ok (.if_icmp .ge off, 3)) (ht : (pc : Int) + off = (tgt : Int)) (hx9 : -2147483648 ≤ x ∧ x < 2147483648) (hy9 : -2147483648 ≤ y ∧ y < 2147483648) (Kt : y ≤ x → XW G n ad w a b tgt lv st) (Kf : ¬ y ≤ x → XW G n ad w a b (pc + 3) lv st) : XW G n ad w a b pc lv (.int (zI y) :: .int (zI x) :: st) :=
  xr_icmp_ge C d ht (fun q => Kt ((zI_le hy9 hx9).mp q)) (fun q => Kf (fun h => q ((zI_le hy9 hx9).mpr h)))
theorem xr_if_gt (C : XC G L D cA base cc nL own R) {x : Int32} {off : Int} {tgt : Nat} (d : decode cc pc = .ok (.ifCond .gt off, 3)) (ht : (pc : Int) + off = (tgt : Int)) (Kt : 0 < x → XW G n ad w a b tgt lv st) (Kf : ¬ 0 < x → XW G n ad w a b (pc + 3) lv st) : XW G n ad w a b pc lv (.int x :: st) :=
  xr_lift2 C (fun _ _ _ _ _ _ _ _ _ _ _ _ _ ls hx hb kt kf => lv_if_gt hx hb d ht kt kf) Kt Kf
theorem xr_icmp_gt (C : XC G L D cA base cc nL own R) {x y : Int32} {off : Int} {tgt : Nat} (d : decode cc pc = .ok (.if_icmp .gt off, 3)) (ht : (pc : Int) + off = (tgt : Int)) (Kt : y < x → XW G n ad w a b tgt lv st) (Kf : ¬ y < x → XW G n ad w a b (pc + 3) lv st) : XW G n ad w a b pc lv (.int y :: .int x :: st) :=
  xr_lift2 C (fun _ _ _ _ _ _ _ _ _ _ _ _ _ ls hx hb kt kf => lv_icmp_gt hx hb d ht kt kf) Kt Kf
theorem xz_if_gt (C : XC G L D cA base cc nL own R) {x : Int} {off : Int} {tgt : Nat} (d : decode cc pc = .ok (.ifCond .gt off, 3)) (ht : (pc : Int) + off = (tgt : Int)) (hx9 : -2147483648 ≤ x ∧ x < 2147483648) (Kt : 0 < x → XW G n ad w a b tgt lv st) (Kf : ¬ 0 < x → XW G n ad w a b (pc + 3) lv st) : XW G n ad w a b pc lv (.int (zI x) :: st) :=
  xr_if_gt C d ht (fun q => Kt ((show _ ↔ _ from zI_lt (by omega) hx9).mp q)) (fun q => Kf (fun h => q ((show _ ↔ _ from zI_lt (by omega) hx9).mpr h)))
theorem xz_icmp_gt (C : XC G L D cA base cc nL own R) {x y : Int} {off : Int} {tgt : Nat} (d : decode cc pc = .ok (.if_icmp .gt off, 3)) (ht : (pc : Int) + off = (tgt : Int)) (hx9 : -2147483648 ≤ x ∧ x < 2147483648) (hy9 : -2147483648 ≤ y ∧ y < 2147483648) (Kt : y < x → XW G n ad w a b tgt lv st) (Kf : ¬ y < x → XW G n ad w a b (pc + 3) lv st) : XW G n ad w a b pc lv (.int (zI y) :: .int (zI x) :: st) :=
  xr_icmp_gt C d ht (fun q => Kt ((zI_lt hy9 hx9).mp q)) (fun q => Kf (fun h => q ((zI_lt hy9 hx9).mpr h)))
theorem xr_if_le (C : XC G L D cA base cc nL own R) {x : Int32} {off : Int} {tgt : Nat} (d : decode cc pc = .ok (.ifCond .le off, 3)) (ht : (pc : Int) + off = (tgt : Int)) (Kt : x ≤ 0 → XW G n ad w a b tgt lv st) (Kf : ¬ x ≤ 0 → XW G n ad w a b (pc + 3) lv st) : XW G n ad w a b pc lv (.int x :: st) :=
  xr_lift2 C (fun _ _ _ _ _ _ _ _ _ _ _ _ _ ls hx hb kt kf => lv_if_le hx hb d ht kt kf) Kt Kf
theorem xr_icmp_le (C : XC G L D cA base cc nL own R) {x y : Int32} {off : Int} {tgt : Nat} (d : decode cc pc = .ok (.if_icmp .le off, 3)) (ht : (pc : Int) + off = (tgt : Int)) (Kt : x ≤ y → XW G n ad w a b tgt lv st) (Kf : ¬ x ≤ y → XW G n ad w a b (pc + 3) lv st) : XW G n ad w a b pc lv (.int y :: .int x :: st) :=
  xr_lift2 C (fun _ _ _ _ _ _ _ _ _ _ _ _ _ ls hx hb kt kf => lv_icmp_le hx hb d ht kt kf) Kt Kf
theorem xz_if_le (C : XC G L D cA base cc nL own R) {x : Int} {off : Int} {tgt : Nat} (d : decode cc pc = .ok (.ifCond .le off, 3)) (ht : (pc : Int) + off = (tgt : Int)) (hx9 : -2147483648 ≤ x ∧ x < 2147483648) (Kt : x ≤ 0 → XW G n ad w a b tgt lv st) (Kf : ¬ x ≤ 0 → XW G n ad w a b (pc + 3) lv st) : XW G n ad w a b pc lv (.int (zI x) :: st) :=
  xr_if_le C d ht (fun q => Kt ((show _ ↔ _ from zI_le hx9 (by omega)).mp q)) (fun q => Kf (fun h => q ((show _ ↔ _ from zI_le hx9 (by omega)).mpr h)))
theorem xz_icmp_le (C : XC G L D cA base cc nL own R) {x y : Int} {off : Int} {tgt : Nat} (d : decode cc pc = .ok (.if_icmp .le off, 3)) (ht : (pc : Int) + off = (tgt : Int)) (hx9 : -2147483648 ≤ x ∧ x < 2147483648) (hy9 : -2147483648 ≤ y ∧ y < 2147483648) (Kt : x ≤ y → XW G n ad w a b tgt lv st) (Kf : ¬ x ≤ y → XW G n ad w a b (pc + 3) lv st) : XW G n ad w a b pc lv (.int (zI y) :: .int (zI x) :: st) :=
  xr_icmp_le C d ht (fun q => Kt ((zI_le hx9 hy9).mp q)) (fun q => Kf (fun h => q ((zI_le hx9 hy9).mpr h)))
theorem xr_goto (C : XC G L D cA base cc nL own R) {off : Int} {tgt : Nat} (d : decode cc pc = .ok (.goto off, 3)) (ht : (pc : Int) + off = (tgt : Int)) (K : XW G n ad w a b tgt lv st) : XW G n ad w a b pc lv st :=
  xr_lift C (fun _ _ _ _ _ _ _ _ _ _ _ _ _ ls hx hb hl k => lv_goto hx hb d ht (k ls hl)) K
theorem xr_tableOut (C : XC G L D cA base cc nL own R) {dflt lo hi : Int} {offs : Array Int} {len : Nat} {x : Int32} {tgt : Nat} (d : decode cc pc = .ok (.tableswitch dflt lo hi offs, len)) (h : x.toInt < lo ∨ hi < x.toInt) (ht : (pc : Int) + dflt = (tgt : Int)) (K : XW G n ad w a b tgt lv st) : XW G n ad w a b pc lv (.int x :: st) :=
  xr_lift C (fun _ _ _ _ _ _ _ _ _ _ _ _ _ ls hx hb hl k => lv_tableOut hx hb d h ht (k ls hl)) K
theorem xr_tableIn (C : XC G L D cA base cc nL own R) {dflt lo hi : Int} {offs : Array Int} {len : Nat} {x : Int32} {off : Int} {tgt : Nat} (d : decode cc pc = .ok (.tableswitch dflt lo hi offs, len)) (h1 : ¬ x.toInt < lo) (h2 : ¬ hi < x.toInt) (ho : offs[(x.toInt - lo).toNat]? = some off) (ht : (pc : Int) + off = (tgt : Int)) (K : XW G n ad w a b tgt lv st) : XW G n ad w a b pc lv (.int x :: st) :=
  xr_lift C (fun _ _ _ _ _ _ _ _ _ _ _ _ _ ls hx hb hl k => lv_tableIn hx hb d h1 h2 ho ht (k ls hl)) K
end XL
end
section
/-! the heap: fields, arrays -/
def xIA (c : ClassId) (N : Nat) (f : Nat → Int) : va_E := .inl (c, N, .inl (fun j => zI (f j)))
def xLA (c : ClassId) (N : Nat) (f : Nat → Int64) : va_E := .inl (c, N, .inr (.inl f))
def xOb (ci : Nat) (fs : List Value) : va_E := .inr (ci, fs)
theorem zI_upd (f : Nat → Int) (k : Nat) (z : Int) : upd (fun j => zI (f j)) k (zI z) = fun j => zI (va_up f k z j) := by
  funext j
  unfold upd va_up
  split <;> rfl
/-! truth values -/
def xb (p : Bool) : Int := if p then 1 else 0
theorem xb_01 {p : Bool} : xb p = 0 ∨ xb p = 1 := by cases p <;> simp [xb]
theorem xb_nar {p : Bool} : narrow .boolean (.int (zI (xb p))) = .int (zI (xb p)) := by cases p <;> decide
theorem xb_fit {p : Bool} : fits .boolean (.int (zI (xb p))) = true := by cases p <;> decide
theorem xb_t : xb true = 1 := rfl
theorem xb_f : xb false = 0 := rfl
section XH
variable {G : xG} {L : Launch} {D : va_G} {cA : Nat → ClassId} {base : Nat} {cc : ByteArray} {nL : Nat} {own : String} {R : Room}
variable {n : Nat} {ad : Nat → Nat} {w : Nat → va_E} {a b pc : Nat} {lv : Nat → Option Value} {st : List Value}
theorem xr_get (C : XC G L D cA base cc nL own R) {index ci fi k : Nat} {fs : List Value} {v : Value} (F : xFldR own index ci fi) (hw : w k = xOb ci fs) (hk : k < n) (hv : fs[fi]? = some v) (d : decode cc pc = .ok (.getfield index, 3))
    (K : XW G n ad w a b (pc + 3) lv (v :: st)) : XW G n ad w a b pc lv (.ref (ad k) :: st) := by
  obtain ⟨p, l, e, R1, s, m, args, below, meth, c, Q, nL1, D1, base1⟩ := G
  obtain ⟨rfl, rfl, rfl, rfl, rfl, hx, hb, hml, hown, hts, hK, hlocks, hbase, hgl⟩ := C
  intro H locs ls hP hD hS hl
  obtain ⟨Cn, T, N, f1, f2, f3, f4⟩ := F
  exact va_get hx hb hts f2 hown hK hP k (xws_at hk hw) f1 fi f3 (hts _ f4) (fun _ h9 => h9) hv d (K H locs ls hP hD hS hl)
theorem xr_put (C : XC G L D cA base cc nL own R) {index ci fi k : Nat} {ty : FieldType} {fs : List Value} {v : Value} (F : xFld own index ci fi false ty) (hw : w k = xOb ci fs) (hk : k < n) (hn : narrow ty v = v) (hf : fits ty v = true) (hlt : fi < fs.length) (d : decode cc pc = .ok (.putfield index, 3))
    (K : XW G n ad (va_up w k (xOb ci (fs.set fi v))) a b (pc + 3) lv st) : XW G n ad w a b pc lv (v :: .ref (ad k) :: st) := by
  obtain ⟨p, l, e, R1, s, m, args, below, meth, c, Q, nL1, D1, base1⟩ := G
  obtain ⟨rfl, rfl, rfl, rfl, rfl, hx, hb, hml, hown, hts, hK, hlocks, hbase, hgl⟩ := C
  intro H locs ls hP hD hS hl
  obtain ⟨Cn, T, N, ty0, f1, f2, f3, f4, f5, f6, f7, f8, f9⟩ := F
  refine va_put hx hb hts f2 ty0 f7 f8 hown hK hP hD hS k (xws_at hk hw) f1 fi f3 (hts _ f4) (fun _ h9 => h9) f6 f5 hn hf hlt d (fun H1 locs1 hP1 hD1 hS1 => ?_)
  rw [xws_set] at hP1 hD1
  exact K H1 locs1 ls hP1 hD1 hS1 hl
/-- the walk is a constructor's -/
def XIn (G : xG) : Prop := match G with
  | (_, _, _, _, _, _, _, _, meth, _, _, _, _, _) => meth.name = "<init>"
theorem xr_putF (C : XC G L D cA base cc nL own R) (hin : XIn G) {index ci fi k : Nat} {ty : FieldType} {fs : List Value} {v : Value} (F : xFld own index ci fi true ty) (hw : w k = xOb ci fs) (hk : k < n) (hn : narrow ty v = v) (hf : fits ty v = true) (hlt : fi < fs.length) (d : decode cc pc = .ok (.putfield index, 3))
    (K : XW G n ad (va_up w k (xOb ci (fs.set fi v))) a b (pc + 3) lv st) : XW G n ad w a b pc lv (v :: .ref (ad k) :: st) := by
  obtain ⟨p, l, e, R1, s, m, args, below, meth, c, Q, nL1, D1, base1⟩ := G
  obtain ⟨rfl, rfl, rfl, rfl, rfl, hx, hb, hml, hown, hts, hK, hlocks, hbase, hgl⟩ := C
  intro H locs ls hP hD hS hl
  obtain ⟨Cn, T, N, ty0, f1, f2, f3, f4, f5, f6, f7, f8, f9⟩ := F
  refine va_putF hx hb hts f2 ty0 f7 f8 hown hK hP hD hS k (xws_at hk hw) f1 fi f3 (hts _ f4) (fun _ h9 => h9) f6 hin (f9 rfl) f5 hn hf hlt d (fun H1 locs1 hP1 hD1 hS1 => ?_)
  rw [xws_set] at hP1 hD1
  exact K H1 locs1 ls hP1 hD1 hS1 hl
theorem xz_iald (C : XC G L D cA base cc nL own R) {k N : Nat} {f : Nat → Int} {i : Int} (hw : w k = xIA (cA 0) N f) (hk : k < n) (hi : 0 ≤ i ∧ i < N) (hN : N < 2147483648) (d : decode cc pc = .ok (.iaload, 1))
    (K : XW G n ad w a b (pc + 1) lv (.int (zI (f i.toNat)) :: st)) : XW G n ad w a b pc lv (.int (zI i) :: .ref (ad k) :: st) := by
  obtain ⟨p, l, e, R1, s, m, args, below, meth, c, Q, nL1, D1, base1⟩ := G
  obtain ⟨rfl, rfl, rfl, rfl, rfl, hx, hb, hml, hown, hts, hK, hlocks, hbase, hgl⟩ := C
  intro H locs ls hP hD hS hl
  refine va_iald hx hb hK hP k 0 (xws_at hk hw) rfl (zI_in hi hN) d ?_
  rw [zI_clamp (by omega)]
  exact K H locs ls hP hD hS hl
theorem xz_zald (C : XC G L D cA base cc nL own R) {k N : Nat} {f : Nat → Int} {i : Int} (hw : w k = xIA (cA 1) N f) (hk : k < n) (hi : 0 ≤ i ∧ i < N) (hN : N < 2147483648) (d : decode cc pc = .ok (.baload, 1))
    (K : XW G n ad w a b (pc + 1) lv (.int (zI (f i.toNat)) :: st)) : XW G n ad w a b pc lv (.int (zI i) :: .ref (ad k) :: st) := by
  obtain ⟨p, l, e, R1, s, m, args, below, meth, c, Q, nL1, D1, base1⟩ := G
  obtain ⟨rfl, rfl, rfl, rfl, rfl, hx, hb, hml, hown, hts, hK, hlocks, hbase, hgl⟩ := C
  intro H locs ls hP hD hS hl
  refine va_zald hx hb hK hP k 1 (xws_at hk hw) rfl (zI_in hi hN) d ?_
  rw [zI_clamp (by omega)]
  exact K H locs ls hP hD hS hl
theorem xr_lald (C : XC G L D cA base cc nL own R) {k N : Nat} {f : Nat → Int64} {i : Int} (hw : w k = xLA (cA 2) N f) (hk : k < n) (hi : 0 ≤ i ∧ i < N) (hN : N < 2147483648) (d : decode cc pc = .ok (.laload, 1))
    (K : XW G n ad w a b (pc + 1) lv (.long (f i.toNat) :: st)) : XW G n ad w a b pc lv (.int (zI i) :: .ref (ad k) :: st) := by
  obtain ⟨p, l, e, R1, s, m, args, below, meth, c, Q, nL1, D1, base1⟩ := G
  obtain ⟨rfl, rfl, rfl, rfl, rfl, hx, hb, hml, hown, hts, hK, hlocks, hbase, hgl⟩ := C
  intro H locs ls hP hD hS hl
  refine va_lald hx hb hK hP k 2 (xws_at hk hw) rfl (zI_in hi hN) d ?_
  rw [zI_clamp (by omega)]
  exact K H locs ls hP hD hS hl
theorem xz_iast (C : XC G L D cA base cc nL own R) {k N : Nat} {f : Nat → Int} {i x : Int} (hw : w k = xIA (cA 0) N f) (hk : k < n) (hi : 0 ≤ i ∧ i < N) (hN : N < 2147483648) (d : decode cc pc = .ok (.iastore, 1))
    (K : XW G n ad (va_up w k (xIA (cA 0) N (va_up f i.toNat x))) a b (pc + 1) lv st) : XW G n ad w a b pc lv (.int (zI x) :: .int (zI i) :: .ref (ad k) :: st) := by
  obtain ⟨p, l, e, R1, s, m, args, below, meth, c, Q, nL1, D1, base1⟩ := G
  obtain ⟨rfl, rfl, rfl, rfl, rfl, hx, hb, hml, hown, hts, hK, hlocks, hbase, hgl⟩ := C
  intro H locs ls hP hD hS hl
  refine va_iast hx hb hK hP hD hS k 0 (xws_at hk hw) rfl (zI_in hi hN) d (fun H1 locs1 hP1 hD1 hS1 => ?_)
  rw [xws_set, zI_clamp (by omega), zI_upd] at hP1 hD1
  exact K H1 locs1 ls hP1 hD1 hS1 hl
theorem zI_nar {x : Int} (h : x = 0 ∨ x = 1) : vp_nar .boolean (zI x) = zI x := by
  rcases h with rfl | rfl <;> decide
theorem xz_zast (C : XC G L D cA base cc nL own R) {k N : Nat} {f : Nat → Int} {i x : Int} (hw : w k = xIA (cA 1) N f) (hk : k < n) (hi : 0 ≤ i ∧ i < N) (hN : N < 2147483648) (hx9 : x = 0 ∨ x = 1) (d : decode cc pc = .ok (.bastore, 1))
    (K : XW G n ad (va_up w k (xIA (cA 1) N (va_up f i.toNat x))) a b (pc + 1) lv st) : XW G n ad w a b pc lv (.int (zI x) :: .int (zI i) :: .ref (ad k) :: st) := by
  obtain ⟨p, l, e, R1, s, m, args, below, meth, c, Q, nL1, D1, base1⟩ := G
  obtain ⟨rfl, rfl, rfl, rfl, rfl, hx, hb, hml, hown, hts, hK, hlocks, hbase, hgl⟩ := C
  intro H locs ls hP hD hS hl
  refine va_zast hx hb hK hP hD hS k 1 (xws_at hk hw) rfl (zI_in hi hN) d (fun H1 locs1 hP1 hD1 hS1 => ?_)
  rw [xws_set, zI_clamp (by omega), zI_nar hx9, zI_upd] at hP1 hD1
  exact K H1 locs1 ls hP1 hD1 hS1 hl
theorem xr_last (C : XC G L D cA base cc nL own R) {k N : Nat} {f : Nat → Int64} {i : Int} {x : Int64} (hw : w k = xLA (cA 2) N f) (hk : k < n) (hi : 0 ≤ i ∧ i < N) (hN : N < 2147483648) (d : decode cc pc = .ok (.lastore, 1))
    (K : XW G n ad (va_up w k (xLA (cA 2) N (vp_updL f i.toNat x))) a b (pc + 1) lv st) : XW G n ad w a b pc lv (.long x :: .int (zI i) :: .ref (ad k) :: st) := by
  obtain ⟨p, l, e, R1, s, m, args, below, meth, c, Q, nL1, D1, base1⟩ := G
  obtain ⟨rfl, rfl, rfl, rfl, rfl, hx, hb, hml, hown, hts, hK, hlocks, hbase, hgl⟩ := C
  intro H locs ls hP hD hS hl
  refine va_last hx hb hK hP hD hS k 2 (xws_at hk hw) rfl (zI_in hi hN) d (fun H1 locs1 hP1 hD1 hS1 => ?_)
  rw [xws_set, zI_clamp (by omega)] at hP1 hD1
  exact K H1 locs1 ls hP1 hD1 hS1 hl
theorem xz_alen (C : XC G L D cA base cc nL own R) {k N t0 : Nat} {f : Nat → Int} (ht0 : t0 < 3) (hw : w k = xIA (cA t0) N f) (hk : k < n) (d : decode cc pc = .ok (.arraylength, 1))
    (K : XW G n ad w a b (pc + 1) lv (.int (zI (N : Int)) :: st)) : XW G n ad w a b pc lv (.ref (ad k) :: st) := by
  obtain ⟨p, l, e, R1, s, m, args, below, meth, c, Q, nL1, D1, base1⟩ := G
  obtain ⟨rfl, rfl, rfl, rfl, rfl, hx, hb, hml, hown, hts, hK, hlocks, hbase, hgl⟩ := C
  intro H locs ls hP hD hS hl
  obtain ⟨ty, hty⟩ : ∃ ty, (xtys cA)[t0]? = some (cA t0, ty) := by
    match t0, ht0 with
    | 0, _ => exact ⟨_, rfl⟩
    | 1, _ => exact ⟨_, rfl⟩
    | 2, _ => exact ⟨_, rfl⟩
  exact va_alen hx hb hK hP k t0 (xws_at hk hw) hty (zI_nat N) d (K H locs ls hP hD hS hl)
theorem xb_if_eq (C : XC G L D cA base cc nL own R) {p : Bool} {off : Int} {tgt : Nat} (d : decode cc pc = .ok (.ifCond .eq off, 3)) (ht : (pc : Int) + off = (tgt : Int)) (Kt : p = false → XW G n ad w a b tgt lv st) (Kf : p = true → XW G n ad w a b (pc + 3) lv st) : XW G n ad w a b pc lv (.int (zI (xb p)) :: st) :=
  xz_if_eq C d ht (by cases p <;> decide) (fun h => Kt (by cases p with | false => rfl | true => exact absurd h (by decide))) (fun h => Kf (by cases p with | true => rfl | false => exact absurd rfl h))
theorem xb_if_ne (C : XC G L D cA base cc nL own R) {p : Bool} {off : Int} {tgt : Nat} (d : decode cc pc = .ok (.ifCond .ne off, 3)) (ht : (pc : Int) + off = (tgt : Int)) (Kt : p = true → XW G n ad w a b tgt lv st) (Kf : p = false → XW G n ad w a b (pc + 3) lv st) : XW G n ad w a b pc lv (.int (zI (xb p)) :: st) :=
  xz_if_ne C d ht (by cases p <;> decide) (fun h => Kt (by cases p with | true => rfl | false => exact absurd rfl h)) (fun h => Kf (by cases p with | false => rfl | true => exact absurd h (by decide)))
end XH
/-! contracts -/
def XI (D : va_G) (cA : Nat → ClassId) (base n : Nat) (ad : Nat → Nat) (w : Nat → va_E) (U : State) : Prop := base ≤ U.heap.size ∧ va_K D vwCl (xtys cA) U ∧ va_P D vwCl (xws n ad w) U.heap ∧ va_D (xA base) (xws n ad w) ∧ XGl base U
abbrev xPost := Option Value → Nat → (Nat → Nat) → (Nat → va_E) → Prop
abbrev xPosx := String → Nat → (Nat → Nat) → (Nat → va_E) → Prop
def xQ (D : va_G) (base : Nat) (post : xPost) : Array Value → State → Outcome → State → Prop := fun _ s0 oc t => ∃ (v : Option Value) (n' : Nat) (ad' : Nat → Nat) (w' : Nat → va_E), oc = .returned v ∧ post v n' ad' w' ∧ va_P D vwCl (xws n' ad' w') t.heap ∧ va_D (xA base) (xws n' ad' w') ∧ va_F (xA base) s0 t
def xX (D : va_G) (base : Nat) (xp : xPosx) : String → State → State → Prop := fun E s0 t => ∃ (n' : Nat) (ad' : Nat → Nat) (w' : Nat → va_E), xp E n' ad' w' ∧ va_P D vwCl (xws n' ad' w') t.heap ∧ va_D (xA base) (xws n' ad' w') ∧ va_F (xA base) s0 t
def xwd (y : MethodName) (bytes : ByteArray) (maxL : Nat) (ret : Option FieldType) : List Cond := Cond.code y bytes maxL ret :: xTs
def XM (L : Launch) (D : va_G) (cA : Nat → ClassId) (base : Nat) (y : MethodName) (bytes : ByteArray) (maxL : Nat) (ret : Option FieldType) (rm : Room) (av : List Value) (n : Nat) (ad : Nat → Nat) (w : Nat → va_E) (post : xPost) (xp : xPosx) : Prop :=
  vx_Met L y (xwd y bytes maxL ret) rm (va_Pc av (XI D cA base n ad w)) (xQ D base post) (xX D base xp) rm.cells rm.slots (xA base)
/-- what a walk owes at its end -/
def XE (G : xG) (D9 : va_G) (base9 : Nat) (post : xPost) (xp : xPosx) (mc ms : Nat) (ret : Option FieldType) : Prop := match G with
  | (_, _, _, _, s, _, args, below, meth, c, Q, _, D, base) => Q = vx_MQ below (xQ D9 base9 post) (xX D9 base9 xp) args s mc ms (xA base9) ∧ meth.sig.returnType = ret ∧ (∀ x ∈ c.exceptionTable.toList, False)
/-- an exception of class E is thrown over the frame -/
def XX (G : xG) (n : Nat) (ad : Nat → Nat) (w : Nat → va_E) (a b pc : Nat) (lv : Nat → Option Value) (st : List Value) (E : String) : Prop := match G with
  | (p, l, e, R, s, m, args, below, meth, c, Q, nL, D, base) => ∀ (H : Heap) (locs : List Loc) (ls : Array Slot) (q : Addr) (ce : Cell), va_P D vwCl (xws n ad w) H → va_D (xA base) (xws n ad w) → va_S (xA base) s.heap H locs → xlv ls nL lv → H[q]? = some ce → ce.vm = .none → s.vm.findClass E = some ce.cls → vx_W p l e R s m args below meth c H locs a b Q (F0 m pc ls st) q
section XK
variable {G : xG} {L : Launch} {D : va_G} {cA : Nat → ClassId} {base : Nat} {cc : ByteArray} {nL : Nat} {own : String} {R : Room}
variable {n : Nat} {ad : Nat → Nat} {w : Nat → va_E} {a b pc : Nat} {lv : Nat → Option Value} {st : List Value}
variable {post : xPost} {xp : xPosx} {mc ms : Nat} {ret : Option FieldType}
theorem xr_iret (C : XC G L D cA base cc nL own R) (E : XE G D base post xp mc ms (some .int)) {v : Int32} (hp : post (some (.int v)) n ad w) (h1 : a ≤ mc) (h2 : b ≤ ms) (d : decode cc pc = .ok (.ireturn, 1)) : XW G n ad w a b pc lv [.int v] := by
  obtain ⟨p, l, e, R1, s, m, args, below, meth, c, Q, nL1, D1, base1⟩ := G
  obtain ⟨rfl, rfl, rfl, rfl, rfl, hx, hb, hml, hown, hts, hK, hlocks, hbase, hgl⟩ := C
  intro H locs ls hP hD hS hl
  obtain ⟨rfl, hr, -⟩ := E
  exact W.widen h1 h2 (vx_ret (W.iret hx hb hr (fun t ht hW => ⟨_, n, ad, w, rfl, hp, by rw [ht]; exact hP, hD, hS.F ht⟩) hS.2.2 d hlocks))
theorem xr_vret (C : XC G L D cA base cc nL own R) (E : XE G D base post xp mc ms (none)) (hp : post (none) n ad w) (h1 : a ≤ mc) (h2 : b ≤ ms) (d : decode cc pc = .ok (.return_, 1)) : XW G n ad w a b pc lv [] := by
  obtain ⟨p, l, e, R1, s, m, args, below, meth, c, Q, nL1, D1, base1⟩ := G
  obtain ⟨rfl, rfl, rfl, rfl, rfl, hx, hb, hml, hown, hts, hK, hlocks, hbase, hgl⟩ := C
  intro H locs ls hP hD hS hl
  obtain ⟨rfl, hr, -⟩ := E
  exact W.widen h1 h2 (vx_ret (W.vret hx hb hr (fun t ht hW => ⟨_, n, ad, w, rfl, hp, by rw [ht]; exact hP, hD, hS.F ht⟩) hS.2.2 d hlocks))
theorem xr_zret (C : XC G L D cA base cc nL own R) (E : XE G D base post xp mc ms (some .boolean)) {x : Int} (hz : x = 0 ∨ x = 1) (hp : post (some (.int (zI x))) n ad w) (h1 : a ≤ mc) (h2 : b ≤ ms) (d : decode cc pc = .ok (.ireturn, 1)) : XW G n ad w a b pc lv [.int (zI x)] := by
  obtain ⟨p, l, e, R1, s, m, args, below, meth, c, Q, nL1, D1, base1⟩ := G
  obtain ⟨rfl, rfl, rfl, rfl, rfl, hx, hb, hml, hown, hts, hK, hlocks, hbase, hgl⟩ := C
  intro H locs ls hP hD hS hl
  obtain ⟨rfl, hr, -⟩ := E
  exact W.widen h1 h2 (vx_ret (W.zret hx hb hr (by rcases hz with rfl | rfl <;> decide) (fun t ht hW => ⟨_, n, ad, w, rfl, hp, by rw [ht]; exact hP, hD, hS.F ht⟩) hS.2.2 d hlocks))
theorem xx_out (C : XC G L D cA base cc nL own R) (E : XE G D base post xp mc ms ret) {En : String} (hp : xp En n ad w) (h1 : a ≤ mc) (h2 : b ≤ ms) : XX G n ad w a b pc lv st En := by
  obtain ⟨p, l, e, R1, s, m, args, below, meth, c, Q, nL1, D1, base1⟩ := G
  obtain ⟨rfl, rfl, rfl, rfl, rfl, hx, hb, hml, hown, hts, hK, hlocks, hbase, hgl⟩ := C
  obtain ⟨rfl, hr, ht⟩ := E
  intro H locs ls q ce hP hD hS hl hc hv hcl
  exact vx_widen h1 h2 (vx_out (fun x h => (ht x h).elim) hlocks hc hv hcl (fun t h9 _ => ⟨n, ad, w, hp, by rw [h9]; exact hP, hD, hS.F h9⟩) hS.2.2 (Nat.le_refl _) (Nat.le_refl _))
/-- throw new E("text") -/
theorem xr_throw (C : XC G L D cA base cc nL own R) (E : XE G D base post xp mc ms ret) (hLt : L.stackTraces = false) {cls text : String} {names : List String} {ik is ic : Nat} (ho : own = R_RS) (hcls : Bundle.fit cls = true) (hnames : ∀ q ∈ names, Bundle.fit q = true) (hk : Cond.classLink own ik cls ∈ xTs) (hini : Cond.initialized cls ∈ xTs) (hstr : (is, text) ∈ xStr) (hat : ∀ q ∈ vx_atS own ic cls names, q ∈ xTs ∨ q = Cond.castable cls cls ∨ q ∈ xSup.map (fun q9 => Cond.declares ⟨q9, "<init>", "(Ljava/lang/String;)V"⟩)) (hce : cls ∈ xEs)
    (d0 : decode cc pc = .ok (.new ik, 3)) (d3 : decode cc (pc + 3) = .ok (.dup, 1)) (d4 : decode cc (pc + 4) = .ok (.ldc is, 2)) (d6 : decode cc (pc + 6) = .ok (.invokespecial ic, 3)) (d9 : decode cc (pc + 9) = .ok (.athrow, 1))
    (hR : names.length + 3 < R.frames ∧ (st.map fun v => v.category).sum + (13 * (names.length + 1) + 43) ≤ R.locals) (hcs : a + 1 ≤ R.cells ∧ b + 6 ≤ R.slots) (hp : xp cls n ad w) (h1 : a + 1 ≤ mc) (h2 : b + 6 ≤ ms) : XW G n ad w a b pc lv st := by
  obtain ⟨p, l, e, R1, s, m, args, below, meth, c, Q, nL1, D1, base1⟩ := G
  obtain ⟨rfl, rfl, rfl, rfl, rfl, hx, hb, hml, hown, hts, hK, hlocks, hbase, hgl⟩ := C
  intro H locs ls hP hD hS hl
  obtain ⟨rfl, hr, ht⟩ := E
  subst ho
  obtain ⟨sa, hsa⟩ := hgl.2.2.1 _ hstr
  have hgood : ∀ q ∈ Cond.classLink R_RS ik cls :: Cond.initialized cls :: vx_atS R_RS ic cls names, vx_ot q = true := by
    intro q hq
    have hm : q ∈ xTs ∨ q = Cond.castable cls cls ∨ q ∈ xSup.map (fun q9 => Cond.declares ⟨q9, "<init>", "(Ljava/lang/String;)V"⟩) := by
      rcases List.mem_cons.mp hq with rfl | hq
      · exact Or.inl hk
      · rcases List.mem_cons.mp hq with rfl | hq
        · exact Or.inl hini
        · exact hat q hq
    show (q.onTables || goodWord q) = true
    rcases hm with hm | rfl | hm
    · rw [(List.mem_filter.mp hm).2, Bool.or_true]
    · rfl
    · obtain ⟨z9, -, rfl⟩ := List.mem_map.mp hm
      rfl
  exact vx_throwS hx hb hLt hown hcls hnames (hts _ hk) (hts _ hini) hsa (fun q hq => (hat q hq).elim (hts q) (fun h8 => h8.elim (fun h9 => by rw [h9]; exact va_Nw.use rfl (hgl.2.2.2.2.2.1 cls hce)) (fun h9 => by obtain ⟨z9, h7, rfl⟩ := List.mem_map.mp h9; exact va_Nw.use rfl (hgl.2.2.2.2.2.2 z9 h7)))) hgood hgl.1 hgl.2.1 hS (by rw [hml]; exact hl.1) d0 d3 d4 d6 d9 (fun x h => (ht x h).elim) hR.1 hR.2 hcs.1 hcs.2 hlocks
    (fun t _ hsz hold => ⟨n, ad, w, hp, hP.kept (fun k q hk9 => hold q.1 (hP k q hk9).lt), hD, Nat.le_trans hS.1 hsz, fun q g1 g2 => (hold q (Nat.lt_of_lt_of_le g1 hS.1)).trans (hS.2.1 q g1 g2)⟩) hS.2.2 h1 h2
end XK
section XM
variable {L : Launch} {D : va_G} {cA : Nat → ClassId} {base : Nat} {y : MethodName} {bytes : ByteArray} {maxL : Nat} {ret : Option FieldType} {rm : Room} {av : List Value} {n : Nat} {ad : Nat → Nat} {w : Nat → va_E} {post : xPost} {xp : xPosx}
/-- a contract out of a walk -/
theorem xm_of (hy : plainName y.cls = true) (hav : ∀ v ∈ av, v.category = 1) (hlen : (lg_sl av).length ≤ maxL)
    (body : ∀ G : xG, XC G L D cA base bytes maxL y.cls rm → XE G D base post xp rm.cells rm.slots ret → (y.name = "<init>" → XIn G) → XW G n ad w 0 0 0 (fun i => av[i]?) []) : XM L D cA base y bytes maxL ret rm av n ad w post xp := by
  refine vx_ofW (cc := bytes) (maxL := maxL) (ret := ret) hy rfl ?_
  intro p e s m args below meth c s₁ B hml ht hv
  obtain ⟨rfl, h1, h2, h3, h4, h5⟩ := hv
  have hts := atoms_spec (ws := xwd y bytes maxL ret) B.pre
  have K := body (p, L, e, rm, s, m, av.toArray, below, meth, c, vx_MQ below (xQ D base post) (xX D base xp) av.toArray s rm.cells rm.slots (xA base), maxL, D, base)
    ⟨rfl, rfl, rfl, rfl, rfl, B.exec, B.bytes, hml, findClass_of_methodNamed B.named, fun w hw => hts w (List.mem_cons_of_mem _ hw), h2, B.notSynchronized, h1, h5⟩ ⟨rfl, B.returns, ht⟩ (fun h => (name_of_methodNamed B.named B.method).1.trans h)
  have hl := lv_entry av (n := maxL) hlen
  show W p L e rm s m av.toArray below meth c s.heap [] 0 0 _ (entryFrame m av.toArray maxL)
  rw [lg_entry_eq]
  exact K s.heap [] _ h3 h4 va_S.rf (xlv_args hav hl)
/-- a weaker end -/
theorem xm_mono {post2 : xPost} {xp2 : xPosx} (h : XM L D cA base y bytes maxL ret rm av n ad w post xp) (h1 : ∀ v n' ad' w', post v n' ad' w' → post2 v n' ad' w') (h2 : ∀ E n' ad' w', xp E n' ad' w' → xp2 E n' ad' w') : XM L D cA base y bytes maxL ret rm av n ad w post2 xp2 := by
  intro p e g1 g2 g3 s m args below g4 g5 g6 g7
  obtain ⟨k, o, a1, a2, a3, a4⟩ := h p e g1 g2 g3 s m args below g4 g5 g6 g7
  refine ⟨k, o, a1, a2, a3, ?_⟩
  rcases a4 with ⟨⟨v, n', ad', w', b1, b2, b3⟩, L, hL⟩ | ⟨q, ho, E, ce, L, ⟨n', ad', w', b2, b3⟩, r⟩
  · exact Or.inl ⟨⟨v, n', ad', w', b1, h1 _ _ _ _ b2, b3⟩, L, hL⟩
  · exact Or.inr ⟨q, ho, E, ce, L, ⟨n', ad', w', h2 _ _ _ _ b2, b3⟩, r⟩
/-- one that never throws -/
theorem xm_met (h : XM L D cA base y bytes maxL ret rm av n ad w post (fun _ _ _ _ => False)) : Met L y (xwd y bytes maxL ret) rm (va_Pc av (XI D cA base n ad w)) (xQ D base post) rm.cells rm.slots (xA base) := by
  intro p e g1 g2 g3 s m args below g4 g5 g6 g7
  obtain ⟨k, o, a1, a2, a3, a4⟩ := h p e g1 g2 g3 s m args below g4 g5 g6 g7
  refine ⟨k, o, a1, a2, a3, ?_⟩
  rcases a4 with h8 | ⟨q, ho, E, ce, L, ⟨n', ad', w', b2, b3⟩, r⟩
  · exact h8
  · exact b2.elim
end XM
/-! calls -/
theorem XI.blind {D : va_G} {cA : Nat → ClassId} {base n : Nat} {ad : Nat → Nat} {w : Nat → va_E} {av : List Value} : FrameBlind (va_Pc av (XI D cA base n ad w)) := fun a U g mk h => by
  obtain ⟨h0, h1, h2, h3, h4, h5⟩ := h
  exact ⟨h0, h1, va_K.moved (u := U) (U := U.calling g mk a) (Vm.Alike.refl U.vm) h2, h3, h4, XGl.calling h5⟩
theorem XI.at {D : va_G} {cA : Nat → ClassId} {base n : Nat} {ad : Nat → Nat} {w : Nat → va_E} {s U : State} {H : Heap} {locs : List Loc} (hbase : base ≤ s.heap.size) (hK : va_K D vwCl (xtys cA) s) (hP : va_P D vwCl (xws n ad w) H) (hD : va_D (xA base) (xws n ad w)) (hS : va_S (xA base) s.heap H locs) (hgl : XGl base s) (hU : U.heap = H) (hW : s.WarmedH U.vm) : XI D cA base n ad w U :=
  ⟨by rw [hU]; exact Nat.le_trans hbase hS.1, va_K.moved hW.alike hK, by rw [hU]; exact hP, hD, XGl.warm hgl hW (by rw [hU]; exact hS.2.1)⟩
theorem xTs_good {w : Cond} (h : w ∈ xTs) : (w.onTables && w.keeps) = true ∨ ∃ ty, w = .arrayClass ty := good_of_word (List.mem_filter.mp h).2
theorem xwd_good {y : MethodName} {bytes : ByteArray} {maxL : Nat} {ret : Option FieldType} (h : Cond.code y bytes maxL ret ∈ xTs) : GoodIn xTs (xwd y bytes maxL ret) := fun w hw => by
  rcases List.mem_cons.mp hw with rfl | h2
  · exact ⟨h, xTs_good h⟩
  · exact ⟨h2, xTs_good h2⟩
section XCall
variable {G : xG} {L : Launch} {D : va_G} {cA : Nat → ClassId} {base : Nat} {cc : ByteArray} {nL : Nat} {own : String} {R : Room}
variable {n : Nat} {ad : Nat → Nat} {w : Nat → va_E} {a b pc : Nat} {lv : Nat → Option Value} {st : List Value}
variable {index k9 ci maxL : Nat} {y : MethodName} {bytes : ByteArray} {ret : Option FieldType} {rm : Room} {fs As st0 : List Value} {post : xPost} {xp : xPosx}
/-- behind a call that returns or throws -/
theorem xr_back {p : Program} {l : Launch} {e : Env} {R : Room} {s : State} {m : MethodId} {args : Array Value} {below : List Frame} {meth : Method} {c : Code} {Q : State → Prop} {nL : Nat} {D : va_G} {base : Nat} {H : Heap} {locs : List Loc} {ls : Array Slot} {av : Array Value} {mc ms : Nat}
    (hr : vx_Run p l e R s m args below meth c H locs a b mc ms (F0 m pc ls st0) st (xQ D base post av) (xX D base xp) (xA base)) (hS : va_S (xA base) s.heap H locs) (hl : xlv ls nL lv)
    (Kx : ∀ E n' ad' w', xp E n' ad' w' → XX (p, l, e, R, s, m, args, below, meth, c, Q, nL, D, base) n' ad' w' (a + mc) (b + ms) pc lv st E)
    (K : ∀ v n' ad' w', post v n' ad' w' → XW (p, l, e, R, s, m, args, below, meth, c, Q, nL, D, base) n' ad' w' (a + mc) (b + ms) (pc + 3) lv (v.toList ++ st)) : W p l e R s m args below meth c H locs a b Q (F0 m pc ls st0) := by
  intro T hT X
  rcases hr T hT X with ⟨v, st₀, t, T', L, h0, X', hL, e1, e2, ⟨v', n', ad', w', hv, hp, hP', hD', hF⟩, go⟩ | ⟨q, st₀, t, T', L, E, ce, h0, X', hL, e1, e2, ⟨n', ad', w', hp, hP', hD', hF⟩, hce, hcv, hcl, go⟩
  · cases hv
    obtain ⟨k1, k2, k3⟩ := vx_keep h0 e1 hS (fun q _ h => h) (fun q h => h) hL hF
    obtain ⟨t2, a1, b1⟩ := K v n' ad' w' hp T'.heap (locs ++ L) ls (by rw [e1]; exact hP') hD' k3 hl T' rfl X'
    exact ⟨t2, go t2 a1, b1⟩
  · obtain ⟨k1, k2, k3⟩ := vx_keep h0 e1 hS (fun q _ h => h) (fun q h => h) hL hF
    obtain ⟨t2, a1, b1⟩ := Kx E n' ad' w' hp T'.heap (locs ++ L) ls q ce (by rw [e1]; exact hP') hD' k3 hl (by rw [e1]; exact hce) hcv hcl T' rfl X'
    exact ⟨t2, go.trans a1, b1⟩
theorem xr_backR {p : Program} {l : Launch} {e : Env} {R : Room} {s : State} {m : MethodId} {args : Array Value} {below : List Frame} {meth : Method} {c : Code} {Q : State → Prop} {nL : Nat} {D : va_G} {base : Nat} {H : Heap} {locs : List Loc} {ls : Array Slot} {av : Array Value} {mc ms : Nat}
    (hr : va_Run p l e R s m args below meth c H locs a b mc ms (F0 m pc ls st0) st (xQ D base post av) (xA base)) (hS : va_S (xA base) s.heap H locs) (hl : xlv ls nL lv)
    (K : ∀ v n' ad' w', post v n' ad' w' → XW (p, l, e, R, s, m, args, below, meth, c, Q, nL, D, base) n' ad' w' (a + mc) (b + ms) (pc + 3) lv (v.toList ++ st)) : W p l e R s m args below meth c H locs a b Q (F0 m pc ls st0) := by
  intro T hT X
  obtain ⟨v, st₀, t, T', L, h0, X', hL, e1, e2, ⟨v', n', ad', w', hv, hp, hP', hD', hF⟩, go⟩ := hr T hT X
  cases hv
  obtain ⟨k1, k2, k3⟩ := vx_keep h0 e1 hS (fun q _ h => h) (fun q h => h) hL hF
  obtain ⟨t2, a1, b1⟩ := K v n' ad' w' hp T'.heap (locs ++ L) ls (by rw [e1]; exact hP') hD' k3 hl T' rfl X'
  exact ⟨t2, go t2 a1, b1⟩
/-- a word of a nest, of this walk's tables -/
def XNw (G : xG) (q : Cond) : Prop := match G with
  | (_, _, _, _, s, _, _, _, _, _, _, _, _, _) => va_Nw q s
/-- invokevirtual of a method of the receiver's own class (private ones too) -/
theorem xr_callV (C : XC G L D cA base cc nL own R) (hM : XM L D cA base y bytes maxL ret rm (.ref (ad k9) :: As) n ad w post xp) (F : xMw own index y bytes maxL ret As.length) (F2 : Cond.instanceMethod y ∈ xTs ∧ Cond.selects y.cls y y ∈ xTs) (hw : w k9 = xOb ci fs) (hk : k9 < n) (hc : (vwCl[ci]?).map (fun q => q.1) = some y.cls)
    (hR : rm.frames + 1 ≤ R.frames ∧ 8 + (maxL + 11) + rm.locals ≤ R.locals) (hcs : a + rm.cells ≤ R.cells ∧ b + rm.slots ≤ R.slots) (hst : (st.map fun v => v.category).sum ≤ 8) (hs0 : st0 = As.reverse ++ .ref (ad k9) :: st) (d : decode cc pc = .ok (.invokevirtual index, 3))
    (Kx : ∀ E n' ad' w', xp E n' ad' w' → XX G n' ad' w' (a + rm.cells) (b + rm.slots) pc lv st E)
    (K : ∀ v n' ad' w', post v n' ad' w' → XW G n' ad' w' (a + rm.cells) (b + rm.slots) (pc + 3) lv (v.toList ++ st)) : XW G n ad w a b pc lv st0 := by
  obtain ⟨p, l, e, R1, s, m, args, below, meth, c, Q, nL1, D1, base1⟩ := G
  obtain ⟨rfl, rfl, rfl, rfl, rfl, hx, hb, hml, hown, hts, hK, hlocks, hbase, hgl⟩ := C
  intro H locs ls hP hD hS hl
  obtain ⟨F3, f1, f2, f3⟩ := F
  obtain ⟨q9, hq9, hq8⟩ : ∃ q, vwCl[ci]? = some q ∧ q.1 = y.cls := by
    cases h9 : vwCl[ci]? with
    | none => rw [h9] at hc; cases hc
    | some q => rw [h9] at hc; exact ⟨q, rfl, Option.some.inj hc⟩
  have hrecv := va_recv hK hP hq9 (xws_at hk hw)
  rw [hq8] at hrecv
  exact xr_back (vx_runV (As := As) (rest := st) (C := y.cls) (own := own) (index := index) (bytes := bytes) (maxL := maxL) (ret := ret) ⟨hx, hb, hml, hown, hts⟩ hM
    ⟨callB_of As.length hts (xwd_good f3) rfl rfl rfl (hts _ f2) (hts _ f1) F3 hR, hts _ F2.1, hts _ F2.2⟩
    ⟨XI.blind, hrecv, fun U hU hW => ⟨rfl, XI.at hbase hK hP hD hS hgl hU hW⟩⟩ rfl rfl hl.1 hs0 (lv_room hst) d hcs) hS hl Kx K
/-- invokestatic -/
theorem xr_callS (C : XC G L D cA base cc nL own R) (hM : XM L D cA base y bytes maxL ret rm As n ad w post xp) (F : xMw own index y bytes maxL ret As.length) (F2 : Cond.static y ∈ xTs)
    (hR : rm.frames + 1 ≤ R.frames ∧ 8 + (maxL + 11) + rm.locals ≤ R.locals) (hcs : a + rm.cells ≤ R.cells ∧ b + rm.slots ≤ R.slots) (hst : (st.map fun v => v.category).sum ≤ 8) (hs0 : st0 = As.reverse ++ st) (d : decode cc pc = .ok (.invokestatic index, 3))
    (Kx : ∀ E n' ad' w', xp E n' ad' w' → XX G n' ad' w' (a + rm.cells) (b + rm.slots) pc lv st E)
    (K : ∀ v n' ad' w', post v n' ad' w' → XW G n' ad' w' (a + rm.cells) (b + rm.slots) (pc + 3) lv (v.toList ++ st)) : XW G n ad w a b pc lv st0 := by
  obtain ⟨p, l, e, R1, s, m, args, below, meth, c, Q, nL1, D1, base1⟩ := G
  obtain ⟨rfl, rfl, rfl, rfl, rfl, hx, hb, hml, hown, hts, hK, hlocks, hbase, hgl⟩ := C
  intro H locs ls hP hD hS hl
  obtain ⟨F3, f1, f2, f3⟩ := F
  exact xr_back (vx_runS (As := As) (rest := st) (own := own) (index := index) (bytes := bytes) (maxL := maxL) (ret := ret) ⟨hx, hb, hml, hown, hts⟩ hM
    ⟨callB_of As.length hts (xwd_good f3) rfl rfl rfl (hts _ f2) (hts _ f1) F3 hR, hts _ F2⟩
    ⟨XI.blind, fun U hU hW => ⟨rfl, XI.at hbase hK hP hD hS hgl hU hW⟩⟩ rfl rfl hl.1 hs0 (lv_room hst) d hcs) hS hl Kx K
/-- invokespecial of a constructor that never throws -/
theorem xr_callI (C : XC G L D cA base cc nL own R) (hM : XM L D cA base y bytes maxL none rm (.ref (ad k9) :: As) n ad w post (fun _ _ _ _ => False)) (F : xMw own index y bytes maxL none As.length) (F2 : y.name = "<init>" ∧ Cond.instanceMethod y ∈ xTs)
    (hR : rm.frames + 1 ≤ R.frames ∧ 8 + (maxL + 11) + rm.locals ≤ R.locals) (hcs : a + rm.cells ≤ R.cells ∧ b + rm.slots ≤ R.slots) (hst : (st.map fun v => v.category).sum ≤ 8) (hs0 : st0 = As.reverse ++ .ref (ad k9) :: st) (d : decode cc pc = .ok (.invokespecial index, 3))
    (K : ∀ v n' ad' w', post v n' ad' w' → XW G n' ad' w' (a + rm.cells) (b + rm.slots) (pc + 3) lv (v.toList ++ st)) : XW G n ad w a b pc lv st0 := by
  obtain ⟨p, l, e, R1, s, m, args, below, meth, c, Q, nL1, D1, base1⟩ := G
  obtain ⟨rfl, rfl, rfl, rfl, rfl, hx, hb, hml, hown, hts, hK, hlocks, hbase, hgl⟩ := C
  intro H locs ls hP hD hS hl
  obtain ⟨F3, f1, f2, f3⟩ := F
  exact xr_backR (va_runI (As := As) (rest := st) (own := own) (index := index) (bytes := bytes) (maxL := maxL) ⟨hx, hb, hml, hown, hts⟩ (xm_met hM)
    ⟨callB_of As.length hts (xwd_good f3) rfl rfl rfl (hts _ f2) (hts _ f1) F3 hR, F2.1, hts _ F2.2⟩
    ⟨XI.blind, fun U hU hW => ⟨rfl, XI.at hbase hK hP hD hS hgl hU hW⟩⟩ rfl rfl hl.1 hs0 (lv_room hst) d hcs) hS hl K
/-- the same of a nest mate's private constructor -/
theorem xr_callIN (C : XC G L D cA base cc nL own R) {host : String} (hM : XM L D cA base y bytes maxL none rm (.ref (ad k9) :: As) n ad w post (fun _ _ _ _ => False)) (F3 : y.cls ≠ "java/lang/invoke/MethodHandle" ∧ y.cls ≠ "java/lang/invoke/VarHandle" ∧ (parseMethodDescriptor y.desc).map (fun d => d.parameters.length) = some As.length) (f1 : XNw G (.methodLinkNest own index y host)) (f2 : Cond.initialized y.cls ∈ xTs) (f3 : Cond.code y bytes maxL none ∈ xTs) (F2 : y.name = "<init>" ∧ Cond.instanceMethod y ∈ xTs)
    (hR : rm.frames + 1 ≤ R.frames ∧ 8 + (maxL + 11) + rm.locals ≤ R.locals) (hcs : a + rm.cells ≤ R.cells ∧ b + rm.slots ≤ R.slots) (hst : (st.map fun v => v.category).sum ≤ 8) (hs0 : st0 = As.reverse ++ .ref (ad k9) :: st) (d : decode cc pc = .ok (.invokespecial index, 3))
    (K : ∀ v n' ad' w', post v n' ad' w' → XW G n' ad' w' (a + rm.cells) (b + rm.slots) (pc + 3) lv (v.toList ++ st)) : XW G n ad w a b pc lv st0 := by
  obtain ⟨p, l, e, R1, s, m, args, below, meth, c, Q, nL1, D1, base1⟩ := G
  obtain ⟨rfl, rfl, rfl, rfl, rfl, hx, hb, hml, hown, hts, hK, hlocks, hbase, hgl⟩ := C
  intro H locs ls hP hD hS hl
  exact xr_backR (va_runIN (As := As) (rest := st) (own := own) (index := index) (host := host) (bytes := bytes) (maxL := maxL) ⟨hx, hb, hml, hown, hts⟩ (xm_met hM)
    ⟨va_cnB As.length hts (xwd_good f3) rfl rfl rfl f1 (hts _ f2) F3 hR, F2.1, hts _ F2.2⟩
    ⟨XI.blind, fun U hU hW => ⟨rfl, XI.at hbase hK hP hD hS hgl hU hW⟩⟩ rfl rfl hl.1 hs0 (lv_room hst) d hcs) hS hl K
/-- super() of Object -/
theorem xr_objInit (C : XC G L D cA base cc nL own R) {q : Nat} (F : Cond.methodLink own index objectInit ∈ xTs ∧ Cond.instanceMethod objectInit ∈ xTs ∧ Cond.code objectInit ⟨#[0xb1]⟩ 1 none ∈ xTs) (hR : 1 ≤ R.frames) (hst : (st.map fun v => v.category).sum + 12 ≤ R.locals) (d : decode cc pc = .ok (.invokespecial index, 3))
    (K : XW G n ad w a b (pc + 3) lv st) : XW G n ad w a b pc lv (.ref q :: st) := by
  obtain ⟨p, l, e, R1, s, m, args, below, meth, c, Q, nL1, D1, base1⟩ := G
  obtain ⟨rfl, rfl, rfl, rfl, rfl, hx, hb, hml, hown, hts, hK, hlocks, hbase, hgl⟩ := C
  intro H locs ls hP hD hS hl
  exact W.objInit hx hb hown (hts _ F.1) (hts _ F.2.1) (hts _ F.2.2) rfl (by rw [hml]; exact hl.1) rfl d hR (by show 2 * 0 + _ + 12 ≤ _; omega) (K H locs ls hP hD hS hl)
theorem xr_new (C : XC G L D cA base cc nL own R) {N : Nat} {Cn : String} {T : u_T} {ty : Nat → FieldType} (hc : vwCl[ci]? = some (Cn, T, N)) (hin : ∀ w ∈ u_ws Cn T N, w ∈ xTs) (hty : ∀ k, k < N → parseFieldDescriptor (T k).2.2.1 = some (ty k)) (hcl : Cond.classLink own index Cn ∈ xTs ∧ Cond.instantiable Cn N ∈ xTs ∧ Cond.initialized Cn ∈ xTs) (hfs : ∀ j, j < N → defaultValue (ty j) = vp_V fs j) (hcs : a + 1 ≤ R.cells ∧ b + N ≤ R.slots) (d : decode cc pc = .ok (.new index, 3))
    (K : ∀ q : Nat, XW G (n + 1) (va_up ad n q) (va_up w n (xOb ci fs)) (a + 1) (b + N) (pc + 3) lv (.ref q :: st)) : XW G n ad w a b pc lv st := by
  obtain ⟨p, l, e, R1, s, m, args, below, meth, c, Q, nL1, D1, base1⟩ := G
  obtain ⟨rfl, rfl, rfl, rfl, rfl, hx, hb, hml, hown, hts, hK, hlocks, hbase, hgl⟩ := C
  intro H locs ls hP hD hS hl
  refine va_new hx hb hts hin ty hty hown (hts _ hcl.1) (hts _ hcl.2.1) (hts _ hcl.2.2) hK hP hD hS (fun q h => Nat.le_trans hbase h) hc hfs hcs.1 hcs.2 d (fun q H1 hP1 hD1 hS1 => ?_)
  rw [xws_push] at hP1 hD1
  exact K q H1 locs ls hP1 hD1 hS1 hl
theorem xz_newi (C : XC G L D cA base cc nL own R) {z : Int} {atype : ArrayType} {t0 : Nat} (hat : (atype = .int ∧ t0 = 0) ∨ (atype = .boolean ∧ t0 = 1)) (harr : Cond.arrayClass (newarray.typeOf atype) ∈ xTs) (hz : 0 ≤ z ∧ z < 100000) (hcs : a + 1 ≤ R.cells ∧ b + z.toNat ≤ R.slots) (d : decode cc pc = .ok (.newarray atype, 2))
    (K : ∀ q : Nat, XW G (n + 1) (va_up ad n q) (va_up w n (xIA (cA t0) z.toNat (fun _ => 0))) (a + 1) (b + z.toNat) (pc + 2) lv (.ref q :: st)) : XW G n ad w a b pc lv (.int (zI z) :: st) := by
  obtain ⟨p, l, e, R1, s, m, args, below, meth, c, Q, nL1, D1, base1⟩ := G
  obtain ⟨rfl, rfl, rfl, rfl, rfl, hx, hb, hml, hown, hts, hK, hlocks, hbase, hgl⟩ := C
  intro H locs ls hP hD hS hl
  refine va_newaK hx hb (hts _ harr) rfl d rfl (fun q => by rw [show (0 : Int32) = zI 0 from rfl, zI_lt (by omega) (by omega)] at q; omega) (zI_clamp (by omega)) (by rcases hat with ⟨rfl, -⟩ | ⟨rfl, -⟩ <;> simp [newarray.typeOf, componentBytes] <;> omega) hcs.1 hcs.2 rfl (fun H1 cA1 e1 z1 o1 hAr hNm => ?_)
  have hcA : cA1 = cA t0 := by
    rcases hat with ⟨rfl, rfl⟩ | ⟨rfl, rfl⟩
    · exact Option.some.inj (hNm.symm.trans (hK.2 0 _ rfl).2)
    · exact Option.some.inj (hNm.symm.trans (hK.2 1 _ rfl).2)
  subst hcA
  have hk : ∀ (k : Nat) (x : Nat × va_E), (xws n ad w)[k]? = some x → H1[x.1]? = H[x.1]? := fun k x hx => o1 x.1 ((hP k x hx).lt)
  have hP1 : va_P D1 vwCl (xws n ad w ++ [(H.size, xIA (cA t0) z.toNat (fun _ => 0))]) H1 := (hP.kept hk).app (fun k x hx => by
    have hz : k < 1 := (List.getElem?_eq_some_iff.mp hx).1
    rw [show k = 0 by omega] at hx
    cases hx
    show H1[H.size]? = some (vp_cell _ _)
    rw [e1]
    rcases hat with ⟨rfl, rfl⟩ | ⟨rfl, rfl⟩ <;> rfl)
  have hD1 := hD.push (e := xIA (cA t0) z.toNat (fun _ => 0)) hP rfl (Nat.le_trans hbase hS.1)
  rw [xws_push] at hP1 hD1
  exact K H.size H1 locs ls hP1 hD1 ⟨Nat.le_trans hS.1 (by omega), fun x h1 h2 => (o1 x (Nat.lt_of_lt_of_le h1 hS.1)).trans (hS.2.1 x h1 h2), hS.2.2⟩ hl
theorem xz_newl (C : XC G L D cA base cc nL own R) {z : Int} (harr : Cond.arrayClass .long ∈ xTs) (hz : 0 ≤ z ∧ z < 100000) (hcs : a + 1 ≤ R.cells ∧ b + z.toNat ≤ R.slots) (d : decode cc pc = .ok (.newarray .long, 2))
    (K : ∀ q : Nat, XW G (n + 1) (va_up ad n q) (va_up w n (xLA (cA 2) z.toNat (fun _ => 0))) (a + 1) (b + z.toNat) (pc + 2) lv (.ref q :: st)) : XW G n ad w a b pc lv (.int (zI z) :: st) := by
  obtain ⟨p, l, e, R1, s, m, args, below, meth, c, Q, nL1, D1, base1⟩ := G
  obtain ⟨rfl, rfl, rfl, rfl, rfl, hx, hb, hml, hown, hts, hK, hlocks, hbase, hgl⟩ := C
  intro H locs ls hP hD hS hl
  refine va_newaK hx hb (atype := .long) (hts _ harr) rfl d rfl (fun q => by rw [show (0 : Int32) = zI 0 from rfl, zI_lt (by omega) (by omega)] at q; omega) (zI_clamp (by omega)) (by simp [newarray.typeOf, componentBytes] <;> omega) hcs.1 hcs.2 rfl (fun H1 cA1 e1 z1 o1 hAr hNm => ?_)
  have hcA : cA1 = cA 2 := Option.some.inj (hNm.symm.trans (hK.2 2 _ rfl).2)
  subst hcA
  have hk : ∀ (k : Nat) (x : Nat × va_E), (xws n ad w)[k]? = some x → H1[x.1]? = H[x.1]? := fun k x hx => o1 x.1 ((hP k x hx).lt)
  have hP1 : va_P D1 vwCl (xws n ad w ++ [(H.size, xLA (cA 2) z.toNat (fun _ => 0))]) H1 := (hP.kept hk).app (fun k x hx => by
    have hz : k < 1 := (List.getElem?_eq_some_iff.mp hx).1
    rw [show k = 0 by omega] at hx
    cases hx
    show H1[H.size]? = some (vp_cell _ _)
    rw [e1]
    rfl)
  have hD1 := hD.push (e := xLA (cA 2) z.toNat (fun _ => 0)) hP rfl (Nat.le_trans hbase hS.1)
  rw [xws_push] at hP1 hD1
  exact K H.size H1 locs ls hP1 hD1 ⟨Nat.le_trans hS.1 (by omega), fun x h1 h2 => (o1 x (Nat.lt_of_lt_of_le h1 hS.1)).trans (hS.2.1 x h1 h2), hS.2.2⟩ hl
theorem xz_mmax (C : XC G L D cA base cc nL own R) {x y : Int} (hx9 : -2147483648 ≤ x ∧ x < 2147483648) (hy9 : -2147483648 ≤ y ∧ y < 2147483648) (F : Cond.methodLink own index Lib.Math.max.name ∈ xTs ∧ Cond.static Lib.Math.max.name ∈ xTs ∧ Cond.initialized "java/lang/Math" ∈ xTs ∧ Cond.code Lib.Math.max.name Lib.Math.max.code 2 (some .int) ∈ xTs) (hR : 1 ≤ R.frames) (hst : (st.map fun v => v.category).sum + 13 ≤ R.locals) (hcs : a ≤ R.cells ∧ b ≤ R.slots) (d : decode cc pc = .ok (.invokestatic index, 3))
    (K : XW G n ad w a b (pc + 3) lv (.int (zI (max x y)) :: st)) : XW G n ad w a b pc lv (.int (zI y) :: .int (zI x) :: st) := by
  obtain ⟨p, l, e, R1, s, m, args, below, meth, c, Q, nL1, D1, base1⟩ := G
  obtain ⟨rfl, rfl, rfl, rfl, rfl, hx, hb, hml, hown, hts, hK, hlocks, hbase, hgl⟩ := C
  intro H locs ls hP hD hS hl
  refine va_mmax hx hb (by rw [hml]; exact hl.1.symm) hown (hts _ F.1) (hts _ F.2.1) (hts _ F.2.2.1) (hts _ F.2.2.2) hR hst hcs.1 hcs.2 d ?_
  have e9 : (if zI x < zI y then zI y else zI x) = zI (max x y) := by
    by_cases h : x < y
    · rw [if_pos ((zI_lt hx9 hy9).mpr h), Int.max_eq_right (by omega)]
    · rw [if_neg (fun q => h ((zI_lt hx9 hy9).mp q)), Int.max_eq_left (by omega)]
  rw [e9]
  exact K H locs ls hP hD hS hl
end XCall
end
section
/-! the world: its places. 0 RuleSteps, 1 Trees (arrays 2..11), 12 Rules (13..18), 19 Runner (20..24), 25 and 27 Rows (26, 28), 29 the model (30..54), 55 the law's long[1] -/
def xrm (d mc ms : Nat) : Room := { frames := d, cells := mc, slots := ms, locals := 40 * d }
def xF : xPosx := fun _ _ _ _ => False
def xPure (n : Nat) (ad : Nat → Nat) (w : Nat → va_E) (r : Value) : xPost := fun v n' ad' w' => n = n' ∧ ad = ad' ∧ w = w' ∧ v = some r
def xVoid (n : Nat) (ad : Nat → Nat) (q : (Nat → va_E) → Prop) : xPost := fun v n' ad' w' => n = n' ∧ ad = ad' ∧ v = none ∧ q w'
def xRet (n : Nat) (ad : Nat → Nat) (q : Int → (Nat → va_E) → Prop) : xPost := fun v n' ad' w' => n = n' ∧ ad = ad' ∧ ∃ z : Int, v = some (.int (zI z)) ∧ q z w'
theorem xb_v1 {p : Prop} [Decidable p] (h : p) : some (Value.int (zI 1)) = some (.int (zI (xb (decide p)))) := by rw [decide_eq_true h]; rfl
theorem xb_v0 {p : Prop} [Decidable p] (h : ¬ p) : some (Value.int (zI 0)) = some (.int (zI (xb (decide p)))) := by rw [decide_eq_false h]; rfl
theorem xv_eq {x y : Int} (h : x = y) : some (Value.int (zI x)) = some (.int (zI y)) := by rw [h]
def trO (ad : Nat → Nat) (t : Int) : va_E := xOb 3 [.ref (ad 2), .ref (ad 3), .ref (ad 4), .ref (ad 5), .ref (ad 6), .ref (ad 7), .ref (ad 8), .ref (ad 9), .ref (ad 10), .ref (ad 11), .int (zI t)]
def ruO (ad : Nat → Nat) (r : Int) : va_E := xOb 1 [.ref (ad 13), .ref (ad 14), .ref (ad 15), .ref (ad 16), .ref (ad 17), .ref (ad 18), .int (zI r)]
def rnO (ad : Nat → Nat) (sp pl le md : Int) (mo : Bool) : va_E := xOb 2 [.ref (ad 1), .ref (ad 12), .ref (ad 20), .ref (ad 21), .ref (ad 22), .int (zI sp), .int (zI pl), .int (zI le), .ref (ad 23), .ref (ad 24), .int (zI md), .int (zI (xb mo))]
def rsO (ad : Nat → Nat) (kp sp : Nat) (ls : Int) (se : Bool) : va_E := xOb 4 [.ref (ad 1), .ref (ad 12), .ref (ad 19), .ref (ad kp), .ref (ad sp), .int (zI ls), .int (zI (xb se))]
def roO (ad : Nat → Nat) (k : Nat) (sz : Int) : va_E := xOb 0 [.ref (ad (k + 1)), .int (zI sz)]
def mdO (ad : Nat → Nat) (tr ru ro sp nr ns th : Int) (se fa so : Bool) : va_E := xOb 5 [.int (zI tr), .ref (ad 30), .ref (ad 31), .ref (ad 32), .ref (ad 33), .ref (ad 34), .ref (ad 35), .ref (ad 36), .int (zI ru), .ref (ad 37), .ref (ad 38), .ref (ad 39), .ref (ad 40), .ref (ad 41), .int (zI ro), .int (zI sp), .ref (ad 42), .int (zI nr), .int (zI ns), .ref (ad 43), .int (zI (xb se)), .int (zI (xb fa)), .int (zI th), .ref (ad 44), .ref (ad 45), .ref (ad 46), .ref (ad 47), .ref (ad 48), .ref (ad 49), .ref (ad 50), .ref (ad 51), .ref (ad 52), .ref (ad 53), .ref (ad 54), .int (zI (xb so))]
theorem xat_IA : ∀ q ∈ vx_atS R_RS 54 "java/lang/IllegalArgumentException" ["java/lang/RuntimeException", "java/lang/Exception"], q ∈ xTs ∨ q = Cond.castable "java/lang/IllegalArgumentException" "java/lang/IllegalArgumentException" ∨ q ∈ xSup.map (fun q9 => Cond.declares ⟨q9, "<init>", "(Ljava/lang/String;)V"⟩) := by decide +kernel
theorem xat_IS : ∀ q ∈ vx_atS R_RS 175 "java/lang/IllegalStateException" ["java/lang/RuntimeException", "java/lang/Exception"], q ∈ xTs ∨ q = Cond.castable "java/lang/IllegalStateException" "java/lang/IllegalStateException" ∨ q ∈ xSup.map (fun q9 => Cond.declares ⟨q9, "<init>", "(Ljava/lang/String;)V"⟩) := by decide +kernel
theorem xat_IO : ∀ q ∈ vx_atS R_RS 132 "java/lang/IndexOutOfBoundsException" ["java/lang/RuntimeException", "java/lang/Exception"], q ∈ xTs ∨ q = Cond.castable "java/lang/IndexOutOfBoundsException" "java/lang/IndexOutOfBoundsException" ∨ q ∈ xSup.map (fun q9 => Cond.declares ⟨q9, "<init>", "(Ljava/lang/String;)V"⟩) := by decide +kernel
end
section
theorem zI_and511 (z : Int) : zI z &&& zI 511 = zI (z % 512) := by
  rw [pk_and (zI z) (m := zI 511) 9 (by decide), zI_nI]
  congr 1
  have e : (zI z).toBitVec.toNat = (z % 4294967296).toNat := by
    show (BitVec.ofInt 32 z).toNat = _
    rw [BitVec.toNat_ofInt]
    rfl
  rw [e]
  omega
set_option maxHeartbeats 4000000 in
set_option maxRecDepth 100000 in
theorem m_Tr_isNode {L : Launch} {D : va_G} {cA : Nat → ClassId} {base : Nat} {ad : Nat → Nat} {w : Nat → va_E} {t : Int} {mk : Nat → Int} (hw1 : w 1 = trO ad t) (hw2 : w 2 = xIA (cA 0) 300 mk) (hmk : ∀ j, -200 ≤ mk j ∧ mk j ≤ 200) {x : Int} (hx : -1 ≤ x ∧ x < 300) : XM L D cA base y_Tr_isNode c_Tr_isNode 2 (some .boolean) (xrm 0 0 0) [.ref (ad 1), .int (zI x)] 56 ad w (xPure 56 ad w (.int (zI (xb (decide (0 ≤ x ∧ 0 ≤ mk x.toNat ∧ mk x.toNat < 12)))))) xF := by
  refine xm_of (by decide +kernel) (by simp [Value.category]) (Nat.le_of_ble_eq_true rfl) (fun G C E _ => ?_)
  have := hmk x.toNat
  refine xr_iload_n C 1 d_Tr_isNode_0 rfl rfl ?_
  refine xz_if_lt (tgt := 28) C d_Tr_isNode_1 (by decide) (by omega) (fun c1 => ?_) (fun c1 => ?_)
  · skip
    refine xr_iconst C d_Tr_isNode_28 ?_
    exact xr_zret C E (by omega) ⟨rfl, rfl, rfl, by first | exact xb_v1 (by omega) | exact xb_v0 (by omega)⟩ (by decide) (by decide) d_Tr_isNode_29
  · skip
    refine xr_aload_n C 0 d_Tr_isNode_4 rfl rfl ?_
    refine xr_get (k := 1) C xg_Tr_9 hw1 (by decide) rfl d_Tr_isNode_5 ?_
    refine xr_iload_n C 1 d_Tr_isNode_8 rfl rfl ?_
    refine xz_iald (k := 2) C hw2 (by decide) (by omega) (by decide) d_Tr_isNode_9 ?_
    refine xz_if_lt (tgt := 28) C d_Tr_isNode_10 (by decide) (by omega) (fun c10 => ?_) (fun c10 => ?_)
    · skip
      refine xr_iconst C d_Tr_isNode_28 ?_
      exact xr_zret C E (by omega) ⟨rfl, rfl, rfl, by first | exact xb_v1 (by omega) | exact xb_v0 (by omega)⟩ (by decide) (by decide) d_Tr_isNode_29
    · skip
      refine xr_aload_n C 0 d_Tr_isNode_13 rfl rfl ?_
      refine xr_get (k := 1) C xg_Tr_9 hw1 (by decide) rfl d_Tr_isNode_14 ?_
      refine xr_iload_n C 1 d_Tr_isNode_17 rfl rfl ?_
      refine xz_iald (k := 2) C hw2 (by decide) (by omega) (by decide) d_Tr_isNode_18 ?_
      refine xr_bipush C d_Tr_isNode_19 (by decide) ?_
      refine xz_icmp_ge (tgt := 28) C d_Tr_isNode_21 (by decide) (by omega) (by omega) (fun c21 => ?_) (fun c21 => ?_)
      · skip
        refine xr_iconst C d_Tr_isNode_28 ?_
        exact xr_zret C E (by omega) ⟨rfl, rfl, rfl, by first | exact xb_v1 (by omega) | exact xb_v0 (by omega)⟩ (by decide) (by decide) d_Tr_isNode_29
      · skip
        refine xr_iconst C d_Tr_isNode_24 ?_
        refine xr_goto (tgt := 29) C d_Tr_isNode_25 (by decide) ?_
        exact xr_zret C E (by omega) ⟨rfl, rfl, rfl, by first | exact xb_v1 (by omega) | exact xb_v0 (by omega)⟩ (by decide) (by decide) d_Tr_isNode_29
set_option maxHeartbeats 4000000 in
set_option maxRecDepth 100000 in
theorem m_Tr_isLeaf {L : Launch} {D : va_G} {cA : Nat → ClassId} {base : Nat} {ad : Nat → Nat} {w : Nat → va_E} {t : Int} {mk : Nat → Int} (hw1 : w 1 = trO ad t) (hw2 : w 2 = xIA (cA 0) 300 mk) (hmk : ∀ j, -200 ≤ mk j ∧ mk j ≤ 200) {x : Int} (hx : -1 ≤ x ∧ x < 300) : XM L D cA base y_Tr_isLeaf c_Tr_isLeaf 2 (some .boolean) (xrm 0 0 0) [.ref (ad 1), .int (zI x)] 56 ad w (xPure 56 ad w (.int (zI (xb (decide (0 ≤ x ∧ mk x.toNat < 0)))))) xF := by
  refine xm_of (by decide +kernel) (by simp [Value.category]) (Nat.le_of_ble_eq_true rfl) (fun G C E _ => ?_)
  have := hmk x.toNat
  refine xr_iload_n C 1 d_Tr_isLeaf_0 rfl rfl ?_
  refine xz_if_lt (tgt := 17) C d_Tr_isLeaf_1 (by decide) (by omega) (fun c1 => ?_) (fun c1 => ?_)
  · skip
    refine xr_iconst C d_Tr_isLeaf_17 ?_
    exact xr_zret C E (by omega) ⟨rfl, rfl, rfl, by first | exact xb_v1 (by omega) | exact xb_v0 (by omega)⟩ (by decide) (by decide) d_Tr_isLeaf_18
  · skip
    refine xr_aload_n C 0 d_Tr_isLeaf_4 rfl rfl ?_
    refine xr_get (k := 1) C xg_Tr_9 hw1 (by decide) rfl d_Tr_isLeaf_5 ?_
    refine xr_iload_n C 1 d_Tr_isLeaf_8 rfl rfl ?_
    refine xz_iald (k := 2) C hw2 (by decide) (by omega) (by decide) d_Tr_isLeaf_9 ?_
    refine xz_if_ge (tgt := 17) C d_Tr_isLeaf_10 (by decide) (by omega) (fun c10 => ?_) (fun c10 => ?_)
    · skip
      refine xr_iconst C d_Tr_isLeaf_17 ?_
      exact xr_zret C E (by omega) ⟨rfl, rfl, rfl, by first | exact xb_v1 (by omega) | exact xb_v0 (by omega)⟩ (by decide) (by decide) d_Tr_isLeaf_18
    · skip
      refine xr_iconst C d_Tr_isLeaf_13 ?_
      refine xr_goto (tgt := 18) C d_Tr_isLeaf_14 (by decide) ?_
      exact xr_zret C E (by omega) ⟨rfl, rfl, rfl, by first | exact xb_v1 (by omega) | exact xb_v0 (by omega)⟩ (by decide) (by decide) d_Tr_isLeaf_18
set_option maxHeartbeats 4000000 in
set_option maxRecDepth 100000 in
theorem m_Tr_slotOf {L : Launch} {D : va_G} {cA : Nat → ClassId} {base : Nat} {ad : Nat → Nat} {w : Nat → va_E} {x y z : Int} : XM L D cA base y_Tr_slotOf c_Tr_slotOf 4 (some .int) (xrm 0 0 0) [.ref (ad 1), .int (zI x), .int (zI y), .int (zI z)] 56 ad w (xPure 56 ad w (.int (zI (((x * 31 + y) * 31 + z) % 512)))) xF := by
  refine xm_of (by decide +kernel) (by simp [Value.category]) (Nat.le_of_ble_eq_true rfl) (fun G C E _ => ?_)
  refine xr_iload_n C 1 d_Tr_slotOf_0 rfl rfl ?_
  refine xr_bipush C d_Tr_slotOf_1 (by decide) ?_
  refine xz_imul C d_Tr_slotOf_3 ?_
  refine xr_iload_n C 2 d_Tr_slotOf_4 rfl rfl ?_
  refine xz_iadd C d_Tr_slotOf_5 ?_
  refine xr_bipush C d_Tr_slotOf_6 (by decide) ?_
  refine xz_imul C d_Tr_slotOf_8 ?_
  refine xr_iload_n C 3 d_Tr_slotOf_9 rfl rfl ?_
  refine xz_iadd C d_Tr_slotOf_10 ?_
  refine xr_sipush C d_Tr_slotOf_11 (by decide) ?_
  refine xr_iand C d_Tr_slotOf_14 ?_
  rw [zI_and511]
  exact xr_iret C E ⟨rfl, rfl, rfl, rfl⟩ (by decide) (by decide) d_Tr_slotOf_15
set_option maxHeartbeats 4000000 in
set_option maxRecDepth 100000 in
theorem m_Tr_valueOf {L : Launch} {D : va_G} {cA : Nat → ClassId} {base : Nat} {ad : Nat → Nat} {w : Nat → va_E} {k N : Nat} {f : Nat → Int} (hk : k < 56) (hN : N < 2147483648) (hwk : w k = xIA (cA 0) N f) {x y : Int} (hx : -1 ≤ x ∧ x < N) : XM L D cA base y_Tr_valueOf c_Tr_valueOf 4 (some .int) (xrm 0 0 0) [.ref (ad 1), .ref (ad k), .int (zI x), .int (zI y)] 56 ad w (xPure 56 ad w (.int (zI (if x < 0 then y else f x.toNat)))) xF := by
  refine xm_of (by decide +kernel) (by simp [Value.category]) (Nat.le_of_ble_eq_true rfl) (fun G C E _ => ?_)
  refine xr_iload_n C 2 d_Tr_valueOf_0 rfl rfl ?_
  refine xz_if_ge (tgt := 8) C d_Tr_valueOf_1 (by decide) (by omega) (fun c1 => ?_) (fun c1 => ?_)
  · skip
    refine xr_aload_n C 1 d_Tr_valueOf_8 rfl rfl ?_
    refine xr_iload_n C 2 d_Tr_valueOf_9 rfl rfl ?_
    refine xz_iald (k := k) C hwk hk (by omega) hN d_Tr_valueOf_10 ?_
    exact xr_iret C E ⟨rfl, rfl, rfl, xv_eq (by split <;> omega)⟩ (by decide) (by decide) d_Tr_valueOf_11
  · skip
    refine xr_iload_n C 3 d_Tr_valueOf_4 rfl rfl ?_
    refine xr_goto (tgt := 11) C d_Tr_valueOf_5 (by decide) ?_
    exact xr_iret C E ⟨rfl, rfl, rfl, xv_eq (by split <;> omega)⟩ (by decide) (by decide) d_Tr_valueOf_11
set_option maxHeartbeats 4000000 in
set_option maxRecDepth 100000 in
theorem m_Tr_ownWeight {L : Launch} {D : va_G} {cA : Nat → ClassId} {base : Nat} {ad : Nat → Nat} {w : Nat → va_E} {x : Int} (hx : -200 ≤ x ∧ x ≤ 200) : XM L D cA base y_Tr_ownWeight c_Tr_ownWeight 2 (some .int) (xrm 0 0 0) [.ref (ad 1), .int (zI x)] 56 ad w (xPure 56 ad w (.int (zI (if 0 ≤ x ∧ x < 12 ∧ x % 3 = 2 then 2 else 1)))) xF := by
  refine xm_of (by decide +kernel) (by simp [Value.category]) (Nat.le_of_ble_eq_true rfl) (fun G C E _ => ?_)
  refine xr_iload_n C 1 d_Tr_ownWeight_0 rfl rfl ?_
  refine xz_if_lt (tgt := 21) C d_Tr_ownWeight_1 (by decide) (by omega) (fun c1 => ?_) (fun c1 => ?_)
  · skip
    refine xr_iconst C d_Tr_ownWeight_21 ?_
    exact xr_iret C E ⟨rfl, rfl, rfl, xv_eq (by split <;> omega)⟩ (by decide) (by decide) d_Tr_ownWeight_22
  · skip
    refine xr_iload_n C 1 d_Tr_ownWeight_4 rfl rfl ?_
    refine xr_bipush C d_Tr_ownWeight_5 (by decide) ?_
    refine xz_icmp_ge (tgt := 21) C d_Tr_ownWeight_7 (by decide) (by omega) (by omega) (fun c7 => ?_) (fun c7 => ?_)
    · skip
      refine xr_iconst C d_Tr_ownWeight_21 ?_
      exact xr_iret C E ⟨rfl, rfl, rfl, xv_eq (by split <;> omega)⟩ (by decide) (by decide) d_Tr_ownWeight_22
    · skip
      refine xr_iload_n C 1 d_Tr_ownWeight_10 rfl rfl ?_
      refine xr_iconst C d_Tr_ownWeight_11 ?_
      have ht : x.tmod 3 = x % 3 := Int.tmod_eq_emod_of_nonneg (by omega)
      refine xz_irem C d_Tr_ownWeight_12 (by omega) (by omega) ?_
      refine xr_iconst C d_Tr_ownWeight_13 ?_
      refine xz_icmp_ne (tgt := 21) C d_Tr_ownWeight_14 (by decide) (by omega) (by omega) (fun c14 => ?_) (fun c14 => ?_)
      · skip
        refine xr_iconst C d_Tr_ownWeight_21 ?_
        exact xr_iret C E ⟨rfl, rfl, rfl, xv_eq (by split <;> omega)⟩ (by decide) (by decide) d_Tr_ownWeight_22
      · skip
        refine xr_iconst C d_Tr_ownWeight_17 ?_
        refine xr_goto (tgt := 22) C d_Tr_ownWeight_18 (by decide) ?_
        exact xr_iret C E ⟨rfl, rfl, rfl, xv_eq (by split <;> omega)⟩ (by decide) (by decide) d_Tr_ownWeight_22
set_option maxHeartbeats 4000000 in
set_option maxRecDepth 100000 in
theorem m_Tr_holeCount {L : Launch} {D : va_G} {cA : Nat → ClassId} {base : Nat} {ad : Nat → Nat} {w : Nat → va_E} {t : Int} {hc : Nat → Int} (hw1 : w 1 = trO ad t) (hw9 : w 9 = xIA (cA 0) 1800 hc) {x h : Int} (hx : -1 ≤ x ∧ x < 300) (hh : 0 ≤ h ∧ h < 6) : XM L D cA base y_Tr_holeCount c_Tr_holeCount 3 (some .int) (xrm 0 0 0) [.ref (ad 1), .int (zI x), .int (zI h)] 56 ad w (xPure 56 ad w (.int (zI (if x < 0 then 0 else hc (x * 6 + h).toNat)))) xF := by
  refine xm_of (by decide +kernel) (by simp [Value.category]) (Nat.le_of_ble_eq_true rfl) (fun G C E _ => ?_)
  refine xr_iload_n C 1 d_Tr_holeCount_0 rfl rfl ?_
  refine xz_if_ge (tgt := 8) C d_Tr_holeCount_1 (by decide) (by omega) (fun c1 => ?_) (fun c1 => ?_)
  · skip
    refine xr_aload_n C 0 d_Tr_holeCount_8 rfl rfl ?_
    refine xr_get (k := 1) C xg_Tr_33 hw1 (by decide) rfl d_Tr_holeCount_9 ?_
    refine xr_iload_n C 1 d_Tr_holeCount_12 rfl rfl ?_
    refine xr_bipush C d_Tr_holeCount_13 (by decide) ?_
    refine xz_imul C d_Tr_holeCount_15 ?_
    refine xr_iload_n C 2 d_Tr_holeCount_16 rfl rfl ?_
    refine xz_iadd C d_Tr_holeCount_17 ?_
    refine xz_iald (k := 9) C hw9 (by decide) (by omega) (by decide) d_Tr_holeCount_18 ?_
    exact xr_iret C E ⟨rfl, rfl, rfl, xv_eq (by split <;> omega)⟩ (by decide) (by decide) d_Tr_holeCount_19
  · skip
    refine xr_iconst C d_Tr_holeCount_4 ?_
    refine xr_goto (tgt := 19) C d_Tr_holeCount_5 (by decide) ?_
    exact xr_iret C E ⟨rfl, rfl, rfl, xv_eq (by split <;> omega)⟩ (by decide) (by decide) d_Tr_holeCount_19
set_option maxHeartbeats 4000000 in
set_option maxRecDepth 100000 in
theorem m_Ro_cell {L : Launch} {D : va_G} {cA : Nat → ClassId} {base : Nat} {ad : Nat → Nat} {w : Nat → va_E} {k : Nat} {N : Nat} {sz : Int} {f : Nat → Int} (hk : k + 1 < 56) (hwk : w k = roO ad k sz) (hwk1 : w (k + 1) = xIA (cA 0) 800 f) {x y : Int} (hx : 0 ≤ x ∧ x < 200) (hy : 0 ≤ y ∧ y < 4) : XM L D cA base y_Ro_cell c_Ro_cell 3 (some .int) (xrm 0 0 0) [.ref (ad k), .int (zI x), .int (zI y)] 56 ad w (xPure 56 ad w (.int (zI (f (x * 4 + y).toNat)))) xF := by
  refine xm_of (by decide +kernel) (by simp [Value.category]) (Nat.le_of_ble_eq_true rfl) (fun G C E _ => ?_)
  refine xr_aload_n C 0 d_Ro_cell_0 rfl rfl ?_
  refine xr_get (k := k) C xg_Ro_9 hwk (by omega) rfl d_Ro_cell_1 ?_
  refine xr_iload_n C 1 d_Ro_cell_4 rfl rfl ?_
  refine xr_iconst C d_Ro_cell_5 ?_
  refine xz_imul C d_Ro_cell_6 ?_
  refine xr_iload_n C 2 d_Ro_cell_7 rfl rfl ?_
  refine xz_iadd C d_Ro_cell_8 ?_
  refine xz_iald (k := (k + 1)) C hwk1 hk (by omega) (by decide) d_Ro_cell_9 ?_
  exact xr_iret C E ⟨rfl, rfl, rfl, rfl⟩ (by decide) (by decide) d_Ro_cell_10
set_option maxHeartbeats 4000000 in
set_option maxRecDepth 100000 in
theorem m_Ru_mayBeUsed {L : Launch} {D : va_G} {cA : Nat → ClassId} {base : Nat} {ad : Nat → Nat} {w : Nat → va_E} {r : Int} {co ch an : Nat → Int} (hw12 : w 12 = ruO ad r) (hw15 : w 15 = xIA (cA 0) 16 co) (hw17 : w 17 = xIA (cA 1) 16 ch) (hw18 : w 18 = xIA (cA 0) 10 an) {x : Int} (hx : 0 ≤ x ∧ x < 16) (hco : -1 ≤ co x.toNat ∧ co x.toNat < 10) (hch : ch x.toNat = 0 ∨ ch x.toNat = 1) (han : ∀ j, 0 ≤ an j ∧ an j ≤ 2) : XM L D cA base y_Ru_mayBeUsed c_Ru_mayBeUsed 2 (some .boolean) (xrm 0 0 0) [.ref (ad 12), .int (zI x)] 56 ad w (xPure 56 ad w (.int (zI (xb (decide (ch x.toNat = 1 ∧ (co x.toNat = -1 ∨ an (co x.toNat).toNat = 1))))))) xF := by
  refine xm_of (by decide +kernel) (by simp [Value.category]) (Nat.le_of_ble_eq_true rfl) (fun G C E _ => ?_)
  have := han (co x.toNat).toNat
  refine xr_aload_n C 0 d_Ru_mayBeUsed_0 rfl rfl ?_
  refine xr_get (k := 12) C xg_Ru_25 hw12 (by decide) rfl d_Ru_mayBeUsed_1 ?_
  refine xr_iload_n C 1 d_Ru_mayBeUsed_4 rfl rfl ?_
  refine xz_zald (k := 17) C hw17 (by decide) (by omega) (by decide) d_Ru_mayBeUsed_5 ?_
  refine xz_if_eq (tgt := 38) C d_Ru_mayBeUsed_6 (by decide) (by omega) (fun c6 => ?_) (fun c6 => ?_)
  · skip
    refine xr_iconst C d_Ru_mayBeUsed_38 ?_
    exact xr_zret C E (by omega) ⟨rfl, rfl, rfl, by first | exact xb_v1 (by omega) | exact xb_v0 (by omega)⟩ (by decide) (by decide) d_Ru_mayBeUsed_39
  · skip
    refine xr_aload_n C 0 d_Ru_mayBeUsed_9 rfl rfl ?_
    refine xr_get (k := 12) C xg_Ru_18 hw12 (by decide) rfl d_Ru_mayBeUsed_10 ?_
    refine xr_iload_n C 1 d_Ru_mayBeUsed_13 rfl rfl ?_
    refine xz_iald (k := 15) C hw15 (by decide) (by omega) (by decide) d_Ru_mayBeUsed_14 ?_
    refine xr_iconst C d_Ru_mayBeUsed_15 ?_
    refine xz_icmp_eq (tgt := 34) C d_Ru_mayBeUsed_16 (by decide) (by omega) (by omega) (fun c16 => ?_) (fun c16 => ?_)
    · skip
      refine xr_iconst C d_Ru_mayBeUsed_34 ?_
      refine xr_goto (tgt := 39) C d_Ru_mayBeUsed_35 (by decide) ?_
      exact xr_zret C E (by omega) ⟨rfl, rfl, rfl, by first | exact xb_v1 (by omega) | exact xb_v0 (by omega)⟩ (by decide) (by decide) d_Ru_mayBeUsed_39
    · skip
      refine xr_aload_n C 0 d_Ru_mayBeUsed_19 rfl rfl ?_
      refine xr_get (k := 12) C xg_Ru_28 hw12 (by decide) rfl d_Ru_mayBeUsed_20 ?_
      refine xr_aload_n C 0 d_Ru_mayBeUsed_23 rfl rfl ?_
      refine xr_get (k := 12) C xg_Ru_18 hw12 (by decide) rfl d_Ru_mayBeUsed_24 ?_
      refine xr_iload_n C 1 d_Ru_mayBeUsed_27 rfl rfl ?_
      refine xz_iald (k := 15) C hw15 (by decide) (by omega) (by decide) d_Ru_mayBeUsed_28 ?_
      refine xz_iald (k := 18) C hw18 (by decide) (by omega) (by decide) d_Ru_mayBeUsed_29 ?_
      refine xr_iconst C d_Ru_mayBeUsed_30 ?_
      refine xz_icmp_ne (tgt := 38) C d_Ru_mayBeUsed_31 (by decide) (by omega) (by omega) (fun c31 => ?_) (fun c31 => ?_)
      · skip
        refine xr_iconst C d_Ru_mayBeUsed_38 ?_
        exact xr_zret C E (by omega) ⟨rfl, rfl, rfl, by first | exact xb_v1 (by omega) | exact xb_v0 (by omega)⟩ (by decide) (by decide) d_Ru_mayBeUsed_39
      · skip
        refine xr_iconst C d_Ru_mayBeUsed_34 ?_
        refine xr_goto (tgt := 39) C d_Ru_mayBeUsed_35 (by decide) ?_
        exact xr_zret C E (by omega) ⟨rfl, rfl, rfl, by first | exact xb_v1 (by omega) | exact xb_v0 (by omega)⟩ (by decide) (by decide) d_Ru_mayBeUsed_39
/-- each hole stands in x at least as often as in y, by a table of counts -/
def hOK (hc : Nat → Int) (x y : Nat) : Bool := (List.range 6).all (fun h => decide (hc (y * 6 + h) ≤ hc (x * 6 + h)))
theorem hOK_t {hc : Nat → Int} {x y : Nat} (h : ∀ i, i < 6 → hc (y * 6 + i) ≤ hc (x * 6 + i)) : hOK hc x y = true := by
  simp [hOK, List.all_eq_true]
  exact h
theorem hOK_f {hc : Nat → Int} {x y i : Nat} (hi : i < 6) (h : hc (x * 6 + i) < hc (y * 6 + i)) : hOK hc x y = false := by
  cases e : hOK hc x y with
  | false => rfl
  | true =>
    simp [hOK, List.all_eq_true] at e
    have := e i hi
    omega
theorem hOK_of {hc : Nat → Int} {x y : Nat} (h : hOK hc x y = true) : ∀ i, i < 6 → hc (y * 6 + i) ≤ hc (x * 6 + i) := by
  simp [hOK, List.all_eq_true] at h
  exact h
set_option maxHeartbeats 4000000 in
set_option maxRecDepth 100000 in
theorem m_Tr_hasHolesOf {L : Launch} {D : va_G} {cA : Nat → ClassId} {base : Nat} {ad : Nat → Nat} {w : Nat → va_E} {t : Int} {hc : Nat → Int} (hw1 : w 1 = trO ad t) (hw9 : w 9 = xIA (cA 0) 1800 hc) (hhc : ∀ j, 0 ≤ hc j ∧ hc j ≤ 1000) {x y : Nat} (hx : x < 300) (hy : y < 300) : XM L D cA base y_Tr_hasHolesOf c_Tr_hasHolesOf 4 (some .boolean) (xrm 1 0 0) [.ref (ad 1), .int (zI (x : Int)), .int (zI (y : Int))] 56 ad w (xPure 56 ad w (.int (zI (xb (hOK hc x y))))) xF := by
  refine xm_of (by decide +kernel) (by simp [Value.category]) (Nat.le_of_ble_eq_true rfl) (fun G C E _ => ?_)
  have lp : ∀ (k i : Nat) (lv : Nat → Option Value), 7 ≤ i + k → i ≤ 6 → lv 0 = some (.ref (ad 1)) → lv 1 = some (.int (zI (x : Int))) → lv 2 = some (.int (zI (y : Int))) → lv 3 = some (.int (zI (i : Int))) → (∀ h, h < i → hc (y * 6 + h) ≤ hc (x * 6 + h)) → XW G 56 ad w 0 0 2 lv [] := by
    intro k
    induction k with
    | zero => intro i lv h1 h2; exact absurd h1 (by omega)
    | succ k ih =>
      intro i lv h1 h2 hl0 hl1 hl2 hl3 hh
      refine xr_iload_n C 3 d_Tr_hasHolesOf_2 rfl hl3 ?_
      refine xr_bipush C d_Tr_hasHolesOf_3 (by decide) ?_
      refine xz_icmp_ge (tgt := 31) C d_Tr_hasHolesOf_5 (by decide) (by omega) (by omega) (fun c5 => ?_) (fun c5 => ?_)
      · skip
        refine xr_iconst C d_Tr_hasHolesOf_31 ?_
        exact xr_zret C E (by omega) ⟨rfl, rfl, rfl, by rw [hOK_t (fun h h1 => hh h (by omega))]; rfl⟩ (by decide) (by decide) d_Tr_hasHolesOf_32
      · skip
        refine xr_aload_n C 0 d_Tr_hasHolesOf_8 rfl hl0 ?_
        refine xr_iload_n C 1 d_Tr_hasHolesOf_9 rfl hl1 ?_
        refine xr_iload_n C 3 d_Tr_hasHolesOf_10 rfl hl3 ?_
        refine xr_callV (k9 := 1) C (m_Tr_holeCount hw1 hw9 (x := (x : Int)) (h := (i : Int)) (by omega) (by omega)) xm_Tr_77 x2_Tr_holeCount hw1 (by decide) rfl (by decide) (by decide) (Nat.le_of_ble_eq_true rfl) rfl d_Tr_hasHolesOf_11 (fun En n9 ad9 w9 hx9 => hx9.elim) (fun v n9 ad9 w9 hp => ?_)
        obtain ⟨rfl, rfl, rfl, rfl⟩ := hp
        show XW _ _ _ _ _ _ 14 _ (_ :: _)
        refine xr_aload_n C 0 d_Tr_hasHolesOf_14 rfl hl0 ?_
        refine xr_iload_n C 2 d_Tr_hasHolesOf_15 rfl hl2 ?_
        refine xr_iload_n C 3 d_Tr_hasHolesOf_16 rfl hl3 ?_
        refine xr_callV (k9 := 1) C (m_Tr_holeCount hw1 hw9 (x := (y : Int)) (h := (i : Int)) (by omega) (by omega)) xm_Tr_77 x2_Tr_holeCount hw1 (by decide) rfl (by decide) (by decide) (Nat.le_of_ble_eq_true rfl) rfl d_Tr_hasHolesOf_17 (fun En n9 ad9 w9 hx9 => hx9.elim) (fun v n9 ad9 w9 hp => ?_)
        obtain ⟨rfl, rfl, rfl, rfl⟩ := hp
        show XW _ _ _ _ _ _ 20 _ (_ :: _)
        have hcx := hhc (x * 6 + i)
        have hcy := hhc (y * 6 + i)
        rw [if_neg (by omega), if_neg (by omega), show ((x : Int) * 6 + (i : Int)).toNat = x * 6 + i by omega, show ((y : Int) * 6 + (i : Int)).toNat = y * 6 + i by omega]
        refine xz_icmp_ge (tgt := 25) C d_Tr_hasHolesOf_20 (by decide) (by omega) (by omega) (fun c20 => ?_) (fun c20 => ?_)
        · skip
          refine xr_iinc C d_Tr_hasHolesOf_25 (by decide) hl3 ?_
          refine xr_goto (tgt := 2) C d_Tr_hasHolesOf_28 (by decide) ?_
          exact ih (i + 1) _ (by omega) (by omega) hl0 hl1 hl2 rfl (fun h h1 => by
            by_cases e : h = i
            · rw [e]
              omega
            · exact hh h (by omega))
        · skip
          refine xr_iconst C d_Tr_hasHolesOf_23 ?_
          exact xr_zret C E (by omega) ⟨rfl, rfl, rfl, by rw [hOK_f (i := i) (by omega) (by omega)]; rfl⟩ (by decide) (by decide) d_Tr_hasHolesOf_24
  refine xr_iconst C d_Tr_hasHolesOf_0 ?_
  refine xr_istore_n C 3 d_Tr_hasHolesOf_1 rfl (by decide) ?_
  exact lp 7 0 _ (by omega) (by omega) rfl rfl rfl rfl (fun h h1 => by omega)
end
section
theorem xr_eqz {G : xG} {n : Nat} {ad : Nat → Nat} {w : Nat → va_E} {a b pc : Nat} {lv : Nat → Option Value} {st : List Value} {x y : Int} (h : x = y) (K : XW G n ad w a b pc lv (.int (zI y) :: st)) : XW G n ad w a b pc lv (.int (zI x) :: st) := by
  rw [h]
  exact K
/-- a mask of six -/
def hbS (f : Nat → Bool) : Nat → Int
  | 0 => 0
  | k + 1 => hbS f k + (if f k then 2 ^ k else 0)
theorem hbS_in (f : Nat → Bool) (k : Nat) : 0 ≤ hbS f k ∧ hbS f k < 2 ^ k := by
  induction k with
  | zero => simp [hbS]
  | succ k ih =>
    have h2 : (2 : Int) ^ (k + 1) = 2 ^ k + 2 ^ k := by rw [Int.pow_succ]; omega
    simp only [hbS]
    rw [h2]
    split <;> omega
theorem zI_shl1 {i : Nat} (h : i < 6) : zI 1 <<< (zI (i : Int) &&& 31) = zI (2 ^ i) := by
  have : ∀ i : Fin 6, zI 1 <<< (zI ((i : Nat) : Int) &&& 31) = zI (2 ^ (i : Nat)) := by decide
  exact this ⟨i, h⟩
theorem zI_orp {i : Nat} {m : Int} (h : i < 6) (hm : 0 ≤ m ∧ m < 2 ^ i) : zI m ||| zI (2 ^ i) = zI (m + 2 ^ i) := by
  have : ∀ i : Fin 6, ∀ m : Fin 64, (m : Nat) < 2 ^ (i : Nat) → zI ((m : Nat) : Int) ||| zI (2 ^ (i : Nat)) = zI (((m : Nat) : Int) + 2 ^ (i : Nat)) := by decide
  have h64 : (2 : Int) ^ i ≤ 32 := by
    have : ∀ i : Fin 6, (2 : Int) ^ (i : Nat) ≤ 32 := by decide
    exact this ⟨i, h⟩
  have hc : ((2 ^ i : Nat) : Int) = 2 ^ i := by simp
  have e := this ⟨i, h⟩ ⟨m.toNat, by omega⟩ (by show m.toNat < 2 ^ i; omega)
  have em : ((m.toNat : Nat) : Int) = m := by omega
  simp only [em] at e
  exact e
theorem zI_or0 (m : Int) : zI m ||| zI 0 = zI m := by
  show zI m ||| 0 = zI m
  exact Int32.or_zero
/-- how often hole h stands in the tree x, out of the counts of its parts -/
def tmH (mk fs sn hc : Nat → Int) (x h : Nat) : Int := (if mk x = 100 + (h : Int) then 1 else 0) + (if fs x < 0 then 0 else hc ((fs x).toNat * 6 + h)) + (if sn x < 0 then 0 else hc ((sn x).toNat * 6 + h))
theorem xj_iald {G : xG} {L : Launch} {D : va_G} {cA : Nat → ClassId} {base : Nat} {cc : ByteArray} {nL : Nat} {own : String} {R : Room} {n : Nat} {ad : Nat → Nat} {w : Nat → va_E} {a b pc : Nat} {lv : Nat → Option Value} {st : List Value} (C : XC G L D cA base cc nL own R) {k N : Nat} {f : Nat → Int} {i : Int} (j : Nat) (hi : i = (j : Int)) (hw : w k = xIA (cA 0) N f) (hk : k < n) (hj : j < N) (hN : N < 2147483648) (d : decode cc pc = .ok (.iaload, 1))
    (K : XW G n ad w a b (pc + 1) lv (.int (zI (f j)) :: st)) : XW G n ad w a b pc lv (.int (zI i) :: .ref (ad k) :: st) := by
  subst hi
  exact xz_iald C hw hk (by omega) hN d K
theorem xj_zald {G : xG} {L : Launch} {D : va_G} {cA : Nat → ClassId} {base : Nat} {cc : ByteArray} {nL : Nat} {own : String} {R : Room} {n : Nat} {ad : Nat → Nat} {w : Nat → va_E} {a b pc : Nat} {lv : Nat → Option Value} {st : List Value} (C : XC G L D cA base cc nL own R) {k N : Nat} {f : Nat → Int} {i : Int} (j : Nat) (hi : i = (j : Int)) (hw : w k = xIA (cA 1) N f) (hk : k < n) (hj : j < N) (hN : N < 2147483648) (d : decode cc pc = .ok (.baload, 1))
    (K : XW G n ad w a b (pc + 1) lv (.int (zI (f j)) :: st)) : XW G n ad w a b pc lv (.int (zI i) :: .ref (ad k) :: st) := by
  subst hi
  exact xz_zald C hw hk (by omega) hN d K
theorem xj_iast {G : xG} {L : Launch} {D : va_G} {cA : Nat → ClassId} {base : Nat} {cc : ByteArray} {nL : Nat} {own : String} {R : Room} {n : Nat} {ad : Nat → Nat} {w : Nat → va_E} {a b pc : Nat} {lv : Nat → Option Value} {st : List Value} (C : XC G L D cA base cc nL own R) {k N : Nat} {f : Nat → Int} {i x : Int} (j : Nat) (hi : i = (j : Int)) (hw : w k = xIA (cA 0) N f) (hk : k < n) (hj : j < N) (hN : N < 2147483648) (d : decode cc pc = .ok (.iastore, 1))
    (K : XW G n ad (va_up w k (xIA (cA 0) N (va_up f j x))) a b (pc + 1) lv st) : XW G n ad w a b pc lv (.int (zI x) :: .int (zI i) :: .ref (ad k) :: st) := by
  subst hi
  exact xz_iast C hw hk (by omega) hN d K
theorem xj_zast {G : xG} {L : Launch} {D : va_G} {cA : Nat → ClassId} {base : Nat} {cc : ByteArray} {nL : Nat} {own : String} {R : Room} {n : Nat} {ad : Nat → Nat} {w : Nat → va_E} {a b pc : Nat} {lv : Nat → Option Value} {st : List Value} (C : XC G L D cA base cc nL own R) {k N : Nat} {f : Nat → Int} {i x : Int} (j : Nat) (hi : i = (j : Int)) (hw : w k = xIA (cA 1) N f) (hk : k < n) (hj : j < N) (hN : N < 2147483648) (hx9 : x = 0 ∨ x = 1) (d : decode cc pc = .ok (.bastore, 1))
    (K : XW G n ad (va_up w k (xIA (cA 1) N (va_up f j x))) a b (pc + 1) lv st) : XW G n ad w a b pc lv (.int (zI x) :: .int (zI i) :: .ref (ad k) :: st) := by
  subst hi
  exact xz_zast C hw hk (by omega) hN hx9 d K
end
section
set_option maxHeartbeats 4000000 in
set_option maxRecDepth 100000 in
theorem m_Tr_noteHoles {L : Launch} {D : va_G} {cA : Nat → ClassId} {base : Nat} {ad : Nat → Nat} {w : Nat → va_E} {t : Int} {mk fs sn hc ho : Nat → Int} {x : Nat} (hw1 : w 1 = trO ad t) (hw2 : w 2 = xIA (cA 0) 300 mk) (hw3 : w 3 = xIA (cA 0) 300 fs) (hw4 : w 4 = xIA (cA 0) 300 sn) (hw8 : w 8 = xIA (cA 0) 300 ho) (hw9 : w 9 = xIA (cA 0) 1800 hc) (hx : x < 300) (hf : -1 ≤ fs x ∧ fs x < x) (hs : -1 ≤ sn x ∧ sn x < x) (hmk : -200 ≤ mk x ∧ mk x ≤ 200) (hhc : ∀ j, 0 ≤ hc j ∧ hc j ≤ 1000) : XM L D cA base y_Tr_noteHoles c_Tr_noteHoles 5 none (xrm 1 0 0) [.ref (ad 1), .int (zI (x : Int))] 56 ad w (xVoid 56 ad (fun w' => ∃ hc' : Nat → Int, w' = va_up (va_up w 9 (xIA (cA 0) 1800 hc')) 8 (xIA (cA 0) 300 (va_up ho x (hbS (fun h => decide (0 < tmH mk fs sn hc x h)) 6))) ∧ (∀ h, h < 6 → hc' (x * 6 + h) = tmH mk fs sn hc x h) ∧ ∀ j, (j < x * 6 ∨ x * 6 + 6 ≤ j) → hc' j = hc j)) xF := by
  refine xm_of (by decide +kernel) (by simp [Value.category]) (Nat.le_of_ble_eq_true rfl) (fun G C E _ => ?_)
  have lp : ∀ (k i : Nat) (hcI : Nat → Int) (lv : Nat → Option Value), 7 ≤ i + k → i ≤ 6 → lv 0 = some (.ref (ad 1)) → lv 1 = some (.int (zI (x : Int))) → lv 2 = some (.int (zI (hbS (fun h => decide (0 < tmH mk fs sn hc x h)) i))) → lv 3 = some (.int (zI (i : Int))) → (∀ h, h < i → hcI (x * 6 + h) = tmH mk fs sn hc x h) → (∀ j, (j < x * 6 ∨ x * 6 + 6 ≤ j) → hcI j = hc j) → XW G 56 ad (va_up w 9 (xIA (cA 0) 1800 hcI)) 0 0 4 lv [] := by
    intro k
    induction k with
    | zero => intro i hcI lv h1 h2; exact absurd h1 (by omega)
    | succ k ih =>
      intro i hcI lv h1 h2 hl0 hl1 hl2 hl3 hin hout
      refine xr_iload_n C 3 d_Tr_noteHoles_4 rfl hl3 ?_
      refine xr_bipush C d_Tr_noteHoles_5 (by decide) ?_
      refine xz_icmp_ge (tgt := 92) C d_Tr_noteHoles_7 (by decide) (by omega) (by omega) (fun c7 => ?_) (fun c7 => ?_)
      · skip
        refine xr_aload_n C 0 d_Tr_noteHoles_92 rfl hl0 ?_
        refine xr_get (k := 1) C xg_Tr_30 hw1 (by decide) rfl d_Tr_noteHoles_93 ?_
        refine xr_iload_n C 1 d_Tr_noteHoles_96 rfl hl1 ?_
        refine xr_iload_n C 2 d_Tr_noteHoles_97 rfl hl2 ?_
        refine xj_iast (k := 8) C (x) (by omega) hw8 (by decide) (by omega) (by decide) d_Tr_noteHoles_98 ?_
        have hi6 : i = 6 := by omega
        subst hi6
        exact xr_vret C E ⟨rfl, rfl, rfl, hcI, rfl, fun h h1 => hin h (by omega), fun j hj => hout j hj⟩ (by decide) (by decide) d_Tr_noteHoles_99
      · skip
        refine xr_aload_n C 0 d_Tr_noteHoles_10 rfl hl0 ?_
        refine xr_get (k := 1) C xg_Tr_9 hw1 (by decide) rfl d_Tr_noteHoles_11 ?_
        refine xr_iload_n C 1 d_Tr_noteHoles_14 rfl hl1 ?_
        refine xj_iald (k := 2) C (x) (by omega) hw2 (by decide) (by omega) (by decide) d_Tr_noteHoles_15 ?_
        refine xr_bipush C d_Tr_noteHoles_16 (by decide) ?_
        refine xr_iload_n C 3 d_Tr_noteHoles_18 rfl hl3 ?_
        refine xz_iadd C d_Tr_noteHoles_19 ?_
        have hmx9 : -2147483648 ≤ mk x ∧ mk x < 2147483648 := by omega
        refine xz_icmp_ne (tgt := 27) C d_Tr_noteHoles_20 (by decide) hmx9 (by omega) (fun c20 => ?_) (fun c20 => ?_)
        · skip
          refine xr_iconst C d_Tr_noteHoles_27 ?_
          refine xr_istore C d_Tr_noteHoles_28 (by decide) ?_
          refine xr_iload C d_Tr_noteHoles_30 rfl ?_
          refine xr_aload_n C 0 d_Tr_noteHoles_32 rfl hl0 ?_
          refine xr_aload_n C 0 d_Tr_noteHoles_33 rfl hl0 ?_
          refine xr_get (k := 1) C xg_Tr_15 hw1 (by decide) rfl d_Tr_noteHoles_34 ?_
          refine xr_iload_n C 1 d_Tr_noteHoles_37 rfl hl1 ?_
          refine xj_iald (k := 3) C (x) (by omega) hw3 (by decide) (by omega) (by decide) d_Tr_noteHoles_38 ?_
          refine xr_iload_n C 3 d_Tr_noteHoles_39 rfl hl3 ?_
          refine xr_callV (k9 := 1) C (m_Tr_holeCount (w := va_up w 9 (xIA (cA 0) 1800 hcI)) (hc := hcI) hw1 rfl (x := fs x) (h := (i : Int)) (by omega) (by omega)) xm_Tr_77 x2_Tr_holeCount hw1 (by decide) rfl (by decide) (by decide) (Nat.le_of_ble_eq_true rfl) rfl d_Tr_noteHoles_40 (fun En n9 ad9 w9 hx9 => hx9.elim) (fun v n9 ad9 w9 hp => ?_)
          obtain ⟨rfl, rfl, rfl, rfl⟩ := hp
          show XW _ _ _ _ _ _ 43 _ (_ :: _)
          refine xr_aload_n C 0 d_Tr_noteHoles_43 rfl hl0 ?_
          refine xr_aload_n C 0 d_Tr_noteHoles_44 rfl hl0 ?_
          refine xr_get (k := 1) C xg_Tr_18 hw1 (by decide) rfl d_Tr_noteHoles_45 ?_
          refine xr_iload_n C 1 d_Tr_noteHoles_48 rfl hl1 ?_
          refine xj_iald (k := 4) C (x) (by omega) hw4 (by decide) (by omega) (by decide) d_Tr_noteHoles_49 ?_
          refine xr_iload_n C 3 d_Tr_noteHoles_50 rfl hl3 ?_
          refine xr_callV (k9 := 1) C (m_Tr_holeCount (w := va_up w 9 (xIA (cA 0) 1800 hcI)) (hc := hcI) hw1 rfl (x := sn x) (h := (i : Int)) (by omega) (by omega)) xm_Tr_77 x2_Tr_holeCount hw1 (by decide) rfl (by decide) (by decide) (Nat.le_of_ble_eq_true rfl) rfl d_Tr_noteHoles_51 (fun En n9 ad9 w9 hx9 => hx9.elim) (fun v n9 ad9 w9 hp => ?_)
          obtain ⟨rfl, rfl, rfl, rfl⟩ := hp
          show XW _ _ _ _ _ _ 54 _ (_ :: _)
          refine xz_iadd C d_Tr_noteHoles_54 ?_
          refine xz_iadd C d_Tr_noteHoles_55 ?_
          have e1 : (if fs x < 0 then 0 else hcI (fs x * 6 + (i : Int)).toNat) = (if fs x < 0 then 0 else hc ((fs x).toNat * 6 + i)) := by
            split
            · rfl
            · rw [show (fs x * 6 + (i : Int)).toNat = (fs x).toNat * 6 + i by omega]
              exact hout _ (by omega)
          have e2 : (if sn x < 0 then 0 else hcI (sn x * 6 + (i : Int)).toNat) = (if sn x < 0 then 0 else hc ((sn x).toNat * 6 + i)) := by
            split
            · rfl
            · rw [show (sn x * 6 + (i : Int)).toNat = (sn x).toNat * 6 + i by omega]
              exact hout _ (by omega)
          refine xr_eqz (y := tmH mk fs sn hc x i) ?_ ?_
          · rw [e1, e2]
            simp only [tmH]
            first
              | (rw [if_pos (show mk x = 100 + (i : Int) by omega)]; omega)
              | (rw [if_neg (show ¬ mk x = 100 + (i : Int) by omega)]; omega)
          refine xr_istore C d_Tr_noteHoles_56 (by decide) ?_
          refine xr_aload_n C 0 d_Tr_noteHoles_58 rfl hl0 ?_
          refine xr_get (k := 1) C xg_Tr_33 hw1 (by decide) rfl d_Tr_noteHoles_59 ?_
          refine xr_iload_n C 1 d_Tr_noteHoles_62 rfl hl1 ?_
          refine xr_bipush C d_Tr_noteHoles_63 (by decide) ?_
          refine xz_imul C d_Tr_noteHoles_65 ?_
          refine xr_iload_n C 3 d_Tr_noteHoles_66 rfl hl3 ?_
          refine xz_iadd C d_Tr_noteHoles_67 ?_
          refine xr_iload C d_Tr_noteHoles_68 rfl ?_
          refine xj_iast (k := 9) C (x * 6 + i) (by omega) rfl (by decide) (by omega) (by decide) d_Tr_noteHoles_70 ?_
          refine xr_iload_n C 2 d_Tr_noteHoles_71 rfl hl2 ?_
          refine xr_iload C d_Tr_noteHoles_72 rfl ?_
          have htm : 0 ≤ tmH mk fs sn hc x i ∧ tmH mk fs sn hc x i ≤ 2001 := by
            have a1 := hhc ((fs x).toNat * 6 + i)
            have a2 := hhc ((sn x).toNat * 6 + i)
            unfold tmH
            constructor <;> (repeat' split) <;> omega
          refine xz_if_le (tgt := 83) C d_Tr_noteHoles_74 (by decide) (by omega) (fun c74 => ?_) (fun c74 => ?_)
          · skip
            refine xr_iconst C d_Tr_noteHoles_83 ?_
            refine xr_ior C d_Tr_noteHoles_84 ?_
            first
              | rw [zI_orp (by omega) (hbS_in _ i)]
              | rw [zI_or0]
            refine xr_eqz (y := hbS (fun h => decide (0 < tmH mk fs sn hc x h)) (i + 1)) (by
              simp only [hbS]
              first
                | rw [if_pos (by simp; omega)]
                | rw [if_neg (by simp; omega), Int.add_zero]) ?_
            refine xr_istore_n C 2 d_Tr_noteHoles_85 rfl (by decide) ?_
            refine xr_iinc C d_Tr_noteHoles_86 (by decide) hl3 ?_
            refine xr_goto (tgt := 4) C d_Tr_noteHoles_89 (by decide) ?_
            rw [bx_uu]
            exact ih (i + 1) _ _ (by omega) (by omega) hl0 hl1 rfl rfl (fun h h1 => by
              by_cases e : h = i
              · rw [e]; simp [va_up]
              · simp [va_up, e]
                exact hin h (by omega)) (fun j hj => by
              simp [va_up, show j ≠ x * 6 + i by omega]
              exact hout j hj)
          · skip
            refine xr_iconst C d_Tr_noteHoles_77 ?_
            refine xr_iload_n C 3 d_Tr_noteHoles_78 rfl hl3 ?_
            refine xr_ishl C d_Tr_noteHoles_79 ?_
            rw [zI_shl1 (by omega)]
            refine xr_goto (tgt := 84) C d_Tr_noteHoles_80 (by decide) ?_
            refine xr_ior C d_Tr_noteHoles_84 ?_
            first
              | rw [zI_orp (by omega) (hbS_in _ i)]
              | rw [zI_or0]
            refine xr_eqz (y := hbS (fun h => decide (0 < tmH mk fs sn hc x h)) (i + 1)) (by
              simp only [hbS]
              first
                | rw [if_pos (by simp; omega)]
                | rw [if_neg (by simp; omega), Int.add_zero]) ?_
            refine xr_istore_n C 2 d_Tr_noteHoles_85 rfl (by decide) ?_
            refine xr_iinc C d_Tr_noteHoles_86 (by decide) hl3 ?_
            refine xr_goto (tgt := 4) C d_Tr_noteHoles_89 (by decide) ?_
            rw [bx_uu]
            exact ih (i + 1) _ _ (by omega) (by omega) hl0 hl1 rfl rfl (fun h h1 => by
              by_cases e : h = i
              · rw [e]; simp [va_up]
              · simp [va_up, e]
                exact hin h (by omega)) (fun j hj => by
              simp [va_up, show j ≠ x * 6 + i by omega]
              exact hout j hj)
        · skip
          refine xr_iconst C d_Tr_noteHoles_23 ?_
          refine xr_goto (tgt := 28) C d_Tr_noteHoles_24 (by decide) ?_
          refine xr_istore C d_Tr_noteHoles_28 (by decide) ?_
          refine xr_iload C d_Tr_noteHoles_30 rfl ?_
          refine xr_aload_n C 0 d_Tr_noteHoles_32 rfl hl0 ?_
          refine xr_aload_n C 0 d_Tr_noteHoles_33 rfl hl0 ?_
          refine xr_get (k := 1) C xg_Tr_15 hw1 (by decide) rfl d_Tr_noteHoles_34 ?_
          refine xr_iload_n C 1 d_Tr_noteHoles_37 rfl hl1 ?_
          refine xj_iald (k := 3) C (x) (by omega) hw3 (by decide) (by omega) (by decide) d_Tr_noteHoles_38 ?_
          refine xr_iload_n C 3 d_Tr_noteHoles_39 rfl hl3 ?_
          refine xr_callV (k9 := 1) C (m_Tr_holeCount (w := va_up w 9 (xIA (cA 0) 1800 hcI)) (hc := hcI) hw1 rfl (x := fs x) (h := (i : Int)) (by omega) (by omega)) xm_Tr_77 x2_Tr_holeCount hw1 (by decide) rfl (by decide) (by decide) (Nat.le_of_ble_eq_true rfl) rfl d_Tr_noteHoles_40 (fun En n9 ad9 w9 hx9 => hx9.elim) (fun v n9 ad9 w9 hp => ?_)
          obtain ⟨rfl, rfl, rfl, rfl⟩ := hp
          show XW _ _ _ _ _ _ 43 _ (_ :: _)
          refine xr_aload_n C 0 d_Tr_noteHoles_43 rfl hl0 ?_
          refine xr_aload_n C 0 d_Tr_noteHoles_44 rfl hl0 ?_
          refine xr_get (k := 1) C xg_Tr_18 hw1 (by decide) rfl d_Tr_noteHoles_45 ?_
          refine xr_iload_n C 1 d_Tr_noteHoles_48 rfl hl1 ?_
          refine xj_iald (k := 4) C (x) (by omega) hw4 (by decide) (by omega) (by decide) d_Tr_noteHoles_49 ?_
          refine xr_iload_n C 3 d_Tr_noteHoles_50 rfl hl3 ?_
          refine xr_callV (k9 := 1) C (m_Tr_holeCount (w := va_up w 9 (xIA (cA 0) 1800 hcI)) (hc := hcI) hw1 rfl (x := sn x) (h := (i : Int)) (by omega) (by omega)) xm_Tr_77 x2_Tr_holeCount hw1 (by decide) rfl (by decide) (by decide) (Nat.le_of_ble_eq_true rfl) rfl d_Tr_noteHoles_51 (fun En n9 ad9 w9 hx9 => hx9.elim) (fun v n9 ad9 w9 hp => ?_)
          obtain ⟨rfl, rfl, rfl, rfl⟩ := hp
          show XW _ _ _ _ _ _ 54 _ (_ :: _)
          refine xz_iadd C d_Tr_noteHoles_54 ?_
          refine xz_iadd C d_Tr_noteHoles_55 ?_
          have e1 : (if fs x < 0 then 0 else hcI (fs x * 6 + (i : Int)).toNat) = (if fs x < 0 then 0 else hc ((fs x).toNat * 6 + i)) := by
            split
            · rfl
            · rw [show (fs x * 6 + (i : Int)).toNat = (fs x).toNat * 6 + i by omega]
              exact hout _ (by omega)
          have e2 : (if sn x < 0 then 0 else hcI (sn x * 6 + (i : Int)).toNat) = (if sn x < 0 then 0 else hc ((sn x).toNat * 6 + i)) := by
            split
            · rfl
            · rw [show (sn x * 6 + (i : Int)).toNat = (sn x).toNat * 6 + i by omega]
              exact hout _ (by omega)
          refine xr_eqz (y := tmH mk fs sn hc x i) ?_ ?_
          · rw [e1, e2]
            simp only [tmH]
            first
              | (rw [if_pos (show mk x = 100 + (i : Int) by omega)]; omega)
              | (rw [if_neg (show ¬ mk x = 100 + (i : Int) by omega)]; omega)
          refine xr_istore C d_Tr_noteHoles_56 (by decide) ?_
          refine xr_aload_n C 0 d_Tr_noteHoles_58 rfl hl0 ?_
          refine xr_get (k := 1) C xg_Tr_33 hw1 (by decide) rfl d_Tr_noteHoles_59 ?_
          refine xr_iload_n C 1 d_Tr_noteHoles_62 rfl hl1 ?_
          refine xr_bipush C d_Tr_noteHoles_63 (by decide) ?_
          refine xz_imul C d_Tr_noteHoles_65 ?_
          refine xr_iload_n C 3 d_Tr_noteHoles_66 rfl hl3 ?_
          refine xz_iadd C d_Tr_noteHoles_67 ?_
          refine xr_iload C d_Tr_noteHoles_68 rfl ?_
          refine xj_iast (k := 9) C (x * 6 + i) (by omega) rfl (by decide) (by omega) (by decide) d_Tr_noteHoles_70 ?_
          refine xr_iload_n C 2 d_Tr_noteHoles_71 rfl hl2 ?_
          refine xr_iload C d_Tr_noteHoles_72 rfl ?_
          have htm : 0 ≤ tmH mk fs sn hc x i ∧ tmH mk fs sn hc x i ≤ 2001 := by
            have a1 := hhc ((fs x).toNat * 6 + i)
            have a2 := hhc ((sn x).toNat * 6 + i)
            unfold tmH
            constructor <;> (repeat' split) <;> omega
          refine xz_if_le (tgt := 83) C d_Tr_noteHoles_74 (by decide) (by omega) (fun c74 => ?_) (fun c74 => ?_)
          · skip
            refine xr_iconst C d_Tr_noteHoles_83 ?_
            refine xr_ior C d_Tr_noteHoles_84 ?_
            first
              | rw [zI_orp (by omega) (hbS_in _ i)]
              | rw [zI_or0]
            refine xr_eqz (y := hbS (fun h => decide (0 < tmH mk fs sn hc x h)) (i + 1)) (by
              simp only [hbS]
              first
                | rw [if_pos (by simp; omega)]
                | rw [if_neg (by simp; omega), Int.add_zero]) ?_
            refine xr_istore_n C 2 d_Tr_noteHoles_85 rfl (by decide) ?_
            refine xr_iinc C d_Tr_noteHoles_86 (by decide) hl3 ?_
            refine xr_goto (tgt := 4) C d_Tr_noteHoles_89 (by decide) ?_
            rw [bx_uu]
            exact ih (i + 1) _ _ (by omega) (by omega) hl0 hl1 rfl rfl (fun h h1 => by
              by_cases e : h = i
              · rw [e]; simp [va_up]
              · simp [va_up, e]
                exact hin h (by omega)) (fun j hj => by
              simp [va_up, show j ≠ x * 6 + i by omega]
              exact hout j hj)
          · skip
            refine xr_iconst C d_Tr_noteHoles_77 ?_
            refine xr_iload_n C 3 d_Tr_noteHoles_78 rfl hl3 ?_
            refine xr_ishl C d_Tr_noteHoles_79 ?_
            rw [zI_shl1 (by omega)]
            refine xr_goto (tgt := 84) C d_Tr_noteHoles_80 (by decide) ?_
            refine xr_ior C d_Tr_noteHoles_84 ?_
            first
              | rw [zI_orp (by omega) (hbS_in _ i)]
              | rw [zI_or0]
            refine xr_eqz (y := hbS (fun h => decide (0 < tmH mk fs sn hc x h)) (i + 1)) (by
              simp only [hbS]
              first
                | rw [if_pos (by simp; omega)]
                | rw [if_neg (by simp; omega), Int.add_zero]) ?_
            refine xr_istore_n C 2 d_Tr_noteHoles_85 rfl (by decide) ?_
            refine xr_iinc C d_Tr_noteHoles_86 (by decide) hl3 ?_
            refine xr_goto (tgt := 4) C d_Tr_noteHoles_89 (by decide) ?_
            rw [bx_uu]
            exact ih (i + 1) _ _ (by omega) (by omega) hl0 hl1 rfl rfl (fun h h1 => by
              by_cases e : h = i
              · rw [e]; simp [va_up]
              · simp [va_up, e]
                exact hin h (by omega)) (fun j hj => by
              simp [va_up, show j ≠ x * 6 + i by omega]
              exact hout j hj)
  refine xr_iconst C d_Tr_noteHoles_0 ?_
  refine xr_istore_n C 2 d_Tr_noteHoles_1 rfl (by decide) ?_
  refine xr_iconst C d_Tr_noteHoles_2 ?_
  refine xr_istore_n C 3 d_Tr_noteHoles_3 rfl (by decide) ?_
  have hid : w = va_up w 9 (xIA (cA 0) 1800 hc) := by
    funext j
    by_cases hj : j = 9
    · rw [hj, hw9]; simp [va_up]
    · simp [va_up, hj]
  rw [hid]
  exact lp 7 0 hc _ (by omega) (by omega) rfl rfl rfl rfl (fun h h1 => by omega) (fun j _ => rfl)
end
section
/-! the table of trees as mathematics: how many, their signs, first and second parts, weights, places, depths, masks of holes -/
abbrev xS := Nat × (Nat → Int) × (Nat → Int) × (Nat → Int) × (Nat → Int) × (Nat → Int) × (Nat → Int) × (Nat → Int)
abbrev sN (S : xS) : Nat := S.1
abbrev sSg (S : xS) : Nat → Int := S.2.1
abbrev sFs (S : xS) : Nat → Int := S.2.2.1
abbrev sSn (S : xS) : Nat → Int := S.2.2.2.1
abbrev sWt (S : xS) : Nat → Int := S.2.2.2.2.1
abbrev sPl (S : xS) : Nat → Int := S.2.2.2.2.2.1
abbrev sDp (S : xS) : Nat → Int := S.2.2.2.2.2.2.1
abbrev sHo (S : xS) : Nat → Int := S.2.2.2.2.2.2.2
/-- a leaf's sign is 100 and its name, a hole's 200 and its name, a node's its head; what head() answers of it -/
def um (s : Int) : Int := if 200 ≤ s then s - 100 else if 100 ≤ s then 99 - s else s
/-- sign and parts of a tree below j go together -/
def shp (s a b : Int) (j : Nat) : Prop := (100 ≤ s ∧ s < 120 ∧ a = -1 ∧ b = -1) ∨ (200 ≤ s ∧ s < 206 ∧ a = -1 ∧ b = -1) ∨ (0 ≤ s ∧ s < 6 ∧ 0 ≤ a ∧ a < j ∧ b = -1) ∨ (6 ≤ s ∧ s < 12 ∧ 0 ≤ a ∧ a < j ∧ 0 ≤ b ∧ b < j)
/-- all trees within, itself first, then those of its first part, then those of its second one -/
def ly (fs sn : Nat → Int) (j : Nat) : List Nat :=
  j :: ((if h : 0 ≤ fs j ∧ fs j < j then ly fs sn (fs j).toNat else []) ++ (if h : 0 ≤ sn j ∧ sn j < j then ly fs sn (sn j).toNat else []))
termination_by j
decreasing_by all_goals omega
theorem ly_eq (fs sn : Nat → Int) (j : Nat) : ly fs sn j = j :: ((if 0 ≤ fs j ∧ fs j < j then ly fs sn (fs j).toNat else []) ++ (if 0 ≤ sn j ∧ sn j < j then ly fs sn (sn j).toNat else [])) := by
  rw [ly]
  congr 1
theorem ly_same {fs sn fs' sn' : Nat → Int} {t : Nat} (hf : ∀ j, j < t → fs' j = fs j) (hs : ∀ j, j < t → sn' j = sn j) : ∀ j, j < t → ly fs' sn' j = ly fs sn j := by
  intro j
  induction j using Nat.strongRecOn with
  | ind j ih =>
    intro hj
    rw [ly_eq fs' sn' j, ly_eq fs sn j, hf j hj, hs j hj]
    congr 1
    congr 1
    · split
      · exact ih _ (by omega) (by omega)
      · rfl
    · split
      · exact ih _ (by omega) (by omega)
      · rfl
theorem ly_lt {fs sn : Nat → Int} : ∀ j, ∀ i ∈ ly fs sn j, i ≤ j := by
  intro j
  induction j using Nat.strongRecOn with
  | ind j ih =>
    intro i hi
    rw [ly_eq] at hi
    rcases List.mem_cons.mp hi with rfl | hi
    · exact Nat.le_refl _
    · rcases List.mem_append.mp hi with hi | hi
      · split at hi
        · have := ih _ (by omega) i hi
          omega
        · simp at hi
      · split at hi
        · have := ih _ (by omega) i hi
          omega
        · simp at hi
/-- how often the hole h stands in the tree j -/
def cnt (S : xS) (j h : Nat) : Int := ((((ly (sFs S) (sSn S) j).filter (fun i => decide (sSg S i = 200 + (h : Int)))).length : Nat) : Int)
def cntN (S : xS) (s a b : Int) (h : Nat) : Int := (if s = 200 + (h : Int) then 1 else 0) + (if a < 0 then 0 else cnt S a.toNat h) + (if b < 0 then 0 else cnt S b.toNat h)
def c3 (s : Int) : Int := if s % 3 = 2 then 1 else 0
theorem c3_in (s : Int) : 0 ≤ c3 s ∧ c3 s ≤ 1 := by unfold c3; split <;> omega
def nWt (f : Nat → Int) (s a b : Int) : Int := if 100 ≤ s then 1 else 1 + c3 s + f a.toNat + (if 6 ≤ s then f b.toNat else 0)
theorem nWt_0 {f : Nat → Int} {s a b : Int} (h : 100 ≤ s) : nWt f s a b = 1 := if_pos h
theorem nWt_1 {f : Nat → Int} {s a b : Int} (h : s < 6) : nWt f s a b = 1 + c3 s + f a.toNat := by unfold nWt; rw [if_neg (by omega : ¬ 100 ≤ s), if_neg (by omega : ¬ 6 ≤ s), Int.add_zero]
theorem nWt_2 {f : Nat → Int} {s a b : Int} (h : 6 ≤ s) (h2 : s < 100) : nWt f s a b = 1 + c3 s + f a.toNat + f b.toNat := by unfold nWt; rw [if_neg (by omega : ¬ 100 ≤ s), if_pos h]
def nPl (f : Nat → Int) (s a b : Int) : Int := if 100 ≤ s then 1 else 1 + f a.toNat + (if 6 ≤ s then f b.toNat else 0)
theorem nPl_0 {f : Nat → Int} {s a b : Int} (h : 100 ≤ s) : nPl f s a b = 1 := if_pos h
theorem nPl_1 {f : Nat → Int} {s a b : Int} (h : s < 6) : nPl f s a b = 1 + f a.toNat := by unfold nPl; rw [if_neg (by omega : ¬ 100 ≤ s), if_neg (by omega : ¬ 6 ≤ s), Int.add_zero]
theorem nPl_2 {f : Nat → Int} {s a b : Int} (h : 6 ≤ s) (h2 : s < 100) : nPl f s a b = 1 + f a.toNat + f b.toNat := by unfold nPl; rw [if_neg (by omega : ¬ 100 ≤ s), if_pos h]
def nDp (f : Nat → Int) (s a b : Int) : Int := if 100 ≤ s then 0 else 1 + (if 6 ≤ s then max (f a.toNat) (f b.toNat) else f a.toNat)
theorem nDp_0 {f : Nat → Int} {s a b : Int} (h : 100 ≤ s) : nDp f s a b = 0 := if_pos h
theorem nDp_1 {f : Nat → Int} {s a b : Int} (h : s < 6) : nDp f s a b = 1 + f a.toNat := by unfold nDp; rw [if_neg (by omega : ¬ 100 ≤ s), if_neg (by omega : ¬ 6 ≤ s)]
theorem nDp_2 {f : Nat → Int} {s a b : Int} (h : 6 ≤ s) (h2 : s < 100) : nDp f s a b = 1 + max (f a.toNat) (f b.toNat) := by unfold nDp; rw [if_neg (by omega : ¬ 100 ≤ s), if_pos h]
def nHo (S : xS) (s a b : Int) : Int := hbS (fun h => decide (0 < cntN S s a b h)) 6
def okN (S : xS) (j : Nat) : Prop := shp (sSg S j) (sFs S j) (sSn S j) j ∧ sWt S j = nWt (sWt S) (sSg S j) (sFs S j) (sSn S j) ∧ sPl S j = nPl (sPl S) (sSg S j) (sFs S j) (sSn S j) ∧ sDp S j = nDp (sDp S) (sSg S j) (sFs S j) (sSn S j) ∧ sHo S j = hbS (fun h => decide (0 < cnt S j h)) 6 ∧ (1 ≤ sPl S j ∧ sPl S j ≤ sWt S j ∧ sWt S j ≤ 1000 ∧ 0 ≤ sDp S j ∧ sDp S j ≤ 30)
/-- a good table -/
def Tb (S : xS) : Prop := sN S ≤ 300 ∧ (∀ j, j < sN S → okN S j) ∧ ∀ i j, i < sN S → j < sN S → sSg S i = sSg S j → sFs S i = sFs S j → sSn S i = sSn S j → i = j
def isT (S : xS) (s a b : Int) (j : Nat) : Prop := sSg S j = s ∧ sFs S j = a ∧ sSn S j = b
def fnd (S : xS) (s a b : Int) : Option Nat := (List.range (sN S)).find? (fun j => decide (sSg S j = s ∧ sFs S j = a ∧ sSn S j = b))
def psh (S : xS) (s a b : Int) : xS := (sN S + 1, va_up (sSg S) (sN S) s, va_up (sFs S) (sN S) a, va_up (sSn S) (sN S) b, va_up (sWt S) (sN S) (nWt (sWt S) s a b), va_up (sPl S) (sN S) (nPl (sPl S) s a b), va_up (sDp S) (sN S) (nDp (sDp S) s a b), va_up (sHo S) (sN S) (nHo S s a b))
def lim (S : xS) (s a b : Int) : Prop := 300 ≤ sN S ∨ 1000 < nWt (sWt S) s a b ∨ 30 < nDp (sDp S) s a b
/-- the tree with this sign and these parts, made if it isn't there; -1 if it may not be -/
def mkT (S : xS) (s a b : Int) : Int × xS := match fnd S s a b with
  | some j => ((j : Int), S)
  | none => if 300 ≤ sN S ∨ 1000 < nWt (sWt S) s a b ∨ 30 < nDp (sDp S) s a b then (-1, S) else ((sN S : Int), psh S s a b)
theorem fnd_some {S : xS} {s a b : Int} {j : Nat} (h : fnd S s a b = some j) : j < sN S ∧ isT S s a b j := by
  have h1 := List.find?_some h
  have h2 := List.mem_of_find?_eq_some h
  simp at h1 h2
  exact ⟨h2, h1⟩
theorem fnd_none {S : xS} {s a b : Int} (h : fnd S s a b = none) : ∀ j, j < sN S → ¬ isT S s a b j := by
  intro j hj hT
  have := List.find?_eq_none.mp h j (List.mem_range.mpr hj)
  simp at this
  exact this hT.1 hT.2.1 hT.2.2
theorem fnd_of {S : xS} {s a b : Int} {j : Nat} (hT : Tb S) (hj : j < sN S) (h : isT S s a b j) : fnd S s a b = some j := by
  cases e : fnd S s a b with
  | none => exact absurd h (fnd_none e j hj)
  | some i =>
    obtain ⟨h1, h2⟩ := fnd_some e
    rw [hT.2.2 i j h1 hj (h2.1.trans h.1.symm) (h2.2.1.trans h.2.1.symm) (h2.2.2.trans h.2.2.symm)]
theorem fnd_not {S : xS} {s a b : Int} (h : ∀ j, j < sN S → ¬ isT S s a b j) : fnd S s a b = none := by
  cases e : fnd S s a b with
  | none => rfl
  | some i => exact absurd (fnd_some e).2 (h i (fnd_some e).1)
theorem shp_a {s a b : Int} {j : Nat} (h : shp s a b j) : (-1 ≤ a ∧ a < j) ∧ (-1 ≤ b ∧ b < j) := by
  unfold shp at h
  omega
theorem um_in {s a b : Int} {j : Nat} (h : shp s a b j) : -20 ≤ um s ∧ um s ≤ 105 := by
  unfold shp at h
  unfold um
  split
  · omega
  · split <;> omega
theorem um_inj {s a b s' a' b' : Int} {j j' : Nat} (h : shp s a b j) (h' : shp s' a' b' j') (e : um s = um s') : s = s' := by
  unfold shp at h h'
  unfold um at e
  split at e <;> split at e <;> (try split at e) <;> (try split at e) <;> omega
theorem cnt_same {S S' : xS} {t : Nat} (hg : ∀ j, j < t → sSg S' j = sSg S j) (hf : ∀ j, j < t → sFs S' j = sFs S j) (hs : ∀ j, j < t → sSn S' j = sSn S j) (j h : Nat) (hj : j < t) : cnt S' j h = cnt S j h := by
  unfold cnt
  rw [ly_same hf hs j hj]
  congr 2
  apply List.filter_congr
  intro i hi
  have := ly_lt j i hi
  rw [hg i (by omega)]
theorem cnt_eq {S : xS} {j : Nat} (h : shp (sSg S j) (sFs S j) (sSn S j) j) (i : Nat) : cnt S j i = cntN S (sSg S j) (sFs S j) (sSn S j) i := by
  have ha := shp_a h
  unfold cntN
  have e : cnt S j i = ((((ly (sFs S) (sSn S) j).filter (fun q => decide (sSg S q = 200 + (i : Int)))).length : Nat) : Int) := rfl
  rw [e, ly_eq, List.filter_cons, List.filter_append]
  have e1 : (((if 0 ≤ sFs S j ∧ sFs S j < j then ly (sFs S) (sSn S) (sFs S j).toNat else []).filter (fun q => decide (sSg S q = 200 + (i : Int)))).length : Int) = (if sFs S j < 0 then 0 else cnt S (sFs S j).toNat i) := by
    by_cases hc : sFs S j < 0
    · rw [if_pos hc, if_neg (by omega)]; rfl
    · rw [if_neg hc, if_pos (by omega)]; rfl
  have e2 : (((if 0 ≤ sSn S j ∧ sSn S j < j then ly (sFs S) (sSn S) (sSn S j).toNat else []).filter (fun q => decide (sSg S q = 200 + (i : Int)))).length : Int) = (if sSn S j < 0 then 0 else cnt S (sSn S j).toNat i) := by
    by_cases hc : sSn S j < 0
    · rw [if_pos hc, if_neg (by omega)]; rfl
    · rw [if_neg hc, if_pos (by omega)]; rfl
  rw [← e1, ← e2]
  by_cases hc : sSg S j = 200 + (i : Int)
  · rw [if_pos hc]
    simp [hc]
    omega
  · rw [if_neg hc]
    simp [hc]
theorem ly_len {S : xS} (hT : Tb S) : ∀ j, j < sN S → ((ly (sFs S) (sSn S) j).length : Int) = sPl S j := by
  intro j
  induction j using Nat.strongRecOn with
  | ind j ih =>
    intro hj
    obtain ⟨h1, -, h3, -⟩ := hT.2.1 j hj
    rw [h3, ly_eq, List.length_cons, List.length_append]
    unfold nPl
    unfold shp at h1
    rcases h1 with h | h | h | h
    · rw [if_neg (by omega), if_neg (by omega), if_pos (by omega)]; simp
    · rw [if_neg (by omega), if_neg (by omega), if_pos (by omega)]; simp
    · rw [if_pos (by omega), if_neg (by omega), if_neg (by omega), if_neg (by omega)]
      have := ih (sFs S j).toNat (by omega) (by omega)
      simp
      omega
    · rw [if_pos (by omega), if_pos (by omega), if_neg (by omega), if_pos (by omega)]
      have a1 := ih (sFs S j).toNat (by omega) (by omega)
      have a2 := ih (sSn S j).toNat (by omega) (by omega)
      simp
      omega
theorem cnt_in {S : xS} (hT : Tb S) {j : Nat} (hj : j < sN S) (h : Nat) : 0 ≤ cnt S j h ∧ cnt S j h ≤ 1000 := by
  have h1 := ly_len hT j hj
  obtain ⟨-, -, -, -, -, h2⟩ := hT.2.1 j hj
  have h3 : ((ly (sFs S) (sSn S) j).filter (fun i => decide (sSg S i = 200 + (h : Int)))).length ≤ (ly (sFs S) (sSn S) j).length := List.length_filter_le _ _
  unfold cnt
  omega
end
section
/-! how the system holds the table -/
def slot (s a b : Int) : Int := ((um s * 31 + a) * 31 + b) % 512
def slS (S : xS) (j : Nat) : Int := slot (sSg S j) (sFs S j) (sSn S j)
/-- v is the greatest tree below t of the slot q, or -1 -/
def hdS (S : xS) (q : Int) (t : Nat) (v : Int) : Prop := (v = -1 ∧ ∀ i, i < t → slS S i ≠ q) ∨ (0 ≤ v ∧ v < t ∧ slS S v.toNat = q ∧ ∀ i : Nat, v < i → i < t → slS S i ≠ q)
def TC (S : xS) (mk fs sn wt pl dp ho hc nw od : Nat → Int) : Prop :=
  (∀ j, j < sN S → mk j = um (sSg S j) ∧ fs j = sFs S j ∧ sn j = sSn S j ∧ wt j = sWt S j ∧ pl j = sPl S j ∧ dp j = sDp S j ∧ ho j = sHo S j) ∧
  (∀ j h, j < sN S → h < 6 → hc (j * 6 + h) = cnt S j h) ∧
  (∀ j, (-200 ≤ mk j ∧ mk j ≤ 200) ∧ (-1 ≤ fs j ∧ fs j < 300) ∧ (-1 ≤ sn j ∧ sn j < 300) ∧ (0 ≤ wt j ∧ wt j ≤ 1000) ∧ (0 ≤ pl j ∧ pl j ≤ 1000) ∧ (0 ≤ dp j ∧ dp j ≤ 30) ∧ (0 ≤ ho j ∧ ho j < 64) ∧ (0 ≤ hc j ∧ hc j ≤ 1000) ∧ (-1 ≤ nw j ∧ nw j < 300) ∧ (-1 ≤ od j ∧ od j < 300)) ∧
  (∀ q : Nat, q < 512 → hdS S q (sN S) (nw q)) ∧ (∀ j, j < sN S → hdS S (slS S j) j (od j))
def CT (ad : Nat → Nat) (cA : Nat → ClassId) (w : Nat → va_E) (S : xS) : Prop := ∃ mk fs sn wt pl dp ho hc nw od : Nat → Int, w 1 = trO ad (sN S : Int) ∧ w 2 = xIA (cA 0) 300 mk ∧ w 3 = xIA (cA 0) 300 fs ∧ w 4 = xIA (cA 0) 300 sn ∧ w 5 = xIA (cA 0) 300 wt ∧ w 6 = xIA (cA 0) 300 pl ∧ w 7 = xIA (cA 0) 300 dp ∧ w 8 = xIA (cA 0) 300 ho ∧ w 9 = xIA (cA 0) 1800 hc ∧ w 10 = xIA (cA 0) 512 nw ∧ w 11 = xIA (cA 0) 300 od ∧ TC S mk fs sn wt pl dp ho hc nw od
theorem nWt_same {f f' : Nat → Int} {s a b : Int} {j : Nat} (h : ∀ i, i < j → f' i = f i) (hs : shp s a b j) : nWt f' s a b = nWt f s a b := by
  unfold shp at hs
  rcases hs with q | q | q | q
  · rw [nWt_0 (by omega), nWt_0 (by omega)]
  · rw [nWt_0 (by omega), nWt_0 (by omega)]
  · rw [nWt_1 (by omega), nWt_1 (by omega), h a.toNat (by omega)]
  · rw [nWt_2 (by omega) (by omega), nWt_2 (by omega) (by omega), h a.toNat (by omega), h b.toNat (by omega)]
theorem nPl_same {f f' : Nat → Int} {s a b : Int} {j : Nat} (h : ∀ i, i < j → f' i = f i) (hs : shp s a b j) : nPl f' s a b = nPl f s a b := by
  unfold shp at hs
  rcases hs with q | q | q | q
  · rw [nPl_0 (by omega), nPl_0 (by omega)]
  · rw [nPl_0 (by omega), nPl_0 (by omega)]
  · rw [nPl_1 (by omega), nPl_1 (by omega), h a.toNat (by omega)]
  · rw [nPl_2 (by omega) (by omega), nPl_2 (by omega) (by omega), h a.toNat (by omega), h b.toNat (by omega)]
theorem nDp_same {f f' : Nat → Int} {s a b : Int} {j : Nat} (h : ∀ i, i < j → f' i = f i) (hs : shp s a b j) : nDp f' s a b = nDp f s a b := by
  unfold shp at hs
  rcases hs with q | q | q | q
  · rw [nDp_0 (by omega), nDp_0 (by omega)]
  · rw [nDp_0 (by omega), nDp_0 (by omega)]
  · rw [nDp_1 (by omega), nDp_1 (by omega), h a.toNat (by omega)]
  · rw [nDp_2 (by omega) (by omega), nDp_2 (by omega) (by omega), h a.toNat (by omega), h b.toNat (by omega)]
theorem shp_mono {s a b : Int} {j k : Nat} (h : shp s a b j) (hk : j ≤ k) : shp s a b k := by
  unfold shp at *
  omega
theorem va_ne {α : Type} {f : Nat → α} {k j : Nat} {v : α} (h : j ≠ k) : va_up f k v j = f j := by simp [va_up, h]
theorem va_eq {α : Type} {f : Nat → α} {k : Nat} {v : α} : va_up f k v k = v := by simp [va_up]
section Push
variable {S : xS} {s a b : Int}
theorem psh_old (j : Nat) (hj : j < sN S) : sSg (psh S s a b) j = sSg S j ∧ sFs (psh S s a b) j = sFs S j ∧ sSn (psh S s a b) j = sSn S j ∧ sWt (psh S s a b) j = sWt S j ∧ sPl (psh S s a b) j = sPl S j ∧ sDp (psh S s a b) j = sDp S j ∧ sHo (psh S s a b) j = sHo S j := by
  have : j ≠ sN S := by omega
  exact ⟨va_ne this, va_ne this, va_ne this, va_ne this, va_ne this, va_ne this, va_ne this⟩
theorem psh_new : sSg (psh S s a b) (sN S) = s ∧ sFs (psh S s a b) (sN S) = a ∧ sSn (psh S s a b) (sN S) = b ∧ sWt (psh S s a b) (sN S) = nWt (sWt S) s a b ∧ sPl (psh S s a b) (sN S) = nPl (sPl S) s a b ∧ sDp (psh S s a b) (sN S) = nDp (sDp S) s a b ∧ sHo (psh S s a b) (sN S) = nHo S s a b :=
  ⟨va_eq, va_eq, va_eq, va_eq, va_eq, va_eq, va_eq⟩
theorem psh_cnt (j h : Nat) (hj : j < sN S) : cnt (psh S s a b) j h = cnt S j h := cnt_same (fun i hi => (psh_old i hi).1) (fun i hi => (psh_old i hi).2.1) (fun i hi => (psh_old i hi).2.2.1) j h hj
theorem psh_cntN (hs : shp s a b (sN S)) (h : Nat) : cnt (psh S s a b) (sN S) h = cntN S s a b h := by
  obtain ⟨e1, e2, e3, -⟩ := psh_new (S := S) (s := s) (a := a) (b := b)
  have ha := shp_a hs
  rw [cnt_eq (by rw [e1, e2, e3]; exact hs), e1, e2, e3]
  unfold cntN
  congr 1
  · congr 1
    split
    · rfl
    · exact psh_cnt _ _ (by omega)
  · split
    · rfl
    · exact psh_cnt _ _ (by omega)
theorem tb_push (hT : Tb S) (hs : shp s a b (sN S)) (hf : fnd S s a b = none) (hl : ¬ (300 ≤ sN S ∨ 1000 < nWt (sWt S) s a b ∨ 30 < nDp (sDp S) s a b)) : Tb (psh S s a b) := by
  obtain ⟨h1, h2, h3⟩ := hT
  refine ⟨by show sN S + 1 ≤ 300; omega, fun j hj => ?_, fun i j hi hj e1 e2 e3 => ?_⟩
  · by_cases hjt : j = sN S
    · subst hjt
      obtain ⟨n1, n2, n3, n4, n5, n6, n7⟩ := psh_new (S := S) (s := s) (a := a) (b := b)
      have W : ∀ i, i < sN S → sWt (psh S s a b) i = sWt S i := fun i hi => (psh_old i hi).2.2.2.1
      have P : ∀ i, i < sN S → sPl (psh S s a b) i = sPl S i := fun i hi => (psh_old i hi).2.2.2.2.1
      have Dd : ∀ i, i < sN S → sDp (psh S s a b) i = sDp S i := fun i hi => (psh_old i hi).2.2.2.2.2.1
      refine ⟨by rw [n1, n2, n3]; exact hs, by rw [n1, n2, n3, n4, nWt_same W hs], by rw [n1, n2, n3, n5, nPl_same P hs], by rw [n1, n2, n3, n6, nDp_same Dd hs], ?_, ?_⟩
      · rw [n7]
        unfold nHo
        congr 1
        funext h
        rw [psh_cntN hs]
      · rw [n4, n5, n6]
        have hl1 : ¬ 1000 < nWt (sWt S) s a b := fun q => hl (Or.inr (Or.inl q))
        have hl2 : ¬ 30 < nDp (sDp S) s a b := fun q => hl (Or.inr (Or.inr q))
        have h3s := c3_in s
        unfold shp at hs
        rcases hs with q | q | q | q
        · rw [nWt_0 (by omega), nPl_0 (by omega), nDp_0 (by omega)]; omega
        · rw [nWt_0 (by omega), nPl_0 (by omega), nDp_0 (by omega)]; omega
        · obtain ⟨-, -, -, -, -, b1⟩ := h2 a.toNat (by omega)
          rw [nWt_1 (by omega)] at hl1 ⊢
          rw [nDp_1 (by omega)] at hl2 ⊢
          rw [nPl_1 (by omega)]
          omega
        · obtain ⟨-, -, -, -, -, b1⟩ := h2 a.toNat (by omega)
          obtain ⟨-, -, -, -, -, b2⟩ := h2 b.toNat (by omega)
          rw [nWt_2 (by omega) (by omega)] at hl1 ⊢
          rw [nDp_2 (by omega) (by omega)] at hl2 ⊢
          rw [nPl_2 (by omega) (by omega)]
          omega
    · have hj : j < sN S := by have : j < sN S + 1 := hj; omega
      obtain ⟨o1, o2, o3, o4, o5, o6, o7⟩ := psh_old (S := S) (s := s) (a := a) (b := b) j hj
      obtain ⟨k1, k2, k3, k4, k5, k6⟩ := h2 j hj
      have W : ∀ i, i < j → sWt (psh S s a b) i = sWt S i := fun i hi => (psh_old i (by omega)).2.2.2.1
      have P : ∀ i, i < j → sPl (psh S s a b) i = sPl S i := fun i hi => (psh_old i (by omega)).2.2.2.2.1
      have Dd : ∀ i, i < j → sDp (psh S s a b) i = sDp S i := fun i hi => (psh_old i (by omega)).2.2.2.2.2.1
      refine ⟨by rw [o1, o2, o3]; exact k1, by rw [o1, o2, o3, o4, nWt_same W k1]; exact k2, by rw [o1, o2, o3, o5, nPl_same P k1]; exact k3, by rw [o1, o2, o3, o6, nDp_same Dd k1]; exact k4, ?_, by rw [o4, o5, o6]; exact k6⟩
      rw [o7, k5]
      congr 1
      funext h
      rw [psh_cnt _ _ hj]
  · have hi : i < sN S + 1 := hi
    have hj : j < sN S + 1 := hj
    obtain ⟨n1, n2, n3, -⟩ := psh_new (S := S) (s := s) (a := a) (b := b)
    by_cases hit : i = sN S
    · by_cases hjt : j = sN S
      · omega
      · obtain ⟨o1, o2, o3, -⟩ := psh_old (S := S) (s := s) (a := a) (b := b) j (by omega)
        rw [hit, n1, o1] at e1
        rw [hit, n2, o2] at e2
        rw [hit, n3, o3] at e3
        exact absurd ⟨e1.symm, e2.symm, e3.symm⟩ (fnd_none hf j (by omega))
    · obtain ⟨p1, p2, p3, -⟩ := psh_old (S := S) (s := s) (a := a) (b := b) i (by omega)
      by_cases hjt : j = sN S
      · rw [hjt, n1, p1] at e1
        rw [hjt, n2, p2] at e2
        rw [hjt, n3, p3] at e3
        exact absurd ⟨e1, e2, e3⟩ (fnd_none hf i (by omega))
      · obtain ⟨o1, o2, o3, -⟩ := psh_old (S := S) (s := s) (a := a) (b := b) j (by omega)
        exact h3 i j (by omega) (by omega) (by rw [← p1, ← o1]; exact e1) (by rw [← p2, ← o2]; exact e2) (by rw [← p3, ← o3]; exact e3)
end Push
theorem slot_in (s a b : Int) : 0 ≤ slot s a b ∧ slot s a b < 512 := by
  unfold slot
  omega
theorem hbS_64 (f : Nat → Bool) : 0 ≤ hbS f 6 ∧ hbS f 6 < 64 := hbS_in f 6
theorem tc_push {S : xS} {s a b : Int} {mk fs sn wt pl dp ho hc nw od hc' : Nat → Int} (h : TC S mk fs sn wt pl dp ho hc nw od) (hT : Tb S) (hs : shp s a b (sN S)) (hf : fnd S s a b = none) (hl : ¬ (300 ≤ sN S ∨ 1000 < nWt (sWt S) s a b ∨ 30 < nDp (sDp S) s a b))
    (hn : ∀ i, i < 6 → hc' (sN S * 6 + i) = cntN S s a b i) (ho' : ∀ j, (j < sN S * 6 ∨ sN S * 6 + 6 ≤ j) → hc' j = hc j) :
    TC (psh S s a b) (va_up mk (sN S) (um s)) (va_up fs (sN S) a) (va_up sn (sN S) b) (va_up wt (sN S) (nWt (sWt S) s a b)) (va_up pl (sN S) (nPl (sPl S) s a b)) (va_up dp (sN S) (nDp (sDp S) s a b)) (va_up ho (sN S) (nHo S s a b)) hc' (va_up nw (slot s a b).toNat (sN S : Int)) (va_up od (sN S) (nw (slot s a b).toNat)) := by
  have hT' := tb_push hT hs hf hl
  obtain ⟨h1, h2, h3, h4, h5⟩ := h
  have hsl := slot_in s a b
  obtain ⟨n1, n2, n3, n4, n5, n6, n7⟩ := psh_new (S := S) (s := s) (a := a) (b := b)
  have slN : slS (psh S s a b) (sN S) = slot s a b := by unfold slS; rw [n1, n2, n3]
  have slO : ∀ i, i < sN S → slS (psh S s a b) i = slS S i := fun i hi => by
    obtain ⟨o1, o2, o3, -⟩ := psh_old (S := S) (s := s) (a := a) (b := b) i hi
    unfold slS
    rw [o1, o2, o3]
  have hdO : ∀ (q : Int) (t : Nat) (v : Int), t ≤ sN S → hdS S q t v → hdS (psh S s a b) q t v := by
    intro q t v ht hv
    rcases hv with ⟨e, hv⟩ | ⟨e1, e2, e3, e4⟩
    · exact Or.inl ⟨e, fun i hi => by rw [slO i (by omega)]; exact hv i hi⟩
    · exact Or.inr ⟨e1, e2, by rw [slO _ (by omega)]; exact e3, fun i g1 g2 => by rw [slO i (by omega)]; exact e4 i g1 g2⟩
  refine ⟨fun j hj => ?_, fun j i hj hi => ?_, fun j => ?_, fun q hq => ?_, fun j hj => ?_⟩
  · by_cases hjt : j = sN S
    · subst hjt
      exact ⟨by rw [va_eq, n1], by rw [va_eq, n2], by rw [va_eq, n3], by rw [va_eq, n4], by rw [va_eq, n5], by rw [va_eq, n6], by rw [va_eq, n7]⟩
    · have hj : j < sN S := by have : j < sN S + 1 := hj; omega
      obtain ⟨o1, o2, o3, o4, o5, o6, o7⟩ := psh_old (S := S) (s := s) (a := a) (b := b) j hj
      obtain ⟨k1, k2, k3, k4, k5, k6, k7⟩ := h1 j hj
      exact ⟨by rw [va_ne hjt, o1, k1], by rw [va_ne hjt, o2, k2], by rw [va_ne hjt, o3, k3], by rw [va_ne hjt, o4, k4], by rw [va_ne hjt, o5, k5], by rw [va_ne hjt, o6, k6], by rw [va_ne hjt, o7, k7]⟩
  · by_cases hjt : j = sN S
    · subst hjt
      rw [hn i hi, psh_cntN hs]
    · have hj : j < sN S := by have : j < sN S + 1 := hj; omega
      rw [ho' _ (Or.inl (by omega)), psh_cnt _ _ hj]
      exact h2 j i hj hi
  · obtain ⟨r1, r2, r3, r4, r5, r6, r7, r8, r9, r10⟩ := h3 j
    have hum := um_in hs
    have hab := shp_a hs
    obtain ⟨-, -, -, -, -, bb⟩ := hT'.2.1 (sN S) (by show sN S < sN S + 1; omega)
    rw [n4, n5, n6] at bb
    have hh := hbS_64 (fun h => decide (0 < cntN S s a b h))
    have r9' := (h3 (slot s a b).toNat).2.2.2.2.2.2.2.2.1
    have hc1 : 0 ≤ hc' j ∧ hc' j ≤ 1000 := by
      by_cases hj : j < sN S * 6 ∨ sN S * 6 + 6 ≤ j
      · rw [ho' j hj]; exact r8
      · have hx := hn (j - sN S * 6) (by omega)
        rw [show sN S * 6 + (j - sN S * 6) = j by omega] at hx
        rw [hx, ← psh_cntN hs]
        exact cnt_in hT' (by show sN S < sN S + 1; omega) _
    refine ⟨?_, ?_, ?_, ?_, ?_, ?_, ?_, hc1, ?_, ?_⟩
    · unfold va_up; split <;> omega
    · unfold va_up; split <;> omega
    · unfold va_up; split <;> omega
    · unfold va_up; split <;> omega
    · unfold va_up; split <;> omega
    · unfold va_up; split <;> omega
    · unfold va_up nHo; split <;> omega
    · unfold va_up; split <;> omega
    · unfold va_up; split <;> omega
  · show hdS (psh S s a b) q (sN S + 1) _
    by_cases hqs : q = (slot s a b).toNat
    · subst hqs
      rw [va_eq]
      refine Or.inr ⟨by omega, by omega, ?_, fun i g1 g2 => by omega⟩
      rw [show ((sN S : Int)).toNat = sN S by omega, slN]
      omega
    · rw [va_ne hqs]
      rcases h4 q hq with ⟨e, hv⟩ | ⟨e1, e2, e3, e4⟩
      · refine Or.inl ⟨e, fun i hi => ?_⟩
        by_cases hit : i = sN S
        · rw [hit, slN]; omega
        · rw [slO i (by omega)]; exact hv i (by omega)
      · refine Or.inr ⟨e1, by omega, by rw [slO _ (by omega)]; exact e3, fun i g1 g2 => ?_⟩
        by_cases hit : i = sN S
        · rw [hit, slN]; omega
        · rw [slO i (by omega)]; exact e4 i g1 (by omega)
  · by_cases hjt : j = sN S
    · subst hjt
      rw [va_eq, slN]
      have := h4 (slot s a b).toNat (by omega)
      rw [show (((slot s a b).toNat : Nat) : Int) = slot s a b by omega] at this
      exact hdO _ _ _ (Nat.le_refl _) this
    · have hj : j < sN S := by have : j < sN S + 1 := hj; omega
      rw [va_ne hjt, slO j hj]
      exact hdO _ _ _ (by omega) (h5 j hj)
end
section
theorem xr_namew {G : xG} {n : Nat} {ad : Nat → Nat} {w : Nat → va_E} {a b pc : Nat} {lv : Nat → Option Value} {st : List Value} (K : ∀ w1, w1 = w → XW G n ad w1 a b pc lv st) : XW G n ad w a b pc lv st := K w rfl
theorem ent_wt {S : xS} {s a b : Int} {wt : Nat → Int} (hs : shp s a b (sN S)) (h : ∀ j, j < sN S → wt j = sWt S j) : (if 0 ≤ um s ∧ um s < 12 ∧ um s % 3 = 2 then 2 else 1) + (if a < 0 then 0 else wt a.toNat) + (if b < 0 then 0 else wt b.toNat) = nWt (sWt S) s a b := by
  unfold shp at hs
  rcases hs with q | q | q | q
  · rw [nWt_0 (by omega), if_pos (by omega : a < 0), if_pos (by omega : b < 0), if_neg]; · rfl
    unfold um
    rw [if_neg (by omega), if_pos (by omega)]
    omega
  · rw [nWt_0 (by omega), if_pos (by omega : a < 0), if_pos (by omega : b < 0), if_neg]; · rfl
    unfold um
    rw [if_pos (by omega)]
    omega
  · have e : um s = s := by unfold um; rw [if_neg (by omega), if_neg (by omega)]
    rw [nWt_1 (by omega), if_neg (by omega : ¬ a < 0), if_pos (by omega : b < 0), h _ (by omega), e]
    unfold c3
    by_cases h3 : s % 3 = 2
    · rw [if_pos (by omega : 0 ≤ s ∧ s < 12 ∧ s % 3 = 2), if_pos h3]; omega
    · rw [if_neg (by omega : ¬ (0 ≤ s ∧ s < 12 ∧ s % 3 = 2)), if_neg h3]; omega
  · have e : um s = s := by unfold um; rw [if_neg (by omega), if_neg (by omega)]
    rw [nWt_2 (by omega) (by omega), if_neg (by omega : ¬ a < 0), if_neg (by omega : ¬ b < 0), h _ (by omega), h _ (by omega), e]
    unfold c3
    by_cases h3 : s % 3 = 2
    · rw [if_pos (by omega : 0 ≤ s ∧ s < 12 ∧ s % 3 = 2), if_pos h3]; omega
    · rw [if_neg (by omega : ¬ (0 ≤ s ∧ s < 12 ∧ s % 3 = 2)), if_neg h3]; omega
theorem ent_dp {S : xS} {s a b : Int} {dp : Nat → Int} (hs : shp s a b (sN S)) (h : ∀ j, j < sN S → dp j = sDp S j) (h0 : ∀ j, 0 ≤ dp j) : 1 + max (if a < 0 then -1 else dp a.toNat) (if b < 0 then -1 else dp b.toNat) = nDp (sDp S) s a b := by
  unfold shp at hs
  rcases hs with q | q | q | q
  · rw [nDp_0 (by omega), if_pos (by omega : a < 0), if_pos (by omega : b < 0)]; rfl
  · rw [nDp_0 (by omega), if_pos (by omega : a < 0), if_pos (by omega : b < 0)]; rfl
  · have := h0 a.toNat
    rw [nDp_1 (by omega), if_neg (by omega : ¬ a < 0), if_pos (by omega : b < 0), ← h _ (by omega)]; omega
  · rw [nDp_2 (by omega) (by omega), if_neg (by omega : ¬ a < 0), if_neg (by omega : ¬ b < 0), h _ (by omega), h _ (by omega)]
theorem ent_pl {S : xS} {s a b : Int} {pl : Nat → Int} (hs : shp s a b (sN S)) (h : ∀ j, j < sN S → pl j = sPl S j) : 1 + (if a < 0 then 0 else pl a.toNat) + (if b < 0 then 0 else pl b.toNat) = nPl (sPl S) s a b := by
  unfold shp at hs
  rcases hs with q | q | q | q
  · rw [nPl_0 (by omega), if_pos (by omega : a < 0), if_pos (by omega : b < 0)]; rfl
  · rw [nPl_0 (by omega), if_pos (by omega : a < 0), if_pos (by omega : b < 0)]; rfl
  · rw [nPl_1 (by omega), if_neg (by omega : ¬ a < 0), if_pos (by omega : b < 0), h _ (by omega)]; omega
  · rw [nPl_2 (by omega) (by omega), if_neg (by omega : ¬ a < 0), if_neg (by omega : ¬ b < 0), h _ (by omega), h _ (by omega)]
theorem ent_hc {S : xS} {s a b : Int} {mk fs sn hc : Nat → Int} (hs : shp s a b (sN S)) (h : ∀ j i, j < sN S → i < 6 → hc (j * 6 + i) = cnt S j i) {i : Nat} (hi : i < 6) : tmH (va_up mk (sN S) (um s)) (va_up fs (sN S) a) (va_up sn (sN S) b) hc (sN S) i = cntN S s a b i := by
  have hab := shp_a hs
  unfold tmH cntN
  rw [va_eq, va_eq, va_eq]
  have e1 : (if um s = 100 + (i : Int) then (1 : Int) else 0) = (if s = 200 + (i : Int) then 1 else 0) := by
    have : um s = 100 + (i : Int) ↔ s = 200 + (i : Int) := by
      unfold shp at hs
      unfold um
      split
      · omega
      · split <;> omega
    by_cases q : s = 200 + (i : Int)
    · rw [if_pos q, if_pos (this.mpr q)]
    · rw [if_neg q, if_neg (fun z => q (this.mp z))]
  rw [e1]
  congr 1
  · congr 1
    split
    · rfl
    · exact h _ _ (by omega) hi
  · split
    · rfl
    · exact h _ _ (by omega) hi

theorem nWt_in {S : xS} {s a b : Int} (hT : Tb S) (hs : shp s a b (sN S)) : 0 ≤ nWt (sWt S) s a b ∧ nWt (sWt S) s a b ≤ 2002 := by
  have h3 := c3_in s
  unfold shp at hs
  rcases hs with q | q | q | q
  · rw [nWt_0 (by omega)]; omega
  · rw [nWt_0 (by omega)]; omega
  · obtain ⟨-, -, -, -, -, b1⟩ := hT.2.1 a.toNat (by omega)
    rw [nWt_1 (by omega)]; omega
  · obtain ⟨-, -, -, -, -, b1⟩ := hT.2.1 a.toNat (by omega)
    obtain ⟨-, -, -, -, -, b2⟩ := hT.2.1 b.toNat (by omega)
    rw [nWt_2 (by omega) (by omega)]; omega
theorem nDp_in {S : xS} {s a b : Int} (hT : Tb S) (hs : shp s a b (sN S)) : 0 ≤ nDp (sDp S) s a b ∧ nDp (sDp S) s a b ≤ 31 := by
  unfold shp at hs
  rcases hs with q | q | q | q
  · rw [nDp_0 (by omega)]; omega
  · rw [nDp_0 (by omega)]; omega
  · obtain ⟨-, -, -, -, -, b1⟩ := hT.2.1 a.toNat (by omega)
    rw [nDp_1 (by omega)]; omega
  · obtain ⟨-, -, -, -, -, b1⟩ := hT.2.1 a.toNat (by omega)
    obtain ⟨-, -, -, -, -, b2⟩ := hT.2.1 b.toNat (by omega)
    rw [nDp_2 (by omega) (by omega)]; omega
theorem hbS_eq' {f g : Nat → Bool} : ∀ k, (∀ i, i < k → f i = g i) → hbS f k = hbS g k := by
  intro k
  induction k with
  | zero => intro _; rfl
  | succ k ih => intro h; simp only [hbS]; rw [ih (fun i hi => h i (by omega)), h k (by omega)]
theorem hbS_eq {f g : Nat → Bool} (h : ∀ i, i < 6 → f i = g i) : hbS f 6 = hbS g 6 := hbS_eq' 6 h
set_option maxHeartbeats 4000000 in
set_option maxRecDepth 100000 in
theorem m_Tr_enter {L : Launch} {D : va_G} {cA : Nat → ClassId} {base : Nat} {ad : Nat → Nat} {w : Nat → va_E} {S : xS} {s a b : Int} {mk fs sn wt pl dp ho hc nw od : Nat → Int} (hw1 : w 1 = trO ad (sN S : Int)) (hw2 : w 2 = xIA (cA 0) 300 mk) (hw3 : w 3 = xIA (cA 0) 300 fs) (hw4 : w 4 = xIA (cA 0) 300 sn) (hw5 : w 5 = xIA (cA 0) 300 wt) (hw6 : w 6 = xIA (cA 0) 300 pl) (hw7 : w 7 = xIA (cA 0) 300 dp) (hw8 : w 8 = xIA (cA 0) 300 ho) (hw9 : w 9 = xIA (cA 0) 1800 hc) (hw10 : w 10 = xIA (cA 0) 512 nw) (hw11 : w 11 = xIA (cA 0) 300 od) (hC : TC S mk fs sn wt pl dp ho hc nw od) (hT : Tb S) (hs : shp s a b (sN S)) (hf : fnd S s a b = none) : XM L D cA base y_Tr_enter c_Tr_enter 8 (some .int) (xrm 2 0 0) [.ref (ad 1), .int (zI (um s)), .int (zI a), .int (zI b)] 56 ad w (xRet 56 ad (fun z w' => ∃ S' : xS, (z, S') = (if 300 ≤ sN S ∨ 1000 < nWt (sWt S) s a b ∨ 30 < nDp (sDp S) s a b then (-1, S) else ((sN S : Int), psh S s a b)) ∧ CT ad cA w' S' ∧ (∀ k, (k < 1 ∨ 11 < k) → w' k = w k))) xF := by
  refine xm_of (by decide +kernel) (by simp [Value.category]) (Nat.le_of_ble_eq_true rfl) (fun G C E _ => ?_)
  have hum := um_in hs
  have hab := shp_a hs
  have hN := hT.1
  refine xr_aload_n C 0 d_Tr_enter_0 rfl rfl ?_
  refine xr_iload_n C 1 d_Tr_enter_1 rfl rfl ?_
  refine xr_callV (k9 := 1) C (m_Tr_ownWeight (x := um s) (by omega)) xm_Tr_59 x2_Tr_ownWeight hw1 (by decide) rfl (by decide) (by decide) (Nat.le_of_ble_eq_true rfl) rfl d_Tr_enter_2 (fun En n9 ad9 w9 hx9 => hx9.elim) (fun v n9 ad9 w9 hp => ?_)
  obtain ⟨rfl, rfl, rfl, rfl⟩ := hp
  show XW _ _ _ _ _ _ 5 _ (_ :: _)
  refine xr_aload_n C 0 d_Tr_enter_5 rfl rfl ?_
  refine xr_aload_n C 0 d_Tr_enter_6 rfl rfl ?_
  refine xr_get (k := 1) C xg_Tr_21 hw1 (by decide) rfl d_Tr_enter_7 ?_
  refine xr_iload_n C 2 d_Tr_enter_10 rfl rfl ?_
  refine xr_iconst C d_Tr_enter_11 ?_
  refine xr_callV (k9 := 1) C (m_Tr_valueOf (k := 5) (by decide) (by decide) hw5 (x := a) (y := 0) (by omega)) xm_Tr_63 x2_Tr_valueOf hw1 (by decide) rfl (by decide) (by decide) (Nat.le_of_ble_eq_true rfl) rfl d_Tr_enter_12 (fun En n9 ad9 w9 hx9 => hx9.elim) (fun v n9 ad9 w9 hp => ?_)
  obtain ⟨rfl, rfl, rfl, rfl⟩ := hp
  show XW _ _ _ _ _ _ 15 _ (_ :: _)
  refine xz_iadd C d_Tr_enter_15 ?_
  refine xr_aload_n C 0 d_Tr_enter_16 rfl rfl ?_
  refine xr_aload_n C 0 d_Tr_enter_17 rfl rfl ?_
  refine xr_get (k := 1) C xg_Tr_21 hw1 (by decide) rfl d_Tr_enter_18 ?_
  refine xr_iload_n C 3 d_Tr_enter_21 rfl rfl ?_
  refine xr_iconst C d_Tr_enter_22 ?_
  refine xr_callV (k9 := 1) C (m_Tr_valueOf (k := 5) (by decide) (by decide) hw5 (x := b) (y := 0) (by omega)) xm_Tr_63 x2_Tr_valueOf hw1 (by decide) rfl (by decide) (by decide) (Nat.le_of_ble_eq_true rfl) rfl d_Tr_enter_23 (fun En n9 ad9 w9 hx9 => hx9.elim) (fun v n9 ad9 w9 hp => ?_)
  obtain ⟨rfl, rfl, rfl, rfl⟩ := hp
  show XW _ _ _ _ _ _ 26 _ (_ :: _)
  refine xz_iadd C d_Tr_enter_26 ?_
  refine xr_eqz (ent_wt hs (fun j hj => (hC.1 j hj).2.2.2.1)) ?_
  refine xr_istore C d_Tr_enter_27 (by decide) ?_
  refine xr_iconst C d_Tr_enter_29 ?_
  refine xr_aload_n C 0 d_Tr_enter_30 rfl rfl ?_
  refine xr_aload_n C 0 d_Tr_enter_31 rfl rfl ?_
  refine xr_get (k := 1) C xg_Tr_27 hw1 (by decide) rfl d_Tr_enter_32 ?_
  refine xr_iload_n C 2 d_Tr_enter_35 rfl rfl ?_
  refine xr_iconst C d_Tr_enter_36 ?_
  refine xr_callV (k9 := 1) C (m_Tr_valueOf (k := 7) (by decide) (by decide) hw7 (x := a) (y := (-1)) (by omega)) xm_Tr_63 x2_Tr_valueOf hw1 (by decide) rfl (by decide) (by decide) (Nat.le_of_ble_eq_true rfl) rfl d_Tr_enter_37 (fun En n9 ad9 w9 hx9 => hx9.elim) (fun v n9 ad9 w9 hp => ?_)
  obtain ⟨rfl, rfl, rfl, rfl⟩ := hp
  show XW _ _ _ _ _ _ 40 _ (_ :: _)
  refine xr_aload_n C 0 d_Tr_enter_40 rfl rfl ?_
  refine xr_aload_n C 0 d_Tr_enter_41 rfl rfl ?_
  refine xr_get (k := 1) C xg_Tr_27 hw1 (by decide) rfl d_Tr_enter_42 ?_
  refine xr_iload_n C 3 d_Tr_enter_45 rfl rfl ?_
  refine xr_iconst C d_Tr_enter_46 ?_
  refine xr_callV (k9 := 1) C (m_Tr_valueOf (k := 7) (by decide) (by decide) hw7 (x := b) (y := (-1)) (by omega)) xm_Tr_63 x2_Tr_valueOf hw1 (by decide) rfl (by decide) (by decide) (Nat.le_of_ble_eq_true rfl) rfl d_Tr_enter_47 (fun En n9 ad9 w9 hx9 => hx9.elim) (fun v n9 ad9 w9 hp => ?_)
  obtain ⟨rfl, rfl, rfl, rfl⟩ := hp
  show XW _ _ _ _ _ _ 50 _ (_ :: _)
  have hda := (hC.2.2.1 a.toNat).2.2.2.2.2.1
  have hdb := (hC.2.2.1 b.toNat).2.2.2.2.2.1
  refine xz_mmax C (by split <;> omega) (by split <;> omega) xmax_Tr_67 (by decide) (by decide) (by decide) d_Tr_enter_50 ?_
  refine xz_iadd C d_Tr_enter_53 ?_
  refine xr_eqz (ent_dp hs (fun j hj => (hC.1 j hj).2.2.2.2.2.1) (fun j => (hC.2.2.1 j).2.2.2.2.2.1.1)) ?_
  refine xr_istore C d_Tr_enter_54 (by decide) ?_
  refine xr_aload_n C 0 d_Tr_enter_56 rfl rfl ?_
  refine xr_get (k := 1) C xg_Tr_42 hw1 (by decide) rfl d_Tr_enter_57 ?_
  refine xr_sipush C d_Tr_enter_60 (by decide) ?_
  refine xz_icmp_ge (tgt := 81) C d_Tr_enter_63 (by decide) (by omega) (by omega) (fun c63 => ?_) (fun c63 => ?_)
  · skip
    refine xr_iconst C d_Tr_enter_81 ?_
    exact xr_iret C E ⟨rfl, rfl, -1, rfl, S, by rw [if_pos (by omega)], ⟨mk, fs, sn, wt, pl, dp, ho, hc, nw, od, hw1, hw2, hw3, hw4, hw5, hw6, hw7, hw8, hw9, hw10, hw11, hC⟩, fun k _ => rfl⟩ (by decide) (by decide) d_Tr_enter_82
  · skip
    refine xr_iload C d_Tr_enter_66 rfl ?_
    refine xr_sipush C d_Tr_enter_68 (by decide) ?_
    have hwn : 0 ≤ nWt (sWt S) s a b ∧ nWt (sWt S) s a b ≤ 2002 := nWt_in hT hs
    refine xz_icmp_gt (tgt := 81) C d_Tr_enter_71 (by decide) (by omega) (by omega) (fun c71 => ?_) (fun c71 => ?_)
    · skip
      refine xr_iconst C d_Tr_enter_81 ?_
      exact xr_iret C E ⟨rfl, rfl, -1, rfl, S, by rw [if_pos (by omega)], ⟨mk, fs, sn, wt, pl, dp, ho, hc, nw, od, hw1, hw2, hw3, hw4, hw5, hw6, hw7, hw8, hw9, hw10, hw11, hC⟩, fun k _ => rfl⟩ (by decide) (by decide) d_Tr_enter_82
    · skip
      refine xr_iload C d_Tr_enter_74 rfl ?_
      refine xr_bipush C d_Tr_enter_76 (by decide) ?_
      have hdn : 0 ≤ nDp (sDp S) s a b ∧ nDp (sDp S) s a b ≤ 31 := nDp_in hT hs
      refine xz_icmp_le (tgt := 83) C d_Tr_enter_78 (by decide) (by omega) (by omega) (fun c78 => ?_) (fun c78 => ?_)
      · skip
        refine xr_aload_n C 0 d_Tr_enter_83 rfl rfl ?_
        refine xr_get (k := 1) C xg_Tr_42 hw1 (by decide) rfl d_Tr_enter_84 ?_
        refine xr_istore C d_Tr_enter_87 (by decide) ?_
        refine xr_aload_n C 0 d_Tr_enter_89 rfl rfl ?_
        refine xr_dup C rfl d_Tr_enter_90 ?_
        refine xr_get (k := 1) C xg_Tr_42 hw1 (by decide) rfl d_Tr_enter_91 ?_
        refine xr_iconst C d_Tr_enter_94 ?_
        refine xz_iadd C d_Tr_enter_95 ?_
        refine xr_put (k := 1) C xf_Tr_42 hw1 (by decide) rfl rfl (Nat.le_of_ble_eq_true rfl) d_Tr_enter_96 ?_
        refine xr_aload_n C 0 d_Tr_enter_99 rfl rfl ?_
        refine xr_get (k := 1) C xg_Tr_9 rfl (by decide) rfl d_Tr_enter_100 ?_
        refine xr_iload C d_Tr_enter_103 rfl ?_
        refine xr_iload_n C 1 d_Tr_enter_105 rfl rfl ?_
        refine xj_iast (k := 2) C (sN S) (by omega) hw2 (by decide) (by omega) (by decide) d_Tr_enter_106 ?_
        refine xr_aload_n C 0 d_Tr_enter_107 rfl rfl ?_
        refine xr_get (k := 1) C xg_Tr_15 rfl (by decide) rfl d_Tr_enter_108 ?_
        refine xr_iload C d_Tr_enter_111 rfl ?_
        refine xr_iload_n C 2 d_Tr_enter_113 rfl rfl ?_
        refine xj_iast (k := 3) C (sN S) (by omega) hw3 (by decide) (by omega) (by decide) d_Tr_enter_114 ?_
        refine xr_aload_n C 0 d_Tr_enter_115 rfl rfl ?_
        refine xr_get (k := 1) C xg_Tr_18 rfl (by decide) rfl d_Tr_enter_116 ?_
        refine xr_iload C d_Tr_enter_119 rfl ?_
        refine xr_iload_n C 3 d_Tr_enter_121 rfl rfl ?_
        refine xj_iast (k := 4) C (sN S) (by omega) hw4 (by decide) (by omega) (by decide) d_Tr_enter_122 ?_
        refine xr_aload_n C 0 d_Tr_enter_123 rfl rfl ?_
        refine xr_get (k := 1) C xg_Tr_21 rfl (by decide) rfl d_Tr_enter_124 ?_
        refine xr_iload C d_Tr_enter_127 rfl ?_
        refine xr_iload C d_Tr_enter_129 rfl ?_
        refine xj_iast (k := 5) C (sN S) (by omega) hw5 (by decide) (by omega) (by decide) d_Tr_enter_131 ?_
        refine xr_aload_n C 0 d_Tr_enter_132 rfl rfl ?_
        refine xr_get (k := 1) C xg_Tr_27 rfl (by decide) rfl d_Tr_enter_133 ?_
        refine xr_iload C d_Tr_enter_136 rfl ?_
        refine xr_iload C d_Tr_enter_138 rfl ?_
        refine xj_iast (k := 7) C (sN S) (by omega) hw7 (by decide) (by omega) (by decide) d_Tr_enter_140 ?_
        refine xr_namew (fun w1 ew1 => ?_)
        have hw6 := (congrFun ew1 6).trans hw6
        have hw8 := (congrFun ew1 8).trans hw8
        have hw9 := (congrFun ew1 9).trans hw9
        have hw10 := (congrFun ew1 10).trans hw10
        have hw11 := (congrFun ew1 11).trans hw11
        have hw1 : w1 1 = trO ad ((sN S : Int) + 1) := (congrFun ew1 1).trans rfl
        have hw2 : w1 2 = xIA (cA 0) 300 (va_up mk (sN S) (um s)) := (congrFun ew1 2).trans rfl
        have hw3 : w1 3 = xIA (cA 0) 300 (va_up fs (sN S) a) := (congrFun ew1 3).trans rfl
        have hw4 : w1 4 = xIA (cA 0) 300 (va_up sn (sN S) b) := (congrFun ew1 4).trans rfl
        have hw5 : w1 5 = xIA (cA 0) 300 (va_up wt (sN S) (nWt (sWt S) s a b)) := (congrFun ew1 5).trans rfl
        have hw7 : w1 7 = xIA (cA 0) 300 (va_up dp (sN S) (nDp (sDp S) s a b)) := (congrFun ew1 7).trans rfl
        refine xr_aload_n C 0 d_Tr_enter_141 rfl rfl ?_
        refine xr_get (k := 1) C xg_Tr_24 hw1 (by decide) rfl d_Tr_enter_142 ?_
        refine xr_iload C d_Tr_enter_145 rfl ?_
        refine xr_iconst C d_Tr_enter_147 ?_
        refine xr_aload_n C 0 d_Tr_enter_148 rfl rfl ?_
        refine xr_aload_n C 0 d_Tr_enter_149 rfl rfl ?_
        refine xr_get (k := 1) C xg_Tr_24 hw1 (by decide) rfl d_Tr_enter_150 ?_
        refine xr_iload_n C 2 d_Tr_enter_153 rfl rfl ?_
        refine xr_iconst C d_Tr_enter_154 ?_
        refine xr_callV (k9 := 1) C (m_Tr_valueOf (k := 6) (by decide) (by decide) hw6 (x := a) (y := 0) (by omega)) xm_Tr_63 x2_Tr_valueOf hw1 (by decide) rfl (by decide) (by decide) (Nat.le_of_ble_eq_true rfl) rfl d_Tr_enter_155 (fun En n9 ad9 w9 hx9 => hx9.elim) (fun v n9 ad9 w9 hp => ?_)
        obtain ⟨rfl, rfl, rfl, rfl⟩ := hp
        show XW _ _ _ _ _ _ 158 _ (_ :: _)
        refine xz_iadd C d_Tr_enter_158 ?_
        refine xr_aload_n C 0 d_Tr_enter_159 rfl rfl ?_
        refine xr_aload_n C 0 d_Tr_enter_160 rfl rfl ?_
        refine xr_get (k := 1) C xg_Tr_24 hw1 (by decide) rfl d_Tr_enter_161 ?_
        refine xr_iload_n C 3 d_Tr_enter_164 rfl rfl ?_
        refine xr_iconst C d_Tr_enter_165 ?_
        refine xr_callV (k9 := 1) C (m_Tr_valueOf (k := 6) (by decide) (by decide) hw6 (x := b) (y := 0) (by omega)) xm_Tr_63 x2_Tr_valueOf hw1 (by decide) rfl (by decide) (by decide) (Nat.le_of_ble_eq_true rfl) rfl d_Tr_enter_166 (fun En n9 ad9 w9 hx9 => hx9.elim) (fun v n9 ad9 w9 hp => ?_)
        obtain ⟨rfl, rfl, rfl, rfl⟩ := hp
        show XW _ _ _ _ _ _ 169 _ (_ :: _)
        refine xz_iadd C d_Tr_enter_169 ?_
        refine xr_eqz (ent_pl hs (fun j hj => (hC.1 j hj).2.2.2.2.1)) ?_
        refine xj_iast (k := 6) C (sN S) (by omega) hw6 (by decide) (by omega) (by decide) d_Tr_enter_170 ?_
        refine xr_namew (fun w2 ew2 => ?_)
        have hw1 := (congrFun ew2 1).trans hw1
        have hw2 := (congrFun ew2 2).trans hw2
        have hw3 := (congrFun ew2 3).trans hw3
        have hw4 := (congrFun ew2 4).trans hw4
        have hw5 := (congrFun ew2 5).trans hw5
        have hw7 := (congrFun ew2 7).trans hw7
        have hw8 := (congrFun ew2 8).trans hw8
        have hw9 := (congrFun ew2 9).trans hw9
        have hw10 := (congrFun ew2 10).trans hw10
        have hw11 := (congrFun ew2 11).trans hw11
        have hw6 : w2 6 = xIA (cA 0) 300 (va_up pl (sN S) (nPl (sPl S) s a b)) := (congrFun ew2 6).trans rfl
        refine xr_aload_n C 0 d_Tr_enter_171 rfl rfl ?_
        refine xr_iload C d_Tr_enter_172 rfl ?_
        refine xr_callV (k9 := 1) C (m_Tr_noteHoles (x := sN S) hw1 hw2 hw3 hw4 hw8 hw9 (by omega) (by rw [va_eq]; omega) (by rw [va_eq]; omega) (by rw [va_eq]; omega) (fun j => (hC.2.2.1 j).2.2.2.2.2.2.2.1)) xm_Tr_73 x2_Tr_noteHoles hw1 (by decide) rfl (by decide) (by decide) (Nat.le_of_ble_eq_true rfl) rfl d_Tr_enter_174 (fun En n9 ad9 w9 hx9 => hx9.elim) (fun v n9 ad9 w9 hp => ?_)
        obtain ⟨rfl, rfl, rfl, hc', ew3, hn, hot⟩ := hp
        have hw1 := (congrFun ew3 1).trans hw1
        have hw2 := (congrFun ew3 2).trans hw2
        have hw3 := (congrFun ew3 3).trans hw3
        have hw4 := (congrFun ew3 4).trans hw4
        have hw5 := (congrFun ew3 5).trans hw5
        have hw6 := (congrFun ew3 6).trans hw6
        have hw7 := (congrFun ew3 7).trans hw7
        have hw8 := (congrFun ew3 8)
        have hw9 := (congrFun ew3 9)
        have hw10 := (congrFun ew3 10).trans hw10
        have hw11 := (congrFun ew3 11).trans hw11
        refine xr_aload_n C 0 d_Tr_enter_177 rfl rfl ?_
        refine xr_iload_n C 1 d_Tr_enter_178 rfl rfl ?_
        refine xr_iload_n C 2 d_Tr_enter_179 rfl rfl ?_
        refine xr_iload_n C 3 d_Tr_enter_180 rfl rfl ?_
        refine xr_callV (k9 := 1) C (m_Tr_slotOf (x := um s) (y := a) (z := b)) xm_Tr_52 x2_Tr_slotOf hw1 (by decide) rfl (by decide) (by decide) (Nat.le_of_ble_eq_true rfl) rfl d_Tr_enter_181 (fun En n9 ad9 w9 hx9 => hx9.elim) (fun v n9 ad9 w9 hp => ?_)
        obtain ⟨rfl, rfl, rfl, rfl⟩ := hp
        show XW _ _ _ _ _ _ 184 _ (_ :: _)
        refine xr_eqz (y := slot s a b) rfl ?_
        have hsl := slot_in s a b
        refine xr_istore C d_Tr_enter_184 (by decide) ?_
        refine xr_aload_n C 0 d_Tr_enter_186 rfl rfl ?_
        refine xr_get (k := 1) C xg_Tr_39 hw1 (by decide) rfl d_Tr_enter_187 ?_
        refine xr_iload C d_Tr_enter_190 rfl ?_
        refine xr_aload_n C 0 d_Tr_enter_192 rfl rfl ?_
        refine xr_get (k := 1) C xg_Tr_36 hw1 (by decide) rfl d_Tr_enter_193 ?_
        refine xr_iload C d_Tr_enter_196 rfl ?_
        refine xj_iald (k := 10) C ((slot s a b).toNat) (by omega) hw10 (by decide) (by omega) (by decide) d_Tr_enter_198 ?_
        refine xj_iast (k := 11) C (sN S) (by omega) hw11 (by decide) (by omega) (by decide) d_Tr_enter_199 ?_
        refine xr_aload_n C 0 d_Tr_enter_200 rfl rfl ?_
        refine xr_get (k := 1) C xg_Tr_36 hw1 (by decide) rfl d_Tr_enter_201 ?_
        refine xr_iload C d_Tr_enter_204 rfl ?_
        refine xr_iload C d_Tr_enter_206 rfl ?_
        refine xj_iast (k := 10) C ((slot s a b).toNat) (by omega) hw10 (by decide) (by omega) (by decide) d_Tr_enter_208 ?_
        refine xr_iload C d_Tr_enter_209 rfl ?_
        have hnl : ¬ (300 ≤ sN S ∨ 1000 < nWt (sWt S) s a b ∨ 30 < nDp (sDp S) s a b) := by omega
        exact xr_iret C E ⟨rfl, rfl, (sN S : Int), rfl, psh S s a b, by rw [if_neg hnl], ⟨va_up mk (sN S) (um s), va_up fs (sN S) a, va_up sn (sN S) b, va_up wt (sN S) (nWt (sWt S) s a b), va_up pl (sN S) (nPl (sPl S) s a b), va_up dp (sN S) (nDp (sDp S) s a b), va_up ho (sN S) (nHo S s a b), hc', va_up nw (slot s a b).toNat (sN S : Int), va_up od (sN S) (nw (slot s a b).toNat), hw1, hw2, hw3, hw4, hw5, hw6, hw7, by show w9 8 = _; rw [hw8]; show xIA _ _ _ = _; unfold nHo; rw [show (fun h => decide (0 < tmH (va_up mk (sN S) (um s)) (va_up fs (sN S) a) (va_up sn (sN S) b) hc (sN S) h)) = _ from rfl, hbS_eq (fun i hi => by rw [ent_hc hs (fun j i hj hi => hC.2.1 j i hj hi) hi])], by show w9 9 = _; rw [hw9]; rfl, rfl, rfl, tc_push hC hT hs hf hnl (fun i hi => by rw [hn i hi, ent_hc hs (fun j i hj hi => hC.2.1 j i hj hi) hi]) hot⟩, fun k hk => by
          show va_up (va_up w9 11 _) 10 _ k = w k
          rw [va_ne (by omega), va_ne (by omega), ew3, va_ne (by omega), va_ne (by omega), ew2, va_ne (by omega), ew1, va_ne (by omega), va_ne (by omega), va_ne (by omega), va_ne (by omega), va_ne (by omega), va_ne (by omega)]⟩ (by decide) (by decide) d_Tr_enter_211
      · skip
        refine xr_iconst C d_Tr_enter_81 ?_
        exact xr_iret C E ⟨rfl, rfl, -1, rfl, S, by rw [if_pos (by omega)], ⟨mk, fs, sn, wt, pl, dp, ho, hc, nw, od, hw1, hw2, hw3, hw4, hw5, hw6, hw7, hw8, hw9, hw10, hw11, hC⟩, fun k _ => rfl⟩ (by decide) (by decide) d_Tr_enter_82
end
section
theorem mkT_some {S : xS} {s a b : Int} {j : Nat} (h : fnd S s a b = some j) : mkT S s a b = ((j : Int), S) := by unfold mkT; rw [h]
theorem mkT_none {S : xS} {s a b : Int} (h : fnd S s a b = none) : mkT S s a b = if 300 ≤ sN S ∨ 1000 < nWt (sWt S) s a b ∨ 30 < nDp (sDp S) s a b then (-1, S) else ((sN S : Int), psh S s a b) := by unfold mkT; rw [h]
set_option maxHeartbeats 4000000 in
set_option maxRecDepth 100000 in
theorem m_Tr_numberOf {L : Launch} {D : va_G} {cA : Nat → ClassId} {base : Nat} {ad : Nat → Nat} {w : Nat → va_E} {S : xS} {s a b : Int} (hCT : CT ad cA w S) (hT : Tb S) (hs : shp s a b (sN S)) : XM L D cA base y_Tr_numberOf c_Tr_numberOf 7 (some .int) (xrm 3 0 0) [.ref (ad 1), .int (zI (um s)), .int (zI a), .int (zI b)] 56 ad w (xRet 56 ad (fun z w' => ∃ S' : xS, (z, S') = mkT S s a b ∧ CT ad cA w' S' ∧ (∀ k, (k < 1 ∨ 11 < k) → w' k = w k))) xF := by
  refine xm_of (by decide +kernel) (by simp [Value.category]) (Nat.le_of_ble_eq_true rfl) (fun G C E _ => ?_)
  obtain ⟨mk, fs, sn, wt, pl, dp, ho, hc, nw, od, hw1, hw2, hw3, hw4, hw5, hw6, hw7, hw8, hw9, hw10, hw11, hC⟩ := hCT
  have hum := um_in hs
  have hab := shp_a hs
  have hN := hT.1
  have hsl := slot_in s a b
  have lp : ∀ (k u : Nat) (v : Int) (m : Nat) (lv : Nat → Option Value), u < k → u ≤ sN S → m + u ≤ sN S → hdS S (slot s a b) u v → (∀ i, u ≤ i → i < sN S → slS S i = slot s a b → ¬ isT S s a b i) → lv 0 = some (.ref (ad 1)) → lv 1 = some (.int (zI (um s))) → lv 2 = some (.int (zI a)) → lv 3 = some (.int (zI b)) → lv 4 = some (.int (zI (slot s a b))) → lv 5 = some (.int (zI v)) → lv 6 = some (.int (zI (m : Int))) → XW G 56 ad w 0 0 21 lv [] := by
    intro k
    induction k with
    | zero => intro u v m lv h1; exact absurd h1 (by omega)
    | succ k ih =>
      intro u v m lv h1 h2 h3 hd hm hl0 hl1 hl2 hl3 hl4 hl5 hl6
      have hvin : -1 ≤ v ∧ v < u := by
        rcases hd with ⟨e, -⟩ | ⟨e1, e2, -⟩
        · omega
        · omega
      refine xr_iload C d_Tr_numberOf_21 hl6 ?_
      refine xr_sipush C d_Tr_numberOf_23 (by decide) ?_
      refine xz_icmp_ge (tgt := 85) C d_Tr_numberOf_26 (by decide) (by omega) (by omega) (fun c26 => ?_) (fun c26 => ?_)
      · skip
        have hnone : fnd S s a b = none := fnd_not (fun i hi hti => by
          have hq : slS S i = slot s a b := by unfold slS; rw [hti.1, hti.2.1, hti.2.2]
          by_cases hiu : u ≤ i
          · exact hm i hiu hi hq hti
          · rcases hd with ⟨-, hv⟩ | ⟨e1, e2, e3, e4⟩
            · exact hv i (by omega) hq
            · omega)
        refine xr_aload_n C 0 d_Tr_numberOf_85 rfl hl0 ?_
        refine xr_iload_n C 1 d_Tr_numberOf_86 rfl hl1 ?_
        refine xr_iload_n C 2 d_Tr_numberOf_87 rfl hl2 ?_
        refine xr_iload_n C 3 d_Tr_numberOf_88 rfl hl3 ?_
        refine xr_callV (k9 := 1) C (m_Tr_enter hw1 hw2 hw3 hw4 hw5 hw6 hw7 hw8 hw9 hw10 hw11 hC hT hs hnone) xm_Tr_56 x2_Tr_enter hw1 (by decide) rfl (by decide) (by decide) (Nat.le_of_ble_eq_true rfl) rfl d_Tr_numberOf_89 (fun En n9 ad9 w9 hx9 => hx9.elim) (fun v n9 ad9 w9 hp => ?_)
        obtain ⟨rfl, rfl, z, rfl, S', hz, hCT, hfr⟩ := hp
        show XW _ _ _ _ _ _ 92 _ (_ :: _)
        exact xr_iret C E ⟨rfl, rfl, z, rfl, S', by rw [hz, mkT_none hnone], hCT, hfr⟩ (by decide) (by decide) d_Tr_numberOf_92
      · skip
        refine xr_iload C d_Tr_numberOf_29 hl5 ?_
        refine xz_if_lt (tgt := 85) C d_Tr_numberOf_31 (by decide) (by omega) (fun c31 => ?_) (fun c31 => ?_)
        · skip
          have hnone : fnd S s a b = none := fnd_not (fun i hi hti => by
            have hq : slS S i = slot s a b := by unfold slS; rw [hti.1, hti.2.1, hti.2.2]
            by_cases hiu : u ≤ i
            · exact hm i hiu hi hq hti
            · rcases hd with ⟨-, hv⟩ | ⟨e1, e2, e3, e4⟩
              · exact hv i (by omega) hq
              · omega)
          refine xr_aload_n C 0 d_Tr_numberOf_85 rfl hl0 ?_
          refine xr_iload_n C 1 d_Tr_numberOf_86 rfl hl1 ?_
          refine xr_iload_n C 2 d_Tr_numberOf_87 rfl hl2 ?_
          refine xr_iload_n C 3 d_Tr_numberOf_88 rfl hl3 ?_
          refine xr_callV (k9 := 1) C (m_Tr_enter hw1 hw2 hw3 hw4 hw5 hw6 hw7 hw8 hw9 hw10 hw11 hC hT hs hnone) xm_Tr_56 x2_Tr_enter hw1 (by decide) rfl (by decide) (by decide) (Nat.le_of_ble_eq_true rfl) rfl d_Tr_numberOf_89 (fun En n9 ad9 w9 hx9 => hx9.elim) (fun v n9 ad9 w9 hp => ?_)
          obtain ⟨rfl, rfl, z, rfl, S', hz, hCT, hfr⟩ := hp
          show XW _ _ _ _ _ _ 92 _ (_ :: _)
          exact xr_iret C E ⟨rfl, rfl, z, rfl, S', by rw [hz, mkT_none hnone], hCT, hfr⟩ (by decide) (by decide) d_Tr_numberOf_92
        · skip
          refine xr_aload_n C 0 d_Tr_numberOf_34 rfl hl0 ?_
          refine xr_get (k := 1) C xg_Tr_9 hw1 (by decide) rfl d_Tr_numberOf_35 ?_
          refine xr_iload C d_Tr_numberOf_38 hl5 ?_
          refine xj_iald (k := 2) C (v.toNat) (by omega) hw2 (by decide) (by omega) (by decide) d_Tr_numberOf_40 ?_
          refine xr_iload_n C 1 d_Tr_numberOf_41 rfl hl1 ?_
          have hvr := hC.2.2.1 v.toNat
          refine xz_icmp_ne (tgt := 70) C d_Tr_numberOf_42 (by decide) (by omega) (by omega) (fun c42 => ?_) (fun c42 => ?_)
          · skip
            refine xr_aload_n C 0 d_Tr_numberOf_70 rfl hl0 ?_
            refine xr_get (k := 1) C xg_Tr_39 hw1 (by decide) rfl d_Tr_numberOf_71 ?_
            refine xr_iload C d_Tr_numberOf_74 hl5 ?_
            refine xj_iald (k := 11) C (v.toNat) (by omega) hw11 (by decide) (by omega) (by decide) d_Tr_numberOf_76 ?_
            refine xr_istore C d_Tr_numberOf_77 (by decide) ?_
            refine xr_iinc C d_Tr_numberOf_79 (by decide) hl6 ?_
            refine xr_goto (tgt := 21) C d_Tr_numberOf_82 (by decide) ?_
            have hvq : slS S v.toNat = slot s a b := by
              rcases hd with ⟨e, -⟩ | ⟨e1, e2, e3, e4⟩
              · omega
              · exact e3
            have hvu : v < u := by
              rcases hd with ⟨e, -⟩ | ⟨e1, e2, e3, e4⟩
              · omega
              · exact e2
            have hdv : ∀ i : Nat, v < i → i < u → slS S i ≠ slot s a b := by
              rcases hd with ⟨e, -⟩ | ⟨e1, e2, e3, e4⟩
              · omega
              · exact e4
            refine ih v.toNat _ (m + 1) _ (by omega) (by omega) (by omega) (by have := hC.2.2.2.2 v.toNat (by omega); rw [hvq] at this; exact this) (fun i g1 g2 g3 g4 => ?_) hl0 hl1 hl2 hl3 hl4 rfl rfl
            by_cases hiv : i = v.toNat
            · subst hiv
              obtain ⟨q1, q2, q3, -⟩ := hC.1 v.toNat (by omega)
              rw [g4.1] at q1
              rw [g4.2.1] at q2
              rw [g4.2.2] at q3
              omega
            · by_cases hiu : u ≤ i
              · exact hm i hiu g2 g3 g4
              · exact hdv i (by omega) (by omega) g3
          · skip
            refine xr_aload_n C 0 d_Tr_numberOf_45 rfl hl0 ?_
            refine xr_get (k := 1) C xg_Tr_15 hw1 (by decide) rfl d_Tr_numberOf_46 ?_
            refine xr_iload C d_Tr_numberOf_49 hl5 ?_
            refine xj_iald (k := 3) C (v.toNat) (by omega) hw3 (by decide) (by omega) (by decide) d_Tr_numberOf_51 ?_
            refine xr_iload_n C 2 d_Tr_numberOf_52 rfl hl2 ?_
            refine xz_icmp_ne (tgt := 70) C d_Tr_numberOf_53 (by decide) (by omega) (by omega) (fun c53 => ?_) (fun c53 => ?_)
            · skip
              refine xr_aload_n C 0 d_Tr_numberOf_70 rfl hl0 ?_
              refine xr_get (k := 1) C xg_Tr_39 hw1 (by decide) rfl d_Tr_numberOf_71 ?_
              refine xr_iload C d_Tr_numberOf_74 hl5 ?_
              refine xj_iald (k := 11) C (v.toNat) (by omega) hw11 (by decide) (by omega) (by decide) d_Tr_numberOf_76 ?_
              refine xr_istore C d_Tr_numberOf_77 (by decide) ?_
              refine xr_iinc C d_Tr_numberOf_79 (by decide) hl6 ?_
              refine xr_goto (tgt := 21) C d_Tr_numberOf_82 (by decide) ?_
              have hvq : slS S v.toNat = slot s a b := by
                rcases hd with ⟨e, -⟩ | ⟨e1, e2, e3, e4⟩
                · omega
                · exact e3
              have hvu : v < u := by
                rcases hd with ⟨e, -⟩ | ⟨e1, e2, e3, e4⟩
                · omega
                · exact e2
              have hdv : ∀ i : Nat, v < i → i < u → slS S i ≠ slot s a b := by
                rcases hd with ⟨e, -⟩ | ⟨e1, e2, e3, e4⟩
                · omega
                · exact e4
              refine ih v.toNat _ (m + 1) _ (by omega) (by omega) (by omega) (by have := hC.2.2.2.2 v.toNat (by omega); rw [hvq] at this; exact this) (fun i g1 g2 g3 g4 => ?_) hl0 hl1 hl2 hl3 hl4 rfl rfl
              by_cases hiv : i = v.toNat
              · subst hiv
                obtain ⟨q1, q2, q3, -⟩ := hC.1 v.toNat (by omega)
                rw [g4.1] at q1
                rw [g4.2.1] at q2
                rw [g4.2.2] at q3
                omega
              · by_cases hiu : u ≤ i
                · exact hm i hiu g2 g3 g4
                · exact hdv i (by omega) (by omega) g3
            · skip
              refine xr_aload_n C 0 d_Tr_numberOf_56 rfl hl0 ?_
              refine xr_get (k := 1) C xg_Tr_18 hw1 (by decide) rfl d_Tr_numberOf_57 ?_
              refine xr_iload C d_Tr_numberOf_60 hl5 ?_
              refine xj_iald (k := 4) C (v.toNat) (by omega) hw4 (by decide) (by omega) (by decide) d_Tr_numberOf_62 ?_
              refine xr_iload_n C 3 d_Tr_numberOf_63 rfl hl3 ?_
              refine xz_icmp_ne (tgt := 70) C d_Tr_numberOf_64 (by decide) (by omega) (by omega) (fun c64 => ?_) (fun c64 => ?_)
              · skip
                refine xr_aload_n C 0 d_Tr_numberOf_70 rfl hl0 ?_
                refine xr_get (k := 1) C xg_Tr_39 hw1 (by decide) rfl d_Tr_numberOf_71 ?_
                refine xr_iload C d_Tr_numberOf_74 hl5 ?_
                refine xj_iald (k := 11) C (v.toNat) (by omega) hw11 (by decide) (by omega) (by decide) d_Tr_numberOf_76 ?_
                refine xr_istore C d_Tr_numberOf_77 (by decide) ?_
                refine xr_iinc C d_Tr_numberOf_79 (by decide) hl6 ?_
                refine xr_goto (tgt := 21) C d_Tr_numberOf_82 (by decide) ?_
                have hvq : slS S v.toNat = slot s a b := by
                  rcases hd with ⟨e, -⟩ | ⟨e1, e2, e3, e4⟩
                  · omega
                  · exact e3
                have hvu : v < u := by
                  rcases hd with ⟨e, -⟩ | ⟨e1, e2, e3, e4⟩
                  · omega
                  · exact e2
                have hdv : ∀ i : Nat, v < i → i < u → slS S i ≠ slot s a b := by
                  rcases hd with ⟨e, -⟩ | ⟨e1, e2, e3, e4⟩
                  · omega
                  · exact e4
                refine ih v.toNat _ (m + 1) _ (by omega) (by omega) (by omega) (by have := hC.2.2.2.2 v.toNat (by omega); rw [hvq] at this; exact this) (fun i g1 g2 g3 g4 => ?_) hl0 hl1 hl2 hl3 hl4 rfl rfl
                by_cases hiv : i = v.toNat
                · subst hiv
                  obtain ⟨q1, q2, q3, -⟩ := hC.1 v.toNat (by omega)
                  rw [g4.1] at q1
                  rw [g4.2.1] at q2
                  rw [g4.2.2] at q3
                  omega
                · by_cases hiu : u ≤ i
                  · exact hm i hiu g2 g3 g4
                  · exact hdv i (by omega) (by omega) g3
              · skip
                refine xr_iload C d_Tr_numberOf_67 hl5 ?_
                exact xr_iret C E ⟨rfl, rfl, v, rfl, S, by rw [mkT_some (fnd_of hT (show v.toNat < sN S by omega) ⟨um_inj (hT.2.1 _ (by omega)).1 hs (by rw [← (hC.1 v.toNat (by omega)).1]; omega), by rw [← (hC.1 v.toNat (by omega)).2.1]; omega, by rw [← (hC.1 v.toNat (by omega)).2.2.1]; omega⟩)]; rw [show ((v.toNat : Nat) : Int) = v by omega], ⟨mk, fs, sn, wt, pl, dp, ho, hc, nw, od, hw1, hw2, hw3, hw4, hw5, hw6, hw7, hw8, hw9, hw10, hw11, hC⟩, fun k _ => rfl⟩ (by decide) (by decide) d_Tr_numberOf_69
  refine xr_aload_n C 0 d_Tr_numberOf_0 rfl rfl ?_
  refine xr_iload_n C 1 d_Tr_numberOf_1 rfl rfl ?_
  refine xr_iload_n C 2 d_Tr_numberOf_2 rfl rfl ?_
  refine xr_iload_n C 3 d_Tr_numberOf_3 rfl rfl ?_
  refine xr_callV (k9 := 1) C (m_Tr_slotOf (x := um s) (y := a) (z := b)) xm_Tr_52 x2_Tr_slotOf hw1 (by decide) rfl (by decide) (by decide) (Nat.le_of_ble_eq_true rfl) rfl d_Tr_numberOf_4 (fun En n9 ad9 w9 hx9 => hx9.elim) (fun v n9 ad9 w9 hp => ?_)
  obtain ⟨rfl, rfl, rfl, rfl⟩ := hp
  show XW _ _ _ _ _ _ 7 _ (_ :: _)
  refine xr_eqz (y := slot s a b) rfl ?_
  refine xr_istore C d_Tr_numberOf_7 (by decide) ?_
  refine xr_aload_n C 0 d_Tr_numberOf_9 rfl rfl ?_
  refine xr_get (k := 1) C xg_Tr_36 hw1 (by decide) rfl d_Tr_numberOf_10 ?_
  refine xr_iload C d_Tr_numberOf_13 rfl ?_
  refine xj_iald (k := 10) C ((slot s a b).toNat) (by omega) hw10 (by decide) (by omega) (by decide) d_Tr_numberOf_15 ?_
  refine xr_istore C d_Tr_numberOf_16 (by decide) ?_
  refine xr_iconst C d_Tr_numberOf_18 ?_
  refine xr_istore C d_Tr_numberOf_19 (by decide) ?_
  refine lp (sN S + 1) (sN S) _ 0 _ (by omega) (by omega) (by omega) ?_ (fun i g1 g2 => by omega) rfl rfl rfl rfl rfl rfl rfl
  have := hC.2.2.2.1 (slot s a b).toNat (by omega)
  rw [show (((slot s a b).toNat : Nat) : Int) = slot s a b by omega] at this
  exact this
end
section
/-! how the reference holds the table -/
def prt (s : Int) : Int := if 100 ≤ s then 0 else if s < 6 then 1 else 2
def MA (S : xS) (sg fs sn wt pl dp ho : Nat → Int) : Prop :=
  (∀ j, j < sN S → sg j = sSg S j ∧ fs j = sFs S j ∧ sn j = sSn S j ∧ wt j = sWt S j ∧ pl j = sPl S j ∧ dp j = sDp S j ∧ ho j = sHo S j) ∧
  (∀ j, (0 ≤ sg j ∧ sg j ≤ 300) ∧ (-1 ≤ fs j ∧ fs j < 300) ∧ (-1 ≤ sn j ∧ sn j < 300) ∧ (0 ≤ wt j ∧ wt j ≤ 1000) ∧ (0 ≤ pl j ∧ pl j ≤ 1000) ∧ (0 ≤ dp j ∧ dp j ≤ 30) ∧ (0 ≤ ho j ∧ ho j < 64))
def MT (ad : Nat → Nat) (cA : Nat → ClassId) (w : Nat → va_E) (S : xS) (ru ro sp nr ns th : Int) (se fa so : Bool) : Prop := ∃ sg fs sn wt pl dp ho : Nat → Int, w 29 = mdO ad (sN S : Int) ru ro sp nr ns th se fa so ∧ w 30 = xIA (cA 0) 300 sg ∧ w 31 = xIA (cA 0) 300 fs ∧ w 32 = xIA (cA 0) 300 sn ∧ w 33 = xIA (cA 0) 300 wt ∧ w 34 = xIA (cA 0) 300 pl ∧ w 35 = xIA (cA 0) 300 dp ∧ w 36 = xIA (cA 0) 300 ho ∧ MA S sg fs sn wt pl dp ho
theorem ma_push {S : xS} {s a b : Int} {sg fs sn wt pl dp ho : Nat → Int} (h : MA S sg fs sn wt pl dp ho) (hT : Tb S) (hs : shp s a b (sN S)) (hf : fnd S s a b = none) (hl : ¬ (300 ≤ sN S ∨ 1000 < nWt (sWt S) s a b ∨ 30 < nDp (sDp S) s a b)) :
    MA (psh S s a b) (va_up sg (sN S) s) (va_up fs (sN S) a) (va_up sn (sN S) b) (va_up wt (sN S) (nWt (sWt S) s a b)) (va_up pl (sN S) (nPl (sPl S) s a b)) (va_up dp (sN S) (nDp (sDp S) s a b)) (va_up ho (sN S) (nHo S s a b)) := by
  have hT' := tb_push hT hs hf hl
  obtain ⟨h1, h3⟩ := h
  obtain ⟨n1, n2, n3, n4, n5, n6, n7⟩ := psh_new (S := S) (s := s) (a := a) (b := b)
  refine ⟨fun j hj => ?_, fun j => ?_⟩
  · by_cases hjt : j = sN S
    · subst hjt
      exact ⟨by rw [va_eq, n1], by rw [va_eq, n2], by rw [va_eq, n3], by rw [va_eq, n4], by rw [va_eq, n5], by rw [va_eq, n6], by rw [va_eq, n7]⟩
    · have hj : j < sN S := by have : j < sN S + 1 := hj; omega
      obtain ⟨o1, o2, o3, o4, o5, o6, o7⟩ := psh_old (S := S) (s := s) (a := a) (b := b) j hj
      obtain ⟨k1, k2, k3, k4, k5, k6, k7⟩ := h1 j hj
      exact ⟨by rw [va_ne hjt, o1, k1], by rw [va_ne hjt, o2, k2], by rw [va_ne hjt, o3, k3], by rw [va_ne hjt, o4, k4], by rw [va_ne hjt, o5, k5], by rw [va_ne hjt, o6, k6], by rw [va_ne hjt, o7, k7]⟩
  · obtain ⟨r1, r2, r3, r4, r5, r6, r7⟩ := h3 j
    have hab := shp_a hs
    have hs9 : 0 ≤ s ∧ s ≤ 300 := by unfold shp at hs; omega
    obtain ⟨-, -, -, -, -, bb⟩ := hT'.2.1 (sN S) (by show sN S < sN S + 1; omega)
    rw [n4, n5, n6] at bb
    have hh := hbS_64 (fun h => decide (0 < cntN S s a b h))
    refine ⟨?_, ?_, ?_, ?_, ?_, ?_, ?_⟩
    · unfold va_up; split <;> omega
    · unfold va_up; split <;> omega
    · unfold va_up; split <;> omega
    · unfold va_up; split <;> omega
    · unfold va_up; split <;> omega
    · unfold va_up; split <;> omega
    · unfold va_up nHo; split <;> omega
theorem hbS_bit (f : Nat → Bool) {k : Nat} (hk : k < 6) : zI (hbS f (k + 1)) = zI (hbS f k) ||| zI (if f k then 2 ^ k else 0) := by
  simp only [hbS]
  cases f k with
  | true => rw [if_pos rfl, zI_orp hk (hbS_in f k)]
  | false => rw [if_neg (by simp), Int.add_zero, zI_or0]
theorem hbS_or (f g : Nat → Bool) : ∀ k, k ≤ 6 → zI (hbS f k) ||| zI (hbS g k) = zI (hbS (fun i => f i || g i) k) := by
  intro k
  induction k with
  | zero => intro _; exact zI_or0 0
  | succ k ih =>
    intro hk
    rw [hbS_bit f (by omega), hbS_bit g (by omega), hbS_bit _ (by omega), ← ih (by omega)]
    have e : zI (if f k then 2 ^ k else 0) ||| zI (if g k then 2 ^ k else 0) = zI (if (f k || g k) then 2 ^ k else 0) := by
      cases f k <;> cases g k
      · exact zI_or0 _
      · show zI 0 ||| _ = _
        rw [Int32.or_comm]
        exact zI_or0 _
      · exact zI_or0 _
      · exact Int32.or_self
    rw [← e, Int32.or_assoc, Int32.or_assoc]
    congr 1
    rw [← Int32.or_assoc, ← Int32.or_assoc, Int32.or_comm (zI (if f k then 2 ^ k else 0))]
theorem hbS_0 {f : Nat → Bool} (h : ∀ i, i < 6 → f i = false) : hbS f 6 = 0 := by
  rw [hbS_eq (g := fun _ => false) h]
  rfl
theorem hbS_1 {f : Nat → Bool} {j : Nat} (hj : j < 6) (h : ∀ i, i < 6 → f i = decide (i = j)) : hbS f 6 = 2 ^ j := by
  rw [hbS_eq (g := fun i => decide (i = j)) h]
  have : ∀ j : Fin 6, hbS (fun i => decide (i = (j : Nat))) 6 = 2 ^ (j : Nat) := by decide
  exact this ⟨j, hj⟩
theorem nHo_leaf {S : xS} {s : Int} (h : 100 ≤ s ∧ s < 120) : nHo S s (-1) (-1) = 0 := hbS_0 (fun i hi => by
  unfold cntN
  rw [if_neg (by omega : ¬ s = 200 + (i : Int)), if_pos (by omega : (-1 : Int) < 0)]
  rfl)
theorem nHo_hole {S : xS} {s : Int} (h : 200 ≤ s ∧ s < 206) : nHo S s (-1) (-1) = 2 ^ (s - 200).toNat := hbS_1 (by omega) (fun i hi => by
  unfold cntN
  by_cases q : s = 200 + (i : Int)
  · rw [if_pos q, if_pos (by omega : (-1 : Int) < 0)]
    rw [decide_eq_true (by omega), decide_eq_true (by omega)]
  · rw [if_neg q, if_pos (by omega : (-1 : Int) < 0)]
    rw [decide_eq_false (by omega), decide_eq_false (by omega)])
theorem nHo_one {S : xS} {s a : Int} (hT : Tb S) (h : 0 ≤ s ∧ s < 6) (ha : 0 ≤ a ∧ a < sN S) : sHo S a.toNat = nHo S s a (-1) := by
  rw [(hT.2.1 a.toNat (by omega)).2.2.2.2.1]
  exact hbS_eq (fun i hi => by
    unfold cntN
    rw [if_neg (by omega : ¬ s = 200 + (i : Int)), if_neg (by omega : ¬ a < 0), if_pos (by omega), Int.zero_add, Int.add_zero])
theorem nHo_two {S : xS} {s a b : Int} (hT : Tb S) (h : 6 ≤ s ∧ s < 12) (ha : 0 ≤ a ∧ a < sN S) (hb : 0 ≤ b ∧ b < sN S) : zI (sHo S a.toNat) ||| zI (sHo S b.toNat) = zI (nHo S s a b) := by
  rw [(hT.2.1 a.toNat (by omega)).2.2.2.2.1, (hT.2.1 b.toNat (by omega)).2.2.2.2.1, hbS_or _ _ 6 (by omega)]
  congr 1
  exact hbS_eq (fun i hi => by
    have c1 := cnt_in hT (j := a.toNat) (by omega) i
    have c2 := cnt_in hT (j := b.toNat) (by omega) i
    unfold cntN
    rw [if_neg (by omega : ¬ s = 200 + (i : Int)), if_neg (by omega : ¬ a < 0), if_neg (by omega : ¬ b < 0), Int.zero_add]
    by_cases q : 0 < cnt S a.toNat i + cnt S b.toNat i
    · rw [decide_eq_true q]
      by_cases q1 : 0 < cnt S a.toNat i
      · rw [decide_eq_true q1]; rfl
      · rw [decide_eq_true (by omega : 0 < cnt S b.toNat i)]; simp
    · rw [decide_eq_false q, decide_eq_false (by omega), decide_eq_false (by omega)]; rfl)
set_option maxHeartbeats 4000000 in
set_option maxRecDepth 100000 in
theorem m_Md_parts {L : Launch} {D : va_G} {cA : Nat → ClassId} {base : Nat} {ad : Nat → Nat} {w : Nat → va_E} {x : Int} (hx : -1 ≤ x ∧ x ≤ 300) : XM L D cA base y_Md_parts c_Md_parts 1 (some .int) (xrm 0 0 0) [.int (zI x)] 56 ad w (xPure 56 ad w (.int (zI (prt x)))) xF := by
  refine xm_of (by decide +kernel) (by simp [Value.category]) (Nat.le_of_ble_eq_true rfl) (fun G C E _ => ?_)
  refine xr_iload_n C 0 d_Md_parts_0 rfl rfl ?_
  refine xr_bipush C d_Md_parts_1 (by decide) ?_
  refine xz_icmp_lt (tgt := 10) C d_Md_parts_3 (by decide) (by omega) (by omega) (fun c3 => ?_) (fun c3 => ?_)
  · skip
    refine xr_iload_n C 0 d_Md_parts_10 rfl rfl ?_
    refine xr_bipush C d_Md_parts_11 (by decide) ?_
    refine xz_icmp_ge (tgt := 20) C d_Md_parts_13 (by decide) (by omega) (by omega) (fun c13 => ?_) (fun c13 => ?_)
    · skip
      refine xr_iconst C d_Md_parts_20 ?_
      exact xr_iret C E ⟨rfl, rfl, rfl, xv_eq (by unfold prt; split <;> (try split) <;> omega)⟩ (by decide) (by decide) d_Md_parts_21
    · skip
      refine xr_iconst C d_Md_parts_16 ?_
      refine xr_goto (tgt := 21) C d_Md_parts_17 (by decide) ?_
      exact xr_iret C E ⟨rfl, rfl, rfl, xv_eq (by unfold prt; split <;> (try split) <;> omega)⟩ (by decide) (by decide) d_Md_parts_21
  · skip
    refine xr_iconst C d_Md_parts_6 ?_
    refine xr_goto (tgt := 21) C d_Md_parts_7 (by decide) ?_
    exact xr_iret C E ⟨rfl, rfl, rfl, xv_eq (by unfold prt; split <;> (try split) <;> omega)⟩ (by decide) (by decide) d_Md_parts_21
set_option maxHeartbeats 4000000 in
set_option maxRecDepth 100000 in
theorem m_Md_thrown {L : Launch} {D : va_G} {cA : Nat → ClassId} {base : Nat} {ad : Nat → Nat} {w : Nat → va_E} {tr ru ro sp nr ns th : Int} {se fa so : Bool} (hw29 : w 29 = mdO ad tr ru ro sp nr ns th se fa so) : XM L D cA base y_Md_thrown c_Md_thrown 1 (some .int) (xrm 0 0 0) [.ref (ad 29)] 56 ad w (xPure 56 ad w (.int (zI th))) xF := by
  refine xm_of (by decide +kernel) (by simp [Value.category]) (Nat.le_of_ble_eq_true rfl) (fun G C E _ => ?_)
  refine xr_aload_n C 0 d_Md_thrown_0 rfl rfl ?_
  refine xr_get (k := 29) C xg_Md_86 hw29 (by decide) rfl d_Md_thrown_1 ?_
  exact xr_iret C E ⟨rfl, rfl, rfl, rfl⟩ (by decide) (by decide) d_Md_thrown_4
set_option maxHeartbeats 4000000 in
set_option maxRecDepth 100000 in
theorem m_Md_isTree {L : Launch} {D : va_G} {cA : Nat → ClassId} {base : Nat} {ad : Nat → Nat} {w : Nat → va_E} {tr ru ro sp nr ns th : Int} {se fa so : Bool} (hw29 : w 29 = mdO ad tr ru ro sp nr ns th se fa so) (htr : 0 ≤ tr ∧ tr ≤ 300) {x : Int} (hx : -2147483648 ≤ x ∧ x < 2147483648) : XM L D cA base y_Md_isTree c_Md_isTree 2 (some .boolean) (xrm 0 0 0) [.ref (ad 29), .int (zI x)] 56 ad w (xPure 56 ad w (.int (zI (xb (decide (0 ≤ x ∧ x < tr)))))) xF := by
  refine xm_of (by decide +kernel) (by simp [Value.category]) (Nat.le_of_ble_eq_true rfl) (fun G C E _ => ?_)
  refine xr_iload_n C 1 d_Md_isTree_0 rfl rfl ?_
  refine xz_if_lt (tgt := 16) C d_Md_isTree_1 (by decide) (by omega) (fun c1 => ?_) (fun c1 => ?_)
  · skip
    refine xr_iconst C d_Md_isTree_16 ?_
    exact xr_zret C E (by omega) ⟨rfl, rfl, rfl, by first | exact xb_v1 (by omega) | exact xb_v0 (by omega)⟩ (by decide) (by decide) d_Md_isTree_17
  · skip
    refine xr_iload_n C 1 d_Md_isTree_4 rfl rfl ?_
    refine xr_aload_n C 0 d_Md_isTree_5 rfl rfl ?_
    refine xr_get (k := 29) C xg_Md_90 hw29 (by decide) rfl d_Md_isTree_6 ?_
    refine xz_icmp_ge (tgt := 16) C d_Md_isTree_9 (by decide) (by omega) (by omega) (fun c9 => ?_) (fun c9 => ?_)
    · skip
      refine xr_iconst C d_Md_isTree_16 ?_
      exact xr_zret C E (by omega) ⟨rfl, rfl, rfl, by first | exact xb_v1 (by omega) | exact xb_v0 (by omega)⟩ (by decide) (by decide) d_Md_isTree_17
    · skip
      refine xr_iconst C d_Md_isTree_12 ?_
      refine xr_goto (tgt := 17) C d_Md_isTree_13 (by decide) ?_
      exact xr_zret C E (by omega) ⟨rfl, rfl, rfl, by first | exact xb_v1 (by omega) | exact xb_v0 (by omega)⟩ (by decide) (by decide) d_Md_isTree_17
set_option maxHeartbeats 4000000 in
set_option maxRecDepth 100000 in
theorem m_Md_isRule {L : Launch} {D : va_G} {cA : Nat → ClassId} {base : Nat} {ad : Nat → Nat} {w : Nat → va_E} {tr ru ro sp nr ns th : Int} {se fa so : Bool} (hw29 : w 29 = mdO ad tr ru ro sp nr ns th se fa so) (hru : 0 ≤ ru ∧ ru ≤ 16) {x : Int} (hx : -2147483648 ≤ x ∧ x < 2147483648) : XM L D cA base y_Md_isRule c_Md_isRule 2 (some .boolean) (xrm 0 0 0) [.ref (ad 29), .int (zI x)] 56 ad w (xPure 56 ad w (.int (zI (xb (decide (0 ≤ x ∧ x < ru)))))) xF := by
  refine xm_of (by decide +kernel) (by simp [Value.category]) (Nat.le_of_ble_eq_true rfl) (fun G C E _ => ?_)
  refine xr_iload_n C 1 d_Md_isRule_0 rfl rfl ?_
  refine xz_if_lt (tgt := 16) C d_Md_isRule_1 (by decide) (by omega) (fun c1 => ?_) (fun c1 => ?_)
  · skip
    refine xr_iconst C d_Md_isRule_16 ?_
    exact xr_zret C E (by omega) ⟨rfl, rfl, rfl, by first | exact xb_v1 (by omega) | exact xb_v0 (by omega)⟩ (by decide) (by decide) d_Md_isRule_17
  · skip
    refine xr_iload_n C 1 d_Md_isRule_4 rfl rfl ?_
    refine xr_aload_n C 0 d_Md_isRule_5 rfl rfl ?_
    refine xr_get (k := 29) C xg_Md_129 hw29 (by decide) rfl d_Md_isRule_6 ?_
    refine xz_icmp_ge (tgt := 16) C d_Md_isRule_9 (by decide) (by omega) (by omega) (fun c9 => ?_) (fun c9 => ?_)
    · skip
      refine xr_iconst C d_Md_isRule_16 ?_
      exact xr_zret C E (by omega) ⟨rfl, rfl, rfl, by first | exact xb_v1 (by omega) | exact xb_v0 (by omega)⟩ (by decide) (by decide) d_Md_isRule_17
    · skip
      refine xr_iconst C d_Md_isRule_12 ?_
      refine xr_goto (tgt := 17) C d_Md_isRule_13 (by decide) ?_
      exact xr_zret C E (by omega) ⟨rfl, rfl, rfl, by first | exact xb_v1 (by omega) | exact xb_v0 (by omega)⟩ (by decide) (by decide) d_Md_isRule_17
set_option maxHeartbeats 4000000 in
set_option maxRecDepth 100000 in
theorem m_Md_may {L : Launch} {D : va_G} {cA : Nat → ClassId} {base : Nat} {ad : Nat → Nat} {w : Nat → va_E} {tr ru ro sp nr ns th : Int} {se fa so : Bool} (hw29 : w 29 = mdO ad tr ru ro sp nr ns th se fa so) {co ch an : Nat → Int} (hw39 : w 39 = xIA (cA 0) 16 co) (hw40 : w 40 = xIA (cA 1) 16 ch) (hw41 : w 41 = xIA (cA 0) 10 an) {x : Int} (hx : 0 ≤ x ∧ x < 16) (hco : -1 ≤ co x.toNat ∧ co x.toNat < 10) (hch : ch x.toNat = 0 ∨ ch x.toNat = 1) (han : ∀ j, 0 ≤ an j ∧ an j ≤ 2) : XM L D cA base y_Md_may c_Md_may 2 (some .boolean) (xrm 0 0 0) [.ref (ad 29), .int (zI x)] 56 ad w (xPure 56 ad w (.int (zI (xb (decide (ch x.toNat = 1 ∧ (co x.toNat = -1 ∨ an (co x.toNat).toNat = 1))))))) xF := by
  refine xm_of (by decide +kernel) (by simp [Value.category]) (Nat.le_of_ble_eq_true rfl) (fun G C E _ => ?_)
  have := han (co x.toNat).toNat
  refine xr_aload_n C 0 d_Md_may_0 rfl rfl ?_
  refine xr_get (k := 29) C xg_Md_40 hw29 (by decide) rfl d_Md_may_1 ?_
  refine xr_iload_n C 1 d_Md_may_4 rfl rfl ?_
  refine xz_zald (k := 40) C hw40 (by decide) (by omega) (by decide) d_Md_may_5 ?_
  refine xz_if_eq (tgt := 38) C d_Md_may_6 (by decide) (by omega) (fun c6 => ?_) (fun c6 => ?_)
  · skip
    refine xr_iconst C d_Md_may_38 ?_
    exact xr_zret C E (by omega) ⟨rfl, rfl, rfl, by first | exact xb_v1 (by omega) | exact xb_v0 (by omega)⟩ (by decide) (by decide) d_Md_may_39
  · skip
    refine xr_aload_n C 0 d_Md_may_9 rfl rfl ?_
    refine xr_get (k := 29) C xg_Md_37 hw29 (by decide) rfl d_Md_may_10 ?_
    refine xr_iload_n C 1 d_Md_may_13 rfl rfl ?_
    refine xz_iald (k := 39) C hw39 (by decide) (by omega) (by decide) d_Md_may_14 ?_
    refine xr_iconst C d_Md_may_15 ?_
    refine xz_icmp_eq (tgt := 34) C d_Md_may_16 (by decide) (by omega) (by omega) (fun c16 => ?_) (fun c16 => ?_)
    · skip
      refine xr_iconst C d_Md_may_34 ?_
      refine xr_goto (tgt := 39) C d_Md_may_35 (by decide) ?_
      exact xr_zret C E (by omega) ⟨rfl, rfl, rfl, by first | exact xb_v1 (by omega) | exact xb_v0 (by omega)⟩ (by decide) (by decide) d_Md_may_39
    · skip
      refine xr_aload_n C 0 d_Md_may_19 rfl rfl ?_
      refine xr_get (k := 29) C xg_Md_44 hw29 (by decide) rfl d_Md_may_20 ?_
      refine xr_aload_n C 0 d_Md_may_23 rfl rfl ?_
      refine xr_get (k := 29) C xg_Md_37 hw29 (by decide) rfl d_Md_may_24 ?_
      refine xr_iload_n C 1 d_Md_may_27 rfl rfl ?_
      refine xz_iald (k := 39) C hw39 (by decide) (by omega) (by decide) d_Md_may_28 ?_
      refine xz_iald (k := 41) C hw41 (by decide) (by omega) (by decide) d_Md_may_29 ?_
      refine xr_iconst C d_Md_may_30 ?_
      refine xz_icmp_ne (tgt := 38) C d_Md_may_31 (by decide) (by omega) (by omega) (fun c31 => ?_) (fun c31 => ?_)
      · skip
        refine xr_iconst C d_Md_may_38 ?_
        exact xr_zret C E (by omega) ⟨rfl, rfl, rfl, by first | exact xb_v1 (by omega) | exact xb_v0 (by omega)⟩ (by decide) (by decide) d_Md_may_39
      · skip
        refine xr_iconst C d_Md_may_34 ?_
        refine xr_goto (tgt := 39) C d_Md_may_35 (by decide) ?_
        exact xr_zret C E (by omega) ⟨rfl, rfl, rfl, by first | exact xb_v1 (by omega) | exact xb_v0 (by omega)⟩ (by decide) (by decide) d_Md_may_39
set_option maxHeartbeats 4000000 in
set_option maxRecDepth 100000 in
theorem m_Md_tree {L : Launch} {D : va_G} {cA : Nat → ClassId} {base : Nat} {ad : Nat → Nat} {w : Nat → va_E} {S : xS} {s a b ru ro sp nr ns th : Int} {se fa so : Bool} (hMT : MT ad cA w S ru ro sp nr ns th se fa so) (hT : Tb S) (hs : shp s a b (sN S)) : XM L D cA base y_Md_tree c_Md_tree 9 (some .int) (xrm 1 0 0) [.ref (ad 29), .int (zI s), .int (zI a), .int (zI b)] 56 ad w (xRet 56 ad (fun z w' => ∃ S' : xS, (z, S') = mkT S s a b ∧ MT ad cA w' S' ru ro sp nr ns th se (fa || decide (z < 0)) so ∧ (∀ k, (k < 29 ∨ 36 < k) → w' k = w k))) xF := by
  refine xm_of (by decide +kernel) (by simp [Value.category]) (Nat.le_of_ble_eq_true rfl) (fun G C E _ => ?_)
  obtain ⟨sg, fs, sn, wt, pl, dp, ho, hw29, hw30, hw31, hw32, hw33, hw34, hw35, hw36, hA⟩ := hMT
  have hab := shp_a hs
  have hN := hT.1
  have hsr0 : 0 ≤ s ∧ s ≤ 300 := by unfold shp at hs; omega
  have J : fnd S s a b = none → ∀ lv : Nat → Option Value, lv 0 = some (.ref (ad 29)) → lv 1 = some (.int (zI s)) → lv 2 = some (.int (zI a)) → lv 3 = some (.int (zI b)) → lv 5 = some (.int (zI (nWt (sWt S) s a b))) → lv 6 = some (.int (zI (nPl (sPl S) s a b))) → lv 7 = some (.int (zI (nDp (sDp S) s a b))) → lv 8 = some (.int (zI (nHo S s a b))) → XW G 56 ad w 0 0 226 lv [] := by
    intro hf lv hl0 hl1 hl2 hl3 hl5 hl6 hl7 hl8
    have hwn := nWt_in hT hs
    have hdn := nDp_in hT hs
    refine xr_aload_n C 0 d_Md_tree_226 rfl hl0 ?_
    refine xr_get (k := 29) C xg_Md_90 hw29 (by decide) rfl d_Md_tree_227 ?_
    refine xr_sipush C d_Md_tree_230 (by decide) ?_
    refine xz_icmp_eq (tgt := 251) C d_Md_tree_233 (by decide) (by omega) (by omega) (fun c233 => ?_) (fun c233 => ?_)
    · skip
      refine xr_aload_n C 0 d_Md_tree_251 rfl hl0 ?_
      refine xr_iconst C d_Md_tree_252 ?_
      refine xr_put (k := 29) C xf_Md_97 hw29 (by decide) (by decide) (by decide) (Nat.le_of_ble_eq_true rfl) d_Md_tree_253 ?_
      refine xr_iconst C d_Md_tree_256 ?_
      have hL : 300 ≤ sN S ∨ 1000 < nWt (sWt S) s a b ∨ 30 < nDp (sDp S) s a b := by omega
      exact xr_iret C E ⟨rfl, rfl, -1, rfl, S, by rw [mkT_none hf, if_pos hL], ⟨sg, fs, sn, wt, pl, dp, ho, by show va_up w 29 _ 29 = _; rw [va_eq, show (fa || decide ((-1 : Int) < 0)) = true by simp]; rfl, hw30, hw31, hw32, hw33, hw34, hw35, hw36, hA⟩, fun k hk => va_ne (by omega)⟩ (by decide) (by decide) d_Md_tree_257
    · skip
      refine xr_iload C d_Md_tree_236 hl7 ?_
      refine xr_bipush C d_Md_tree_238 (by decide) ?_
      refine xz_icmp_gt (tgt := 251) C d_Md_tree_240 (by decide) (by omega) (by omega) (fun c240 => ?_) (fun c240 => ?_)
      · skip
        refine xr_aload_n C 0 d_Md_tree_251 rfl hl0 ?_
        refine xr_iconst C d_Md_tree_252 ?_
        refine xr_put (k := 29) C xf_Md_97 hw29 (by decide) (by decide) (by decide) (Nat.le_of_ble_eq_true rfl) d_Md_tree_253 ?_
        refine xr_iconst C d_Md_tree_256 ?_
        have hL : 300 ≤ sN S ∨ 1000 < nWt (sWt S) s a b ∨ 30 < nDp (sDp S) s a b := by omega
        exact xr_iret C E ⟨rfl, rfl, -1, rfl, S, by rw [mkT_none hf, if_pos hL], ⟨sg, fs, sn, wt, pl, dp, ho, by show va_up w 29 _ 29 = _; rw [va_eq, show (fa || decide ((-1 : Int) < 0)) = true by simp]; rfl, hw30, hw31, hw32, hw33, hw34, hw35, hw36, hA⟩, fun k hk => va_ne (by omega)⟩ (by decide) (by decide) d_Md_tree_257
      · skip
        refine xr_iload C d_Md_tree_243 hl5 ?_
        refine xr_sipush C d_Md_tree_245 (by decide) ?_
        refine xz_icmp_le (tgt := 258) C d_Md_tree_248 (by decide) (by omega) (by omega) (fun c248 => ?_) (fun c248 => ?_)
        · skip
          have hL : ¬ (300 ≤ sN S ∨ 1000 < nWt (sWt S) s a b ∨ 30 < nDp (sDp S) s a b) := by omega
          refine xr_aload_n C 0 d_Md_tree_258 rfl hl0 ?_
          refine xr_get (k := 29) C xg_Md_7 hw29 (by decide) rfl d_Md_tree_259 ?_
          refine xr_aload_n C 0 d_Md_tree_262 rfl hl0 ?_
          refine xr_get (k := 29) C xg_Md_90 hw29 (by decide) rfl d_Md_tree_263 ?_
          refine xr_iload_n C 1 d_Md_tree_266 rfl hl1 ?_
          refine xj_iast (k := 30) C (sN S) (by omega) hw30 (by decide) (by omega) (by decide) d_Md_tree_267 ?_
          refine xr_aload_n C 0 d_Md_tree_268 rfl hl0 ?_
          refine xr_get (k := 29) C xg_Md_13 hw29 (by decide) rfl d_Md_tree_269 ?_
          refine xr_aload_n C 0 d_Md_tree_272 rfl hl0 ?_
          refine xr_get (k := 29) C xg_Md_90 hw29 (by decide) rfl d_Md_tree_273 ?_
          refine xr_iload_n C 2 d_Md_tree_276 rfl hl2 ?_
          refine xj_iast (k := 31) C (sN S) (by omega) hw31 (by decide) (by omega) (by decide) d_Md_tree_277 ?_
          refine xr_aload_n C 0 d_Md_tree_278 rfl hl0 ?_
          refine xr_get (k := 29) C xg_Md_16 hw29 (by decide) rfl d_Md_tree_279 ?_
          refine xr_aload_n C 0 d_Md_tree_282 rfl hl0 ?_
          refine xr_get (k := 29) C xg_Md_90 hw29 (by decide) rfl d_Md_tree_283 ?_
          refine xr_iload_n C 3 d_Md_tree_286 rfl hl3 ?_
          refine xj_iast (k := 32) C (sN S) (by omega) hw32 (by decide) (by omega) (by decide) d_Md_tree_287 ?_
          refine xr_aload_n C 0 d_Md_tree_288 rfl hl0 ?_
          refine xr_get (k := 29) C xg_Md_19 hw29 (by decide) rfl d_Md_tree_289 ?_
          refine xr_aload_n C 0 d_Md_tree_292 rfl hl0 ?_
          refine xr_get (k := 29) C xg_Md_90 hw29 (by decide) rfl d_Md_tree_293 ?_
          refine xr_iload C d_Md_tree_296 hl5 ?_
          refine xj_iast (k := 33) C (sN S) (by omega) hw33 (by decide) (by omega) (by decide) d_Md_tree_298 ?_
          refine xr_aload_n C 0 d_Md_tree_299 rfl hl0 ?_
          refine xr_get (k := 29) C xg_Md_22 hw29 (by decide) rfl d_Md_tree_300 ?_
          refine xr_aload_n C 0 d_Md_tree_303 rfl hl0 ?_
          refine xr_get (k := 29) C xg_Md_90 hw29 (by decide) rfl d_Md_tree_304 ?_
          refine xr_iload C d_Md_tree_307 hl6 ?_
          refine xj_iast (k := 34) C (sN S) (by omega) hw34 (by decide) (by omega) (by decide) d_Md_tree_309 ?_
          refine xr_aload_n C 0 d_Md_tree_310 rfl hl0 ?_
          refine xr_get (k := 29) C xg_Md_25 hw29 (by decide) rfl d_Md_tree_311 ?_
          refine xr_aload_n C 0 d_Md_tree_314 rfl hl0 ?_
          refine xr_get (k := 29) C xg_Md_90 hw29 (by decide) rfl d_Md_tree_315 ?_
          refine xr_iload C d_Md_tree_318 hl7 ?_
          refine xj_iast (k := 35) C (sN S) (by omega) hw35 (by decide) (by omega) (by decide) d_Md_tree_320 ?_
          refine xr_aload_n C 0 d_Md_tree_321 rfl hl0 ?_
          refine xr_get (k := 29) C xg_Md_28 hw29 (by decide) rfl d_Md_tree_322 ?_
          refine xr_aload_n C 0 d_Md_tree_325 rfl hl0 ?_
          refine xr_get (k := 29) C xg_Md_90 hw29 (by decide) rfl d_Md_tree_326 ?_
          refine xr_iload C d_Md_tree_329 hl8 ?_
          refine xj_iast (k := 36) C (sN S) (by omega) hw36 (by decide) (by omega) (by decide) d_Md_tree_331 ?_
          refine xr_aload_n C 0 d_Md_tree_332 rfl hl0 ?_
          refine xr_dup C rfl d_Md_tree_333 ?_
          refine xr_get (k := 29) C xg_Md_90 hw29 (by decide) rfl d_Md_tree_334 ?_
          refine xr_iconst C d_Md_tree_337 ?_
          refine xz_iadd C d_Md_tree_338 ?_
          refine xr_put (k := 29) C xf_Md_90 hw29 (by decide) rfl rfl (Nat.le_of_ble_eq_true rfl) d_Md_tree_339 ?_
          refine xr_aload_n C 0 d_Md_tree_342 rfl hl0 ?_
          refine xr_get (k := 29) C xg_Md_90 rfl (by decide) rfl d_Md_tree_343 ?_
          refine xr_iconst C d_Md_tree_346 ?_
          refine xz_isub C d_Md_tree_347 ?_
          refine xr_eqz (y := (sN S : Int)) (by omega) ?_
          exact xr_iret C E ⟨rfl, rfl, (sN S : Int), rfl, psh S s a b, by rw [mkT_none hf, if_neg hL], ⟨va_up sg (sN S) s, va_up fs (sN S) a, va_up sn (sN S) b, va_up wt (sN S) (nWt (sWt S) s a b), va_up pl (sN S) (nPl (sPl S) s a b), va_up dp (sN S) (nDp (sDp S) s a b), va_up ho (sN S) (nHo S s a b), by rw [va_eq, show (fa || decide ((sN S : Int) < 0)) = fa by rw [decide_eq_false (by omega), Bool.or_false]]; rfl, rfl, rfl, rfl, rfl, rfl, rfl, rfl, ma_push hA hT hs hf hL⟩, fun k hk => by
            rw [va_ne (by omega), va_ne (by omega), va_ne (by omega), va_ne (by omega), va_ne (by omega), va_ne (by omega), va_ne (by omega), va_ne (by omega)]⟩ (by decide) (by decide) d_Md_tree_348
        · skip
          refine xr_aload_n C 0 d_Md_tree_251 rfl hl0 ?_
          refine xr_iconst C d_Md_tree_252 ?_
          refine xr_put (k := 29) C xf_Md_97 hw29 (by decide) (by decide) (by decide) (Nat.le_of_ble_eq_true rfl) d_Md_tree_253 ?_
          refine xr_iconst C d_Md_tree_256 ?_
          have hL : 300 ≤ sN S ∨ 1000 < nWt (sWt S) s a b ∨ 30 < nDp (sDp S) s a b := by omega
          exact xr_iret C E ⟨rfl, rfl, -1, rfl, S, by rw [mkT_none hf, if_pos hL], ⟨sg, fs, sn, wt, pl, dp, ho, by show va_up w 29 _ 29 = _; rw [va_eq, show (fa || decide ((-1 : Int) < 0)) = true by simp]; rfl, hw30, hw31, hw32, hw33, hw34, hw35, hw36, hA⟩, fun k hk => va_ne (by omega)⟩ (by decide) (by decide) d_Md_tree_257
  have K : fnd S s a b = none → ∀ lv : Nat → Option Value, lv 0 = some (.ref (ad 29)) → lv 1 = some (.int (zI s)) → lv 2 = some (.int (zI a)) → lv 3 = some (.int (zI b)) → XW G 56 ad w 0 0 54 lv [] := by
    intro hf lv hl0 hl1 hl2 hl3
    have hsr : 0 ≤ s ∧ s ≤ 300 := by unfold shp at hs; omega
    have hs9 := hs
    unfold shp at hs9
    rcases hs9 with q | q | q | q
    · skip
      refine xr_iload_n C 1 d_Md_tree_54 rfl hl1 ?_
      refine xr_callS C (m_Md_parts (x := s) (by omega)) xm_Md_93 x2_Md_parts (by decide) (by decide) (Nat.le_of_ble_eq_true rfl) rfl d_Md_tree_55 (fun En n9 ad9 w9 hx9 => hx9.elim) (fun v n9 ad9 w9 hp => ?_)
      obtain ⟨rfl, rfl, rfl, rfl⟩ := hp
      show XW _ _ _ _ _ _ 58 _ (_ :: _)
      refine xr_eqz (y := 0) (by unfold prt; rw [if_pos (by omega)]) ?_
      refine xr_istore C d_Md_tree_58 (by decide) ?_
      refine xr_iconst C d_Md_tree_60 ?_
      refine xr_eqz (y := nWt (sWt S) s a b) (by rw [nWt_0 (by omega)]) ?_
      refine xr_istore C d_Md_tree_61 (by decide) ?_
      refine xr_iconst C d_Md_tree_63 ?_
      refine xr_eqz (y := nPl (sPl S) s a b) (by rw [nPl_0 (by omega)]) ?_
      refine xr_istore C d_Md_tree_64 (by decide) ?_
      refine xr_iconst C d_Md_tree_66 ?_
      refine xr_eqz (y := nDp (sDp S) s a b) (by rw [nDp_0 (by omega)]) ?_
      refine xr_istore C d_Md_tree_67 (by decide) ?_
      refine xr_iload_n C 1 d_Md_tree_69 rfl hl1 ?_
      refine xr_sipush C d_Md_tree_70 (by decide) ?_
      refine xz_icmp_lt (tgt := 86) C d_Md_tree_73 (by decide) (by omega) (by omega) (fun c73 => ?_) (fun c73 => by exfalso; omega)
      refine xr_iconst C d_Md_tree_86 ?_
      refine xr_eqz (y := nHo S s a b) (by rw [q.2.2.1, q.2.2.2, nHo_leaf (by omega)]) ?_
      refine xr_istore C d_Md_tree_87 (by decide) ?_
      refine xr_iload C d_Md_tree_89 rfl ?_
      refine xz_if_le (tgt := 226) C d_Md_tree_91 (by decide) (by omega) (fun c91 => ?_) (fun c91 => by exfalso; omega)
      exact J hf _ hl0 hl1 hl2 hl3 rfl rfl rfl rfl
    · skip
      refine xr_iload_n C 1 d_Md_tree_54 rfl hl1 ?_
      refine xr_callS C (m_Md_parts (x := s) (by omega)) xm_Md_93 x2_Md_parts (by decide) (by decide) (Nat.le_of_ble_eq_true rfl) rfl d_Md_tree_55 (fun En n9 ad9 w9 hx9 => hx9.elim) (fun v n9 ad9 w9 hp => ?_)
      obtain ⟨rfl, rfl, rfl, rfl⟩ := hp
      show XW _ _ _ _ _ _ 58 _ (_ :: _)
      refine xr_eqz (y := 0) (by unfold prt; rw [if_pos (by omega)]) ?_
      refine xr_istore C d_Md_tree_58 (by decide) ?_
      refine xr_iconst C d_Md_tree_60 ?_
      refine xr_eqz (y := nWt (sWt S) s a b) (by rw [nWt_0 (by omega)]) ?_
      refine xr_istore C d_Md_tree_61 (by decide) ?_
      refine xr_iconst C d_Md_tree_63 ?_
      refine xr_eqz (y := nPl (sPl S) s a b) (by rw [nPl_0 (by omega)]) ?_
      refine xr_istore C d_Md_tree_64 (by decide) ?_
      refine xr_iconst C d_Md_tree_66 ?_
      refine xr_eqz (y := nDp (sDp S) s a b) (by rw [nDp_0 (by omega)]) ?_
      refine xr_istore C d_Md_tree_67 (by decide) ?_
      refine xr_iload_n C 1 d_Md_tree_69 rfl hl1 ?_
      refine xr_sipush C d_Md_tree_70 (by decide) ?_
      refine xz_icmp_lt (tgt := 86) C d_Md_tree_73 (by decide) (by omega) (by omega) (fun c73 => by exfalso; omega) (fun c73 => ?_)
      refine xr_iconst C d_Md_tree_76 ?_
      refine xr_iload_n C 1 d_Md_tree_77 rfl hl1 ?_
      refine xr_sipush C d_Md_tree_78 (by decide) ?_
      refine xz_isub C d_Md_tree_81 ?_
      refine xr_ishl C d_Md_tree_82 ?_
      rw [show s - 200 = (((s - 200).toNat : Nat) : Int) by omega, zI_shl1 (by omega)]
      refine xr_goto (tgt := 87) C d_Md_tree_83 (by decide) ?_
      refine xr_eqz (y := nHo S s a b) (by rw [q.2.2.1, q.2.2.2, nHo_hole (by omega)]) ?_
      refine xr_istore C d_Md_tree_87 (by decide) ?_
      refine xr_iload C d_Md_tree_89 rfl ?_
      refine xz_if_le (tgt := 226) C d_Md_tree_91 (by decide) (by omega) (fun c91 => ?_) (fun c91 => by exfalso; omega)
      exact J hf _ hl0 hl1 hl2 hl3 rfl rfl rfl rfl
    · skip
      refine xr_iload_n C 1 d_Md_tree_54 rfl hl1 ?_
      refine xr_callS C (m_Md_parts (x := s) (by omega)) xm_Md_93 x2_Md_parts (by decide) (by decide) (Nat.le_of_ble_eq_true rfl) rfl d_Md_tree_55 (fun En n9 ad9 w9 hx9 => hx9.elim) (fun v n9 ad9 w9 hp => ?_)
      obtain ⟨rfl, rfl, rfl, rfl⟩ := hp
      show XW _ _ _ _ _ _ 58 _ (_ :: _)
      refine xr_eqz (y := 1) (by unfold prt; rw [if_neg (by omega), if_pos (by omega)]) ?_
      refine xr_istore C d_Md_tree_58 (by decide) ?_
      refine xr_iconst C d_Md_tree_60 ?_
      refine xr_istore C d_Md_tree_61 (by decide) ?_
      refine xr_iconst C d_Md_tree_63 ?_
      refine xr_istore C d_Md_tree_64 (by decide) ?_
      refine xr_iconst C d_Md_tree_66 ?_
      refine xr_istore C d_Md_tree_67 (by decide) ?_
      refine xr_iload_n C 1 d_Md_tree_69 rfl hl1 ?_
      refine xr_sipush C d_Md_tree_70 (by decide) ?_
      refine xz_icmp_lt (tgt := 86) C d_Md_tree_73 (by decide) (by omega) (by omega) (fun c73 => ?_) (fun c73 => by exfalso; omega)
      refine xr_iconst C d_Md_tree_86 ?_
      refine xr_istore C d_Md_tree_87 (by decide) ?_
      refine xr_iload C d_Md_tree_89 rfl ?_
      refine xz_if_le (tgt := 226) C d_Md_tree_91 (by decide) (by omega) (fun c91 => by exfalso; omega) (fun c91 => ?_)
      refine xr_iconst C d_Md_tree_94 ?_
      refine xr_iload_n C 1 d_Md_tree_95 rfl hl1 ?_
      refine xr_iconst C d_Md_tree_96 ?_
      have ht : s.tmod 3 = s % 3 := Int.tmod_eq_emod_of_nonneg (by omega)
      refine xz_irem C d_Md_tree_97 (by omega) (by omega) ?_
      refine xr_iconst C d_Md_tree_98 ?_
      refine xz_icmp_ne (tgt := 106) C d_Md_tree_99 (by decide) (by omega) (by omega) (fun c99 => ?_) (fun c99 => ?_)
      · skip
        refine xr_iconst C d_Md_tree_106 ?_
        refine xr_eqz (y := c3 s) (by unfold c3; split <;> omega) ?_
        refine xz_iadd C d_Md_tree_107 ?_
        refine xr_aload_n C 0 d_Md_tree_108 rfl hl0 ?_
        refine xr_get (k := 29) C xg_Md_19 hw29 (by decide) rfl d_Md_tree_109 ?_
        refine xr_iload_n C 2 d_Md_tree_112 rfl hl2 ?_
        refine xz_iald (k := 33) C hw33 (by decide) (by omega) (by decide) d_Md_tree_113 ?_
        refine xz_iadd C d_Md_tree_114 ?_
        refine xr_iload C d_Md_tree_115 rfl ?_
        refine xr_iconst C d_Md_tree_117 ?_
        refine xz_icmp_le (tgt := 130) C d_Md_tree_118 (by decide) (by omega) (by omega) (fun c118 => ?_) (fun c118 => by exfalso; omega)
        refine xr_iconst C d_Md_tree_130 ?_
        refine xz_iadd C d_Md_tree_131 ?_
        refine xr_eqz (y := nWt (sWt S) s a b) (by rw [nWt_1 (by omega), (hA.1 a.toNat (by omega)).2.2.2.1]; omega) ?_
        refine xr_istore C d_Md_tree_132 (by decide) ?_
        refine xr_iconst C d_Md_tree_134 ?_
        refine xr_aload_n C 0 d_Md_tree_135 rfl hl0 ?_
        refine xr_get (k := 29) C xg_Md_22 hw29 (by decide) rfl d_Md_tree_136 ?_
        refine xr_iload_n C 2 d_Md_tree_139 rfl hl2 ?_
        refine xz_iald (k := 34) C hw34 (by decide) (by omega) (by decide) d_Md_tree_140 ?_
        refine xz_iadd C d_Md_tree_141 ?_
        refine xr_iload C d_Md_tree_142 rfl ?_
        refine xr_iconst C d_Md_tree_144 ?_
        refine xz_icmp_le (tgt := 157) C d_Md_tree_145 (by decide) (by omega) (by omega) (fun c145 => ?_) (fun c145 => by exfalso; omega)
        refine xr_iconst C d_Md_tree_157 ?_
        refine xz_iadd C d_Md_tree_158 ?_
        refine xr_eqz (y := nPl (sPl S) s a b) (by rw [nPl_1 (by omega), (hA.1 a.toNat (by omega)).2.2.2.2.1]; omega) ?_
        refine xr_istore C d_Md_tree_159 (by decide) ?_
        refine xr_iconst C d_Md_tree_161 ?_
        refine xr_iload C d_Md_tree_162 rfl ?_
        refine xr_iconst C d_Md_tree_164 ?_
        refine xz_icmp_le (tgt := 192) C d_Md_tree_165 (by decide) (by omega) (by omega) (fun c165 => ?_) (fun c165 => by exfalso; omega)
        refine xr_aload_n C 0 d_Md_tree_192 rfl hl0 ?_
        refine xr_get (k := 29) C xg_Md_25 hw29 (by decide) rfl d_Md_tree_193 ?_
        refine xr_iload_n C 2 d_Md_tree_196 rfl hl2 ?_
        refine xz_iald (k := 35) C hw35 (by decide) (by omega) (by decide) d_Md_tree_197 ?_
        refine xz_iadd C d_Md_tree_198 ?_
        refine xr_eqz (y := nDp (sDp S) s a b) (by rw [nDp_1 (by omega), (hA.1 a.toNat (by omega)).2.2.2.2.2.1]) ?_
        refine xr_istore C d_Md_tree_199 (by decide) ?_
        refine xr_aload_n C 0 d_Md_tree_201 rfl hl0 ?_
        refine xr_get (k := 29) C xg_Md_28 hw29 (by decide) rfl d_Md_tree_202 ?_
        refine xr_iload_n C 2 d_Md_tree_205 rfl hl2 ?_
        refine xz_iald (k := 36) C hw36 (by decide) (by omega) (by decide) d_Md_tree_206 ?_
        refine xr_iload C d_Md_tree_207 rfl ?_
        refine xr_iconst C d_Md_tree_209 ?_
        refine xz_icmp_le (tgt := 222) C d_Md_tree_210 (by decide) (by omega) (by omega) (fun c210 => ?_) (fun c210 => by exfalso; omega)
        refine xr_iconst C d_Md_tree_222 ?_
        refine xr_ior C d_Md_tree_223 ?_
        rw [zI_or0]
        refine xr_eqz (y := nHo S s a b) (by rw [(hA.1 a.toNat (by omega)).2.2.2.2.2.2, show b = -1 by omega]; exact nHo_one hT (by omega) (by omega)) ?_
        refine xr_istore C d_Md_tree_224 (by decide) ?_
        exact J hf _ hl0 hl1 hl2 hl3 rfl rfl rfl rfl
      · skip
        refine xr_iconst C d_Md_tree_102 ?_
        refine xr_goto (tgt := 107) C d_Md_tree_103 (by decide) ?_
        refine xr_eqz (y := c3 s) (by unfold c3; split <;> omega) ?_
        refine xz_iadd C d_Md_tree_107 ?_
        refine xr_aload_n C 0 d_Md_tree_108 rfl hl0 ?_
        refine xr_get (k := 29) C xg_Md_19 hw29 (by decide) rfl d_Md_tree_109 ?_
        refine xr_iload_n C 2 d_Md_tree_112 rfl hl2 ?_
        refine xz_iald (k := 33) C hw33 (by decide) (by omega) (by decide) d_Md_tree_113 ?_
        refine xz_iadd C d_Md_tree_114 ?_
        refine xr_iload C d_Md_tree_115 rfl ?_
        refine xr_iconst C d_Md_tree_117 ?_
        refine xz_icmp_le (tgt := 130) C d_Md_tree_118 (by decide) (by omega) (by omega) (fun c118 => ?_) (fun c118 => by exfalso; omega)
        refine xr_iconst C d_Md_tree_130 ?_
        refine xz_iadd C d_Md_tree_131 ?_
        refine xr_eqz (y := nWt (sWt S) s a b) (by rw [nWt_1 (by omega), (hA.1 a.toNat (by omega)).2.2.2.1]; omega) ?_
        refine xr_istore C d_Md_tree_132 (by decide) ?_
        refine xr_iconst C d_Md_tree_134 ?_
        refine xr_aload_n C 0 d_Md_tree_135 rfl hl0 ?_
        refine xr_get (k := 29) C xg_Md_22 hw29 (by decide) rfl d_Md_tree_136 ?_
        refine xr_iload_n C 2 d_Md_tree_139 rfl hl2 ?_
        refine xz_iald (k := 34) C hw34 (by decide) (by omega) (by decide) d_Md_tree_140 ?_
        refine xz_iadd C d_Md_tree_141 ?_
        refine xr_iload C d_Md_tree_142 rfl ?_
        refine xr_iconst C d_Md_tree_144 ?_
        refine xz_icmp_le (tgt := 157) C d_Md_tree_145 (by decide) (by omega) (by omega) (fun c145 => ?_) (fun c145 => by exfalso; omega)
        refine xr_iconst C d_Md_tree_157 ?_
        refine xz_iadd C d_Md_tree_158 ?_
        refine xr_eqz (y := nPl (sPl S) s a b) (by rw [nPl_1 (by omega), (hA.1 a.toNat (by omega)).2.2.2.2.1]; omega) ?_
        refine xr_istore C d_Md_tree_159 (by decide) ?_
        refine xr_iconst C d_Md_tree_161 ?_
        refine xr_iload C d_Md_tree_162 rfl ?_
        refine xr_iconst C d_Md_tree_164 ?_
        refine xz_icmp_le (tgt := 192) C d_Md_tree_165 (by decide) (by omega) (by omega) (fun c165 => ?_) (fun c165 => by exfalso; omega)
        refine xr_aload_n C 0 d_Md_tree_192 rfl hl0 ?_
        refine xr_get (k := 29) C xg_Md_25 hw29 (by decide) rfl d_Md_tree_193 ?_
        refine xr_iload_n C 2 d_Md_tree_196 rfl hl2 ?_
        refine xz_iald (k := 35) C hw35 (by decide) (by omega) (by decide) d_Md_tree_197 ?_
        refine xz_iadd C d_Md_tree_198 ?_
        refine xr_eqz (y := nDp (sDp S) s a b) (by rw [nDp_1 (by omega), (hA.1 a.toNat (by omega)).2.2.2.2.2.1]) ?_
        refine xr_istore C d_Md_tree_199 (by decide) ?_
        refine xr_aload_n C 0 d_Md_tree_201 rfl hl0 ?_
        refine xr_get (k := 29) C xg_Md_28 hw29 (by decide) rfl d_Md_tree_202 ?_
        refine xr_iload_n C 2 d_Md_tree_205 rfl hl2 ?_
        refine xz_iald (k := 36) C hw36 (by decide) (by omega) (by decide) d_Md_tree_206 ?_
        refine xr_iload C d_Md_tree_207 rfl ?_
        refine xr_iconst C d_Md_tree_209 ?_
        refine xz_icmp_le (tgt := 222) C d_Md_tree_210 (by decide) (by omega) (by omega) (fun c210 => ?_) (fun c210 => by exfalso; omega)
        refine xr_iconst C d_Md_tree_222 ?_
        refine xr_ior C d_Md_tree_223 ?_
        rw [zI_or0]
        refine xr_eqz (y := nHo S s a b) (by rw [(hA.1 a.toNat (by omega)).2.2.2.2.2.2, show b = -1 by omega]; exact nHo_one hT (by omega) (by omega)) ?_
        refine xr_istore C d_Md_tree_224 (by decide) ?_
        exact J hf _ hl0 hl1 hl2 hl3 rfl rfl rfl rfl
    · skip
      refine xr_iload_n C 1 d_Md_tree_54 rfl hl1 ?_
      refine xr_callS C (m_Md_parts (x := s) (by omega)) xm_Md_93 x2_Md_parts (by decide) (by decide) (Nat.le_of_ble_eq_true rfl) rfl d_Md_tree_55 (fun En n9 ad9 w9 hx9 => hx9.elim) (fun v n9 ad9 w9 hp => ?_)
      obtain ⟨rfl, rfl, rfl, rfl⟩ := hp
      show XW _ _ _ _ _ _ 58 _ (_ :: _)
      refine xr_eqz (y := 2) (by unfold prt; rw [if_neg (by omega), if_neg (by omega)]) ?_
      refine xr_istore C d_Md_tree_58 (by decide) ?_
      refine xr_iconst C d_Md_tree_60 ?_
      refine xr_istore C d_Md_tree_61 (by decide) ?_
      refine xr_iconst C d_Md_tree_63 ?_
      refine xr_istore C d_Md_tree_64 (by decide) ?_
      refine xr_iconst C d_Md_tree_66 ?_
      refine xr_istore C d_Md_tree_67 (by decide) ?_
      refine xr_iload_n C 1 d_Md_tree_69 rfl hl1 ?_
      refine xr_sipush C d_Md_tree_70 (by decide) ?_
      refine xz_icmp_lt (tgt := 86) C d_Md_tree_73 (by decide) (by omega) (by omega) (fun c73 => ?_) (fun c73 => by exfalso; omega)
      refine xr_iconst C d_Md_tree_86 ?_
      refine xr_istore C d_Md_tree_87 (by decide) ?_
      refine xr_iload C d_Md_tree_89 rfl ?_
      refine xz_if_le (tgt := 226) C d_Md_tree_91 (by decide) (by omega) (fun c91 => by exfalso; omega) (fun c91 => ?_)
      refine xr_iconst C d_Md_tree_94 ?_
      refine xr_iload_n C 1 d_Md_tree_95 rfl hl1 ?_
      refine xr_iconst C d_Md_tree_96 ?_
      have ht : s.tmod 3 = s % 3 := Int.tmod_eq_emod_of_nonneg (by omega)
      refine xz_irem C d_Md_tree_97 (by omega) (by omega) ?_
      refine xr_iconst C d_Md_tree_98 ?_
      refine xz_icmp_ne (tgt := 106) C d_Md_tree_99 (by decide) (by omega) (by omega) (fun c99 => ?_) (fun c99 => ?_)
      · skip
        refine xr_iconst C d_Md_tree_106 ?_
        refine xr_eqz (y := c3 s) (by unfold c3; split <;> omega) ?_
        refine xz_iadd C d_Md_tree_107 ?_
        refine xr_aload_n C 0 d_Md_tree_108 rfl hl0 ?_
        refine xr_get (k := 29) C xg_Md_19 hw29 (by decide) rfl d_Md_tree_109 ?_
        refine xr_iload_n C 2 d_Md_tree_112 rfl hl2 ?_
        refine xz_iald (k := 33) C hw33 (by decide) (by omega) (by decide) d_Md_tree_113 ?_
        refine xz_iadd C d_Md_tree_114 ?_
        refine xr_iload C d_Md_tree_115 rfl ?_
        refine xr_iconst C d_Md_tree_117 ?_
        refine xz_icmp_le (tgt := 130) C d_Md_tree_118 (by decide) (by omega) (by omega) (fun c118 => by exfalso; omega) (fun c118 => ?_)
        refine xr_aload_n C 0 d_Md_tree_121 rfl hl0 ?_
        refine xr_get (k := 29) C xg_Md_19 hw29 (by decide) rfl d_Md_tree_122 ?_
        refine xr_iload_n C 3 d_Md_tree_125 rfl hl3 ?_
        refine xz_iald (k := 33) C hw33 (by decide) (by omega) (by decide) d_Md_tree_126 ?_
        refine xr_goto (tgt := 131) C d_Md_tree_127 (by decide) ?_
        refine xz_iadd C d_Md_tree_131 ?_
        refine xr_eqz (y := nWt (sWt S) s a b) (by rw [nWt_2 (by omega) (by omega), (hA.1 a.toNat (by omega)).2.2.2.1, (hA.1 b.toNat (by omega)).2.2.2.1]) ?_
        refine xr_istore C d_Md_tree_132 (by decide) ?_
        refine xr_iconst C d_Md_tree_134 ?_
        refine xr_aload_n C 0 d_Md_tree_135 rfl hl0 ?_
        refine xr_get (k := 29) C xg_Md_22 hw29 (by decide) rfl d_Md_tree_136 ?_
        refine xr_iload_n C 2 d_Md_tree_139 rfl hl2 ?_
        refine xz_iald (k := 34) C hw34 (by decide) (by omega) (by decide) d_Md_tree_140 ?_
        refine xz_iadd C d_Md_tree_141 ?_
        refine xr_iload C d_Md_tree_142 rfl ?_
        refine xr_iconst C d_Md_tree_144 ?_
        refine xz_icmp_le (tgt := 157) C d_Md_tree_145 (by decide) (by omega) (by omega) (fun c145 => by exfalso; omega) (fun c145 => ?_)
        refine xr_aload_n C 0 d_Md_tree_148 rfl hl0 ?_
        refine xr_get (k := 29) C xg_Md_22 hw29 (by decide) rfl d_Md_tree_149 ?_
        refine xr_iload_n C 3 d_Md_tree_152 rfl hl3 ?_
        refine xz_iald (k := 34) C hw34 (by decide) (by omega) (by decide) d_Md_tree_153 ?_
        refine xr_goto (tgt := 158) C d_Md_tree_154 (by decide) ?_
        refine xz_iadd C d_Md_tree_158 ?_
        refine xr_eqz (y := nPl (sPl S) s a b) (by rw [nPl_2 (by omega) (by omega), (hA.1 a.toNat (by omega)).2.2.2.2.1, (hA.1 b.toNat (by omega)).2.2.2.2.1]) ?_
        refine xr_istore C d_Md_tree_159 (by decide) ?_
        refine xr_iconst C d_Md_tree_161 ?_
        refine xr_iload C d_Md_tree_162 rfl ?_
        refine xr_iconst C d_Md_tree_164 ?_
        refine xz_icmp_le (tgt := 192) C d_Md_tree_165 (by decide) (by omega) (by omega) (fun c165 => by exfalso; omega) (fun c165 => ?_)
        refine xr_aload_n C 0 d_Md_tree_168 rfl hl0 ?_
        refine xr_get (k := 29) C xg_Md_25 hw29 (by decide) rfl d_Md_tree_169 ?_
        refine xr_iload_n C 3 d_Md_tree_172 rfl hl3 ?_
        refine xz_iald (k := 35) C hw35 (by decide) (by omega) (by decide) d_Md_tree_173 ?_
        refine xr_aload_n C 0 d_Md_tree_174 rfl hl0 ?_
        refine xr_get (k := 29) C xg_Md_25 hw29 (by decide) rfl d_Md_tree_175 ?_
        refine xr_iload_n C 2 d_Md_tree_178 rfl hl2 ?_
        refine xz_iald (k := 35) C hw35 (by decide) (by omega) (by decide) d_Md_tree_179 ?_
        have d1 := (hA.2 a.toNat).2.2.2.2.2.1
        have d2 := (hA.2 b.toNat).2.2.2.2.2.1
        have e1 := (hA.1 a.toNat (by omega)).2.2.2.2.2.1
        have e2 := (hA.1 b.toNat (by omega)).2.2.2.2.2.1
        refine xz_icmp_le (tgt := 192) C d_Md_tree_180 (by decide) (by omega) (by omega) (fun c180 => ?_) (fun c180 => ?_)
        · skip
          refine xr_aload_n C 0 d_Md_tree_192 rfl hl0 ?_
          refine xr_get (k := 29) C xg_Md_25 hw29 (by decide) rfl d_Md_tree_193 ?_
          refine xr_iload_n C 2 d_Md_tree_196 rfl hl2 ?_
          refine xz_iald (k := 35) C hw35 (by decide) (by omega) (by decide) d_Md_tree_197 ?_
          refine xz_iadd C d_Md_tree_198 ?_
          refine xr_eqz (y := nDp (sDp S) s a b) (by rw [nDp_2 (by omega) (by omega), ← e1, ← e2]; omega) ?_
          refine xr_istore C d_Md_tree_199 (by decide) ?_
          refine xr_aload_n C 0 d_Md_tree_201 rfl hl0 ?_
          refine xr_get (k := 29) C xg_Md_28 hw29 (by decide) rfl d_Md_tree_202 ?_
          refine xr_iload_n C 2 d_Md_tree_205 rfl hl2 ?_
          refine xz_iald (k := 36) C hw36 (by decide) (by omega) (by decide) d_Md_tree_206 ?_
          refine xr_iload C d_Md_tree_207 rfl ?_
          refine xr_iconst C d_Md_tree_209 ?_
          refine xz_icmp_le (tgt := 222) C d_Md_tree_210 (by decide) (by omega) (by omega) (fun c210 => by exfalso; omega) (fun c210 => ?_)
          refine xr_aload_n C 0 d_Md_tree_213 rfl hl0 ?_
          refine xr_get (k := 29) C xg_Md_28 hw29 (by decide) rfl d_Md_tree_214 ?_
          refine xr_iload_n C 3 d_Md_tree_217 rfl hl3 ?_
          refine xz_iald (k := 36) C hw36 (by decide) (by omega) (by decide) d_Md_tree_218 ?_
          refine xr_goto (tgt := 223) C d_Md_tree_219 (by decide) ?_
          refine xr_ior C d_Md_tree_223 ?_
          rw [(hA.1 a.toNat (by omega)).2.2.2.2.2.2, (hA.1 b.toNat (by omega)).2.2.2.2.2.2, nHo_two (s := s) hT (by omega) (by omega) (by omega)]
          refine xr_istore C d_Md_tree_224 (by decide) ?_
          exact J hf _ hl0 hl1 hl2 hl3 rfl rfl rfl rfl
        · skip
          refine xr_aload_n C 0 d_Md_tree_183 rfl hl0 ?_
          refine xr_get (k := 29) C xg_Md_25 hw29 (by decide) rfl d_Md_tree_184 ?_
          refine xr_iload_n C 3 d_Md_tree_187 rfl hl3 ?_
          refine xz_iald (k := 35) C hw35 (by decide) (by omega) (by decide) d_Md_tree_188 ?_
          refine xr_goto (tgt := 198) C d_Md_tree_189 (by decide) ?_
          refine xz_iadd C d_Md_tree_198 ?_
          refine xr_eqz (y := nDp (sDp S) s a b) (by rw [nDp_2 (by omega) (by omega), ← e1, ← e2]; omega) ?_
          refine xr_istore C d_Md_tree_199 (by decide) ?_
          refine xr_aload_n C 0 d_Md_tree_201 rfl hl0 ?_
          refine xr_get (k := 29) C xg_Md_28 hw29 (by decide) rfl d_Md_tree_202 ?_
          refine xr_iload_n C 2 d_Md_tree_205 rfl hl2 ?_
          refine xz_iald (k := 36) C hw36 (by decide) (by omega) (by decide) d_Md_tree_206 ?_
          refine xr_iload C d_Md_tree_207 rfl ?_
          refine xr_iconst C d_Md_tree_209 ?_
          refine xz_icmp_le (tgt := 222) C d_Md_tree_210 (by decide) (by omega) (by omega) (fun c210 => by exfalso; omega) (fun c210 => ?_)
          refine xr_aload_n C 0 d_Md_tree_213 rfl hl0 ?_
          refine xr_get (k := 29) C xg_Md_28 hw29 (by decide) rfl d_Md_tree_214 ?_
          refine xr_iload_n C 3 d_Md_tree_217 rfl hl3 ?_
          refine xz_iald (k := 36) C hw36 (by decide) (by omega) (by decide) d_Md_tree_218 ?_
          refine xr_goto (tgt := 223) C d_Md_tree_219 (by decide) ?_
          refine xr_ior C d_Md_tree_223 ?_
          rw [(hA.1 a.toNat (by omega)).2.2.2.2.2.2, (hA.1 b.toNat (by omega)).2.2.2.2.2.2, nHo_two (s := s) hT (by omega) (by omega) (by omega)]
          refine xr_istore C d_Md_tree_224 (by decide) ?_
          exact J hf _ hl0 hl1 hl2 hl3 rfl rfl rfl rfl
      · skip
        refine xr_iconst C d_Md_tree_102 ?_
        refine xr_goto (tgt := 107) C d_Md_tree_103 (by decide) ?_
        refine xr_eqz (y := c3 s) (by unfold c3; split <;> omega) ?_
        refine xz_iadd C d_Md_tree_107 ?_
        refine xr_aload_n C 0 d_Md_tree_108 rfl hl0 ?_
        refine xr_get (k := 29) C xg_Md_19 hw29 (by decide) rfl d_Md_tree_109 ?_
        refine xr_iload_n C 2 d_Md_tree_112 rfl hl2 ?_
        refine xz_iald (k := 33) C hw33 (by decide) (by omega) (by decide) d_Md_tree_113 ?_
        refine xz_iadd C d_Md_tree_114 ?_
        refine xr_iload C d_Md_tree_115 rfl ?_
        refine xr_iconst C d_Md_tree_117 ?_
        refine xz_icmp_le (tgt := 130) C d_Md_tree_118 (by decide) (by omega) (by omega) (fun c118 => by exfalso; omega) (fun c118 => ?_)
        refine xr_aload_n C 0 d_Md_tree_121 rfl hl0 ?_
        refine xr_get (k := 29) C xg_Md_19 hw29 (by decide) rfl d_Md_tree_122 ?_
        refine xr_iload_n C 3 d_Md_tree_125 rfl hl3 ?_
        refine xz_iald (k := 33) C hw33 (by decide) (by omega) (by decide) d_Md_tree_126 ?_
        refine xr_goto (tgt := 131) C d_Md_tree_127 (by decide) ?_
        refine xz_iadd C d_Md_tree_131 ?_
        refine xr_eqz (y := nWt (sWt S) s a b) (by rw [nWt_2 (by omega) (by omega), (hA.1 a.toNat (by omega)).2.2.2.1, (hA.1 b.toNat (by omega)).2.2.2.1]) ?_
        refine xr_istore C d_Md_tree_132 (by decide) ?_
        refine xr_iconst C d_Md_tree_134 ?_
        refine xr_aload_n C 0 d_Md_tree_135 rfl hl0 ?_
        refine xr_get (k := 29) C xg_Md_22 hw29 (by decide) rfl d_Md_tree_136 ?_
        refine xr_iload_n C 2 d_Md_tree_139 rfl hl2 ?_
        refine xz_iald (k := 34) C hw34 (by decide) (by omega) (by decide) d_Md_tree_140 ?_
        refine xz_iadd C d_Md_tree_141 ?_
        refine xr_iload C d_Md_tree_142 rfl ?_
        refine xr_iconst C d_Md_tree_144 ?_
        refine xz_icmp_le (tgt := 157) C d_Md_tree_145 (by decide) (by omega) (by omega) (fun c145 => by exfalso; omega) (fun c145 => ?_)
        refine xr_aload_n C 0 d_Md_tree_148 rfl hl0 ?_
        refine xr_get (k := 29) C xg_Md_22 hw29 (by decide) rfl d_Md_tree_149 ?_
        refine xr_iload_n C 3 d_Md_tree_152 rfl hl3 ?_
        refine xz_iald (k := 34) C hw34 (by decide) (by omega) (by decide) d_Md_tree_153 ?_
        refine xr_goto (tgt := 158) C d_Md_tree_154 (by decide) ?_
        refine xz_iadd C d_Md_tree_158 ?_
        refine xr_eqz (y := nPl (sPl S) s a b) (by rw [nPl_2 (by omega) (by omega), (hA.1 a.toNat (by omega)).2.2.2.2.1, (hA.1 b.toNat (by omega)).2.2.2.2.1]) ?_
        refine xr_istore C d_Md_tree_159 (by decide) ?_
        refine xr_iconst C d_Md_tree_161 ?_
        refine xr_iload C d_Md_tree_162 rfl ?_
        refine xr_iconst C d_Md_tree_164 ?_
        refine xz_icmp_le (tgt := 192) C d_Md_tree_165 (by decide) (by omega) (by omega) (fun c165 => by exfalso; omega) (fun c165 => ?_)
        refine xr_aload_n C 0 d_Md_tree_168 rfl hl0 ?_
        refine xr_get (k := 29) C xg_Md_25 hw29 (by decide) rfl d_Md_tree_169 ?_
        refine xr_iload_n C 3 d_Md_tree_172 rfl hl3 ?_
        refine xz_iald (k := 35) C hw35 (by decide) (by omega) (by decide) d_Md_tree_173 ?_
        refine xr_aload_n C 0 d_Md_tree_174 rfl hl0 ?_
        refine xr_get (k := 29) C xg_Md_25 hw29 (by decide) rfl d_Md_tree_175 ?_
        refine xr_iload_n C 2 d_Md_tree_178 rfl hl2 ?_
        refine xz_iald (k := 35) C hw35 (by decide) (by omega) (by decide) d_Md_tree_179 ?_
        have d1 := (hA.2 a.toNat).2.2.2.2.2.1
        have d2 := (hA.2 b.toNat).2.2.2.2.2.1
        have e1 := (hA.1 a.toNat (by omega)).2.2.2.2.2.1
        have e2 := (hA.1 b.toNat (by omega)).2.2.2.2.2.1
        refine xz_icmp_le (tgt := 192) C d_Md_tree_180 (by decide) (by omega) (by omega) (fun c180 => ?_) (fun c180 => ?_)
        · skip
          refine xr_aload_n C 0 d_Md_tree_192 rfl hl0 ?_
          refine xr_get (k := 29) C xg_Md_25 hw29 (by decide) rfl d_Md_tree_193 ?_
          refine xr_iload_n C 2 d_Md_tree_196 rfl hl2 ?_
          refine xz_iald (k := 35) C hw35 (by decide) (by omega) (by decide) d_Md_tree_197 ?_
          refine xz_iadd C d_Md_tree_198 ?_
          refine xr_eqz (y := nDp (sDp S) s a b) (by rw [nDp_2 (by omega) (by omega), ← e1, ← e2]; omega) ?_
          refine xr_istore C d_Md_tree_199 (by decide) ?_
          refine xr_aload_n C 0 d_Md_tree_201 rfl hl0 ?_
          refine xr_get (k := 29) C xg_Md_28 hw29 (by decide) rfl d_Md_tree_202 ?_
          refine xr_iload_n C 2 d_Md_tree_205 rfl hl2 ?_
          refine xz_iald (k := 36) C hw36 (by decide) (by omega) (by decide) d_Md_tree_206 ?_
          refine xr_iload C d_Md_tree_207 rfl ?_
          refine xr_iconst C d_Md_tree_209 ?_
          refine xz_icmp_le (tgt := 222) C d_Md_tree_210 (by decide) (by omega) (by omega) (fun c210 => by exfalso; omega) (fun c210 => ?_)
          refine xr_aload_n C 0 d_Md_tree_213 rfl hl0 ?_
          refine xr_get (k := 29) C xg_Md_28 hw29 (by decide) rfl d_Md_tree_214 ?_
          refine xr_iload_n C 3 d_Md_tree_217 rfl hl3 ?_
          refine xz_iald (k := 36) C hw36 (by decide) (by omega) (by decide) d_Md_tree_218 ?_
          refine xr_goto (tgt := 223) C d_Md_tree_219 (by decide) ?_
          refine xr_ior C d_Md_tree_223 ?_
          rw [(hA.1 a.toNat (by omega)).2.2.2.2.2.2, (hA.1 b.toNat (by omega)).2.2.2.2.2.2, nHo_two (s := s) hT (by omega) (by omega) (by omega)]
          refine xr_istore C d_Md_tree_224 (by decide) ?_
          exact J hf _ hl0 hl1 hl2 hl3 rfl rfl rfl rfl
        · skip
          refine xr_aload_n C 0 d_Md_tree_183 rfl hl0 ?_
          refine xr_get (k := 29) C xg_Md_25 hw29 (by decide) rfl d_Md_tree_184 ?_
          refine xr_iload_n C 3 d_Md_tree_187 rfl hl3 ?_
          refine xz_iald (k := 35) C hw35 (by decide) (by omega) (by decide) d_Md_tree_188 ?_
          refine xr_goto (tgt := 198) C d_Md_tree_189 (by decide) ?_
          refine xz_iadd C d_Md_tree_198 ?_
          refine xr_eqz (y := nDp (sDp S) s a b) (by rw [nDp_2 (by omega) (by omega), ← e1, ← e2]; omega) ?_
          refine xr_istore C d_Md_tree_199 (by decide) ?_
          refine xr_aload_n C 0 d_Md_tree_201 rfl hl0 ?_
          refine xr_get (k := 29) C xg_Md_28 hw29 (by decide) rfl d_Md_tree_202 ?_
          refine xr_iload_n C 2 d_Md_tree_205 rfl hl2 ?_
          refine xz_iald (k := 36) C hw36 (by decide) (by omega) (by decide) d_Md_tree_206 ?_
          refine xr_iload C d_Md_tree_207 rfl ?_
          refine xr_iconst C d_Md_tree_209 ?_
          refine xz_icmp_le (tgt := 222) C d_Md_tree_210 (by decide) (by omega) (by omega) (fun c210 => by exfalso; omega) (fun c210 => ?_)
          refine xr_aload_n C 0 d_Md_tree_213 rfl hl0 ?_
          refine xr_get (k := 29) C xg_Md_28 hw29 (by decide) rfl d_Md_tree_214 ?_
          refine xr_iload_n C 3 d_Md_tree_217 rfl hl3 ?_
          refine xz_iald (k := 36) C hw36 (by decide) (by omega) (by decide) d_Md_tree_218 ?_
          refine xr_goto (tgt := 223) C d_Md_tree_219 (by decide) ?_
          refine xr_ior C d_Md_tree_223 ?_
          rw [(hA.1 a.toNat (by omega)).2.2.2.2.2.2, (hA.1 b.toNat (by omega)).2.2.2.2.2.2, nHo_two (s := s) hT (by omega) (by omega) (by omega)]
          refine xr_istore C d_Md_tree_224 (by decide) ?_
          exact J hf _ hl0 hl1 hl2 hl3 rfl rfl rfl rfl
  have lp : ∀ (k i : Nat) (lv : Nat → Option Value), sN S + 1 ≤ i + k → i ≤ sN S → (∀ j, j < i → ¬ isT S s a b j) → lv 0 = some (.ref (ad 29)) → lv 1 = some (.int (zI s)) → lv 2 = some (.int (zI a)) → lv 3 = some (.int (zI b)) → lv 4 = some (.int (zI (i : Int))) → XW G 56 ad w 0 0 3 lv [] := by
    intro k
    induction k with
    | zero => intro i lv h1 h2; exact absurd h1 (by omega)
    | succ k ih =>
      intro i lv h1 h2 hm hl0 hl1 hl2 hl3 hl4
      refine xr_iload C d_Md_tree_3 hl4 ?_
      refine xr_aload_n C 0 d_Md_tree_5 rfl hl0 ?_
      refine xr_get (k := 29) C xg_Md_90 hw29 (by decide) rfl d_Md_tree_6 ?_
      refine xz_icmp_ge (tgt := 54) C d_Md_tree_9 (by decide) (by omega) (by omega) (fun c9 => ?_) (fun c9 => ?_)
      · skip
        exact K (fnd_not (fun j hj => hm j (by omega))) _ hl0 hl1 hl2 hl3
      · skip
        refine xr_aload_n C 0 d_Md_tree_12 rfl hl0 ?_
        refine xr_get (k := 29) C xg_Md_7 hw29 (by decide) rfl d_Md_tree_13 ?_
        refine xr_iload C d_Md_tree_16 hl4 ?_
        refine xj_iald (k := 30) C (i) (by omega) hw30 (by decide) (by omega) (by decide) d_Md_tree_18 ?_
        refine xr_iload_n C 1 d_Md_tree_19 rfl hl1 ?_
        have hir := hA.2 i
        refine xz_icmp_ne (tgt := 48) C d_Md_tree_20 (by decide) (by omega) (by omega) (fun c20 => ?_) (fun c20 => ?_)
        · skip
          refine xr_iinc C d_Md_tree_48 (by decide) hl4 ?_
          refine xr_goto (tgt := 3) C d_Md_tree_51 (by decide) ?_
          exact ih (i + 1) _ (by omega) (by omega) (fun j hj hti => by
            by_cases e : j = i
            · subst e
              obtain ⟨q1, q2, q3, -⟩ := hA.1 j (by omega)
              rw [hti.1] at q1
              rw [hti.2.1] at q2
              rw [hti.2.2] at q3
              omega
            · exact hm j (by omega) hti) hl0 hl1 hl2 hl3 rfl
        · skip
          refine xr_aload_n C 0 d_Md_tree_23 rfl hl0 ?_
          refine xr_get (k := 29) C xg_Md_13 hw29 (by decide) rfl d_Md_tree_24 ?_
          refine xr_iload C d_Md_tree_27 hl4 ?_
          refine xj_iald (k := 31) C (i) (by omega) hw31 (by decide) (by omega) (by decide) d_Md_tree_29 ?_
          refine xr_iload_n C 2 d_Md_tree_30 rfl hl2 ?_
          refine xz_icmp_ne (tgt := 48) C d_Md_tree_31 (by decide) (by omega) (by omega) (fun c31 => ?_) (fun c31 => ?_)
          · skip
            refine xr_iinc C d_Md_tree_48 (by decide) hl4 ?_
            refine xr_goto (tgt := 3) C d_Md_tree_51 (by decide) ?_
            exact ih (i + 1) _ (by omega) (by omega) (fun j hj hti => by
              by_cases e : j = i
              · subst e
                obtain ⟨q1, q2, q3, -⟩ := hA.1 j (by omega)
                rw [hti.1] at q1
                rw [hti.2.1] at q2
                rw [hti.2.2] at q3
                omega
              · exact hm j (by omega) hti) hl0 hl1 hl2 hl3 rfl
          · skip
            refine xr_aload_n C 0 d_Md_tree_34 rfl hl0 ?_
            refine xr_get (k := 29) C xg_Md_16 hw29 (by decide) rfl d_Md_tree_35 ?_
            refine xr_iload C d_Md_tree_38 hl4 ?_
            refine xj_iald (k := 32) C (i) (by omega) hw32 (by decide) (by omega) (by decide) d_Md_tree_40 ?_
            refine xr_iload_n C 3 d_Md_tree_41 rfl hl3 ?_
            refine xz_icmp_ne (tgt := 48) C d_Md_tree_42 (by decide) (by omega) (by omega) (fun c42 => ?_) (fun c42 => ?_)
            · skip
              refine xr_iinc C d_Md_tree_48 (by decide) hl4 ?_
              refine xr_goto (tgt := 3) C d_Md_tree_51 (by decide) ?_
              exact ih (i + 1) _ (by omega) (by omega) (fun j hj hti => by
                by_cases e : j = i
                · subst e
                  obtain ⟨q1, q2, q3, -⟩ := hA.1 j (by omega)
                  rw [hti.1] at q1
                  rw [hti.2.1] at q2
                  rw [hti.2.2] at q3
                  omega
                · exact hm j (by omega) hti) hl0 hl1 hl2 hl3 rfl
            · skip
              refine xr_iload C d_Md_tree_45 hl4 ?_
              exact xr_iret C E ⟨rfl, rfl, (i : Int), rfl, S, by rw [mkT_some (fnd_of hT (show i < sN S by omega) ⟨by rw [← (hA.1 i (by omega)).1]; omega, by rw [← (hA.1 i (by omega)).2.1]; omega, by rw [← (hA.1 i (by omega)).2.2.1]; omega⟩)], by rw [show (fa || decide ((i : Int) < 0)) = fa by rw [decide_eq_false (by omega), Bool.or_false]]; exact ⟨sg, fs, sn, wt, pl, dp, ho, hw29, hw30, hw31, hw32, hw33, hw34, hw35, hw36, hA⟩, fun k _ => rfl⟩ (by decide) (by decide) d_Md_tree_47
  refine xr_iconst C d_Md_tree_0 ?_
  refine xr_istore C d_Md_tree_1 (by decide) ?_
  exact lp (sN S + 1) 0 _ (by omega) (by omega) (fun j hj => by omega) rfl rfl rfl rfl rfl
end
section
theorem xk_RS_50 : Cond.classLink R_RS 50 "java/lang/IllegalArgumentException" ∈ xTs := xw_mem 229 (by decide +kernel) (by decide +kernel)
theorem xk_RS_171 : Cond.classLink R_RS 171 "java/lang/IllegalStateException" ∈ xTs := xw_mem 331 (by decide +kernel) (by decide +kernel)
theorem xk_RS_128 : Cond.classLink R_RS 128 "java/lang/IndexOutOfBoundsException" ∈ xTs := xw_mem 367 (by decide +kernel) (by decide +kernel)
theorem xi_IA : Cond.initialized "java/lang/IllegalArgumentException" ∈ xTs := xw_mem 11 (by decide +kernel) (by decide +kernel)
theorem xi_IS : Cond.initialized "java/lang/IllegalStateException" ∈ xTs := xw_mem 13 (by decide +kernel) (by decide +kernel)
theorem xi_IO : Cond.initialized "java/lang/IndexOutOfBoundsException" ∈ xTs := xw_mem 14 (by decide +kernel) (by decide +kernel)
theorem ct_1 {ad : Nat → Nat} {cA : Nat → ClassId} {w : Nat → va_E} {S : xS} (h : CT ad cA w S) : w 1 = trO ad (sN S : Int) := by
  obtain ⟨mk, fs, sn, wt, pl, dp, ho, hc, nw, od, h1, -⟩ := h
  exact h1
def xThr (n : Nat) (ad : Nat → Nat) (q : String → (Nat → va_E) → Prop) : xPosx := fun E n' ad' w' => n = n' ∧ ad = ad' ∧ q E w'
theorem mkT_neg {S S' : xS} {s a b z : Int} (h : (z, S') = mkT S s a b) (hz : z < 0) : S' = S := by
  unfold mkT at h
  split at h
  · cases h; omega
  · split at h
    · cases h; rfl
    · cases h; omega
theorem mkT_pos {S S' : xS} {s a b z : Int} (hT : Tb S) (hs : shp s a b (sN S)) (h : (z, S') = mkT S s a b) : Tb S' ∧ -1 ≤ z ∧ z < sN S' ∧ sN S ≤ sN S' := by
  have hN := hT.1
  unfold mkT at h
  split at h
  · rename_i j hj
    cases h
    have := (fnd_some hj).1
    exact ⟨hT, by omega, by omega, Nat.le_refl _⟩
  · rename_i hf
    split at h
    · cases h; exact ⟨hT, by omega, by omega, Nat.le_refl _⟩
    · rename_i hl
      cases h
      exact ⟨tb_push hT hs hf hl, by omega, by show (sN S : Int) < ((sN S + 1 : Nat) : Int); omega, by show sN S ≤ sN S + 1; omega⟩
set_option maxHeartbeats 4000000 in
set_option maxRecDepth 100000 in
theorem m_RS_needTree {L : Launch} {D : va_G} {cA : Nat → ClassId} {base : Nat} {ad : Nat → Nat} {w : Nat → va_E} (hLt : L.stackTraces = false) {kp sq : Nat} {ls : Int} {se : Bool} (hw0 : w 0 = rsO ad kp sq ls se) {t : Int} (hw1 : w 1 = trO ad t) (ht : 0 ≤ t ∧ t ≤ 300) {x : Int} (hx : -2147483648 ≤ x ∧ x < 2147483648) : XM L D cA base y_RS_needTree c_RS_needTree 2 none (xrm 8 1 6) [.ref (ad 0), .int (zI x)] 56 ad w (xVoid 56 ad (fun w' => w = w' ∧ 0 ≤ x ∧ x < t)) (xThr 56 ad (fun E w' => w = w' ∧ E = "java/lang/IndexOutOfBoundsException" ∧ ¬ (0 ≤ x ∧ x < t))) := by
  refine xm_of (by decide +kernel) (by simp [Value.category]) (Nat.le_of_ble_eq_true rfl) (fun G C E _ => ?_)
  refine xr_iload_n C 1 d_RS_needTree_0 rfl rfl ?_
  refine xz_if_lt (tgt := 15) C d_RS_needTree_1 (by decide) (by omega) (fun c1 => ?_) (fun c1 => ?_)
  · skip
    exact xr_throw C E hLt (cls := "java/lang/IndexOutOfBoundsException") (text := "no such tree") (names := ["java/lang/RuntimeException", "java/lang/Exception"]) rfl (by decide +kernel) (by decide +kernel) xk_RS_128 xi_IO (by decide +kernel) xat_IO (by decide +kernel) d_RS_needTree_15 d_RS_needTree_18 d_RS_needTree_19 d_RS_needTree_21 d_RS_needTree_24 (by decide) (by decide) ⟨rfl, rfl, rfl, rfl, by omega⟩ (by decide) (by decide)
  · skip
    refine xr_iload_n C 1 d_RS_needTree_4 rfl rfl ?_
    refine xr_aload_n C 0 d_RS_needTree_5 rfl rfl ?_
    refine xr_get (k := 0) C xg_RS_10 hw0 (by decide) rfl d_RS_needTree_6 ?_
    refine xr_get (k := 1) C xg_RS_110 hw1 (by decide) rfl d_RS_needTree_9 ?_
    refine xz_icmp_lt (tgt := 25) C d_RS_needTree_12 (by decide) (by omega) (by omega) (fun c12 => ?_) (fun c12 => ?_)
    · skip
      exact xr_vret C E ⟨rfl, rfl, rfl, rfl, by omega, by omega⟩ (by decide) (by decide) d_RS_needTree_25
    · skip
      exact xr_throw C E hLt (cls := "java/lang/IndexOutOfBoundsException") (text := "no such tree") (names := ["java/lang/RuntimeException", "java/lang/Exception"]) rfl (by decide +kernel) (by decide +kernel) xk_RS_128 xi_IO (by decide +kernel) xat_IO (by decide +kernel) d_RS_needTree_15 d_RS_needTree_18 d_RS_needTree_19 d_RS_needTree_21 d_RS_needTree_24 (by decide) (by decide) ⟨rfl, rfl, rfl, rfl, by omega⟩ (by decide) (by decide)
set_option maxHeartbeats 4000000 in
set_option maxRecDepth 100000 in
theorem m_RS_needRule {L : Launch} {D : va_G} {cA : Nat → ClassId} {base : Nat} {ad : Nat → Nat} {w : Nat → va_E} (hLt : L.stackTraces = false) {kp sq : Nat} {ls : Int} {se : Bool} (hw0 : w 0 = rsO ad kp sq ls se) {t : Int} (hw12 : w 12 = ruO ad t) (ht : 0 ≤ t ∧ t ≤ 16) {x : Int} (hx : -2147483648 ≤ x ∧ x < 2147483648) : XM L D cA base y_RS_needRule c_RS_needRule 2 none (xrm 8 1 6) [.ref (ad 0), .int (zI x)] 56 ad w (xVoid 56 ad (fun w' => w = w' ∧ 0 ≤ x ∧ x < t)) (xThr 56 ad (fun E w' => w = w' ∧ E = "java/lang/IndexOutOfBoundsException" ∧ ¬ (0 ≤ x ∧ x < t))) := by
  refine xm_of (by decide +kernel) (by simp [Value.category]) (Nat.le_of_ble_eq_true rfl) (fun G C E _ => ?_)
  refine xr_iload_n C 1 d_RS_needRule_0 rfl rfl ?_
  refine xz_if_lt (tgt := 15) C d_RS_needRule_1 (by decide) (by omega) (fun c1 => ?_) (fun c1 => ?_)
  · skip
    exact xr_throw C E hLt (cls := "java/lang/IndexOutOfBoundsException") (text := "no such rule") (names := ["java/lang/RuntimeException", "java/lang/Exception"]) rfl (by decide +kernel) (by decide +kernel) xk_RS_128 xi_IO (by decide +kernel) xat_IO (by decide +kernel) d_RS_needRule_15 d_RS_needRule_18 d_RS_needRule_19 d_RS_needRule_21 d_RS_needRule_24 (by decide) (by decide) ⟨rfl, rfl, rfl, rfl, by omega⟩ (by decide) (by decide)
  · skip
    refine xr_iload_n C 1 d_RS_needRule_4 rfl rfl ?_
    refine xr_aload_n C 0 d_RS_needRule_5 rfl rfl ?_
    refine xr_get (k := 0) C xg_RS_19 hw0 (by decide) rfl d_RS_needRule_6 ?_
    refine xr_get (k := 12) C xg_RS_164 hw12 (by decide) rfl d_RS_needRule_9 ?_
    refine xz_icmp_lt (tgt := 25) C d_RS_needRule_12 (by decide) (by omega) (by omega) (fun c12 => ?_) (fun c12 => ?_)
    · skip
      exact xr_vret C E ⟨rfl, rfl, rfl, rfl, by omega, by omega⟩ (by decide) (by decide) d_RS_needRule_25
    · skip
      exact xr_throw C E hLt (cls := "java/lang/IndexOutOfBoundsException") (text := "no such rule") (names := ["java/lang/RuntimeException", "java/lang/Exception"]) rfl (by decide +kernel) (by decide +kernel) xk_RS_128 xi_IO (by decide +kernel) xat_IO (by decide +kernel) d_RS_needRule_15 d_RS_needRule_18 d_RS_needRule_19 d_RS_needRule_21 d_RS_needRule_24 (by decide) (by decide) ⟨rfl, rfl, rfl, rfl, by omega⟩ (by decide) (by decide)
set_option maxHeartbeats 4000000 in
set_option maxRecDepth 100000 in
theorem m_RS_needPlain {L : Launch} {D : va_G} {cA : Nat → ClassId} {base : Nat} {ad : Nat → Nat} {w : Nat → va_E} (hLt : L.stackTraces = false) {kp sq : Nat} {ls : Int} {se : Bool} (hw0 : w 0 = rsO ad kp sq ls se) {t : Int} {ho : Nat → Int} (hw1 : w 1 = trO ad t) (hw8 : w 8 = xIA (cA 0) 300 ho) (hho : ∀ j, 0 ≤ ho j ∧ ho j < 64) {x : Int} (hx : 0 ≤ x ∧ x < 300) : XM L D cA base y_RS_needPlain c_RS_needPlain 2 none (xrm 8 1 6) [.ref (ad 0), .int (zI x)] 56 ad w (xVoid 56 ad (fun w' => w = w' ∧ ho x.toNat = 0)) (xThr 56 ad (fun E w' => w = w' ∧ E = "java/lang/IllegalArgumentException" ∧ ¬ ho x.toNat = 0)) := by
  refine xm_of (by decide +kernel) (by simp [Value.category]) (Nat.le_of_ble_eq_true rfl) (fun G C E _ => ?_)
  refine xr_aload_n C 0 d_RS_needPlain_0 rfl rfl ?_
  refine xr_get (k := 0) C xg_RS_10 hw0 (by decide) rfl d_RS_needPlain_1 ?_
  refine xr_get (k := 1) C xg_RS_77 hw1 (by decide) rfl d_RS_needPlain_4 ?_
  refine xr_iload_n C 1 d_RS_needPlain_7 rfl rfl ?_
  refine xz_iald (k := 8) C hw8 (by decide) (by omega) (by decide) d_RS_needPlain_8 ?_
  have := hho x.toNat
  refine xz_if_eq (tgt := 22) C d_RS_needPlain_9 (by decide) (by omega) (fun c9 => ?_) (fun c9 => ?_)
  · skip
    exact xr_vret C E ⟨rfl, rfl, rfl, rfl, by omega⟩ (by decide) (by decide) d_RS_needPlain_22
  · skip
    exact xr_throw C E hLt (cls := "java/lang/IllegalArgumentException") (text := "the tree isn't plain") (names := ["java/lang/RuntimeException", "java/lang/Exception"]) rfl (by decide +kernel) (by decide +kernel) xk_RS_50 xi_IA (by decide +kernel) xat_IA (by decide +kernel) d_RS_needPlain_12 d_RS_needPlain_15 d_RS_needPlain_16 d_RS_needPlain_18 d_RS_needPlain_21 (by decide) (by decide) ⟨rfl, rfl, rfl, rfl, by omega⟩ (by decide) (by decide)
set_option maxHeartbeats 4000000 in
set_option maxRecDepth 100000 in
theorem m_RS_needMade {L : Launch} {D : va_G} {cA : Nat → ClassId} {base : Nat} {ad : Nat → Nat} {w : Nat → va_E} (hLt : L.stackTraces = false) {x : Int} (hx : -2147483648 ≤ x ∧ x < 2147483648) : XM L D cA base y_RS_needMade c_RS_needMade 1 (some .int) (xrm 8 1 6) [.int (zI x)] 56 ad w (xRet 56 ad (fun z w' => w = w' ∧ z = x ∧ 0 ≤ x)) (xThr 56 ad (fun E w' => w = w' ∧ E = "java/lang/IllegalStateException" ∧ x < 0)) := by
  refine xm_of (by decide +kernel) (by simp [Value.category]) (Nat.le_of_ble_eq_true rfl) (fun G C E _ => ?_)
  refine xr_iload_n C 0 d_RS_needMade_0 rfl rfl ?_
  refine xz_if_ge (tgt := 14) C d_RS_needMade_1 (by decide) (by omega) (fun c1 => ?_) (fun c1 => ?_)
  · skip
    refine xr_iload_n C 0 d_RS_needMade_14 rfl rfl ?_
    exact xr_iret C E ⟨rfl, rfl, x, rfl, rfl, rfl, by omega⟩ (by decide) (by decide) d_RS_needMade_15
  · skip
    exact xr_throw C E hLt (cls := "java/lang/IllegalStateException") (text := "too many trees, or too deep or heavy a one") (names := ["java/lang/RuntimeException", "java/lang/Exception"]) rfl (by decide +kernel) (by decide +kernel) xk_RS_171 xi_IS (by decide +kernel) xat_IS (by decide +kernel) d_RS_needMade_4 d_RS_needMade_7 d_RS_needMade_8 d_RS_needMade_10 d_RS_needMade_13 (by decide) (by decide) ⟨rfl, rfl, rfl, rfl, by omega⟩ (by decide) (by decide)
set_option maxHeartbeats 4000000 in
set_option maxRecDepth 100000 in
theorem m_RS_leaf {L : Launch} {D : va_G} {cA : Nat → ClassId} {base : Nat} {ad : Nat → Nat} {w : Nat → va_E} (hLt : L.stackTraces = false) {kp sq : Nat} {ls : Int} {se : Bool} (hw0 : w 0 = rsO ad kp sq ls se) {S : xS} (hCT : CT ad cA w S) (hT : Tb S) {x : Int} (hx : -2147483648 ≤ x ∧ x < 2147483648) : XM L D cA base y_RS_leaf c_RS_leaf 2 (some .int) (xrm 9 1 6) [.ref (ad 0), .int (zI x)] 56 ad w (xRet 56 ad (fun z w' => (0 ≤ x ∧ x < 20) ∧ ∃ S' : xS, (z, S') = mkT S (100 + x) (-1) (-1) ∧ 0 ≤ z ∧ Tb S' ∧ CT ad cA w' S' ∧ (∀ k, (k < 1 ∨ 11 < k) → w' k = w k))) (xThr 56 ad (fun E w' => (E = "java/lang/IllegalArgumentException" ∧ ¬ (0 ≤ x ∧ x < 20) ∧ w = w') ∨ (E = "java/lang/IllegalStateException" ∧ (0 ≤ x ∧ x < 20) ∧ ∃ (S' : xS) (z : Int), (z, S') = mkT S (100 + x) (-1) (-1) ∧ z < 0 ∧ CT ad cA w' S ∧ (∀ k, (k < 1 ∨ 11 < k) → w' k = w k)))) := by
  refine xm_of (by decide +kernel) (by simp [Value.category]) (Nat.le_of_ble_eq_true rfl) (fun G C E _ => ?_)
  have hN := hT.1
  have hw1 := ct_1 hCT
  refine xr_iload_n C 1 d_RS_leaf_0 rfl rfl ?_
  refine xz_if_lt (tgt := 10) C d_RS_leaf_1 (by decide) (by omega) (fun c1 => ?_) (fun c1 => ?_)
  · skip
    exact xr_throw C E hLt (cls := "java/lang/IllegalArgumentException") (text := "no such name of a leaf") (names := ["java/lang/RuntimeException", "java/lang/Exception"]) rfl (by decide +kernel) (by decide +kernel) xk_RS_50 xi_IA (by decide +kernel) xat_IA (by decide +kernel) d_RS_leaf_10 d_RS_leaf_13 d_RS_leaf_14 d_RS_leaf_16 d_RS_leaf_19 (by decide) (by decide) ⟨rfl, rfl, Or.inl ⟨rfl, by omega, rfl⟩⟩ (by decide) (by decide)
  · skip
    refine xr_iload_n C 1 d_RS_leaf_4 rfl rfl ?_
    refine xr_bipush C d_RS_leaf_5 (by decide) ?_
    refine xz_icmp_lt (tgt := 20) C d_RS_leaf_7 (by decide) (by omega) (by omega) (fun c7 => ?_) (fun c7 => ?_)
    · skip
      refine xr_aload_n C 0 d_RS_leaf_20 rfl rfl ?_
      refine xr_get (k := 0) C xg_RS_10 hw0 (by decide) rfl d_RS_leaf_21 ?_
      refine xr_iconst C d_RS_leaf_24 ?_
      refine xr_iload_n C 1 d_RS_leaf_25 rfl rfl ?_
      refine xz_isub C d_RS_leaf_26 ?_
      refine xr_eqz (y := um (100 + x)) (by unfold um; rw [if_neg (by omega), if_pos (by omega)]; omega) ?_
      refine xr_iconst C d_RS_leaf_27 ?_
      refine xr_iconst C d_RS_leaf_28 ?_
      refine xr_callV (k9 := 1) C (m_Tr_numberOf (s := 100 + x) (a := -1) (b := -1) hCT hT (by unfold shp; omega)) xm_RS_57 x2_Tr_numberOf hw1 (by decide) rfl (by decide) (by decide) (Nat.le_of_ble_eq_true rfl) rfl d_RS_leaf_29 (fun En n9 ad9 w9 hx9 => hx9.elim) (fun v n9 ad9 w9 hp => ?_)
      obtain ⟨rfl, rfl, z, rfl, S', hz, hCT', hfr⟩ := hp
      obtain ⟨hT', hz1, hz2, hz3⟩ := mkT_pos hT (by unfold shp; omega) hz
      have hN' := hT'.1
      have hw0 := (hfr 0 (by omega)).trans hw0
      show XW _ _ _ _ _ _ 32 _ (_ :: _)
      refine xr_callS C (m_RS_needMade hLt (x := z) (by omega)) xm_RS_61 x2_RS_needMade (by decide) (by decide) (Nat.le_of_ble_eq_true rfl) rfl d_RS_leaf_32 (fun En n9 ad9 w9 hx9 => by
                  obtain ⟨rfl, rfl, rfl, rfl, hq⟩ := hx9
                  exact xx_out C E ⟨rfl, rfl, Or.inr ⟨rfl, by omega, S', z, hz, hq, by have := mkT_neg hz hq; subst this; exact hCT', hfr⟩⟩ (by decide) (by decide)) (fun v n9 ad9 w9 hp => ?_)
      obtain ⟨rfl, rfl, z9, rfl, rfl, rfl, hz0⟩ := hp
      show XW _ _ _ _ _ _ 35 _ (_ :: _)
      exact xr_iret C E ⟨rfl, rfl, _, rfl, by omega, S', hz, hz0, hT', hCT', hfr⟩ (by decide) (by decide) d_RS_leaf_35
    · skip
      exact xr_throw C E hLt (cls := "java/lang/IllegalArgumentException") (text := "no such name of a leaf") (names := ["java/lang/RuntimeException", "java/lang/Exception"]) rfl (by decide +kernel) (by decide +kernel) xk_RS_50 xi_IA (by decide +kernel) xat_IA (by decide +kernel) d_RS_leaf_10 d_RS_leaf_13 d_RS_leaf_14 d_RS_leaf_16 d_RS_leaf_19 (by decide) (by decide) ⟨rfl, rfl, Or.inl ⟨rfl, by omega, rfl⟩⟩ (by decide) (by decide)
set_option maxHeartbeats 4000000 in
set_option maxRecDepth 100000 in
theorem m_RS_hole {L : Launch} {D : va_G} {cA : Nat → ClassId} {base : Nat} {ad : Nat → Nat} {w : Nat → va_E} (hLt : L.stackTraces = false) {kp sq : Nat} {ls : Int} {se : Bool} (hw0 : w 0 = rsO ad kp sq ls se) {S : xS} (hCT : CT ad cA w S) (hT : Tb S) {x : Int} (hx : -2147483648 ≤ x ∧ x < 2147483648) : XM L D cA base y_RS_hole c_RS_hole 2 (some .int) (xrm 9 1 6) [.ref (ad 0), .int (zI x)] 56 ad w (xRet 56 ad (fun z w' => (0 ≤ x ∧ x < 6) ∧ ∃ S' : xS, (z, S') = mkT S (200 + x) (-1) (-1) ∧ 0 ≤ z ∧ Tb S' ∧ CT ad cA w' S' ∧ (∀ k, (k < 1 ∨ 11 < k) → w' k = w k))) (xThr 56 ad (fun E w' => (E = "java/lang/IllegalArgumentException" ∧ ¬ (0 ≤ x ∧ x < 6) ∧ w = w') ∨ (E = "java/lang/IllegalStateException" ∧ (0 ≤ x ∧ x < 6) ∧ ∃ (S' : xS) (z : Int), (z, S') = mkT S (200 + x) (-1) (-1) ∧ z < 0 ∧ CT ad cA w' S ∧ (∀ k, (k < 1 ∨ 11 < k) → w' k = w k)))) := by
  refine xm_of (by decide +kernel) (by simp [Value.category]) (Nat.le_of_ble_eq_true rfl) (fun G C E _ => ?_)
  have hN := hT.1
  have hw1 := ct_1 hCT
  refine xr_iload_n C 1 d_RS_hole_0 rfl rfl ?_
  refine xz_if_lt (tgt := 10) C d_RS_hole_1 (by decide) (by omega) (fun c1 => ?_) (fun c1 => ?_)
  · skip
    exact xr_throw C E hLt (cls := "java/lang/IllegalArgumentException") (text := "no such name of a hole") (names := ["java/lang/RuntimeException", "java/lang/Exception"]) rfl (by decide +kernel) (by decide +kernel) xk_RS_50 xi_IA (by decide +kernel) xat_IA (by decide +kernel) d_RS_hole_10 d_RS_hole_13 d_RS_hole_14 d_RS_hole_16 d_RS_hole_19 (by decide) (by decide) ⟨rfl, rfl, Or.inl ⟨rfl, by omega, rfl⟩⟩ (by decide) (by decide)
  · skip
    refine xr_iload_n C 1 d_RS_hole_4 rfl rfl ?_
    refine xr_bipush C d_RS_hole_5 (by decide) ?_
    refine xz_icmp_lt (tgt := 20) C d_RS_hole_7 (by decide) (by omega) (by omega) (fun c7 => ?_) (fun c7 => ?_)
    · skip
      refine xr_aload_n C 0 d_RS_hole_20 rfl rfl ?_
      refine xr_get (k := 0) C xg_RS_10 hw0 (by decide) rfl d_RS_hole_21 ?_
      refine xr_bipush C d_RS_hole_24 (by decide) ?_
      refine xr_iload_n C 1 d_RS_hole_26 rfl rfl ?_
      refine xz_iadd C d_RS_hole_27 ?_
      refine xr_eqz (y := um (200 + x)) (by unfold um; rw [if_pos (by omega)]; omega) ?_
      refine xr_iconst C d_RS_hole_28 ?_
      refine xr_iconst C d_RS_hole_29 ?_
      refine xr_callV (k9 := 1) C (m_Tr_numberOf (s := 200 + x) (a := -1) (b := -1) hCT hT (by unfold shp; omega)) xm_RS_57 x2_Tr_numberOf hw1 (by decide) rfl (by decide) (by decide) (Nat.le_of_ble_eq_true rfl) rfl d_RS_hole_30 (fun En n9 ad9 w9 hx9 => hx9.elim) (fun v n9 ad9 w9 hp => ?_)
      obtain ⟨rfl, rfl, z, rfl, S', hz, hCT', hfr⟩ := hp
      obtain ⟨hT', hz1, hz2, hz3⟩ := mkT_pos hT (by unfold shp; omega) hz
      have hN' := hT'.1
      have hw0 := (hfr 0 (by omega)).trans hw0
      show XW _ _ _ _ _ _ 33 _ (_ :: _)
      refine xr_callS C (m_RS_needMade hLt (x := z) (by omega)) xm_RS_61 x2_RS_needMade (by decide) (by decide) (Nat.le_of_ble_eq_true rfl) rfl d_RS_hole_33 (fun En n9 ad9 w9 hx9 => by
                  obtain ⟨rfl, rfl, rfl, rfl, hq⟩ := hx9
                  exact xx_out C E ⟨rfl, rfl, Or.inr ⟨rfl, by omega, S', z, hz, hq, by have := mkT_neg hz hq; subst this; exact hCT', hfr⟩⟩ (by decide) (by decide)) (fun v n9 ad9 w9 hp => ?_)
      obtain ⟨rfl, rfl, z9, rfl, rfl, rfl, hz0⟩ := hp
      show XW _ _ _ _ _ _ 36 _ (_ :: _)
      exact xr_iret C E ⟨rfl, rfl, _, rfl, by omega, S', hz, hz0, hT', hCT', hfr⟩ (by decide) (by decide) d_RS_hole_36
    · skip
      exact xr_throw C E hLt (cls := "java/lang/IllegalArgumentException") (text := "no such name of a hole") (names := ["java/lang/RuntimeException", "java/lang/Exception"]) rfl (by decide +kernel) (by decide +kernel) xk_RS_50 xi_IA (by decide +kernel) xat_IA (by decide +kernel) d_RS_hole_10 d_RS_hole_13 d_RS_hole_14 d_RS_hole_16 d_RS_hole_19 (by decide) (by decide) ⟨rfl, rfl, Or.inl ⟨rfl, by omega, rfl⟩⟩ (by decide) (by decide)
end
section
set_option maxHeartbeats 4000000 in
set_option maxRecDepth 100000 in
theorem m_RS_spent {L : Launch} {D : va_G} {cA : Nat → ClassId} {base : Nat} {ad : Nat → Nat} {w : Nat → va_E} {kp sq : Nat} {ls : Int} {se : Bool} (hw0 : w 0 = rsO ad kp sq ls se) : XM L D cA base y_RS_spent c_RS_spent 1 (some .boolean) (xrm 0 0 0) [.ref (ad 0)] 56 ad w (xPure 56 ad w (.int (zI (xb se)))) xF := by
  refine xm_of (by decide +kernel) (by simp [Value.category]) (Nat.le_of_ble_eq_true rfl) (fun G C E _ => ?_)
  refine xr_aload_n C 0 d_RS_spent_0 rfl rfl ?_
  refine xr_get (k := 0) C xg_RS_46 hw0 (by decide) rfl d_RS_spent_1 ?_
  exact xr_zret C E xb_01 ⟨rfl, rfl, rfl, rfl⟩ (by decide) (by decide) d_RS_spent_4
set_option maxHeartbeats 4000000 in
set_option maxRecDepth 100000 in
theorem m_RS_steps {L : Launch} {D : va_G} {cA : Nat → ClassId} {base : Nat} {ad : Nat → Nat} {w : Nat → va_E} {kp sq : Nat} {ls : Int} {se : Bool} (hw0 : w 0 = rsO ad kp sq ls se) : XM L D cA base y_RS_steps c_RS_steps 1 (some .int) (xrm 0 0 0) [.ref (ad 0)] 56 ad w (xPure 56 ad w (.int (zI ls))) xF := by
  refine xm_of (by decide +kernel) (by simp [Value.category]) (Nat.le_of_ble_eq_true rfl) (fun G C E _ => ?_)
  refine xr_aload_n C 0 d_RS_steps_0 rfl rfl ?_
  refine xr_get (k := 0) C xg_RS_42 hw0 (by decide) rfl d_RS_steps_1 ?_
  exact xr_iret C E ⟨rfl, rfl, rfl, rfl⟩ (by decide) (by decide) d_RS_steps_4
set_option maxHeartbeats 4000000 in
set_option maxRecDepth 100000 in
theorem m_RS_count {L : Launch} {D : va_G} {cA : Nat → ClassId} {base : Nat} {ad : Nat → Nat} {w : Nat → va_E} {kp sq : Nat} {ls : Int} {se : Bool} (hw0 : w 0 = rsO ad kp sq ls se) {t : Int} (hw1 : w 1 = trO ad t) (ht : 0 ≤ t ∧ t ≤ 300) {r sz : Int} (hw12 : w 12 = ruO ad r) (hkp : kp = 25 ∨ kp = 27) (hwkp : w kp = roO ad kp sz) {x : Int} (hx : -2147483648 ≤ x ∧ x < 2147483648) : XM L D cA base y_RS_count c_RS_count 2 (some .int) (xrm 0 0 0) [.ref (ad 0), .int (zI x)] 56 ad w (xPure 56 ad w (.int (zI (if x = 0 then t else if x = 1 then r else if x = 2 then sz else -1)))) xF := by
  refine xm_of (by decide +kernel) (by simp [Value.category]) (Nat.le_of_ble_eq_true rfl) (fun G C E _ => ?_)
  refine xr_iload_n C 1 d_RS_count_0 rfl rfl ?_
  rcases (show x = 0 ∨ x = 1 ∨ x = 2 ∨ (x < 0 ∨ 2 < x) by omega) with q0 | q1 | q2 | qd
  · skip
    refine xr_eqz (y := 0) q0 ?_
    refine xr_tableIn (tgt := 28) C d_RS_count_1 (by decide) (by decide) rfl (by decide) ?_
    refine xr_aload_n C 0 d_RS_count_28 rfl rfl ?_
    refine xr_get (k := 0) C xg_RS_10 hw0 (by decide) rfl d_RS_count_29 ?_
    refine xr_get (k := 1) C xg_RS_110 hw1 (by decide) rfl d_RS_count_32 ?_
    exact xr_iret C E ⟨rfl, rfl, rfl, xv_eq (by repeat' split; all_goals omega)⟩ (by decide) (by decide) d_RS_count_35
  · skip
    refine xr_eqz (y := 1) q1 ?_
    refine xr_tableIn (tgt := 36) C d_RS_count_1 (by decide) (by decide) rfl (by decide) ?_
    refine xr_aload_n C 0 d_RS_count_36 rfl rfl ?_
    refine xr_get (k := 0) C xg_RS_19 hw0 (by decide) rfl d_RS_count_37 ?_
    refine xr_get (k := 12) C xg_RS_164 hw12 (by decide) rfl d_RS_count_40 ?_
    exact xr_iret C E ⟨rfl, rfl, rfl, xv_eq (by repeat' split; all_goals omega)⟩ (by decide) (by decide) d_RS_count_43
  · skip
    refine xr_eqz (y := 2) q2 ?_
    refine xr_tableIn (tgt := 44) C d_RS_count_1 (by decide) (by decide) rfl (by decide) ?_
    refine xr_aload_n C 0 d_RS_count_44 rfl rfl ?_
    refine xr_get (k := 0) C xg_RS_35 hw0 (by decide) rfl d_RS_count_45 ?_
    refine xr_get (k := kp) C xg_RS_127 hwkp (by omega) rfl d_RS_count_48 ?_
    exact xr_iret C E ⟨rfl, rfl, rfl, xv_eq (by repeat' split; all_goals omega)⟩ (by decide) (by decide) d_RS_count_51
  · skip
    refine xr_tableOut (tgt := 52) C d_RS_count_1 (by rw [zI_toInt (by omega)]; omega) (by decide) ?_
    refine xr_iconst C d_RS_count_52 ?_
    exact xr_iret C E ⟨rfl, rfl, rfl, xv_eq (by repeat' split; all_goals omega)⟩ (by decide) (by decide) d_RS_count_53
set_option maxHeartbeats 4000000 in
set_option maxRecDepth 100000 in
theorem m_RS_head {L : Launch} {D : va_G} {cA : Nat → ClassId} {base : Nat} {ad : Nat → Nat} {w : Nat → va_E} (hLt : L.stackTraces = false) {kp sq : Nat} {ls : Int} {se : Bool} (hw0 : w 0 = rsO ad kp sq ls se) {t : Int} (hw1 : w 1 = trO ad t) (ht : 0 ≤ t ∧ t ≤ 300) {mk : Nat → Int} (hw2 : w 2 = xIA (cA 0) 300 mk) {x : Int} (hx : -2147483648 ≤ x ∧ x < 2147483648) : XM L D cA base y_RS_head c_RS_head 2 (some .int) (xrm 9 1 6) [.ref (ad 0), .int (zI x)] 56 ad w (xRet 56 ad (fun z w' => w = w' ∧ z = mk x.toNat ∧ 0 ≤ x ∧ x < t)) (xThr 56 ad (fun E w' => w = w' ∧ E = "java/lang/IndexOutOfBoundsException" ∧ ¬ (0 ≤ x ∧ x < t))) := by
  refine xm_of (by decide +kernel) (by simp [Value.category]) (Nat.le_of_ble_eq_true rfl) (fun G C E _ => ?_)
  refine xr_aload_n C 0 d_RS_head_0 rfl rfl ?_
  refine xr_iload_n C 1 d_RS_head_1 rfl rfl ?_
  refine xr_callV (k9 := 0) C (m_RS_needTree hLt hw0 hw1 ht (x := x) (by omega)) xm_RS_67 x2_RS_needTree hw0 (by decide) rfl (by decide) (by decide) (Nat.le_of_ble_eq_true rfl) rfl d_RS_head_2 (fun En n9 ad9 w9 hx9 => by
        obtain ⟨rfl, rfl, rfl, rfl, hq⟩ := hx9
        exact xx_out C E ⟨rfl, rfl, rfl, rfl, by omega⟩ (by decide) (by decide)) (fun v n9 ad9 w9 hp => ?_)
  obtain ⟨rfl, rfl, rfl, rfl, hq0, hq1⟩ := hp
  refine xr_aload_n C 0 d_RS_head_5 rfl rfl ?_
  refine xr_get (k := 0) C xg_RS_10 hw0 (by decide) rfl d_RS_head_6 ?_
  refine xr_get (k := 1) C xg_RS_161 hw1 (by decide) rfl d_RS_head_9 ?_
  refine xr_iload_n C 1 d_RS_head_12 rfl rfl ?_
  refine xz_iald (k := 2) C hw2 (by decide) (by omega) (by decide) d_RS_head_13 ?_
  exact xr_iret C E ⟨rfl, rfl, _, rfl, rfl, rfl, by omega, by omega⟩ (by decide) (by decide) d_RS_head_14
set_option maxHeartbeats 4000000 in
set_option maxRecDepth 100000 in
theorem m_RS_measure {L : Launch} {D : va_G} {cA : Nat → ClassId} {base : Nat} {ad : Nat → Nat} {w : Nat → va_E} (hLt : L.stackTraces = false) {kp sq : Nat} {ls : Int} {se : Bool} (hw0 : w 0 = rsO ad kp sq ls se) {t : Int} (hw1 : w 1 = trO ad t) (ht : 0 ≤ t ∧ t ≤ 300) {wt pl dp ho : Nat → Int} (hw5 : w 5 = xIA (cA 0) 300 wt) (hw6 : w 6 = xIA (cA 0) 300 pl) (hw7 : w 7 = xIA (cA 0) 300 dp) (hw8 : w 8 = xIA (cA 0) 300 ho) {x : Int} (hx : -2147483648 ≤ x ∧ x < 2147483648) {y : Int} (hy : -2147483648 ≤ y ∧ y < 2147483648) : XM L D cA base y_RS_measure c_RS_measure 3 (some .int) (xrm 9 2 12) [.ref (ad 0), .int (zI x), .int (zI y)] 56 ad w (xRet 56 ad (fun z w' => w = w' ∧ z = (if y = 0 then wt x.toNat else if y = 1 then pl x.toNat else if y = 2 then dp x.toNat else ho x.toNat) ∧ (0 ≤ x ∧ x < t) ∧ (0 ≤ y ∧ y < 4))) (xThr 56 ad (fun E w' => w = w' ∧ ((E = "java/lang/IndexOutOfBoundsException" ∧ ¬ (0 ≤ x ∧ x < t)) ∨ (E = "java/lang/IllegalArgumentException" ∧ (0 ≤ x ∧ x < t) ∧ ¬ (0 ≤ y ∧ y < 4))))) := by
  refine xm_of (by decide +kernel) (by simp [Value.category]) (Nat.le_of_ble_eq_true rfl) (fun G C E _ => ?_)
  refine xr_aload_n C 0 d_RS_measure_0 rfl rfl ?_
  refine xr_iload_n C 1 d_RS_measure_1 rfl rfl ?_
  refine xr_callV (k9 := 0) C (m_RS_needTree hLt hw0 hw1 ht (x := x) (by omega)) xm_RS_67 x2_RS_needTree hw0 (by decide) rfl (by decide) (by decide) (Nat.le_of_ble_eq_true rfl) rfl d_RS_measure_2 (fun En n9 ad9 w9 hx9 => by
        obtain ⟨rfl, rfl, rfl, rfl, hq⟩ := hx9
        exact xx_out C E ⟨rfl, rfl, rfl, Or.inl ⟨rfl, by omega⟩⟩ (by decide) (by decide)) (fun v n9 ad9 w9 hp => ?_)
  obtain ⟨rfl, rfl, rfl, rfl, hq0, hq1⟩ := hp
  refine xr_iload_n C 2 d_RS_measure_5 rfl rfl ?_
  refine xz_if_lt (tgt := 14) C d_RS_measure_6 (by decide) (by omega) (fun c6 => ?_) (fun c6 => ?_)
  · skip
    exact xr_throw C E hLt (cls := "java/lang/IllegalArgumentException") (text := "no such measure") (names := ["java/lang/RuntimeException", "java/lang/Exception"]) rfl (by decide +kernel) (by decide +kernel) xk_RS_50 xi_IA (by decide +kernel) xat_IA (by decide +kernel) d_RS_measure_14 d_RS_measure_17 d_RS_measure_18 d_RS_measure_20 d_RS_measure_23 (by decide) (by decide) ⟨rfl, rfl, rfl, Or.inr ⟨rfl, by omega, by omega⟩⟩ (by decide) (by decide)
  · skip
    refine xr_iload_n C 2 d_RS_measure_9 rfl rfl ?_
    refine xr_iconst C d_RS_measure_10 ?_
    refine xz_icmp_lt (tgt := 24) C d_RS_measure_11 (by decide) (by omega) (by omega) (fun c11 => ?_) (fun c11 => ?_)
    · skip
      refine xr_iload_n C 2 d_RS_measure_24 rfl rfl ?_
      rcases (show y = 0 ∨ y = 1 ∨ y = 2 ∨ (y < 0 ∨ 2 < y) by omega) with q0 | q1 | q2 | qd
      · skip
        refine xr_eqz (y := 0) q0 ?_
        refine xr_tableIn (tgt := 52) C d_RS_measure_25 (by decide) (by decide) rfl (by decide) ?_
        refine xr_aload_n C 0 d_RS_measure_52 rfl rfl ?_
        refine xr_get (k := 0) C xg_RS_10 hw0 (by decide) rfl d_RS_measure_53 ?_
        refine xr_get (k := 1) C xg_RS_149 hw1 (by decide) rfl d_RS_measure_56 ?_
        refine xr_iload_n C 1 d_RS_measure_59 rfl rfl ?_
        refine xz_iald (k := 5) C hw5 (by decide) (by omega) (by decide) d_RS_measure_60 ?_
        exact xr_iret C E ⟨rfl, rfl, _, rfl, rfl, by repeat' split; all_goals first | rfl | omega, by omega, by omega⟩ (by decide) (by decide) d_RS_measure_61
      · skip
        refine xr_eqz (y := 1) q1 ?_
        refine xr_tableIn (tgt := 62) C d_RS_measure_25 (by decide) (by decide) rfl (by decide) ?_
        refine xr_aload_n C 0 d_RS_measure_62 rfl rfl ?_
        refine xr_get (k := 0) C xg_RS_10 hw0 (by decide) rfl d_RS_measure_63 ?_
        refine xr_get (k := 1) C xg_RS_152 hw1 (by decide) rfl d_RS_measure_66 ?_
        refine xr_iload_n C 1 d_RS_measure_69 rfl rfl ?_
        refine xz_iald (k := 6) C hw6 (by decide) (by omega) (by decide) d_RS_measure_70 ?_
        exact xr_iret C E ⟨rfl, rfl, _, rfl, rfl, by repeat' split; all_goals first | rfl | omega, by omega, by omega⟩ (by decide) (by decide) d_RS_measure_71
      · skip
        refine xr_eqz (y := 2) q2 ?_
        refine xr_tableIn (tgt := 72) C d_RS_measure_25 (by decide) (by decide) rfl (by decide) ?_
        refine xr_aload_n C 0 d_RS_measure_72 rfl rfl ?_
        refine xr_get (k := 0) C xg_RS_10 hw0 (by decide) rfl d_RS_measure_73 ?_
        refine xr_get (k := 1) C xg_RS_155 hw1 (by decide) rfl d_RS_measure_76 ?_
        refine xr_iload_n C 1 d_RS_measure_79 rfl rfl ?_
        refine xz_iald (k := 7) C hw7 (by decide) (by omega) (by decide) d_RS_measure_80 ?_
        exact xr_iret C E ⟨rfl, rfl, _, rfl, rfl, by repeat' split; all_goals first | rfl | omega, by omega, by omega⟩ (by decide) (by decide) d_RS_measure_81
      · skip
        refine xr_tableOut (tgt := 82) C d_RS_measure_25 (by rw [zI_toInt (by omega)]; omega) (by decide) ?_
        refine xr_aload_n C 0 d_RS_measure_82 rfl rfl ?_
        refine xr_get (k := 0) C xg_RS_10 hw0 (by decide) rfl d_RS_measure_83 ?_
        refine xr_get (k := 1) C xg_RS_77 hw1 (by decide) rfl d_RS_measure_86 ?_
        refine xr_iload_n C 1 d_RS_measure_89 rfl rfl ?_
        refine xz_iald (k := 8) C hw8 (by decide) (by omega) (by decide) d_RS_measure_90 ?_
        exact xr_iret C E ⟨rfl, rfl, _, rfl, rfl, by repeat' split; all_goals first | rfl | omega, by omega, by omega⟩ (by decide) (by decide) d_RS_measure_91
    · skip
      exact xr_throw C E hLt (cls := "java/lang/IllegalArgumentException") (text := "no such measure") (names := ["java/lang/RuntimeException", "java/lang/Exception"]) rfl (by decide +kernel) (by decide +kernel) xk_RS_50 xi_IA (by decide +kernel) xat_IA (by decide +kernel) d_RS_measure_14 d_RS_measure_17 d_RS_measure_18 d_RS_measure_20 d_RS_measure_23 (by decide) (by decide) ⟨rfl, rfl, rfl, Or.inr ⟨rfl, by omega, by omega⟩⟩ (by decide) (by decide)
set_option maxHeartbeats 4000000 in
set_option maxRecDepth 100000 in
theorem m_RS_lessens {L : Launch} {D : va_G} {cA : Nat → ClassId} {base : Nat} {ad : Nat → Nat} {w : Nat → va_E} (hLt : L.stackTraces = false) {kp sq : Nat} {ls : Int} {se : Bool} (hw0 : w 0 = rsO ad kp sq ls se) {t : Int} (hw12 : w 12 = ruO ad t) (ht : 0 ≤ t ∧ t ≤ 16) {le : Nat → Int} (hw16 : w 16 = xIA (cA 1) 16 le) (hle : ∀ j, le j = 0 ∨ le j = 1) {x : Int} (hx : -2147483648 ≤ x ∧ x < 2147483648) : XM L D cA base y_RS_lessens c_RS_lessens 2 (some .boolean) (xrm 9 1 6) [.ref (ad 0), .int (zI x)] 56 ad w (xRet 56 ad (fun z w' => w = w' ∧ z = le x.toNat ∧ 0 ≤ x ∧ x < t)) (xThr 56 ad (fun E w' => w = w' ∧ E = "java/lang/IndexOutOfBoundsException" ∧ ¬ (0 ≤ x ∧ x < t))) := by
  refine xm_of (by decide +kernel) (by simp [Value.category]) (Nat.le_of_ble_eq_true rfl) (fun G C E _ => ?_)
  refine xr_aload_n C 0 d_RS_lessens_0 rfl rfl ?_
  refine xr_iload_n C 1 d_RS_lessens_1 rfl rfl ?_
  refine xr_callV (k9 := 0) C (m_RS_needRule hLt hw0 hw12 ht (x := x) (by omega)) xm_RS_98 x2_RS_needRule hw0 (by decide) rfl (by decide) (by decide) (Nat.le_of_ble_eq_true rfl) rfl d_RS_lessens_2 (fun En n9 ad9 w9 hx9 => by
        obtain ⟨rfl, rfl, rfl, rfl, hq⟩ := hx9
        exact xx_out C E ⟨rfl, rfl, rfl, rfl, by omega⟩ (by decide) (by decide)) (fun v n9 ad9 w9 hp => ?_)
  obtain ⟨rfl, rfl, rfl, rfl, hq0, hq1⟩ := hp
  refine xr_aload_n C 0 d_RS_lessens_5 rfl rfl ?_
  refine xr_get (k := 0) C xg_RS_19 hw0 (by decide) rfl d_RS_lessens_6 ?_
  refine xr_get (k := 12) C xg_RS_141 hw12 (by decide) rfl d_RS_lessens_9 ?_
  refine xr_iload_n C 1 d_RS_lessens_12 rfl rfl ?_
  refine xz_zald (k := 16) C hw16 (by decide) (by omega) (by decide) d_RS_lessens_13 ?_
  exact xr_zret C E (hle _) ⟨rfl, rfl, _, rfl, rfl, rfl, by omega, by omega⟩ (by decide) (by decide) d_RS_lessens_14
set_option maxHeartbeats 4000000 in
set_option maxRecDepth 100000 in
theorem m_RS_usable {L : Launch} {D : va_G} {cA : Nat → ClassId} {base : Nat} {ad : Nat → Nat} {w : Nat → va_E} (hLt : L.stackTraces = false) {kp sq : Nat} {ls : Int} {se : Bool} (hw0 : w 0 = rsO ad kp sq ls se) {t : Int} (hw12 : w 12 = ruO ad t) (ht : 0 ≤ t ∧ t ≤ 16) {co ch an : Nat → Int} (hw15 : w 15 = xIA (cA 0) 16 co) (hw17 : w 17 = xIA (cA 1) 16 ch) (hw18 : w 18 = xIA (cA 0) 10 an) (hco : ∀ j, -1 ≤ co j ∧ co j < 10) (hch : ∀ j, ch j = 0 ∨ ch j = 1) (han : ∀ j, 0 ≤ an j ∧ an j ≤ 2) {x : Int} (hx : -2147483648 ≤ x ∧ x < 2147483648) : XM L D cA base y_RS_usable c_RS_usable 2 (some .boolean) (xrm 9 1 6) [.ref (ad 0), .int (zI x)] 56 ad w (xRet 56 ad (fun z w' => w = w' ∧ z = xb (decide (ch x.toNat = 1 ∧ (co x.toNat = -1 ∨ an (co x.toNat).toNat = 1))) ∧ 0 ≤ x ∧ x < t)) (xThr 56 ad (fun E w' => w = w' ∧ E = "java/lang/IndexOutOfBoundsException" ∧ ¬ (0 ≤ x ∧ x < t))) := by
  refine xm_of (by decide +kernel) (by simp [Value.category]) (Nat.le_of_ble_eq_true rfl) (fun G C E _ => ?_)
  refine xr_aload_n C 0 d_RS_usable_0 rfl rfl ?_
  refine xr_iload_n C 1 d_RS_usable_1 rfl rfl ?_
  refine xr_callV (k9 := 0) C (m_RS_needRule hLt hw0 hw12 ht (x := x) (by omega)) xm_RS_98 x2_RS_needRule hw0 (by decide) rfl (by decide) (by decide) (Nat.le_of_ble_eq_true rfl) rfl d_RS_usable_2 (fun En n9 ad9 w9 hx9 => by
        obtain ⟨rfl, rfl, rfl, rfl, hq⟩ := hx9
        exact xx_out C E ⟨rfl, rfl, rfl, rfl, by omega⟩ (by decide) (by decide)) (fun v n9 ad9 w9 hp => ?_)
  obtain ⟨rfl, rfl, rfl, rfl, hq0, hq1⟩ := hp
  refine xr_aload_n C 0 d_RS_usable_5 rfl rfl ?_
  refine xr_get (k := 0) C xg_RS_19 hw0 (by decide) rfl d_RS_usable_6 ?_
  refine xr_iload_n C 1 d_RS_usable_9 rfl rfl ?_
  refine xr_callV (k9 := 12) C (m_Ru_mayBeUsed hw12 hw15 hw17 hw18 (x := x) (by omega) (hco _) (hch _) han) xm_RS_144 x2_Ru_mayBeUsed hw12 (by decide) rfl (by decide) (by decide) (Nat.le_of_ble_eq_true rfl) rfl d_RS_usable_10 (fun En n9 ad9 w9 hx9 => hx9.elim) (fun v n9 ad9 w9 hp => ?_)
  obtain ⟨rfl, rfl, rfl, rfl⟩ := hp
  show XW _ _ _ _ _ _ 13 _ (_ :: _)
  exact xr_zret C E xb_01 ⟨rfl, rfl, _, rfl, rfl, rfl, by omega, by omega⟩ (by decide) (by decide) d_RS_usable_13
set_option maxHeartbeats 4000000 in
set_option maxRecDepth 100000 in
theorem m_RS_choose {L : Launch} {D : va_G} {cA : Nat → ClassId} {base : Nat} {ad : Nat → Nat} {w : Nat → va_E} (hLt : L.stackTraces = false) {kp sq : Nat} {ls : Int} {se : Bool} (hw0 : w 0 = rsO ad kp sq ls se) {t : Int} (hw12 : w 12 = ruO ad t) (ht : 0 ≤ t ∧ t ≤ 16) {co ch an : Nat → Int} (hw15 : w 15 = xIA (cA 0) 16 co) (hw17 : w 17 = xIA (cA 1) 16 ch) (hw18 : w 18 = xIA (cA 0) 10 an) (hco : ∀ j, -1 ≤ co j ∧ co j < 10) (hch : ∀ j, ch j = 0 ∨ ch j = 1) (han : ∀ j, 0 ≤ an j ∧ an j ≤ 2) {x : Int} (hx : -2147483648 ≤ x ∧ x < 2147483648) {on : Bool} : XM L D cA base y_RS_choose c_RS_choose 4 (some .boolean) (xrm 9 1 6) [.ref (ad 0), .int (zI x), .int (zI (xb on))] 56 ad w (xRet 56 ad (fun z w' => w' = va_up w 17 (xIA (cA 1) 16 (va_up ch x.toNat (xb on))) ∧ z = xb (decide (ch x.toNat ≠ xb on)) ∧ 0 ≤ x ∧ x < t)) (xThr 56 ad (fun E w' => w = w' ∧ E = "java/lang/IndexOutOfBoundsException" ∧ ¬ (0 ≤ x ∧ x < t))) := by
  refine xm_of (by decide +kernel) (by simp [Value.category]) (Nat.le_of_ble_eq_true rfl) (fun G C E _ => ?_)
  refine xr_aload_n C 0 d_RS_choose_0 rfl rfl ?_
  refine xr_iload_n C 1 d_RS_choose_1 rfl rfl ?_
  refine xr_callV (k9 := 0) C (m_RS_needRule hLt hw0 hw12 ht (x := x) (by omega)) xm_RS_98 x2_RS_needRule hw0 (by decide) rfl (by decide) (by decide) (Nat.le_of_ble_eq_true rfl) rfl d_RS_choose_2 (fun En n9 ad9 w9 hx9 => by
        obtain ⟨rfl, rfl, rfl, rfl, hq⟩ := hx9
        exact xx_out C E ⟨rfl, rfl, rfl, rfl, by omega⟩ (by decide) (by decide)) (fun v n9 ad9 w9 hp => ?_)
  obtain ⟨rfl, rfl, rfl, rfl, hq0, hq1⟩ := hp
  refine xr_aload_n C 0 d_RS_choose_5 rfl rfl ?_
  refine xr_get (k := 0) C xg_RS_19 hw0 (by decide) rfl d_RS_choose_6 ?_
  refine xr_get (k := 12) C xg_RS_101 hw12 (by decide) rfl d_RS_choose_9 ?_
  refine xr_iload_n C 1 d_RS_choose_12 rfl rfl ?_
  refine xz_zald (k := 17) C hw17 (by decide) (by omega) (by decide) d_RS_choose_13 ?_
  refine xr_iload_n C 2 d_RS_choose_14 rfl rfl ?_
  have hb9 := xb_01 (p := on)
  have hc9 := hch x.toNat
  refine xz_icmp_eq (tgt := 22) C d_RS_choose_15 (by decide) (by omega) (by omega) (fun c15 => ?_) (fun c15 => ?_)
  · skip
    refine xr_iconst C d_RS_choose_22 ?_
    refine xr_istore_n C 3 d_RS_choose_23 rfl (by decide) ?_
    refine xr_aload_n C 0 d_RS_choose_24 rfl rfl ?_
    refine xr_get (k := 0) C xg_RS_19 hw0 (by decide) rfl d_RS_choose_25 ?_
    refine xr_get (k := 12) C xg_RS_101 hw12 (by decide) rfl d_RS_choose_28 ?_
    refine xr_iload_n C 1 d_RS_choose_31 rfl rfl ?_
    refine xr_iload_n C 2 d_RS_choose_32 rfl rfl ?_
    refine xz_zast (k := 17) C hw17 (by decide) (by omega) (by decide) xb_01 d_RS_choose_33 ?_
    refine xr_iload_n C 3 d_RS_choose_34 rfl rfl ?_
    exact xr_zret C E (by omega) ⟨rfl, rfl, _, rfl, rfl, by first | (rw [decide_eq_true (by omega)]; rfl) | (rw [decide_eq_false (by omega)]; rfl), by omega, by omega⟩ (by decide) (by decide) d_RS_choose_35
  · skip
    refine xr_iconst C d_RS_choose_18 ?_
    refine xr_goto (tgt := 23) C d_RS_choose_19 (by decide) ?_
    refine xr_istore_n C 3 d_RS_choose_23 rfl (by decide) ?_
    refine xr_aload_n C 0 d_RS_choose_24 rfl rfl ?_
    refine xr_get (k := 0) C xg_RS_19 hw0 (by decide) rfl d_RS_choose_25 ?_
    refine xr_get (k := 12) C xg_RS_101 hw12 (by decide) rfl d_RS_choose_28 ?_
    refine xr_iload_n C 1 d_RS_choose_31 rfl rfl ?_
    refine xr_iload_n C 2 d_RS_choose_32 rfl rfl ?_
    refine xz_zast (k := 17) C hw17 (by decide) (by omega) (by decide) xb_01 d_RS_choose_33 ?_
    refine xr_iload_n C 3 d_RS_choose_34 rfl rfl ?_
    exact xr_zret C E (by omega) ⟨rfl, rfl, _, rfl, rfl, by first | (rw [decide_eq_true (by omega)]; rfl) | (rw [decide_eq_false (by omega)]; rfl), by omega, by omega⟩ (by decide) (by decide) d_RS_choose_35
set_option maxHeartbeats 4000000 in
set_option maxRecDepth 100000 in
theorem m_RS_holds {L : Launch} {D : va_G} {cA : Nat → ClassId} {base : Nat} {ad : Nat → Nat} {w : Nat → va_E} (hLt : L.stackTraces = false) {kp sq : Nat} {ls : Int} {se : Bool} (hw0 : w 0 = rsO ad kp sq ls se) {t : Int} (hw12 : w 12 = ruO ad t) (ht : 0 ≤ t ∧ t ≤ 16) {co ch an : Nat → Int} (hw15 : w 15 = xIA (cA 0) 16 co) (hw17 : w 17 = xIA (cA 1) 16 ch) (hw18 : w 18 = xIA (cA 0) 10 an) (hco : ∀ j, -1 ≤ co j ∧ co j < 10) (hch : ∀ j, ch j = 0 ∨ ch j = 1) (han : ∀ j, 0 ≤ an j ∧ an j ≤ 2) {x : Int} (hx : -2147483648 ≤ x ∧ x < 2147483648) {y : Int} (hy : -2147483648 ≤ y ∧ y < 2147483648) : XM L D cA base y_RS_holds c_RS_holds 4 (some .boolean) (xrm 9 1 6) [.ref (ad 0), .int (zI x), .int (zI y)] 56 ad w (xRet 56 ad (fun z w' => w' = va_up w 18 (xIA (cA 0) 10 (va_up an x.toNat y)) ∧ z = xb (decide (an x.toNat ≠ y)) ∧ (0 ≤ x ∧ x < 10) ∧ (0 ≤ y ∧ y < 3))) (xThr 56 ad (fun E w' => w = w' ∧ E = "java/lang/IllegalArgumentException" ∧ ¬ ((0 ≤ x ∧ x < 10) ∧ (0 ≤ y ∧ y < 3)))) := by
  refine xm_of (by decide +kernel) (by simp [Value.category]) (Nat.le_of_ble_eq_true rfl) (fun G C E _ => ?_)
  refine xr_iload_n C 1 d_RS_holds_0 rfl rfl ?_
  refine xz_if_lt (tgt := 19) C d_RS_holds_1 (by decide) (by omega) (fun c1 => ?_) (fun c1 => ?_)
  · skip
    exact xr_throw C E hLt (cls := "java/lang/IllegalArgumentException") (text := "no such condition or answer") (names := ["java/lang/RuntimeException", "java/lang/Exception"]) rfl (by decide +kernel) (by decide +kernel) xk_RS_50 xi_IA (by decide +kernel) xat_IA (by decide +kernel) d_RS_holds_19 d_RS_holds_22 d_RS_holds_23 d_RS_holds_25 d_RS_holds_28 (by decide) (by decide) ⟨rfl, rfl, rfl, rfl, by omega⟩ (by decide) (by decide)
  · skip
    refine xr_iload_n C 1 d_RS_holds_4 rfl rfl ?_
    refine xr_bipush C d_RS_holds_5 (by decide) ?_
    refine xz_icmp_ge (tgt := 19) C d_RS_holds_7 (by decide) (by omega) (by omega) (fun c7 => ?_) (fun c7 => ?_)
    · skip
      exact xr_throw C E hLt (cls := "java/lang/IllegalArgumentException") (text := "no such condition or answer") (names := ["java/lang/RuntimeException", "java/lang/Exception"]) rfl (by decide +kernel) (by decide +kernel) xk_RS_50 xi_IA (by decide +kernel) xat_IA (by decide +kernel) d_RS_holds_19 d_RS_holds_22 d_RS_holds_23 d_RS_holds_25 d_RS_holds_28 (by decide) (by decide) ⟨rfl, rfl, rfl, rfl, by omega⟩ (by decide) (by decide)
    · skip
      refine xr_iload_n C 2 d_RS_holds_10 rfl rfl ?_
      refine xz_if_lt (tgt := 19) C d_RS_holds_11 (by decide) (by omega) (fun c11 => ?_) (fun c11 => ?_)
      · skip
        exact xr_throw C E hLt (cls := "java/lang/IllegalArgumentException") (text := "no such condition or answer") (names := ["java/lang/RuntimeException", "java/lang/Exception"]) rfl (by decide +kernel) (by decide +kernel) xk_RS_50 xi_IA (by decide +kernel) xat_IA (by decide +kernel) d_RS_holds_19 d_RS_holds_22 d_RS_holds_23 d_RS_holds_25 d_RS_holds_28 (by decide) (by decide) ⟨rfl, rfl, rfl, rfl, by omega⟩ (by decide) (by decide)
      · skip
        refine xr_iload_n C 2 d_RS_holds_14 rfl rfl ?_
        refine xr_iconst C d_RS_holds_15 ?_
        refine xz_icmp_lt (tgt := 29) C d_RS_holds_16 (by decide) (by omega) (by omega) (fun c16 => ?_) (fun c16 => ?_)
        · skip
          refine xr_aload_n C 0 d_RS_holds_29 rfl rfl ?_
          refine xr_get (k := 0) C xg_RS_19 hw0 (by decide) rfl d_RS_holds_30 ?_
          refine xr_get (k := 12) C xg_RS_95 hw12 (by decide) rfl d_RS_holds_33 ?_
          refine xr_iload_n C 1 d_RS_holds_36 rfl rfl ?_
          refine xz_iald (k := 18) C hw18 (by decide) (by omega) (by decide) d_RS_holds_37 ?_
          refine xr_iload_n C 2 d_RS_holds_38 rfl rfl ?_
          have hc9 := han x.toNat
          refine xz_icmp_eq (tgt := 46) C d_RS_holds_39 (by decide) (by omega) (by omega) (fun c39 => ?_) (fun c39 => ?_)
          · skip
            refine xr_iconst C d_RS_holds_46 ?_
            refine xr_istore_n C 3 d_RS_holds_47 rfl (by decide) ?_
            refine xr_aload_n C 0 d_RS_holds_48 rfl rfl ?_
            refine xr_get (k := 0) C xg_RS_19 hw0 (by decide) rfl d_RS_holds_49 ?_
            refine xr_get (k := 12) C xg_RS_95 hw12 (by decide) rfl d_RS_holds_52 ?_
            refine xr_iload_n C 1 d_RS_holds_55 rfl rfl ?_
            refine xr_iload_n C 2 d_RS_holds_56 rfl rfl ?_
            refine xz_iast (k := 18) C hw18 (by decide) (by omega) (by decide) d_RS_holds_57 ?_
            refine xr_iload_n C 3 d_RS_holds_58 rfl rfl ?_
            exact xr_zret C E (by omega) ⟨rfl, rfl, _, rfl, rfl, by first | (rw [decide_eq_true (by omega)]; rfl) | (rw [decide_eq_false (by omega)]; rfl), by omega, by omega⟩ (by decide) (by decide) d_RS_holds_59
          · skip
            refine xr_iconst C d_RS_holds_42 ?_
            refine xr_goto (tgt := 47) C d_RS_holds_43 (by decide) ?_
            refine xr_istore_n C 3 d_RS_holds_47 rfl (by decide) ?_
            refine xr_aload_n C 0 d_RS_holds_48 rfl rfl ?_
            refine xr_get (k := 0) C xg_RS_19 hw0 (by decide) rfl d_RS_holds_49 ?_
            refine xr_get (k := 12) C xg_RS_95 hw12 (by decide) rfl d_RS_holds_52 ?_
            refine xr_iload_n C 1 d_RS_holds_55 rfl rfl ?_
            refine xr_iload_n C 2 d_RS_holds_56 rfl rfl ?_
            refine xz_iast (k := 18) C hw18 (by decide) (by omega) (by decide) d_RS_holds_57 ?_
            refine xr_iload_n C 3 d_RS_holds_58 rfl rfl ?_
            exact xr_zret C E (by omega) ⟨rfl, rfl, _, rfl, rfl, by first | (rw [decide_eq_true (by omega)]; rfl) | (rw [decide_eq_false (by omega)]; rfl), by omega, by omega⟩ (by decide) (by decide) d_RS_holds_59
        · skip
          exact xr_throw C E hLt (cls := "java/lang/IllegalArgumentException") (text := "no such condition or answer") (names := ["java/lang/RuntimeException", "java/lang/Exception"]) rfl (by decide +kernel) (by decide +kernel) xk_RS_50 xi_IA (by decide +kernel) xat_IA (by decide +kernel) d_RS_holds_19 d_RS_holds_22 d_RS_holds_23 d_RS_holds_25 d_RS_holds_28 (by decide) (by decide) ⟨rfl, rfl, rfl, rfl, by omega⟩ (by decide) (by decide)
end
section
set_option maxHeartbeats 4000000 in
set_option maxRecDepth 100000 in
theorem m_RS_node {L : Launch} {D : va_G} {cA : Nat → ClassId} {base : Nat} {ad : Nat → Nat} {w : Nat → va_E} (hLt : L.stackTraces = false) {kp sq : Nat} {ls : Int} {se : Bool} (hw0 : w 0 = rsO ad kp sq ls se) {S : xS} (hCT : CT ad cA w S) (hT : Tb S) {h : Int} (hh9 : -2147483648 ≤ h ∧ h < 2147483648) {x : Int} (hx : -2147483648 ≤ x ∧ x < 2147483648) {y : Int} (hy : -2147483648 ≤ y ∧ y < 2147483648) : XM L D cA base y_RS_node c_RS_node 5 (some .int) (xrm 9 3 18) [.ref (ad 0), .int (zI h), .int (zI x), .int (zI y)] 56 ad w (xRet 56 ad (fun z w' => ((0 ≤ x ∧ x < sN S) ∧ ((0 ≤ y ∧ y < sN S) ∨ (y = -1 ∧ h < 6))) ∧ ((0 ≤ h ∧ h < 12) ∧ (h < 6 → y = -1)) ∧ ∃ S' : xS, (z, S') = mkT S h x y ∧ 0 ≤ z ∧ Tb S' ∧ CT ad cA w' S' ∧ (∀ k, (k < 1 ∨ 11 < k) → w' k = w k))) (xThr 56 ad (fun E w' => (E = "java/lang/IndexOutOfBoundsException" ∧ ¬ ((0 ≤ x ∧ x < sN S) ∧ ((0 ≤ y ∧ y < sN S) ∨ (y = -1 ∧ h < 6))) ∧ w = w') ∨ (E = "java/lang/IllegalArgumentException" ∧ ((0 ≤ x ∧ x < sN S) ∧ ((0 ≤ y ∧ y < sN S) ∨ (y = -1 ∧ h < 6))) ∧ ¬ ((0 ≤ h ∧ h < 12) ∧ (h < 6 → y = -1)) ∧ w = w') ∨ (E = "java/lang/IllegalStateException" ∧ ((0 ≤ x ∧ x < sN S) ∧ ((0 ≤ y ∧ y < sN S) ∨ (y = -1 ∧ h < 6))) ∧ ((0 ≤ h ∧ h < 12) ∧ (h < 6 → y = -1)) ∧ ∃ (S' : xS) (z : Int), (z, S') = mkT S h x y ∧ z < 0 ∧ CT ad cA w' S ∧ (∀ k, (k < 1 ∨ 11 < k) → w' k = w k)))) := by
  refine xm_of (by decide +kernel) (by simp [Value.category]) (Nat.le_of_ble_eq_true rfl) (fun G C E _ => ?_)
  have hN := hT.1
  have hw1 := ct_1 hCT
  refine xr_iload_n C 1 d_RS_node_0 rfl rfl ?_
  refine xr_bipush C d_RS_node_1 (by decide) ?_
  refine xz_icmp_ge (tgt := 10) C d_RS_node_3 (by decide) (by omega) (by omega) (fun c3 => ?_) (fun c3 => ?_)
  · skip
    refine xr_iconst C d_RS_node_10 ?_
    refine xr_istore C d_RS_node_11 (by decide) ?_
    refine xr_aload_n C 0 d_RS_node_13 rfl rfl ?_
    refine xr_iload_n C 2 d_RS_node_14 rfl rfl ?_
    refine xr_callV (k9 := 0) C (m_RS_needTree hLt hw0 hw1 (by omega) (x := x) (by omega)) xm_RS_67 x2_RS_needTree hw0 (by decide) rfl (by decide) (by decide) (Nat.le_of_ble_eq_true rfl) rfl d_RS_node_15 (fun En n9 ad9 w9 hx9 => by
            obtain ⟨rfl, rfl, rfl, rfl, hq⟩ := hx9
            exact xx_out C E ⟨rfl, rfl, Or.inl ⟨rfl, by omega, rfl⟩⟩ (by decide) (by decide)) (fun v n9 ad9 w9 hp => ?_)
    obtain ⟨rfl, rfl, rfl, rfl, hq0a, hq1a⟩ := hp
    refine xr_iload C d_RS_node_18 rfl ?_
    refine xz_if_eq (tgt := 28) C d_RS_node_20 (by decide) (by omega) (fun c20 => ?_) (fun c20 => ?_)
    · skip
      refine xr_aload_n C 0 d_RS_node_28 rfl rfl ?_
      refine xr_iload_n C 3 d_RS_node_29 rfl rfl ?_
      refine xr_callV (k9 := 0) C (m_RS_needTree hLt hw0 hw1 (by omega) (x := y) (by omega)) xm_RS_67 x2_RS_needTree hw0 (by decide) rfl (by decide) (by decide) (Nat.le_of_ble_eq_true rfl) rfl d_RS_node_30 (fun En n9 ad9 w9 hx9 => by
              obtain ⟨rfl, rfl, rfl, rfl, hq⟩ := hx9
              exact xx_out C E ⟨rfl, rfl, Or.inl ⟨rfl, by omega, rfl⟩⟩ (by decide) (by decide)) (fun v n9 ad9 w9 hp => ?_)
      obtain ⟨rfl, rfl, rfl, rfl, hq0b, hq1b⟩ := hp
      refine xr_iload_n C 1 d_RS_node_33 rfl rfl ?_
      refine xz_if_lt (tgt := 53) C d_RS_node_34 (by decide) (by omega) (fun c34 => ?_) (fun c34 => ?_)
      · skip
        exact xr_throw C E hLt (cls := "java/lang/IllegalArgumentException") (text := "no such head, or a part too many") (names := ["java/lang/RuntimeException", "java/lang/Exception"]) rfl (by decide +kernel) (by decide +kernel) xk_RS_50 xi_IA (by decide +kernel) xat_IA (by decide +kernel) d_RS_node_53 d_RS_node_56 d_RS_node_57 d_RS_node_59 d_RS_node_62 (by decide) (by decide) ⟨rfl, rfl, Or.inr (Or.inl ⟨rfl, by omega, by omega, rfl⟩)⟩ (by decide) (by decide)
      · skip
        refine xr_iload_n C 1 d_RS_node_37 rfl rfl ?_
        refine xr_bipush C d_RS_node_38 (by decide) ?_
        refine xz_icmp_ge (tgt := 53) C d_RS_node_40 (by decide) (by omega) (by omega) (fun c40 => ?_) (fun c40 => ?_)
        · skip
          exact xr_throw C E hLt (cls := "java/lang/IllegalArgumentException") (text := "no such head, or a part too many") (names := ["java/lang/RuntimeException", "java/lang/Exception"]) rfl (by decide +kernel) (by decide +kernel) xk_RS_50 xi_IA (by decide +kernel) xat_IA (by decide +kernel) d_RS_node_53 d_RS_node_56 d_RS_node_57 d_RS_node_59 d_RS_node_62 (by decide) (by decide) ⟨rfl, rfl, Or.inr (Or.inl ⟨rfl, by omega, by omega, rfl⟩)⟩ (by decide) (by decide)
        · skip
          refine xr_iload C d_RS_node_43 rfl ?_
          refine xz_if_eq (tgt := 63) C d_RS_node_45 (by decide) (by omega) (fun c45 => ?_) (fun c45 => ?_)
          · skip
            refine xr_aload_n C 0 d_RS_node_63 rfl rfl ?_
            refine xr_get (k := 0) C xg_RS_10 hw0 (by decide) rfl d_RS_node_64 ?_
            refine xr_iload_n C 1 d_RS_node_67 rfl rfl ?_
            refine xr_eqz (y := um h) (by unfold um; rw [if_neg (by omega), if_neg (by omega)]) ?_
            have hsh : shp h x y (sN S) := by unfold shp; omega
            refine xr_iload_n C 2 d_RS_node_68 rfl rfl ?_
            refine xr_iload_n C 3 d_RS_node_69 rfl rfl ?_
            refine xr_callV (k9 := 1) C (m_Tr_numberOf (s := h) (a := x) (b := y) hCT hT hsh) xm_RS_57 x2_Tr_numberOf hw1 (by decide) rfl (by decide) (by decide) (Nat.le_of_ble_eq_true rfl) rfl d_RS_node_70 (fun En n9 ad9 w9 hx9 => hx9.elim) (fun v n9 ad9 w9 hp => ?_)
            obtain ⟨rfl, rfl, z, rfl, S', hz, hCT', hfr⟩ := hp
            obtain ⟨hT', hz1, hz2, hz3⟩ := mkT_pos hT hsh hz
            have hN' := hT'.1
            have hw0 := (hfr 0 (by omega)).trans hw0
            show XW _ _ _ _ _ _ 73 _ (_ :: _)
            refine xr_callS C (m_RS_needMade hLt (x := z) (by omega)) xm_RS_61 x2_RS_needMade (by decide) (by decide) (Nat.le_of_ble_eq_true rfl) rfl d_RS_node_73 (fun En n9 ad9 w9 hx9 => by
                    obtain ⟨rfl, rfl, rfl, rfl, hq⟩ := hx9
                    exact xx_out C E ⟨rfl, rfl, Or.inr (Or.inr ⟨rfl, by omega, by omega, S', z, hz, hq, by have := mkT_neg hz hq; subst this; exact hCT', hfr⟩)⟩ (by decide) (by decide)) (fun v n9 ad9 w9 hp => ?_)
            obtain ⟨rfl, rfl, z9, rfl, rfl, rfl, hz0⟩ := hp
            show XW _ _ _ _ _ _ 76 _ (_ :: _)
            exact xr_iret C E ⟨rfl, rfl, _, rfl, by omega, by omega, S', hz, hz0, hT', hCT', hfr⟩ (by decide) (by decide) d_RS_node_76
          · skip
            refine xr_iload_n C 3 d_RS_node_48 rfl rfl ?_
            refine xr_iconst C d_RS_node_49 ?_
            refine xz_icmp_eq (tgt := 63) C d_RS_node_50 (by decide) (by omega) (by omega) (fun c50 => ?_) (fun c50 => ?_)
            · skip
              refine xr_aload_n C 0 d_RS_node_63 rfl rfl ?_
              refine xr_get (k := 0) C xg_RS_10 hw0 (by decide) rfl d_RS_node_64 ?_
              refine xr_iload_n C 1 d_RS_node_67 rfl rfl ?_
              refine xr_eqz (y := um h) (by unfold um; rw [if_neg (by omega), if_neg (by omega)]) ?_
              have hsh : shp h x y (sN S) := by unfold shp; omega
              refine xr_iload_n C 2 d_RS_node_68 rfl rfl ?_
              refine xr_iload_n C 3 d_RS_node_69 rfl rfl ?_
              refine xr_callV (k9 := 1) C (m_Tr_numberOf (s := h) (a := x) (b := y) hCT hT hsh) xm_RS_57 x2_Tr_numberOf hw1 (by decide) rfl (by decide) (by decide) (Nat.le_of_ble_eq_true rfl) rfl d_RS_node_70 (fun En n9 ad9 w9 hx9 => hx9.elim) (fun v n9 ad9 w9 hp => ?_)
              obtain ⟨rfl, rfl, z, rfl, S', hz, hCT', hfr⟩ := hp
              obtain ⟨hT', hz1, hz2, hz3⟩ := mkT_pos hT hsh hz
              have hN' := hT'.1
              have hw0 := (hfr 0 (by omega)).trans hw0
              show XW _ _ _ _ _ _ 73 _ (_ :: _)
              refine xr_callS C (m_RS_needMade hLt (x := z) (by omega)) xm_RS_61 x2_RS_needMade (by decide) (by decide) (Nat.le_of_ble_eq_true rfl) rfl d_RS_node_73 (fun En n9 ad9 w9 hx9 => by
                      obtain ⟨rfl, rfl, rfl, rfl, hq⟩ := hx9
                      exact xx_out C E ⟨rfl, rfl, Or.inr (Or.inr ⟨rfl, by omega, by omega, S', z, hz, hq, by have := mkT_neg hz hq; subst this; exact hCT', hfr⟩)⟩ (by decide) (by decide)) (fun v n9 ad9 w9 hp => ?_)
              obtain ⟨rfl, rfl, z9, rfl, rfl, rfl, hz0⟩ := hp
              show XW _ _ _ _ _ _ 76 _ (_ :: _)
              exact xr_iret C E ⟨rfl, rfl, _, rfl, by omega, by omega, S', hz, hz0, hT', hCT', hfr⟩ (by decide) (by decide) d_RS_node_76
            · skip
              exact xr_throw C E hLt (cls := "java/lang/IllegalArgumentException") (text := "no such head, or a part too many") (names := ["java/lang/RuntimeException", "java/lang/Exception"]) rfl (by decide +kernel) (by decide +kernel) xk_RS_50 xi_IA (by decide +kernel) xat_IA (by decide +kernel) d_RS_node_53 d_RS_node_56 d_RS_node_57 d_RS_node_59 d_RS_node_62 (by decide) (by decide) ⟨rfl, rfl, Or.inr (Or.inl ⟨rfl, by omega, by omega, rfl⟩)⟩ (by decide) (by decide)
    · skip
      refine xr_iload_n C 3 d_RS_node_23 rfl rfl ?_
      refine xr_iconst C d_RS_node_24 ?_
      refine xz_icmp_eq (tgt := 33) C d_RS_node_25 (by decide) (by omega) (by omega) (fun c25 => ?_) (fun c25 => ?_)
      · skip
        refine xr_iload_n C 1 d_RS_node_33 rfl rfl ?_
        refine xz_if_lt (tgt := 53) C d_RS_node_34 (by decide) (by omega) (fun c34 => ?_) (fun c34 => ?_)
        · skip
          exact xr_throw C E hLt (cls := "java/lang/IllegalArgumentException") (text := "no such head, or a part too many") (names := ["java/lang/RuntimeException", "java/lang/Exception"]) rfl (by decide +kernel) (by decide +kernel) xk_RS_50 xi_IA (by decide +kernel) xat_IA (by decide +kernel) d_RS_node_53 d_RS_node_56 d_RS_node_57 d_RS_node_59 d_RS_node_62 (by decide) (by decide) ⟨rfl, rfl, Or.inr (Or.inl ⟨rfl, by omega, by omega, rfl⟩)⟩ (by decide) (by decide)
        · skip
          refine xr_iload_n C 1 d_RS_node_37 rfl rfl ?_
          refine xr_bipush C d_RS_node_38 (by decide) ?_
          refine xz_icmp_ge (tgt := 53) C d_RS_node_40 (by decide) (by omega) (by omega) (fun c40 => ?_) (fun c40 => ?_)
          · skip
            exact xr_throw C E hLt (cls := "java/lang/IllegalArgumentException") (text := "no such head, or a part too many") (names := ["java/lang/RuntimeException", "java/lang/Exception"]) rfl (by decide +kernel) (by decide +kernel) xk_RS_50 xi_IA (by decide +kernel) xat_IA (by decide +kernel) d_RS_node_53 d_RS_node_56 d_RS_node_57 d_RS_node_59 d_RS_node_62 (by decide) (by decide) ⟨rfl, rfl, Or.inr (Or.inl ⟨rfl, by omega, by omega, rfl⟩)⟩ (by decide) (by decide)
          · skip
            refine xr_iload C d_RS_node_43 rfl ?_
            refine xz_if_eq (tgt := 63) C d_RS_node_45 (by decide) (by omega) (fun c45 => ?_) (fun c45 => ?_)
            · skip
              refine xr_aload_n C 0 d_RS_node_63 rfl rfl ?_
              refine xr_get (k := 0) C xg_RS_10 hw0 (by decide) rfl d_RS_node_64 ?_
              refine xr_iload_n C 1 d_RS_node_67 rfl rfl ?_
              refine xr_eqz (y := um h) (by unfold um; rw [if_neg (by omega), if_neg (by omega)]) ?_
              have hsh : shp h x y (sN S) := by unfold shp; omega
              refine xr_iload_n C 2 d_RS_node_68 rfl rfl ?_
              refine xr_iload_n C 3 d_RS_node_69 rfl rfl ?_
              refine xr_callV (k9 := 1) C (m_Tr_numberOf (s := h) (a := x) (b := y) hCT hT hsh) xm_RS_57 x2_Tr_numberOf hw1 (by decide) rfl (by decide) (by decide) (Nat.le_of_ble_eq_true rfl) rfl d_RS_node_70 (fun En n9 ad9 w9 hx9 => hx9.elim) (fun v n9 ad9 w9 hp => ?_)
              obtain ⟨rfl, rfl, z, rfl, S', hz, hCT', hfr⟩ := hp
              obtain ⟨hT', hz1, hz2, hz3⟩ := mkT_pos hT hsh hz
              have hN' := hT'.1
              have hw0 := (hfr 0 (by omega)).trans hw0
              show XW _ _ _ _ _ _ 73 _ (_ :: _)
              refine xr_callS C (m_RS_needMade hLt (x := z) (by omega)) xm_RS_61 x2_RS_needMade (by decide) (by decide) (Nat.le_of_ble_eq_true rfl) rfl d_RS_node_73 (fun En n9 ad9 w9 hx9 => by
                      obtain ⟨rfl, rfl, rfl, rfl, hq⟩ := hx9
                      exact xx_out C E ⟨rfl, rfl, Or.inr (Or.inr ⟨rfl, by omega, by omega, S', z, hz, hq, by have := mkT_neg hz hq; subst this; exact hCT', hfr⟩)⟩ (by decide) (by decide)) (fun v n9 ad9 w9 hp => ?_)
              obtain ⟨rfl, rfl, z9, rfl, rfl, rfl, hz0⟩ := hp
              show XW _ _ _ _ _ _ 76 _ (_ :: _)
              exact xr_iret C E ⟨rfl, rfl, _, rfl, by omega, by omega, S', hz, hz0, hT', hCT', hfr⟩ (by decide) (by decide) d_RS_node_76
            · skip
              refine xr_iload_n C 3 d_RS_node_48 rfl rfl ?_
              refine xr_iconst C d_RS_node_49 ?_
              refine xz_icmp_eq (tgt := 63) C d_RS_node_50 (by decide) (by omega) (by omega) (fun c50 => ?_) (fun c50 => ?_)
              · skip
                refine xr_aload_n C 0 d_RS_node_63 rfl rfl ?_
                refine xr_get (k := 0) C xg_RS_10 hw0 (by decide) rfl d_RS_node_64 ?_
                refine xr_iload_n C 1 d_RS_node_67 rfl rfl ?_
                refine xr_eqz (y := um h) (by unfold um; rw [if_neg (by omega), if_neg (by omega)]) ?_
                have hsh : shp h x y (sN S) := by unfold shp; omega
                refine xr_iload_n C 2 d_RS_node_68 rfl rfl ?_
                refine xr_iload_n C 3 d_RS_node_69 rfl rfl ?_
                refine xr_callV (k9 := 1) C (m_Tr_numberOf (s := h) (a := x) (b := y) hCT hT hsh) xm_RS_57 x2_Tr_numberOf hw1 (by decide) rfl (by decide) (by decide) (Nat.le_of_ble_eq_true rfl) rfl d_RS_node_70 (fun En n9 ad9 w9 hx9 => hx9.elim) (fun v n9 ad9 w9 hp => ?_)
                obtain ⟨rfl, rfl, z, rfl, S', hz, hCT', hfr⟩ := hp
                obtain ⟨hT', hz1, hz2, hz3⟩ := mkT_pos hT hsh hz
                have hN' := hT'.1
                have hw0 := (hfr 0 (by omega)).trans hw0
                show XW _ _ _ _ _ _ 73 _ (_ :: _)
                refine xr_callS C (m_RS_needMade hLt (x := z) (by omega)) xm_RS_61 x2_RS_needMade (by decide) (by decide) (Nat.le_of_ble_eq_true rfl) rfl d_RS_node_73 (fun En n9 ad9 w9 hx9 => by
                        obtain ⟨rfl, rfl, rfl, rfl, hq⟩ := hx9
                        exact xx_out C E ⟨rfl, rfl, Or.inr (Or.inr ⟨rfl, by omega, by omega, S', z, hz, hq, by have := mkT_neg hz hq; subst this; exact hCT', hfr⟩)⟩ (by decide) (by decide)) (fun v n9 ad9 w9 hp => ?_)
                obtain ⟨rfl, rfl, z9, rfl, rfl, rfl, hz0⟩ := hp
                show XW _ _ _ _ _ _ 76 _ (_ :: _)
                exact xr_iret C E ⟨rfl, rfl, _, rfl, by omega, by omega, S', hz, hz0, hT', hCT', hfr⟩ (by decide) (by decide) d_RS_node_76
              · skip
                exact xr_throw C E hLt (cls := "java/lang/IllegalArgumentException") (text := "no such head, or a part too many") (names := ["java/lang/RuntimeException", "java/lang/Exception"]) rfl (by decide +kernel) (by decide +kernel) xk_RS_50 xi_IA (by decide +kernel) xat_IA (by decide +kernel) d_RS_node_53 d_RS_node_56 d_RS_node_57 d_RS_node_59 d_RS_node_62 (by decide) (by decide) ⟨rfl, rfl, Or.inr (Or.inl ⟨rfl, by omega, by omega, rfl⟩)⟩ (by decide) (by decide)
      · skip
        refine xr_aload_n C 0 d_RS_node_28 rfl rfl ?_
        refine xr_iload_n C 3 d_RS_node_29 rfl rfl ?_
        refine xr_callV (k9 := 0) C (m_RS_needTree hLt hw0 hw1 (by omega) (x := y) (by omega)) xm_RS_67 x2_RS_needTree hw0 (by decide) rfl (by decide) (by decide) (Nat.le_of_ble_eq_true rfl) rfl d_RS_node_30 (fun En n9 ad9 w9 hx9 => by
                obtain ⟨rfl, rfl, rfl, rfl, hq⟩ := hx9
                exact xx_out C E ⟨rfl, rfl, Or.inl ⟨rfl, by omega, rfl⟩⟩ (by decide) (by decide)) (fun v n9 ad9 w9 hp => ?_)
        obtain ⟨rfl, rfl, rfl, rfl, hq0b, hq1b⟩ := hp
        refine xr_iload_n C 1 d_RS_node_33 rfl rfl ?_
        refine xz_if_lt (tgt := 53) C d_RS_node_34 (by decide) (by omega) (fun c34 => ?_) (fun c34 => ?_)
        · skip
          exact xr_throw C E hLt (cls := "java/lang/IllegalArgumentException") (text := "no such head, or a part too many") (names := ["java/lang/RuntimeException", "java/lang/Exception"]) rfl (by decide +kernel) (by decide +kernel) xk_RS_50 xi_IA (by decide +kernel) xat_IA (by decide +kernel) d_RS_node_53 d_RS_node_56 d_RS_node_57 d_RS_node_59 d_RS_node_62 (by decide) (by decide) ⟨rfl, rfl, Or.inr (Or.inl ⟨rfl, by omega, by omega, rfl⟩)⟩ (by decide) (by decide)
        · skip
          refine xr_iload_n C 1 d_RS_node_37 rfl rfl ?_
          refine xr_bipush C d_RS_node_38 (by decide) ?_
          refine xz_icmp_ge (tgt := 53) C d_RS_node_40 (by decide) (by omega) (by omega) (fun c40 => ?_) (fun c40 => ?_)
          · skip
            exact xr_throw C E hLt (cls := "java/lang/IllegalArgumentException") (text := "no such head, or a part too many") (names := ["java/lang/RuntimeException", "java/lang/Exception"]) rfl (by decide +kernel) (by decide +kernel) xk_RS_50 xi_IA (by decide +kernel) xat_IA (by decide +kernel) d_RS_node_53 d_RS_node_56 d_RS_node_57 d_RS_node_59 d_RS_node_62 (by decide) (by decide) ⟨rfl, rfl, Or.inr (Or.inl ⟨rfl, by omega, by omega, rfl⟩)⟩ (by decide) (by decide)
          · skip
            refine xr_iload C d_RS_node_43 rfl ?_
            refine xz_if_eq (tgt := 63) C d_RS_node_45 (by decide) (by omega) (fun c45 => ?_) (fun c45 => ?_)
            · skip
              refine xr_aload_n C 0 d_RS_node_63 rfl rfl ?_
              refine xr_get (k := 0) C xg_RS_10 hw0 (by decide) rfl d_RS_node_64 ?_
              refine xr_iload_n C 1 d_RS_node_67 rfl rfl ?_
              refine xr_eqz (y := um h) (by unfold um; rw [if_neg (by omega), if_neg (by omega)]) ?_
              have hsh : shp h x y (sN S) := by unfold shp; omega
              refine xr_iload_n C 2 d_RS_node_68 rfl rfl ?_
              refine xr_iload_n C 3 d_RS_node_69 rfl rfl ?_
              refine xr_callV (k9 := 1) C (m_Tr_numberOf (s := h) (a := x) (b := y) hCT hT hsh) xm_RS_57 x2_Tr_numberOf hw1 (by decide) rfl (by decide) (by decide) (Nat.le_of_ble_eq_true rfl) rfl d_RS_node_70 (fun En n9 ad9 w9 hx9 => hx9.elim) (fun v n9 ad9 w9 hp => ?_)
              obtain ⟨rfl, rfl, z, rfl, S', hz, hCT', hfr⟩ := hp
              obtain ⟨hT', hz1, hz2, hz3⟩ := mkT_pos hT hsh hz
              have hN' := hT'.1
              have hw0 := (hfr 0 (by omega)).trans hw0
              show XW _ _ _ _ _ _ 73 _ (_ :: _)
              refine xr_callS C (m_RS_needMade hLt (x := z) (by omega)) xm_RS_61 x2_RS_needMade (by decide) (by decide) (Nat.le_of_ble_eq_true rfl) rfl d_RS_node_73 (fun En n9 ad9 w9 hx9 => by
                      obtain ⟨rfl, rfl, rfl, rfl, hq⟩ := hx9
                      exact xx_out C E ⟨rfl, rfl, Or.inr (Or.inr ⟨rfl, by omega, by omega, S', z, hz, hq, by have := mkT_neg hz hq; subst this; exact hCT', hfr⟩)⟩ (by decide) (by decide)) (fun v n9 ad9 w9 hp => ?_)
              obtain ⟨rfl, rfl, z9, rfl, rfl, rfl, hz0⟩ := hp
              show XW _ _ _ _ _ _ 76 _ (_ :: _)
              exact xr_iret C E ⟨rfl, rfl, _, rfl, by omega, by omega, S', hz, hz0, hT', hCT', hfr⟩ (by decide) (by decide) d_RS_node_76
            · skip
              refine xr_iload_n C 3 d_RS_node_48 rfl rfl ?_
              refine xr_iconst C d_RS_node_49 ?_
              refine xz_icmp_eq (tgt := 63) C d_RS_node_50 (by decide) (by omega) (by omega) (fun c50 => ?_) (fun c50 => ?_)
              · skip
                refine xr_aload_n C 0 d_RS_node_63 rfl rfl ?_
                refine xr_get (k := 0) C xg_RS_10 hw0 (by decide) rfl d_RS_node_64 ?_
                refine xr_iload_n C 1 d_RS_node_67 rfl rfl ?_
                refine xr_eqz (y := um h) (by unfold um; rw [if_neg (by omega), if_neg (by omega)]) ?_
                have hsh : shp h x y (sN S) := by unfold shp; omega
                refine xr_iload_n C 2 d_RS_node_68 rfl rfl ?_
                refine xr_iload_n C 3 d_RS_node_69 rfl rfl ?_
                refine xr_callV (k9 := 1) C (m_Tr_numberOf (s := h) (a := x) (b := y) hCT hT hsh) xm_RS_57 x2_Tr_numberOf hw1 (by decide) rfl (by decide) (by decide) (Nat.le_of_ble_eq_true rfl) rfl d_RS_node_70 (fun En n9 ad9 w9 hx9 => hx9.elim) (fun v n9 ad9 w9 hp => ?_)
                obtain ⟨rfl, rfl, z, rfl, S', hz, hCT', hfr⟩ := hp
                obtain ⟨hT', hz1, hz2, hz3⟩ := mkT_pos hT hsh hz
                have hN' := hT'.1
                have hw0 := (hfr 0 (by omega)).trans hw0
                show XW _ _ _ _ _ _ 73 _ (_ :: _)
                refine xr_callS C (m_RS_needMade hLt (x := z) (by omega)) xm_RS_61 x2_RS_needMade (by decide) (by decide) (Nat.le_of_ble_eq_true rfl) rfl d_RS_node_73 (fun En n9 ad9 w9 hx9 => by
                        obtain ⟨rfl, rfl, rfl, rfl, hq⟩ := hx9
                        exact xx_out C E ⟨rfl, rfl, Or.inr (Or.inr ⟨rfl, by omega, by omega, S', z, hz, hq, by have := mkT_neg hz hq; subst this; exact hCT', hfr⟩)⟩ (by decide) (by decide)) (fun v n9 ad9 w9 hp => ?_)
                obtain ⟨rfl, rfl, z9, rfl, rfl, rfl, hz0⟩ := hp
                show XW _ _ _ _ _ _ 76 _ (_ :: _)
                exact xr_iret C E ⟨rfl, rfl, _, rfl, by omega, by omega, S', hz, hz0, hT', hCT', hfr⟩ (by decide) (by decide) d_RS_node_76
              · skip
                exact xr_throw C E hLt (cls := "java/lang/IllegalArgumentException") (text := "no such head, or a part too many") (names := ["java/lang/RuntimeException", "java/lang/Exception"]) rfl (by decide +kernel) (by decide +kernel) xk_RS_50 xi_IA (by decide +kernel) xat_IA (by decide +kernel) d_RS_node_53 d_RS_node_56 d_RS_node_57 d_RS_node_59 d_RS_node_62 (by decide) (by decide) ⟨rfl, rfl, Or.inr (Or.inl ⟨rfl, by omega, by omega, rfl⟩)⟩ (by decide) (by decide)
  · skip
    refine xr_iconst C d_RS_node_6 ?_
    refine xr_goto (tgt := 11) C d_RS_node_7 (by decide) ?_
    refine xr_istore C d_RS_node_11 (by decide) ?_
    refine xr_aload_n C 0 d_RS_node_13 rfl rfl ?_
    refine xr_iload_n C 2 d_RS_node_14 rfl rfl ?_
    refine xr_callV (k9 := 0) C (m_RS_needTree hLt hw0 hw1 (by omega) (x := x) (by omega)) xm_RS_67 x2_RS_needTree hw0 (by decide) rfl (by decide) (by decide) (Nat.le_of_ble_eq_true rfl) rfl d_RS_node_15 (fun En n9 ad9 w9 hx9 => by
            obtain ⟨rfl, rfl, rfl, rfl, hq⟩ := hx9
            exact xx_out C E ⟨rfl, rfl, Or.inl ⟨rfl, by omega, rfl⟩⟩ (by decide) (by decide)) (fun v n9 ad9 w9 hp => ?_)
    obtain ⟨rfl, rfl, rfl, rfl, hq0a, hq1a⟩ := hp
    refine xr_iload C d_RS_node_18 rfl ?_
    refine xz_if_eq (tgt := 28) C d_RS_node_20 (by decide) (by omega) (fun c20 => ?_) (fun c20 => ?_)
    · skip
      refine xr_aload_n C 0 d_RS_node_28 rfl rfl ?_
      refine xr_iload_n C 3 d_RS_node_29 rfl rfl ?_
      refine xr_callV (k9 := 0) C (m_RS_needTree hLt hw0 hw1 (by omega) (x := y) (by omega)) xm_RS_67 x2_RS_needTree hw0 (by decide) rfl (by decide) (by decide) (Nat.le_of_ble_eq_true rfl) rfl d_RS_node_30 (fun En n9 ad9 w9 hx9 => by
              obtain ⟨rfl, rfl, rfl, rfl, hq⟩ := hx9
              exact xx_out C E ⟨rfl, rfl, Or.inl ⟨rfl, by omega, rfl⟩⟩ (by decide) (by decide)) (fun v n9 ad9 w9 hp => ?_)
      obtain ⟨rfl, rfl, rfl, rfl, hq0b, hq1b⟩ := hp
      refine xr_iload_n C 1 d_RS_node_33 rfl rfl ?_
      refine xz_if_lt (tgt := 53) C d_RS_node_34 (by decide) (by omega) (fun c34 => ?_) (fun c34 => ?_)
      · skip
        exact xr_throw C E hLt (cls := "java/lang/IllegalArgumentException") (text := "no such head, or a part too many") (names := ["java/lang/RuntimeException", "java/lang/Exception"]) rfl (by decide +kernel) (by decide +kernel) xk_RS_50 xi_IA (by decide +kernel) xat_IA (by decide +kernel) d_RS_node_53 d_RS_node_56 d_RS_node_57 d_RS_node_59 d_RS_node_62 (by decide) (by decide) ⟨rfl, rfl, Or.inr (Or.inl ⟨rfl, by omega, by omega, rfl⟩)⟩ (by decide) (by decide)
      · skip
        refine xr_iload_n C 1 d_RS_node_37 rfl rfl ?_
        refine xr_bipush C d_RS_node_38 (by decide) ?_
        refine xz_icmp_ge (tgt := 53) C d_RS_node_40 (by decide) (by omega) (by omega) (fun c40 => ?_) (fun c40 => ?_)
        · skip
          exact xr_throw C E hLt (cls := "java/lang/IllegalArgumentException") (text := "no such head, or a part too many") (names := ["java/lang/RuntimeException", "java/lang/Exception"]) rfl (by decide +kernel) (by decide +kernel) xk_RS_50 xi_IA (by decide +kernel) xat_IA (by decide +kernel) d_RS_node_53 d_RS_node_56 d_RS_node_57 d_RS_node_59 d_RS_node_62 (by decide) (by decide) ⟨rfl, rfl, Or.inr (Or.inl ⟨rfl, by omega, by omega, rfl⟩)⟩ (by decide) (by decide)
        · skip
          refine xr_iload C d_RS_node_43 rfl ?_
          refine xz_if_eq (tgt := 63) C d_RS_node_45 (by decide) (by omega) (fun c45 => ?_) (fun c45 => ?_)
          · skip
            refine xr_aload_n C 0 d_RS_node_63 rfl rfl ?_
            refine xr_get (k := 0) C xg_RS_10 hw0 (by decide) rfl d_RS_node_64 ?_
            refine xr_iload_n C 1 d_RS_node_67 rfl rfl ?_
            refine xr_eqz (y := um h) (by unfold um; rw [if_neg (by omega), if_neg (by omega)]) ?_
            have hsh : shp h x y (sN S) := by unfold shp; omega
            refine xr_iload_n C 2 d_RS_node_68 rfl rfl ?_
            refine xr_iload_n C 3 d_RS_node_69 rfl rfl ?_
            refine xr_callV (k9 := 1) C (m_Tr_numberOf (s := h) (a := x) (b := y) hCT hT hsh) xm_RS_57 x2_Tr_numberOf hw1 (by decide) rfl (by decide) (by decide) (Nat.le_of_ble_eq_true rfl) rfl d_RS_node_70 (fun En n9 ad9 w9 hx9 => hx9.elim) (fun v n9 ad9 w9 hp => ?_)
            obtain ⟨rfl, rfl, z, rfl, S', hz, hCT', hfr⟩ := hp
            obtain ⟨hT', hz1, hz2, hz3⟩ := mkT_pos hT hsh hz
            have hN' := hT'.1
            have hw0 := (hfr 0 (by omega)).trans hw0
            show XW _ _ _ _ _ _ 73 _ (_ :: _)
            refine xr_callS C (m_RS_needMade hLt (x := z) (by omega)) xm_RS_61 x2_RS_needMade (by decide) (by decide) (Nat.le_of_ble_eq_true rfl) rfl d_RS_node_73 (fun En n9 ad9 w9 hx9 => by
                    obtain ⟨rfl, rfl, rfl, rfl, hq⟩ := hx9
                    exact xx_out C E ⟨rfl, rfl, Or.inr (Or.inr ⟨rfl, by omega, by omega, S', z, hz, hq, by have := mkT_neg hz hq; subst this; exact hCT', hfr⟩)⟩ (by decide) (by decide)) (fun v n9 ad9 w9 hp => ?_)
            obtain ⟨rfl, rfl, z9, rfl, rfl, rfl, hz0⟩ := hp
            show XW _ _ _ _ _ _ 76 _ (_ :: _)
            exact xr_iret C E ⟨rfl, rfl, _, rfl, by omega, by omega, S', hz, hz0, hT', hCT', hfr⟩ (by decide) (by decide) d_RS_node_76
          · skip
            refine xr_iload_n C 3 d_RS_node_48 rfl rfl ?_
            refine xr_iconst C d_RS_node_49 ?_
            refine xz_icmp_eq (tgt := 63) C d_RS_node_50 (by decide) (by omega) (by omega) (fun c50 => ?_) (fun c50 => ?_)
            · skip
              refine xr_aload_n C 0 d_RS_node_63 rfl rfl ?_
              refine xr_get (k := 0) C xg_RS_10 hw0 (by decide) rfl d_RS_node_64 ?_
              refine xr_iload_n C 1 d_RS_node_67 rfl rfl ?_
              refine xr_eqz (y := um h) (by unfold um; rw [if_neg (by omega), if_neg (by omega)]) ?_
              have hsh : shp h x y (sN S) := by unfold shp; omega
              refine xr_iload_n C 2 d_RS_node_68 rfl rfl ?_
              refine xr_iload_n C 3 d_RS_node_69 rfl rfl ?_
              refine xr_callV (k9 := 1) C (m_Tr_numberOf (s := h) (a := x) (b := y) hCT hT hsh) xm_RS_57 x2_Tr_numberOf hw1 (by decide) rfl (by decide) (by decide) (Nat.le_of_ble_eq_true rfl) rfl d_RS_node_70 (fun En n9 ad9 w9 hx9 => hx9.elim) (fun v n9 ad9 w9 hp => ?_)
              obtain ⟨rfl, rfl, z, rfl, S', hz, hCT', hfr⟩ := hp
              obtain ⟨hT', hz1, hz2, hz3⟩ := mkT_pos hT hsh hz
              have hN' := hT'.1
              have hw0 := (hfr 0 (by omega)).trans hw0
              show XW _ _ _ _ _ _ 73 _ (_ :: _)
              refine xr_callS C (m_RS_needMade hLt (x := z) (by omega)) xm_RS_61 x2_RS_needMade (by decide) (by decide) (Nat.le_of_ble_eq_true rfl) rfl d_RS_node_73 (fun En n9 ad9 w9 hx9 => by
                      obtain ⟨rfl, rfl, rfl, rfl, hq⟩ := hx9
                      exact xx_out C E ⟨rfl, rfl, Or.inr (Or.inr ⟨rfl, by omega, by omega, S', z, hz, hq, by have := mkT_neg hz hq; subst this; exact hCT', hfr⟩)⟩ (by decide) (by decide)) (fun v n9 ad9 w9 hp => ?_)
              obtain ⟨rfl, rfl, z9, rfl, rfl, rfl, hz0⟩ := hp
              show XW _ _ _ _ _ _ 76 _ (_ :: _)
              exact xr_iret C E ⟨rfl, rfl, _, rfl, by omega, by omega, S', hz, hz0, hT', hCT', hfr⟩ (by decide) (by decide) d_RS_node_76
            · skip
              exact xr_throw C E hLt (cls := "java/lang/IllegalArgumentException") (text := "no such head, or a part too many") (names := ["java/lang/RuntimeException", "java/lang/Exception"]) rfl (by decide +kernel) (by decide +kernel) xk_RS_50 xi_IA (by decide +kernel) xat_IA (by decide +kernel) d_RS_node_53 d_RS_node_56 d_RS_node_57 d_RS_node_59 d_RS_node_62 (by decide) (by decide) ⟨rfl, rfl, Or.inr (Or.inl ⟨rfl, by omega, by omega, rfl⟩)⟩ (by decide) (by decide)
    · skip
      refine xr_iload_n C 3 d_RS_node_23 rfl rfl ?_
      refine xr_iconst C d_RS_node_24 ?_
      refine xz_icmp_eq (tgt := 33) C d_RS_node_25 (by decide) (by omega) (by omega) (fun c25 => ?_) (fun c25 => ?_)
      · skip
        refine xr_iload_n C 1 d_RS_node_33 rfl rfl ?_
        refine xz_if_lt (tgt := 53) C d_RS_node_34 (by decide) (by omega) (fun c34 => ?_) (fun c34 => ?_)
        · skip
          exact xr_throw C E hLt (cls := "java/lang/IllegalArgumentException") (text := "no such head, or a part too many") (names := ["java/lang/RuntimeException", "java/lang/Exception"]) rfl (by decide +kernel) (by decide +kernel) xk_RS_50 xi_IA (by decide +kernel) xat_IA (by decide +kernel) d_RS_node_53 d_RS_node_56 d_RS_node_57 d_RS_node_59 d_RS_node_62 (by decide) (by decide) ⟨rfl, rfl, Or.inr (Or.inl ⟨rfl, by omega, by omega, rfl⟩)⟩ (by decide) (by decide)
        · skip
          refine xr_iload_n C 1 d_RS_node_37 rfl rfl ?_
          refine xr_bipush C d_RS_node_38 (by decide) ?_
          refine xz_icmp_ge (tgt := 53) C d_RS_node_40 (by decide) (by omega) (by omega) (fun c40 => ?_) (fun c40 => ?_)
          · skip
            exact xr_throw C E hLt (cls := "java/lang/IllegalArgumentException") (text := "no such head, or a part too many") (names := ["java/lang/RuntimeException", "java/lang/Exception"]) rfl (by decide +kernel) (by decide +kernel) xk_RS_50 xi_IA (by decide +kernel) xat_IA (by decide +kernel) d_RS_node_53 d_RS_node_56 d_RS_node_57 d_RS_node_59 d_RS_node_62 (by decide) (by decide) ⟨rfl, rfl, Or.inr (Or.inl ⟨rfl, by omega, by omega, rfl⟩)⟩ (by decide) (by decide)
          · skip
            refine xr_iload C d_RS_node_43 rfl ?_
            refine xz_if_eq (tgt := 63) C d_RS_node_45 (by decide) (by omega) (fun c45 => ?_) (fun c45 => ?_)
            · skip
              refine xr_aload_n C 0 d_RS_node_63 rfl rfl ?_
              refine xr_get (k := 0) C xg_RS_10 hw0 (by decide) rfl d_RS_node_64 ?_
              refine xr_iload_n C 1 d_RS_node_67 rfl rfl ?_
              refine xr_eqz (y := um h) (by unfold um; rw [if_neg (by omega), if_neg (by omega)]) ?_
              have hsh : shp h x y (sN S) := by unfold shp; omega
              refine xr_iload_n C 2 d_RS_node_68 rfl rfl ?_
              refine xr_iload_n C 3 d_RS_node_69 rfl rfl ?_
              refine xr_callV (k9 := 1) C (m_Tr_numberOf (s := h) (a := x) (b := y) hCT hT hsh) xm_RS_57 x2_Tr_numberOf hw1 (by decide) rfl (by decide) (by decide) (Nat.le_of_ble_eq_true rfl) rfl d_RS_node_70 (fun En n9 ad9 w9 hx9 => hx9.elim) (fun v n9 ad9 w9 hp => ?_)
              obtain ⟨rfl, rfl, z, rfl, S', hz, hCT', hfr⟩ := hp
              obtain ⟨hT', hz1, hz2, hz3⟩ := mkT_pos hT hsh hz
              have hN' := hT'.1
              have hw0 := (hfr 0 (by omega)).trans hw0
              show XW _ _ _ _ _ _ 73 _ (_ :: _)
              refine xr_callS C (m_RS_needMade hLt (x := z) (by omega)) xm_RS_61 x2_RS_needMade (by decide) (by decide) (Nat.le_of_ble_eq_true rfl) rfl d_RS_node_73 (fun En n9 ad9 w9 hx9 => by
                      obtain ⟨rfl, rfl, rfl, rfl, hq⟩ := hx9
                      exact xx_out C E ⟨rfl, rfl, Or.inr (Or.inr ⟨rfl, by omega, by omega, S', z, hz, hq, by have := mkT_neg hz hq; subst this; exact hCT', hfr⟩)⟩ (by decide) (by decide)) (fun v n9 ad9 w9 hp => ?_)
              obtain ⟨rfl, rfl, z9, rfl, rfl, rfl, hz0⟩ := hp
              show XW _ _ _ _ _ _ 76 _ (_ :: _)
              exact xr_iret C E ⟨rfl, rfl, _, rfl, by omega, by omega, S', hz, hz0, hT', hCT', hfr⟩ (by decide) (by decide) d_RS_node_76
            · skip
              refine xr_iload_n C 3 d_RS_node_48 rfl rfl ?_
              refine xr_iconst C d_RS_node_49 ?_
              refine xz_icmp_eq (tgt := 63) C d_RS_node_50 (by decide) (by omega) (by omega) (fun c50 => ?_) (fun c50 => ?_)
              · skip
                refine xr_aload_n C 0 d_RS_node_63 rfl rfl ?_
                refine xr_get (k := 0) C xg_RS_10 hw0 (by decide) rfl d_RS_node_64 ?_
                refine xr_iload_n C 1 d_RS_node_67 rfl rfl ?_
                refine xr_eqz (y := um h) (by unfold um; rw [if_neg (by omega), if_neg (by omega)]) ?_
                have hsh : shp h x y (sN S) := by unfold shp; omega
                refine xr_iload_n C 2 d_RS_node_68 rfl rfl ?_
                refine xr_iload_n C 3 d_RS_node_69 rfl rfl ?_
                refine xr_callV (k9 := 1) C (m_Tr_numberOf (s := h) (a := x) (b := y) hCT hT hsh) xm_RS_57 x2_Tr_numberOf hw1 (by decide) rfl (by decide) (by decide) (Nat.le_of_ble_eq_true rfl) rfl d_RS_node_70 (fun En n9 ad9 w9 hx9 => hx9.elim) (fun v n9 ad9 w9 hp => ?_)
                obtain ⟨rfl, rfl, z, rfl, S', hz, hCT', hfr⟩ := hp
                obtain ⟨hT', hz1, hz2, hz3⟩ := mkT_pos hT hsh hz
                have hN' := hT'.1
                have hw0 := (hfr 0 (by omega)).trans hw0
                show XW _ _ _ _ _ _ 73 _ (_ :: _)
                refine xr_callS C (m_RS_needMade hLt (x := z) (by omega)) xm_RS_61 x2_RS_needMade (by decide) (by decide) (Nat.le_of_ble_eq_true rfl) rfl d_RS_node_73 (fun En n9 ad9 w9 hx9 => by
                        obtain ⟨rfl, rfl, rfl, rfl, hq⟩ := hx9
                        exact xx_out C E ⟨rfl, rfl, Or.inr (Or.inr ⟨rfl, by omega, by omega, S', z, hz, hq, by have := mkT_neg hz hq; subst this; exact hCT', hfr⟩)⟩ (by decide) (by decide)) (fun v n9 ad9 w9 hp => ?_)
                obtain ⟨rfl, rfl, z9, rfl, rfl, rfl, hz0⟩ := hp
                show XW _ _ _ _ _ _ 76 _ (_ :: _)
                exact xr_iret C E ⟨rfl, rfl, _, rfl, by omega, by omega, S', hz, hz0, hT', hCT', hfr⟩ (by decide) (by decide) d_RS_node_76
              · skip
                exact xr_throw C E hLt (cls := "java/lang/IllegalArgumentException") (text := "no such head, or a part too many") (names := ["java/lang/RuntimeException", "java/lang/Exception"]) rfl (by decide +kernel) (by decide +kernel) xk_RS_50 xi_IA (by decide +kernel) xat_IA (by decide +kernel) d_RS_node_53 d_RS_node_56 d_RS_node_57 d_RS_node_59 d_RS_node_62 (by decide) (by decide) ⟨rfl, rfl, Or.inr (Or.inl ⟨rfl, by omega, by omega, rfl⟩)⟩ (by decide) (by decide)
      · skip
        refine xr_aload_n C 0 d_RS_node_28 rfl rfl ?_
        refine xr_iload_n C 3 d_RS_node_29 rfl rfl ?_
        refine xr_callV (k9 := 0) C (m_RS_needTree hLt hw0 hw1 (by omega) (x := y) (by omega)) xm_RS_67 x2_RS_needTree hw0 (by decide) rfl (by decide) (by decide) (Nat.le_of_ble_eq_true rfl) rfl d_RS_node_30 (fun En n9 ad9 w9 hx9 => by
                obtain ⟨rfl, rfl, rfl, rfl, hq⟩ := hx9
                exact xx_out C E ⟨rfl, rfl, Or.inl ⟨rfl, by omega, rfl⟩⟩ (by decide) (by decide)) (fun v n9 ad9 w9 hp => ?_)
        obtain ⟨rfl, rfl, rfl, rfl, hq0b, hq1b⟩ := hp
        refine xr_iload_n C 1 d_RS_node_33 rfl rfl ?_
        refine xz_if_lt (tgt := 53) C d_RS_node_34 (by decide) (by omega) (fun c34 => ?_) (fun c34 => ?_)
        · skip
          exact xr_throw C E hLt (cls := "java/lang/IllegalArgumentException") (text := "no such head, or a part too many") (names := ["java/lang/RuntimeException", "java/lang/Exception"]) rfl (by decide +kernel) (by decide +kernel) xk_RS_50 xi_IA (by decide +kernel) xat_IA (by decide +kernel) d_RS_node_53 d_RS_node_56 d_RS_node_57 d_RS_node_59 d_RS_node_62 (by decide) (by decide) ⟨rfl, rfl, Or.inr (Or.inl ⟨rfl, by omega, by omega, rfl⟩)⟩ (by decide) (by decide)
        · skip
          refine xr_iload_n C 1 d_RS_node_37 rfl rfl ?_
          refine xr_bipush C d_RS_node_38 (by decide) ?_
          refine xz_icmp_ge (tgt := 53) C d_RS_node_40 (by decide) (by omega) (by omega) (fun c40 => ?_) (fun c40 => ?_)
          · skip
            exact xr_throw C E hLt (cls := "java/lang/IllegalArgumentException") (text := "no such head, or a part too many") (names := ["java/lang/RuntimeException", "java/lang/Exception"]) rfl (by decide +kernel) (by decide +kernel) xk_RS_50 xi_IA (by decide +kernel) xat_IA (by decide +kernel) d_RS_node_53 d_RS_node_56 d_RS_node_57 d_RS_node_59 d_RS_node_62 (by decide) (by decide) ⟨rfl, rfl, Or.inr (Or.inl ⟨rfl, by omega, by omega, rfl⟩)⟩ (by decide) (by decide)
          · skip
            refine xr_iload C d_RS_node_43 rfl ?_
            refine xz_if_eq (tgt := 63) C d_RS_node_45 (by decide) (by omega) (fun c45 => ?_) (fun c45 => ?_)
            · skip
              refine xr_aload_n C 0 d_RS_node_63 rfl rfl ?_
              refine xr_get (k := 0) C xg_RS_10 hw0 (by decide) rfl d_RS_node_64 ?_
              refine xr_iload_n C 1 d_RS_node_67 rfl rfl ?_
              refine xr_eqz (y := um h) (by unfold um; rw [if_neg (by omega), if_neg (by omega)]) ?_
              have hsh : shp h x y (sN S) := by unfold shp; omega
              refine xr_iload_n C 2 d_RS_node_68 rfl rfl ?_
              refine xr_iload_n C 3 d_RS_node_69 rfl rfl ?_
              refine xr_callV (k9 := 1) C (m_Tr_numberOf (s := h) (a := x) (b := y) hCT hT hsh) xm_RS_57 x2_Tr_numberOf hw1 (by decide) rfl (by decide) (by decide) (Nat.le_of_ble_eq_true rfl) rfl d_RS_node_70 (fun En n9 ad9 w9 hx9 => hx9.elim) (fun v n9 ad9 w9 hp => ?_)
              obtain ⟨rfl, rfl, z, rfl, S', hz, hCT', hfr⟩ := hp
              obtain ⟨hT', hz1, hz2, hz3⟩ := mkT_pos hT hsh hz
              have hN' := hT'.1
              have hw0 := (hfr 0 (by omega)).trans hw0
              show XW _ _ _ _ _ _ 73 _ (_ :: _)
              refine xr_callS C (m_RS_needMade hLt (x := z) (by omega)) xm_RS_61 x2_RS_needMade (by decide) (by decide) (Nat.le_of_ble_eq_true rfl) rfl d_RS_node_73 (fun En n9 ad9 w9 hx9 => by
                      obtain ⟨rfl, rfl, rfl, rfl, hq⟩ := hx9
                      exact xx_out C E ⟨rfl, rfl, Or.inr (Or.inr ⟨rfl, by omega, by omega, S', z, hz, hq, by have := mkT_neg hz hq; subst this; exact hCT', hfr⟩)⟩ (by decide) (by decide)) (fun v n9 ad9 w9 hp => ?_)
              obtain ⟨rfl, rfl, z9, rfl, rfl, rfl, hz0⟩ := hp
              show XW _ _ _ _ _ _ 76 _ (_ :: _)
              exact xr_iret C E ⟨rfl, rfl, _, rfl, by omega, by omega, S', hz, hz0, hT', hCT', hfr⟩ (by decide) (by decide) d_RS_node_76
            · skip
              refine xr_iload_n C 3 d_RS_node_48 rfl rfl ?_
              refine xr_iconst C d_RS_node_49 ?_
              refine xz_icmp_eq (tgt := 63) C d_RS_node_50 (by decide) (by omega) (by omega) (fun c50 => ?_) (fun c50 => ?_)
              · skip
                refine xr_aload_n C 0 d_RS_node_63 rfl rfl ?_
                refine xr_get (k := 0) C xg_RS_10 hw0 (by decide) rfl d_RS_node_64 ?_
                refine xr_iload_n C 1 d_RS_node_67 rfl rfl ?_
                refine xr_eqz (y := um h) (by unfold um; rw [if_neg (by omega), if_neg (by omega)]) ?_
                have hsh : shp h x y (sN S) := by unfold shp; omega
                refine xr_iload_n C 2 d_RS_node_68 rfl rfl ?_
                refine xr_iload_n C 3 d_RS_node_69 rfl rfl ?_
                refine xr_callV (k9 := 1) C (m_Tr_numberOf (s := h) (a := x) (b := y) hCT hT hsh) xm_RS_57 x2_Tr_numberOf hw1 (by decide) rfl (by decide) (by decide) (Nat.le_of_ble_eq_true rfl) rfl d_RS_node_70 (fun En n9 ad9 w9 hx9 => hx9.elim) (fun v n9 ad9 w9 hp => ?_)
                obtain ⟨rfl, rfl, z, rfl, S', hz, hCT', hfr⟩ := hp
                obtain ⟨hT', hz1, hz2, hz3⟩ := mkT_pos hT hsh hz
                have hN' := hT'.1
                have hw0 := (hfr 0 (by omega)).trans hw0
                show XW _ _ _ _ _ _ 73 _ (_ :: _)
                refine xr_callS C (m_RS_needMade hLt (x := z) (by omega)) xm_RS_61 x2_RS_needMade (by decide) (by decide) (Nat.le_of_ble_eq_true rfl) rfl d_RS_node_73 (fun En n9 ad9 w9 hx9 => by
                        obtain ⟨rfl, rfl, rfl, rfl, hq⟩ := hx9
                        exact xx_out C E ⟨rfl, rfl, Or.inr (Or.inr ⟨rfl, by omega, by omega, S', z, hz, hq, by have := mkT_neg hz hq; subst this; exact hCT', hfr⟩)⟩ (by decide) (by decide)) (fun v n9 ad9 w9 hp => ?_)
                obtain ⟨rfl, rfl, z9, rfl, rfl, rfl, hz0⟩ := hp
                show XW _ _ _ _ _ _ 76 _ (_ :: _)
                exact xr_iret C E ⟨rfl, rfl, _, rfl, by omega, by omega, S', hz, hz0, hT', hCT', hfr⟩ (by decide) (by decide) d_RS_node_76
              · skip
                exact xr_throw C E hLt (cls := "java/lang/IllegalArgumentException") (text := "no such head, or a part too many") (names := ["java/lang/RuntimeException", "java/lang/Exception"]) rfl (by decide +kernel) (by decide +kernel) xk_RS_50 xi_IA (by decide +kernel) xat_IA (by decide +kernel) d_RS_node_53 d_RS_node_56 d_RS_node_57 d_RS_node_59 d_RS_node_62 (by decide) (by decide) ⟨rfl, rfl, Or.inr (Or.inl ⟨rfl, by omega, by omega, rfl⟩)⟩ (by decide) (by decide)
set_option maxHeartbeats 4000000 in
set_option maxRecDepth 100000 in
theorem m_RS_row {L : Launch} {D : va_G} {cA : Nat → ClassId} {base : Nat} {ad : Nat → Nat} {w : Nat → va_E} (hLt : L.stackTraces = false) {kp sq : Nat} {ls : Int} {se : Bool} (hw0 : w 0 = rsO ad kp sq ls se) {sz : Int} {f : Nat → Int} (hkp : kp = 25 ∨ kp = 27) (hwkp : w kp = roO ad kp sz) (hwkp1 : w (kp + 1) = xIA (cA 0) 800 f) (hsz : 0 ≤ sz ∧ sz ≤ 200) {x : Int} (hx : -2147483648 ≤ x ∧ x < 2147483648) {y : Int} (hy : -2147483648 ≤ y ∧ y < 2147483648) : XM L D cA base y_RS_row c_RS_row 3 (some .int) (xrm 9 1 6) [.ref (ad 0), .int (zI x), .int (zI y)] 56 ad w (xRet 56 ad (fun z w' => w = w' ∧ z = f (x * 4 + y).toNat ∧ (0 ≤ x ∧ x < sz) ∧ (0 ≤ y ∧ y < 4))) (xThr 56 ad (fun E w' => w = w' ∧ ((E = "java/lang/IndexOutOfBoundsException" ∧ ¬ (0 ≤ x ∧ x < sz)) ∨ (E = "java/lang/IllegalArgumentException" ∧ (0 ≤ x ∧ x < sz) ∧ ¬ (0 ≤ y ∧ y < 4))))) := by
  refine xm_of (by decide +kernel) (by simp [Value.category]) (Nat.le_of_ble_eq_true rfl) (fun G C E _ => ?_)
  refine xr_iload_n C 1 d_RS_row_0 rfl rfl ?_
  refine xz_if_lt (tgt := 15) C d_RS_row_1 (by decide) (by omega) (fun c1 => ?_) (fun c1 => ?_)
  · skip
    exact xr_throw C E hLt (cls := "java/lang/IndexOutOfBoundsException") (text := "no such row") (names := ["java/lang/RuntimeException", "java/lang/Exception"]) rfl (by decide +kernel) (by decide +kernel) xk_RS_128 xi_IO (by decide +kernel) xat_IO (by decide +kernel) d_RS_row_15 d_RS_row_18 d_RS_row_19 d_RS_row_21 d_RS_row_24 (by decide) (by decide) ⟨rfl, rfl, rfl, Or.inl ⟨rfl, by omega⟩⟩ (by decide) (by decide)
  · skip
    refine xr_iload_n C 1 d_RS_row_4 rfl rfl ?_
    refine xr_aload_n C 0 d_RS_row_5 rfl rfl ?_
    refine xr_get (k := 0) C xg_RS_35 hw0 (by decide) rfl d_RS_row_6 ?_
    refine xr_get (k := kp) C xg_RS_127 hwkp (by omega) rfl d_RS_row_9 ?_
    refine xz_icmp_lt (tgt := 25) C d_RS_row_12 (by decide) (by omega) (by omega) (fun c12 => ?_) (fun c12 => ?_)
    · skip
      refine xr_iload_n C 2 d_RS_row_25 rfl rfl ?_
      refine xz_if_lt (tgt := 34) C d_RS_row_26 (by decide) (by omega) (fun c26 => ?_) (fun c26 => ?_)
      · skip
        exact xr_throw C E hLt (cls := "java/lang/IllegalArgumentException") (text := "a row has no such cell") (names := ["java/lang/RuntimeException", "java/lang/Exception"]) rfl (by decide +kernel) (by decide +kernel) xk_RS_50 xi_IA (by decide +kernel) xat_IA (by decide +kernel) d_RS_row_34 d_RS_row_37 d_RS_row_38 d_RS_row_40 d_RS_row_43 (by decide) (by decide) ⟨rfl, rfl, rfl, Or.inr ⟨rfl, by omega, by omega⟩⟩ (by decide) (by decide)
      · skip
        refine xr_iload_n C 2 d_RS_row_29 rfl rfl ?_
        refine xr_iconst C d_RS_row_30 ?_
        refine xz_icmp_lt (tgt := 44) C d_RS_row_31 (by decide) (by omega) (by omega) (fun c31 => ?_) (fun c31 => ?_)
        · skip
          refine xr_aload_n C 0 d_RS_row_44 rfl rfl ?_
          refine xr_get (k := 0) C xg_RS_35 hw0 (by decide) rfl d_RS_row_45 ?_
          refine xr_iload_n C 1 d_RS_row_48 rfl rfl ?_
          refine xr_iload_n C 2 d_RS_row_49 rfl rfl ?_
          refine xr_callV (k9 := kp) C (m_Ro_cell (k := kp) (N := 0) (by omega) hwkp hwkp1 (x := x) (y := y) (by omega) (by omega)) xm_RS_135 x2_Ro_cell hwkp (by omega) rfl (by decide) (by decide) (Nat.le_of_ble_eq_true rfl) rfl d_RS_row_50 (fun En n9 ad9 w9 hx9 => hx9.elim) (fun v n9 ad9 w9 hp => ?_)
          obtain ⟨rfl, rfl, rfl, rfl⟩ := hp
          show XW _ _ _ _ _ _ 53 _ (_ :: _)
          exact xr_iret C E ⟨rfl, rfl, _, rfl, rfl, rfl, by omega, by omega⟩ (by decide) (by decide) d_RS_row_53
        · skip
          exact xr_throw C E hLt (cls := "java/lang/IllegalArgumentException") (text := "a row has no such cell") (names := ["java/lang/RuntimeException", "java/lang/Exception"]) rfl (by decide +kernel) (by decide +kernel) xk_RS_50 xi_IA (by decide +kernel) xat_IA (by decide +kernel) d_RS_row_34 d_RS_row_37 d_RS_row_38 d_RS_row_40 d_RS_row_43 (by decide) (by decide) ⟨rfl, rfl, rfl, Or.inr ⟨rfl, by omega, by omega⟩⟩ (by decide) (by decide)
    · skip
      exact xr_throw C E hLt (cls := "java/lang/IndexOutOfBoundsException") (text := "no such row") (names := ["java/lang/RuntimeException", "java/lang/Exception"]) rfl (by decide +kernel) (by decide +kernel) xk_RS_128 xi_IO (by decide +kernel) xat_IO (by decide +kernel) d_RS_row_15 d_RS_row_18 d_RS_row_19 d_RS_row_21 d_RS_row_24 (by decide) (by decide) ⟨rfl, rfl, rfl, Or.inl ⟨rfl, by omega⟩⟩ (by decide) (by decide)
/-- the conditions of the rules of the first k rows, as a mask -/
def domI (f co : Nat → Int) : Nat → Int32
  | 0 => zI 0
  | k + 1 => if co (f (k * 4)).toNat = -1 then domI f co k else domI f co k ||| (zI 1 <<< (zI (co (f (k * 4)).toNat) &&& 31))
set_option maxHeartbeats 4000000 in
set_option maxRecDepth 100000 in
theorem m_RS_domain {L : Launch} {D : va_G} {cA : Nat → ClassId} {base : Nat} {ad : Nat → Nat} {w : Nat → va_E} {kp sq : Nat} {ls : Int} {se : Bool} (hw0 : w 0 = rsO ad kp sq ls se) {sz : Int} {f : Nat → Int} (hkp : kp = 25 ∨ kp = 27) (hwkp : w kp = roO ad kp sz) (hwkp1 : w (kp + 1) = xIA (cA 0) 800 f) (hsz : 0 ≤ sz ∧ sz ≤ 200) {r : Int} {co : Nat → Int} (hw12 : w 12 = ruO ad r) (hw15 : w 15 = xIA (cA 0) 16 co) (hco : ∀ j, -1 ≤ co j ∧ co j < 10) (hf : ∀ i : Nat, (i : Int) < sz → 0 ≤ f (i * 4) ∧ f (i * 4) < 16) : XM L D cA base y_RS_domain c_RS_domain 4 (some .int) (xrm 1 0 0) [.ref (ad 0)] 56 ad w (xPure 56 ad w (.int (domI f co sz.toNat))) xF := by
  refine xm_of (by decide +kernel) (by simp [Value.category]) (Nat.le_of_ble_eq_true rfl) (fun G C E _ => ?_)
  have lp : ∀ (k i : Nat) (lv : Nat → Option Value), sz + 1 ≤ (i : Int) + k → (i : Int) ≤ sz → lv 0 = some (.ref (ad 0)) → lv 1 = some (.int (domI f co i)) → lv 2 = some (.int (zI (i : Int))) → XW G 56 ad w 0 0 4 lv [] := by
    intro k
    induction k with
    | zero => intro i lv h1 h2; exact absurd h1 (by omega)
    | succ k ih =>
      intro i lv h1 h2 hl0 hl1 hl2
      refine xr_iload_n C 2 d_RS_domain_4 rfl hl2 ?_
      refine xr_aload_n C 0 d_RS_domain_5 rfl hl0 ?_
      refine xr_get (k := 0) C xg_RS_35 hw0 (by decide) rfl d_RS_domain_6 ?_
      refine xr_get (k := kp) C xg_RS_127 hwkp (by omega) rfl d_RS_domain_9 ?_
      refine xz_icmp_ge (tgt := 50) C d_RS_domain_12 (by decide) (by omega) (by omega) (fun c12 => ?_) (fun c12 => ?_)
      · skip
        refine xr_iload_n C 1 d_RS_domain_50 rfl hl1 ?_
        have hi9 : (i : Int) = sz := by omega
        exact xr_iret C E ⟨rfl, rfl, rfl, by rw [show sz.toNat = i by omega]⟩ (by decide) (by decide) d_RS_domain_51
      · skip
        refine xr_aload_n C 0 d_RS_domain_15 rfl hl0 ?_
        refine xr_get (k := 0) C xg_RS_19 hw0 (by decide) rfl d_RS_domain_16 ?_
        refine xr_get (k := 12) C xg_RS_138 hw12 (by decide) rfl d_RS_domain_19 ?_
        refine xr_aload_n C 0 d_RS_domain_22 rfl hl0 ?_
        refine xr_get (k := 0) C xg_RS_35 hw0 (by decide) rfl d_RS_domain_23 ?_
        refine xr_iload_n C 2 d_RS_domain_26 rfl hl2 ?_
        refine xr_iconst C d_RS_domain_27 ?_
        refine xr_callV (k9 := kp) C (m_Ro_cell (k := kp) (N := 0) (by omega) hwkp hwkp1 (x := (i : Int)) (y := 0) (by omega) (by omega)) xm_RS_135 x2_Ro_cell hwkp (by omega) rfl (by decide) (by decide) (Nat.le_of_ble_eq_true rfl) rfl d_RS_domain_28 (fun En n9 ad9 w9 hx9 => hx9.elim) (fun v n9 ad9 w9 hp => ?_)
        obtain ⟨rfl, rfl, rfl, rfl⟩ := hp
        show XW _ _ _ _ _ _ 31 _ (_ :: _)
        refine xr_eqz (y := f (i * 4)) (by rw [show ((i : Int) * 4 + 0).toNat = i * 4 by omega]) ?_
        have hfi := hf i (by omega)
        have hcc := hco (f (i * 4)).toNat
        refine xj_iald (k := 15) C ((f (i * 4)).toNat) (by omega) hw15 (by decide) (by omega) (by decide) d_RS_domain_31 ?_
        refine xr_istore_n C 3 d_RS_domain_32 rfl (by decide) ?_
        refine xr_iload_n C 3 d_RS_domain_33 rfl rfl ?_
        refine xr_iconst C d_RS_domain_34 ?_
        refine xz_icmp_eq (tgt := 44) C d_RS_domain_35 (by decide) (by omega) (by omega) (fun c35 => ?_) (fun c35 => ?_)
        · skip
          refine xr_iinc C d_RS_domain_44 (by decide) hl2 ?_
          refine xr_goto (tgt := 4) C d_RS_domain_47 (by decide) ?_
          exact ih (i + 1) _ (by omega) (by omega) hl0 (by show _ = some (Value.int (domI f co (i + 1))); simp only [domI]; first | (rw [if_pos (by omega)]; exact hl1) | (rw [if_neg (by omega)]; rfl)) rfl
        · skip
          refine xr_iload_n C 1 d_RS_domain_38 rfl hl1 ?_
          refine xr_iconst C d_RS_domain_39 ?_
          refine xr_iload_n C 3 d_RS_domain_40 rfl rfl ?_
          refine xr_ishl C d_RS_domain_41 ?_
          refine xr_ior C d_RS_domain_42 ?_
          refine xr_istore_n C 1 d_RS_domain_43 rfl (by decide) ?_
          refine xr_iinc C d_RS_domain_44 (by decide) hl2 ?_
          refine xr_goto (tgt := 4) C d_RS_domain_47 (by decide) ?_
          exact ih (i + 1) _ (by omega) (by omega) hl0 (by show _ = some (Value.int (domI f co (i + 1))); simp only [domI]; first | (rw [if_pos (by omega)]; exact hl1) | (rw [if_neg (by omega)]; rfl)) rfl
  refine xr_iconst C d_RS_domain_0 ?_
  refine xr_istore_n C 1 d_RS_domain_1 rfl (by decide) ?_
  refine xr_iconst C d_RS_domain_2 ?_
  refine xr_istore_n C 2 d_RS_domain_3 rfl (by decide) ?_
  exact lp (sz.toNat + 1) 0 _ (by omega) (by omega) rfl rfl rfl
set_option maxHeartbeats 4000000 in
set_option maxRecDepth 100000 in
theorem m_Ro_add_25 {L : Launch} {D : va_G} {cA : Nat → ClassId} {base : Nat} {ad : Nat → Nat} {w : Nat → va_E} {n : Nat} {f : Nat → Int} (hn : n ≤ 200) (hw25 : w 25 = roO ad 25 (n : Int)) (hw26 : w 26 = xIA (cA 0) 800 f) {x y u v : Int} : XM L D cA base y_Ro_add c_Ro_add 6 none (xrm 0 0 0) [.ref (ad 25), .int (zI x), .int (zI y), .int (zI u), .int (zI v)] 56 ad w (xVoid 56 ad (fun w' => w' = if n < 200 then va_up (va_up w 26 (xIA (cA 0) 800 (va_up (va_up (va_up (va_up f (n * 4) x) (n * 4 + 1) y) (n * 4 + 2) u) (n * 4 + 3) v))) 25 (roO ad 25 ((n : Int) + 1)) else w)) xF := by
  refine xm_of (by decide +kernel) (by simp [Value.category]) (Nat.le_of_ble_eq_true rfl) (fun G C E _ => ?_)
  refine xr_aload_n C 0 d_Ro_add_0 rfl rfl ?_
  refine xr_get (k := 25) C xg_Ro_15 hw25 (by decide) rfl d_Ro_add_1 ?_
  refine xr_sipush C d_Ro_add_4 (by decide) ?_
  refine xz_icmp_lt (tgt := 11) C d_Ro_add_7 (by decide) (by omega) (by omega) (fun c7 => ?_) (fun c7 => ?_)
  · skip
    refine xr_aload_n C 0 d_Ro_add_11 rfl rfl ?_
    refine xr_get (k := 25) C xg_Ro_15 hw25 (by decide) rfl d_Ro_add_12 ?_
    refine xr_iconst C d_Ro_add_15 ?_
    refine xz_imul C d_Ro_add_16 ?_
    refine xr_istore C d_Ro_add_17 (by decide) ?_
    refine xr_aload_n C 0 d_Ro_add_19 rfl rfl ?_
    refine xr_get (k := 25) C xg_Ro_9 hw25 (by decide) rfl d_Ro_add_20 ?_
    refine xr_iload C d_Ro_add_23 rfl ?_
    refine xr_iload_n C 1 d_Ro_add_25 rfl rfl ?_
    refine xj_iast (k := 26) C (n * 4) (by omega) hw26 (by decide) (by omega) (by decide) d_Ro_add_26 ?_
    refine xr_aload_n C 0 d_Ro_add_27 rfl rfl ?_
    refine xr_get (k := 25) C xg_Ro_9 hw25 (by decide) rfl d_Ro_add_28 ?_
    refine xr_iload C d_Ro_add_31 rfl ?_
    refine xr_iconst C d_Ro_add_33 ?_
    refine xz_iadd C d_Ro_add_34 ?_
    refine xr_iload_n C 2 d_Ro_add_35 rfl rfl ?_
    refine xj_iast (k := 26) C (n * 4 + 1) (by omega) rfl (by decide) (by omega) (by decide) d_Ro_add_36 ?_
    refine xr_aload_n C 0 d_Ro_add_37 rfl rfl ?_
    refine xr_get (k := 25) C xg_Ro_9 hw25 (by decide) rfl d_Ro_add_38 ?_
    refine xr_iload C d_Ro_add_41 rfl ?_
    refine xr_iconst C d_Ro_add_43 ?_
    refine xz_iadd C d_Ro_add_44 ?_
    refine xr_iload_n C 3 d_Ro_add_45 rfl rfl ?_
    refine xj_iast (k := 26) C (n * 4 + 2) (by omega) rfl (by decide) (by omega) (by decide) d_Ro_add_46 ?_
    refine xr_aload_n C 0 d_Ro_add_47 rfl rfl ?_
    refine xr_get (k := 25) C xg_Ro_9 hw25 (by decide) rfl d_Ro_add_48 ?_
    refine xr_iload C d_Ro_add_51 rfl ?_
    refine xr_iconst C d_Ro_add_53 ?_
    refine xz_iadd C d_Ro_add_54 ?_
    refine xr_iload C d_Ro_add_55 rfl ?_
    refine xj_iast (k := 26) C (n * 4 + 3) (by omega) rfl (by decide) (by omega) (by decide) d_Ro_add_57 ?_
    refine xr_aload_n C 0 d_Ro_add_58 rfl rfl ?_
    refine xr_dup C rfl d_Ro_add_59 ?_
    refine xr_get (k := 25) C xg_Ro_15 hw25 (by decide) rfl d_Ro_add_60 ?_
    refine xr_iconst C d_Ro_add_63 ?_
    refine xz_iadd C d_Ro_add_64 ?_
    refine xr_put (k := 25) C xf_Ro_15 hw25 (by decide) rfl rfl (Nat.le_of_ble_eq_true rfl) d_Ro_add_65 ?_
    exact xr_vret C E ⟨rfl, rfl, rfl, by rw [if_pos (by omega), bx_uu, bx_uu, bx_uu]; rfl⟩ (by decide) (by decide) d_Ro_add_68
  · skip
    exact xr_vret C E ⟨rfl, rfl, rfl, by rw [if_neg (by omega)]⟩ (by decide) (by decide) d_Ro_add_10
set_option maxHeartbeats 4000000 in
set_option maxRecDepth 100000 in
theorem m_Ro_add_27 {L : Launch} {D : va_G} {cA : Nat → ClassId} {base : Nat} {ad : Nat → Nat} {w : Nat → va_E} {n : Nat} {f : Nat → Int} (hn : n ≤ 200) (hw27 : w 27 = roO ad 27 (n : Int)) (hw28 : w 28 = xIA (cA 0) 800 f) {x y u v : Int} : XM L D cA base y_Ro_add c_Ro_add 6 none (xrm 0 0 0) [.ref (ad 27), .int (zI x), .int (zI y), .int (zI u), .int (zI v)] 56 ad w (xVoid 56 ad (fun w' => w' = if n < 200 then va_up (va_up w 28 (xIA (cA 0) 800 (va_up (va_up (va_up (va_up f (n * 4) x) (n * 4 + 1) y) (n * 4 + 2) u) (n * 4 + 3) v))) 27 (roO ad 27 ((n : Int) + 1)) else w)) xF := by
  refine xm_of (by decide +kernel) (by simp [Value.category]) (Nat.le_of_ble_eq_true rfl) (fun G C E _ => ?_)
  refine xr_aload_n C 0 d_Ro_add_0 rfl rfl ?_
  refine xr_get (k := 27) C xg_Ro_15 hw27 (by decide) rfl d_Ro_add_1 ?_
  refine xr_sipush C d_Ro_add_4 (by decide) ?_
  refine xz_icmp_lt (tgt := 11) C d_Ro_add_7 (by decide) (by omega) (by omega) (fun c7 => ?_) (fun c7 => ?_)
  · skip
    refine xr_aload_n C 0 d_Ro_add_11 rfl rfl ?_
    refine xr_get (k := 27) C xg_Ro_15 hw27 (by decide) rfl d_Ro_add_12 ?_
    refine xr_iconst C d_Ro_add_15 ?_
    refine xz_imul C d_Ro_add_16 ?_
    refine xr_istore C d_Ro_add_17 (by decide) ?_
    refine xr_aload_n C 0 d_Ro_add_19 rfl rfl ?_
    refine xr_get (k := 27) C xg_Ro_9 hw27 (by decide) rfl d_Ro_add_20 ?_
    refine xr_iload C d_Ro_add_23 rfl ?_
    refine xr_iload_n C 1 d_Ro_add_25 rfl rfl ?_
    refine xj_iast (k := 28) C (n * 4) (by omega) hw28 (by decide) (by omega) (by decide) d_Ro_add_26 ?_
    refine xr_aload_n C 0 d_Ro_add_27 rfl rfl ?_
    refine xr_get (k := 27) C xg_Ro_9 hw27 (by decide) rfl d_Ro_add_28 ?_
    refine xr_iload C d_Ro_add_31 rfl ?_
    refine xr_iconst C d_Ro_add_33 ?_
    refine xz_iadd C d_Ro_add_34 ?_
    refine xr_iload_n C 2 d_Ro_add_35 rfl rfl ?_
    refine xj_iast (k := 28) C (n * 4 + 1) (by omega) rfl (by decide) (by omega) (by decide) d_Ro_add_36 ?_
    refine xr_aload_n C 0 d_Ro_add_37 rfl rfl ?_
    refine xr_get (k := 27) C xg_Ro_9 hw27 (by decide) rfl d_Ro_add_38 ?_
    refine xr_iload C d_Ro_add_41 rfl ?_
    refine xr_iconst C d_Ro_add_43 ?_
    refine xz_iadd C d_Ro_add_44 ?_
    refine xr_iload_n C 3 d_Ro_add_45 rfl rfl ?_
    refine xj_iast (k := 28) C (n * 4 + 2) (by omega) rfl (by decide) (by omega) (by decide) d_Ro_add_46 ?_
    refine xr_aload_n C 0 d_Ro_add_47 rfl rfl ?_
    refine xr_get (k := 27) C xg_Ro_9 hw27 (by decide) rfl d_Ro_add_48 ?_
    refine xr_iload C d_Ro_add_51 rfl ?_
    refine xr_iconst C d_Ro_add_53 ?_
    refine xz_iadd C d_Ro_add_54 ?_
    refine xr_iload C d_Ro_add_55 rfl ?_
    refine xj_iast (k := 28) C (n * 4 + 3) (by omega) rfl (by decide) (by omega) (by decide) d_Ro_add_57 ?_
    refine xr_aload_n C 0 d_Ro_add_58 rfl rfl ?_
    refine xr_dup C rfl d_Ro_add_59 ?_
    refine xr_get (k := 27) C xg_Ro_15 hw27 (by decide) rfl d_Ro_add_60 ?_
    refine xr_iconst C d_Ro_add_63 ?_
    refine xz_iadd C d_Ro_add_64 ?_
    refine xr_put (k := 27) C xf_Ro_15 hw27 (by decide) rfl rfl (Nat.le_of_ble_eq_true rfl) d_Ro_add_65 ?_
    exact xr_vret C E ⟨rfl, rfl, rfl, by rw [if_pos (by omega), bx_uu, bx_uu, bx_uu]; rfl⟩ (by decide) (by decide) d_Ro_add_68
  · skip
    exact xr_vret C E ⟨rfl, rfl, rfl, by rw [if_neg (by omega)]⟩ (by decide) (by decide) d_Ro_add_10
set_option maxHeartbeats 4000000 in
set_option maxRecDepth 100000 in
theorem m_Ru_add {L : Launch} {D : va_G} {cA : Nat → ClassId} {base : Nat} {ad : Nat → Nat} {w : Nat → va_E} {n : Nat} {rl rr co le ch : Nat → Int} (hn : n ≤ 16) (hw12 : w 12 = ruO ad (n : Int)) (hw13 : w 13 = xIA (cA 0) 16 rl) (hw14 : w 14 = xIA (cA 0) 16 rr) (hw15 : w 15 = xIA (cA 0) 16 co) (hw16 : w 16 = xIA (cA 1) 16 le) (hw17 : w 17 = xIA (cA 1) 16 ch) {x y u : Int} {p : Bool} : XM L D cA base y_Ru_add c_Ru_add 6 (some .int) (xrm 0 0 0) [.ref (ad 12), .int (zI x), .int (zI y), .int (zI u), .int (zI (xb p))] 56 ad w (xRet 56 ad (fun z w' => (n < 16 ∧ z = (n : Int) ∧ w' = va_up (va_up (va_up (va_up (va_up (va_up w 12 (ruO ad ((n : Int) + 1))) 13 (xIA (cA 0) 16 (va_up rl n x))) 14 (xIA (cA 0) 16 (va_up rr n y))) 15 (xIA (cA 0) 16 (va_up co n u))) 16 (xIA (cA 1) 16 (va_up le n (xb p)))) 17 (xIA (cA 1) 16 (va_up ch n 1))) ∨ (¬ n < 16 ∧ z = -1 ∧ w' = w))) xF := by
  refine xm_of (by decide +kernel) (by simp [Value.category]) (Nat.le_of_ble_eq_true rfl) (fun G C E _ => ?_)
  refine xr_aload_n C 0 d_Ru_add_0 rfl rfl ?_
  refine xr_get (k := 12) C xg_Ru_31 hw12 (by decide) rfl d_Ru_add_1 ?_
  refine xr_bipush C d_Ru_add_4 (by decide) ?_
  refine xz_icmp_lt (tgt := 11) C d_Ru_add_6 (by decide) (by omega) (by omega) (fun c6 => ?_) (fun c6 => ?_)
  · skip
    refine xr_aload_n C 0 d_Ru_add_11 rfl rfl ?_
    refine xr_get (k := 12) C xg_Ru_31 hw12 (by decide) rfl d_Ru_add_12 ?_
    refine xr_istore C d_Ru_add_15 (by decide) ?_
    refine xr_aload_n C 0 d_Ru_add_17 rfl rfl ?_
    refine xr_dup C rfl d_Ru_add_18 ?_
    refine xr_get (k := 12) C xg_Ru_31 hw12 (by decide) rfl d_Ru_add_19 ?_
    refine xr_iconst C d_Ru_add_22 ?_
    refine xz_iadd C d_Ru_add_23 ?_
    refine xr_put (k := 12) C xf_Ru_31 hw12 (by decide) rfl rfl (Nat.le_of_ble_eq_true rfl) d_Ru_add_24 ?_
    refine xr_aload_n C 0 d_Ru_add_27 rfl rfl ?_
    refine xr_get (k := 12) C xg_Ru_9 rfl (by decide) rfl d_Ru_add_28 ?_
    refine xr_iload C d_Ru_add_31 rfl ?_
    refine xr_iload_n C 1 d_Ru_add_33 rfl rfl ?_
    refine xj_iast (k := 13) C (n) (by omega) hw13 (by decide) (by omega) (by decide) d_Ru_add_34 ?_
    refine xr_aload_n C 0 d_Ru_add_35 rfl rfl ?_
    refine xr_get (k := 12) C xg_Ru_15 rfl (by decide) rfl d_Ru_add_36 ?_
    refine xr_iload C d_Ru_add_39 rfl ?_
    refine xr_iload_n C 2 d_Ru_add_41 rfl rfl ?_
    refine xj_iast (k := 14) C (n) (by omega) hw14 (by decide) (by omega) (by decide) d_Ru_add_42 ?_
    refine xr_aload_n C 0 d_Ru_add_43 rfl rfl ?_
    refine xr_get (k := 12) C xg_Ru_18 rfl (by decide) rfl d_Ru_add_44 ?_
    refine xr_iload C d_Ru_add_47 rfl ?_
    refine xr_iload_n C 3 d_Ru_add_49 rfl rfl ?_
    refine xj_iast (k := 15) C (n) (by omega) hw15 (by decide) (by omega) (by decide) d_Ru_add_50 ?_
    refine xr_aload_n C 0 d_Ru_add_51 rfl rfl ?_
    refine xr_get (k := 12) C xg_Ru_21 rfl (by decide) rfl d_Ru_add_52 ?_
    refine xr_iload C d_Ru_add_55 rfl ?_
    refine xr_iload C d_Ru_add_57 rfl ?_
    refine xj_zast (k := 16) C (n) (by omega) hw16 (by decide) (by omega) (by decide) xb_01 d_Ru_add_59 ?_
    refine xr_aload_n C 0 d_Ru_add_60 rfl rfl ?_
    refine xr_get (k := 12) C xg_Ru_25 rfl (by decide) rfl d_Ru_add_61 ?_
    refine xr_iload C d_Ru_add_64 rfl ?_
    refine xr_iconst C d_Ru_add_66 ?_
    refine xj_zast (k := 17) C (n) (by omega) hw17 (by decide) (by omega) (by decide) (by omega) d_Ru_add_67 ?_
    refine xr_iload C d_Ru_add_68 rfl ?_
    exact xr_iret C E ⟨rfl, rfl, (n : Int), rfl, Or.inl ⟨by omega, rfl, rfl⟩⟩ (by decide) (by decide) d_Ru_add_70
  · skip
    refine xr_iconst C d_Ru_add_9 ?_
    exact xr_iret C E ⟨rfl, rfl, -1, rfl, Or.inr ⟨by omega, rfl, rfl⟩⟩ (by decide) (by decide) d_Ru_add_10
end
section
/-- each hole stands in x at least as often as in y -/
def hoS (S : xS) (x y : Nat) : Bool := (List.range 6).all (fun h => decide (cnt S y h ≤ cnt S x h))
/-- THE ORDER -/
def abv (S : xS) (x y : Nat) : Bool :=
  if x = y then false
  else if hoS S x y = false then false
  else if sWt S x ≠ sWt S y then decide (sWt S y < sWt S x)
  else if 200 ≤ sSg S x ∨ 200 ≤ sSg S y then false
  else if 100 ≤ sSg S x ∨ 100 ≤ sSg S y then decide (sSg S x < 100 ∨ (100 ≤ sSg S y ∧ sSg S y < sSg S x))
  else if sSg S x ≠ sSg S y then decide (sSg S y < sSg S x)
  else if h : (if sFs S x = sFs S y then sSn S x else sFs S x).toNat < x then abv S (if sFs S x = sFs S y then sSn S x else sFs S x).toNat (if sFs S x = sFs S y then sSn S y else sFs S y).toNat else false
termination_by x
decreasing_by exact h
theorem hoS_hc {S : xS} {hc : Nat → Int} {x y : Nat} (h : ∀ j i, j < sN S → i < 6 → hc (j * 6 + i) = cnt S j i) (hx : x < sN S) (hy : y < sN S) : hOK hc x y = hoS S x y := by
  unfold hOK hoS
  rw [Bool.eq_iff_iff, List.all_eq_true, List.all_eq_true]
  constructor
  · intro q i hi
    have := q i hi
    rw [h x i hx (List.mem_range.mp hi), h y i hy (List.mem_range.mp hi)] at this
    exact this
  · intro q i hi
    have := q i hi
    rw [h x i hx (List.mem_range.mp hi), h y i hy (List.mem_range.mp hi)]
    exact this
theorem um_eq {s a b : Int} {j : Nat} (h : shp s a b j) : (s < 100 → um s = s) ∧ (100 ≤ s → s < 200 → um s = 99 - s) ∧ (200 ≤ s → um s = s - 100) := by
  unfold shp at h
  unfold um
  split
  · omega
  · split <;> omega
theorem abv_same {S : xS} {x y : Nat} (h : x = y) : abv S x y = false := by rw [abv, if_pos h]
theorem abv_ho {S : xS} {x y : Nat} (h : ¬ x = y) (h1 : hoS S x y = false) : abv S x y = false := by rw [abv, if_neg h, if_pos h1]
theorem abv_wt {S : xS} {x y : Nat} (h : ¬ x = y) (h1 : hoS S x y = true) (h2 : sWt S x ≠ sWt S y) : abv S x y = decide (sWt S y < sWt S x) := by rw [abv, if_neg h, if_neg (by rw [h1]; decide), if_pos h2]
theorem abv_hole {S : xS} {x y : Nat} (h : ¬ x = y) (h1 : hoS S x y = true) (h2 : sWt S x = sWt S y) (h3 : 200 ≤ sSg S x ∨ 200 ≤ sSg S y) : abv S x y = false := by rw [abv, if_neg h, if_neg (by rw [h1]; decide), if_neg (by simp [h2]), if_pos h3]
theorem abv_leaf {S : xS} {x y : Nat} (h : ¬ x = y) (h1 : hoS S x y = true) (h2 : sWt S x = sWt S y) (h3 : ¬ (200 ≤ sSg S x ∨ 200 ≤ sSg S y)) (h4 : 100 ≤ sSg S x ∨ 100 ≤ sSg S y) : abv S x y = decide (sSg S x < 100 ∨ (100 ≤ sSg S y ∧ sSg S y < sSg S x)) := by rw [abv, if_neg h, if_neg (by rw [h1]; decide), if_neg (by simp [h2]), if_neg h3, if_pos h4]
theorem abv_head {S : xS} {x y : Nat} (h : ¬ x = y) (h1 : hoS S x y = true) (h2 : sWt S x = sWt S y) (h3 : sSg S x < 100) (h4 : sSg S y < 100) (h5 : sSg S x ≠ sSg S y) : abv S x y = decide (sSg S y < sSg S x) := by rw [abv, if_neg h, if_neg (by rw [h1]; decide), if_neg (by simp [h2]), if_neg (by omega), if_neg (by omega), if_pos h5]
theorem abv_fst {S : xS} {x y : Nat} (h : ¬ x = y) (h1 : hoS S x y = true) (h2 : sWt S x = sWt S y) (h3 : sSg S x < 100) (h4 : sSg S y < 100) (h5 : sSg S x = sSg S y) (h6 : ¬ sFs S x = sFs S y) (h7 : (sFs S x).toNat < x) : abv S x y = abv S (sFs S x).toNat (sFs S y).toNat := by
  rw [abv, if_neg h, if_neg (by rw [h1]; decide), if_neg (by simp [h2]), if_neg (by omega), if_neg (by omega), if_neg (by simp [h5]), dif_pos (by rw [if_neg h6]; exact h7), if_neg h6, if_neg h6]
theorem abv_snd {S : xS} {x y : Nat} (h : ¬ x = y) (h1 : hoS S x y = true) (h2 : sWt S x = sWt S y) (h3 : sSg S x < 100) (h4 : sSg S y < 100) (h5 : sSg S x = sSg S y) (h6 : sFs S x = sFs S y) (h7 : (sSn S x).toNat < x) : abv S x y = abv S (sSn S x).toNat (sSn S y).toNat := by
  rw [abv, if_neg h, if_neg (by rw [h1]; decide), if_neg (by simp [h2]), if_neg (by omega), if_neg (by omega), if_neg (by simp [h5]), dif_pos (by rw [if_pos h6]; exact h7), if_pos h6, if_pos h6]
theorem dp_child {S : xS} (hT : Tb S) {x : Nat} (hx : x < sN S) : (sSg S x < 100 → sDp S (sFs S x).toNat < sDp S x) ∧ (6 ≤ sSg S x → sSg S x < 100 → sDp S (sSn S x).toNat < sDp S x) := by
  obtain ⟨s1, -, -, d1, -⟩ := hT.2.1 x hx
  unfold shp at s1
  rcases s1 with q | q | q | q
  · omega
  · omega
  · rw [nDp_1 (by omega)] at d1
    omega
  · rw [nDp_2 (by omega) (by omega)] at d1
    omega
set_option maxHeartbeats 4000000 in
set_option maxRecDepth 100000 in
theorem m_Tr_isAbove {L : Launch} {D : va_G} {cA : Nat → ClassId} {base : Nat} {ad : Nat → Nat} {w : Nat → va_E} {S : xS} {x0 y0 : Nat} (hCT : CT ad cA w S) (hT : Tb S) (hx : x0 < sN S) (hy : y0 < sN S) : XM L D cA base y_Tr_isAbove c_Tr_isAbove 7 (some .boolean) (xrm 2 0 0) [.ref (ad 1), .int (zI (x0 : Int)), .int (zI (y0 : Int))] 56 ad w (xPure 56 ad w (.int (zI (xb (abv S x0 y0))))) xF := by
  refine xm_of (by decide +kernel) (by simp [Value.category]) (Nat.le_of_ble_eq_true rfl) (fun G C E _ => ?_)
  obtain ⟨mk, fs, sn, wt, pl, dp, ho, hc, nw, od, hw1, hw2, hw3, hw4, hw5, hw6, hw7, hw8, hw9, hw10, hw11, hC⟩ := hCT
  have hN := hT.1
  have lp : ∀ (k x y l : Nat) (lv : Nat → Option Value), x < k → x < sN S → y < sN S → sDp S x + l ≤ 30 → abv S x y = abv S x0 y0 → lv 0 = some (.ref (ad 1)) → lv 3 = some (.int (zI (x : Int))) → lv 4 = some (.int (zI (y : Int))) → lv 5 = some (.int (zI (l : Int))) → XW G 56 ad w 0 0 8 lv [] := by
    intro k
    induction k with
    | zero => intro x y l lv h1; exact absurd h1 (by omega)
    | succ k ih =>
      intro x y l lv h1 h2 h2y h3 hEq hl0 hl3 hl4 hl5
      obtain ⟨mx1, mx2, mx3, mx4, mx5, mx6, mx7⟩ := hC.1 x (by omega)
      obtain ⟨my1, my2, my3, my4, my5, my6, my7⟩ := hC.1 y (by omega)
      have rx := hC.2.2.1 x
      have ry := hC.2.2.1 y
      obtain ⟨sx, -, -, dx, -, bx⟩ := hT.2.1 x (by omega)
      obtain ⟨sy, -, -, dy, -, by9⟩ := hT.2.1 y (by omega)
      refine xr_iload C d_Tr_isAbove_8 hl5 ?_
      refine xr_bipush C d_Tr_isAbove_10 (by decide) ?_
      refine xz_icmp_gt (tgt := 247) C d_Tr_isAbove_12 (by decide) (by omega) (by omega) (fun c12 => ?_) (fun c12 => ?_)
      · skip
        refine xr_iconst C d_Tr_isAbove_247 ?_
        exact xr_zret C E (by omega) ⟨rfl, rfl, rfl, by rw [← hEq, abv_same (by omega)]; rfl⟩ (by decide) (by decide) d_Tr_isAbove_248
      · skip
        refine xr_iload_n C 3 d_Tr_isAbove_15 rfl hl3 ?_
        refine xr_iload C d_Tr_isAbove_16 hl4 ?_
        refine xz_icmp_eq (tgt := 247) C d_Tr_isAbove_18 (by decide) (by omega) (by omega) (fun c18 => ?_) (fun c18 => ?_)
        · skip
          refine xr_iconst C d_Tr_isAbove_247 ?_
          exact xr_zret C E (by omega) ⟨rfl, rfl, rfl, by rw [← hEq, abv_same (by omega)]; rfl⟩ (by decide) (by decide) d_Tr_isAbove_248
        · skip
          refine xr_aload_n C 0 d_Tr_isAbove_21 rfl hl0 ?_
          refine xr_iload_n C 3 d_Tr_isAbove_22 rfl hl3 ?_
          refine xr_iload C d_Tr_isAbove_23 hl4 ?_
          refine xr_callV (k9 := 1) C (m_Tr_hasHolesOf hw1 hw9 (fun j => (hC.2.2.1 j).2.2.2.2.2.2.2.1) (x := x) (y := y) (by omega) (by omega)) xm_Tr_84 x2_Tr_hasHolesOf hw1 (by decide) rfl (by decide) (by decide) (Nat.le_of_ble_eq_true rfl) rfl d_Tr_isAbove_25 (fun En n9 ad9 w9 hx9 => hx9.elim) (fun v n9 ad9 w9 hp => ?_)
          obtain ⟨rfl, rfl, rfl, rfl⟩ := hp
          show XW _ _ _ _ _ _ 28 _ (_ :: _)
          refine xb_if_ne (tgt := 33) C d_Tr_isAbove_28 (by decide)  (fun c28 => ?_) (fun c28 => ?_)
          · skip
            have ho9 : hoS S x y = true := by rw [← hoS_hc hC.2.1 (by omega) (by omega)]; exact c28
            refine xr_aload_n C 0 d_Tr_isAbove_33 rfl hl0 ?_
            refine xr_get (k := 1) C xg_Tr_21 hw1 (by decide) rfl d_Tr_isAbove_34 ?_
            refine xr_iload_n C 3 d_Tr_isAbove_37 rfl hl3 ?_
            refine xj_iald (k := 5) C (x) (by omega) hw5 (by decide) (by omega) (by decide) d_Tr_isAbove_38 ?_
            refine xr_aload_n C 0 d_Tr_isAbove_39 rfl hl0 ?_
            refine xr_get (k := 1) C xg_Tr_21 hw1 (by decide) rfl d_Tr_isAbove_40 ?_
            refine xr_iload C d_Tr_isAbove_43 hl4 ?_
            refine xj_iald (k := 5) C (y) (by omega) hw5 (by decide) (by omega) (by decide) d_Tr_isAbove_45 ?_
            refine xz_icmp_eq (tgt := 71) C d_Tr_isAbove_46 (by decide) (by omega) (by omega) (fun c46 => ?_) (fun c46 => ?_)
            · skip
              refine xr_aload_n C 0 d_Tr_isAbove_71 rfl hl0 ?_
              refine xr_iload_n C 3 d_Tr_isAbove_72 rfl hl3 ?_
              refine xr_callV (k9 := 1) C (m_Tr_isNode hw1 hw2 (fun j => (hC.2.2.1 j).1) (x := (x : Int)) (by omega)) xm_Tr_80 x2_Tr_isNode hw1 (by decide) rfl (by decide) (by decide) (Nat.le_of_ble_eq_true rfl) rfl d_Tr_isAbove_73 (fun En n9 ad9 w9 hx9 => hx9.elim) (fun v n9 ad9 w9 hp => ?_)
              obtain ⟨rfl, rfl, rfl, rfl⟩ := hp
              show XW _ _ _ _ _ _ 76 _ (_ :: _)
              refine xb_if_eq (tgt := 88) C d_Tr_isAbove_76 (by decide)  (fun c76 => ?_) (fun c76 => ?_)
              · skip
                have n76 : ¬ (0 ≤ (x : Int) ∧ 0 ≤ mk (x : Int).toNat ∧ mk (x : Int).toNat < 12) := of_decide_eq_false c76
                rw [show ((x : Int)).toNat = x by omega] at n76
                refine xr_aload_n C 0 d_Tr_isAbove_88 rfl hl0 ?_
                refine xr_iload C d_Tr_isAbove_89 hl4 ?_
                refine xr_callV (k9 := 1) C (m_Tr_isLeaf hw1 hw2 (fun j => (hC.2.2.1 j).1) (x := (y : Int)) (by omega)) xm_Tr_88 x2_Tr_isLeaf hw1 (by decide) rfl (by decide) (by decide) (Nat.le_of_ble_eq_true rfl) rfl d_Tr_isAbove_91 (fun En n9 ad9 w9 hx9 => hx9.elim) (fun v n9 ad9 w9 hp => ?_)
                obtain ⟨rfl, rfl, rfl, rfl⟩ := hp
                show XW _ _ _ _ _ _ 94 _ (_ :: _)
                refine xb_if_eq (tgt := 133) C d_Tr_isAbove_94 (by decide)  (fun c94 => ?_) (fun c94 => ?_)
                · skip
                  have n94 : ¬ (0 ≤ (y : Int) ∧ mk (y : Int).toNat < 0) := of_decide_eq_false c94
                  rw [show ((y : Int)).toNat = y by omega] at n94
                  refine xr_iconst C d_Tr_isAbove_133 ?_
                  have hux := um_eq sx
                  have huy := um_eq sy
                  exact xr_zret C E (by omega) ⟨rfl, rfl, rfl, by
                    rw [← hEq]
                    by_cases hh : 200 ≤ sSg S x ∨ 200 ≤ sSg S y
                    · rw [abv_hole (by omega) ho9 (by omega) hh]
                      first | rfl | (exfalso; unfold shp at sx sy; omega)
                    · rw [abv_leaf (by omega) ho9 (by omega) hh (by unfold shp at sx sy; omega)]
                      unfold shp at sx sy
                      first | exact xb_v1 (by omega) | exact xb_v0 (by omega)⟩ (by decide) (by decide) d_Tr_isAbove_134
                · skip
                  have n94 : (0 ≤ (y : Int) ∧ mk (y : Int).toNat < 0) := of_decide_eq_true c94
                  rw [show ((y : Int)).toNat = y by omega] at n94
                  refine xr_aload_n C 0 d_Tr_isAbove_97 rfl hl0 ?_
                  refine xr_iload_n C 3 d_Tr_isAbove_98 rfl hl3 ?_
                  refine xr_callV (k9 := 1) C (m_Tr_isNode hw1 hw2 (fun j => (hC.2.2.1 j).1) (x := (x : Int)) (by omega)) xm_Tr_80 x2_Tr_isNode hw1 (by decide) rfl (by decide) (by decide) (Nat.le_of_ble_eq_true rfl) rfl d_Tr_isAbove_99 (fun En n9 ad9 w9 hx9 => hx9.elim) (fun v n9 ad9 w9 hp => ?_)
                  obtain ⟨rfl, rfl, rfl, rfl⟩ := hp
                  show XW _ _ _ _ _ _ 102 _ (_ :: _)
                  refine xb_if_ne (tgt := 129) C d_Tr_isAbove_102 (by decide)  (fun c102 => ?_) (fun c102 => ?_)
                  · skip
                    have n102 : (0 ≤ (x : Int) ∧ 0 ≤ mk (x : Int).toNat ∧ mk (x : Int).toNat < 12) := of_decide_eq_true c102
                    rw [show ((x : Int)).toNat = x by omega] at n102
                    refine xr_iconst C d_Tr_isAbove_129 ?_
                    refine xr_goto (tgt := 134) C d_Tr_isAbove_130 (by decide) ?_
                    have hux := um_eq sx
                    have huy := um_eq sy
                    exact xr_zret C E (by omega) ⟨rfl, rfl, rfl, by
                      rw [← hEq]
                      by_cases hh : 200 ≤ sSg S x ∨ 200 ≤ sSg S y
                      · rw [abv_hole (by omega) ho9 (by omega) hh]
                        first | rfl | (exfalso; unfold shp at sx sy; omega)
                      · rw [abv_leaf (by omega) ho9 (by omega) hh (by unfold shp at sx sy; omega)]
                        unfold shp at sx sy
                        first | exact xb_v1 (by omega) | exact xb_v0 (by omega)⟩ (by decide) (by decide) d_Tr_isAbove_134
                  · skip
                    have n102 : ¬ (0 ≤ (x : Int) ∧ 0 ≤ mk (x : Int).toNat ∧ mk (x : Int).toNat < 12) := of_decide_eq_false c102
                    rw [show ((x : Int)).toNat = x by omega] at n102
                    refine xr_aload_n C 0 d_Tr_isAbove_105 rfl hl0 ?_
                    refine xr_iload_n C 3 d_Tr_isAbove_106 rfl hl3 ?_
                    refine xr_callV (k9 := 1) C (m_Tr_isLeaf hw1 hw2 (fun j => (hC.2.2.1 j).1) (x := (x : Int)) (by omega)) xm_Tr_88 x2_Tr_isLeaf hw1 (by decide) rfl (by decide) (by decide) (Nat.le_of_ble_eq_true rfl) rfl d_Tr_isAbove_107 (fun En n9 ad9 w9 hx9 => hx9.elim) (fun v n9 ad9 w9 hp => ?_)
                    obtain ⟨rfl, rfl, rfl, rfl⟩ := hp
                    show XW _ _ _ _ _ _ 110 _ (_ :: _)
                    refine xb_if_eq (tgt := 133) C d_Tr_isAbove_110 (by decide)  (fun c110 => ?_) (fun c110 => ?_)
                    · skip
                      have n110 : ¬ (0 ≤ (x : Int) ∧ mk (x : Int).toNat < 0) := of_decide_eq_false c110
                      rw [show ((x : Int)).toNat = x by omega] at n110
                      refine xr_iconst C d_Tr_isAbove_133 ?_
                      have hux := um_eq sx
                      have huy := um_eq sy
                      exact xr_zret C E (by omega) ⟨rfl, rfl, rfl, by
                        rw [← hEq]
                        by_cases hh : 200 ≤ sSg S x ∨ 200 ≤ sSg S y
                        · rw [abv_hole (by omega) ho9 (by omega) hh]
                          first | rfl | (exfalso; unfold shp at sx sy; omega)
                        · rw [abv_leaf (by omega) ho9 (by omega) hh (by unfold shp at sx sy; omega)]
                          unfold shp at sx sy
                          first | exact xb_v1 (by omega) | exact xb_v0 (by omega)⟩ (by decide) (by decide) d_Tr_isAbove_134
                    · skip
                      have n110 : (0 ≤ (x : Int) ∧ mk (x : Int).toNat < 0) := of_decide_eq_true c110
                      rw [show ((x : Int)).toNat = x by omega] at n110
                      refine xr_aload_n C 0 d_Tr_isAbove_113 rfl hl0 ?_
                      refine xr_get (k := 1) C xg_Tr_9 hw1 (by decide) rfl d_Tr_isAbove_114 ?_
                      refine xr_iload_n C 3 d_Tr_isAbove_117 rfl hl3 ?_
                      refine xj_iald (k := 2) C (x) (by omega) hw2 (by decide) (by omega) (by decide) d_Tr_isAbove_118 ?_
                      refine xr_aload_n C 0 d_Tr_isAbove_119 rfl hl0 ?_
                      refine xr_get (k := 1) C xg_Tr_9 hw1 (by decide) rfl d_Tr_isAbove_120 ?_
                      refine xr_iload C d_Tr_isAbove_123 hl4 ?_
                      refine xj_iald (k := 2) C (y) (by omega) hw2 (by decide) (by omega) (by decide) d_Tr_isAbove_125 ?_
                      refine xz_icmp_ge (tgt := 133) C d_Tr_isAbove_126 (by decide) (by omega) (by omega) (fun c126 => ?_) (fun c126 => ?_)
                      · skip
                        refine xr_iconst C d_Tr_isAbove_133 ?_
                        have hux := um_eq sx
                        have huy := um_eq sy
                        exact xr_zret C E (by omega) ⟨rfl, rfl, rfl, by
                          rw [← hEq]
                          by_cases hh : 200 ≤ sSg S x ∨ 200 ≤ sSg S y
                          · rw [abv_hole (by omega) ho9 (by omega) hh]
                            first | rfl | (exfalso; unfold shp at sx sy; omega)
                          · rw [abv_leaf (by omega) ho9 (by omega) hh (by unfold shp at sx sy; omega)]
                            unfold shp at sx sy
                            first | exact xb_v1 (by omega) | exact xb_v0 (by omega)⟩ (by decide) (by decide) d_Tr_isAbove_134
                      · skip
                        refine xr_iconst C d_Tr_isAbove_129 ?_
                        refine xr_goto (tgt := 134) C d_Tr_isAbove_130 (by decide) ?_
                        have hux := um_eq sx
                        have huy := um_eq sy
                        exact xr_zret C E (by omega) ⟨rfl, rfl, rfl, by
                          rw [← hEq]
                          by_cases hh : 200 ≤ sSg S x ∨ 200 ≤ sSg S y
                          · rw [abv_hole (by omega) ho9 (by omega) hh]
                            first | rfl | (exfalso; unfold shp at sx sy; omega)
                          · rw [abv_leaf (by omega) ho9 (by omega) hh (by unfold shp at sx sy; omega)]
                            unfold shp at sx sy
                            first | exact xb_v1 (by omega) | exact xb_v0 (by omega)⟩ (by decide) (by decide) d_Tr_isAbove_134
              · skip
                have n76 : (0 ≤ (x : Int) ∧ 0 ≤ mk (x : Int).toNat ∧ mk (x : Int).toNat < 12) := of_decide_eq_true c76
                rw [show ((x : Int)).toNat = x by omega] at n76
                refine xr_aload_n C 0 d_Tr_isAbove_79 rfl hl0 ?_
                refine xr_iload C d_Tr_isAbove_80 hl4 ?_
                refine xr_callV (k9 := 1) C (m_Tr_isNode hw1 hw2 (fun j => (hC.2.2.1 j).1) (x := (y : Int)) (by omega)) xm_Tr_80 x2_Tr_isNode hw1 (by decide) rfl (by decide) (by decide) (Nat.le_of_ble_eq_true rfl) rfl d_Tr_isAbove_82 (fun En n9 ad9 w9 hx9 => hx9.elim) (fun v n9 ad9 w9 hp => ?_)
                obtain ⟨rfl, rfl, rfl, rfl⟩ := hp
                show XW _ _ _ _ _ _ 85 _ (_ :: _)
                refine xb_if_ne (tgt := 135) C d_Tr_isAbove_85 (by decide)  (fun c85 => ?_) (fun c85 => ?_)
                · skip
                  have n85 : (0 ≤ (y : Int) ∧ 0 ≤ mk (y : Int).toNat ∧ mk (y : Int).toNat < 12) := of_decide_eq_true c85
                  rw [show ((y : Int)).toNat = y by omega] at n85
                  have hux := um_eq sx
                  have huy := um_eq sy
                  have hnx : sSg S x < 100 := by unfold shp at sx; omega
                  have hny : sSg S y < 100 := by unfold shp at sy; omega
                  refine xr_aload_n C 0 d_Tr_isAbove_135 rfl hl0 ?_
                  refine xr_get (k := 1) C xg_Tr_9 hw1 (by decide) rfl d_Tr_isAbove_136 ?_
                  refine xr_iload_n C 3 d_Tr_isAbove_139 rfl hl3 ?_
                  refine xj_iald (k := 2) C (x) (by omega) hw2 (by decide) (by omega) (by decide) d_Tr_isAbove_140 ?_
                  refine xr_aload_n C 0 d_Tr_isAbove_141 rfl hl0 ?_
                  refine xr_get (k := 1) C xg_Tr_9 hw1 (by decide) rfl d_Tr_isAbove_142 ?_
                  refine xr_iload C d_Tr_isAbove_145 hl4 ?_
                  refine xj_iald (k := 2) C (y) (by omega) hw2 (by decide) (by omega) (by decide) d_Tr_isAbove_147 ?_
                  refine xz_icmp_eq (tgt := 173) C d_Tr_isAbove_148 (by decide) (by omega) (by omega) (fun c148 => ?_) (fun c148 => ?_)
                  · skip
                    refine xr_aload_n C 0 d_Tr_isAbove_173 rfl hl0 ?_
                    refine xr_get (k := 1) C xg_Tr_15 hw1 (by decide) rfl d_Tr_isAbove_174 ?_
                    refine xr_iload_n C 3 d_Tr_isAbove_177 rfl hl3 ?_
                    refine xj_iald (k := 3) C (x) (by omega) hw3 (by decide) (by omega) (by decide) d_Tr_isAbove_178 ?_
                    refine xr_aload_n C 0 d_Tr_isAbove_179 rfl hl0 ?_
                    refine xr_get (k := 1) C xg_Tr_15 hw1 (by decide) rfl d_Tr_isAbove_180 ?_
                    refine xr_iload C d_Tr_isAbove_183 hl4 ?_
                    refine xj_iald (k := 3) C (y) (by omega) hw3 (by decide) (by omega) (by decide) d_Tr_isAbove_185 ?_
                    refine xz_icmp_eq (tgt := 193) C d_Tr_isAbove_186 (by decide) (by omega) (by omega) (fun c186 => ?_) (fun c186 => ?_)
                    · skip
                      have hfe : sFs S x = sFs S y := by omega
                      have h2x : 6 ≤ sSg S x := by
                        unfold shp at sx sy
                        rcases Int.lt_or_le (sSg S x) 6 with q | q
                        · exact absurd (hT.2.2 x y (by omega) (by omega) (by omega) hfe (by omega)) (by omega)
                        · exact q
                      refine xr_iconst C d_Tr_isAbove_193 ?_
                      refine xr_istore C d_Tr_isAbove_194 (by decide) ?_
                      refine xr_iload C d_Tr_isAbove_196 rfl ?_
                      refine xz_if_eq (tgt := 210) C d_Tr_isAbove_198 (by decide) (by omega) (fun c198 => ?_) (fun c198 => by exfalso; omega)
                      refine xr_aload_n C 0 d_Tr_isAbove_210 rfl hl0 ?_
                      refine xr_get (k := 1) C xg_Tr_18 hw1 (by decide) rfl d_Tr_isAbove_211 ?_
                      refine xr_iload_n C 3 d_Tr_isAbove_214 rfl hl3 ?_
                      refine xj_iald (k := 4) C (x) (by omega) hw4 (by decide) (by omega) (by decide) d_Tr_isAbove_215 ?_
                      refine xr_istore_n C 3 d_Tr_isAbove_216 rfl (by decide) ?_
                      refine xr_iload C d_Tr_isAbove_217 rfl ?_
                      refine xz_if_eq (tgt := 232) C d_Tr_isAbove_219 (by decide) (by omega) (fun c219 => ?_) (fun c219 => by exfalso; omega)
                      refine xr_aload_n C 0 d_Tr_isAbove_232 rfl hl0 ?_
                      refine xr_get (k := 1) C xg_Tr_18 hw1 (by decide) rfl d_Tr_isAbove_233 ?_
                      refine xr_iload C d_Tr_isAbove_236 hl4 ?_
                      refine xj_iald (k := 4) C (y) (by omega) hw4 (by decide) (by omega) (by decide) d_Tr_isAbove_238 ?_
                      refine xr_istore C d_Tr_isAbove_239 (by decide) ?_
                      refine xr_iinc C d_Tr_isAbove_241 (by decide) hl5 ?_
                      refine xr_goto (tgt := 8) C d_Tr_isAbove_244 (by decide) ?_
                      have hdc := dp_child hT (show x < sN S by omega)
                      unfold shp at sx sy
                      first
                        | exact ih (sFs S x).toNat (sFs S y).toNat (l + 1) _ (by omega) (by omega) (by omega) (by omega) (by rw [← hEq, abv_fst (by omega) ho9 (by omega) hnx hny (by omega) hfe (by omega)]) hl0 (by show some (Value.int (zI (fs x))) = _; rw [mx2, show (((sFs S x).toNat : Nat) : Int) = sFs S x by omega]) (by show some (Value.int (zI (fs y))) = _; rw [my2, show (((sFs S y).toNat : Nat) : Int) = sFs S y by omega]) rfl
                        | exact ih (sSn S x).toNat (sSn S y).toNat (l + 1) _ (by omega) (by omega) (by omega) (by omega) (by rw [← hEq, abv_snd (by omega) ho9 (by omega) hnx hny (by omega) hfe (by omega)]) hl0 (by show some (Value.int (zI (sn x))) = _; rw [mx3, show (((sSn S x).toNat : Nat) : Int) = sSn S x by omega]) (by show some (Value.int (zI (sn y))) = _; rw [my3, show (((sSn S y).toNat : Nat) : Int) = sSn S y by omega]) rfl
                    · skip
                      have hfe : ¬ sFs S x = sFs S y := by omega
                      refine xr_iconst C d_Tr_isAbove_189 ?_
                      refine xr_goto (tgt := 194) C d_Tr_isAbove_190 (by decide) ?_
                      refine xr_istore C d_Tr_isAbove_194 (by decide) ?_
                      refine xr_iload C d_Tr_isAbove_196 rfl ?_
                      refine xz_if_eq (tgt := 210) C d_Tr_isAbove_198 (by decide) (by omega) (fun c198 => by exfalso; omega) (fun c198 => ?_)
                      refine xr_aload_n C 0 d_Tr_isAbove_201 rfl hl0 ?_
                      refine xr_get (k := 1) C xg_Tr_15 hw1 (by decide) rfl d_Tr_isAbove_202 ?_
                      refine xr_iload_n C 3 d_Tr_isAbove_205 rfl hl3 ?_
                      refine xj_iald (k := 3) C (x) (by omega) hw3 (by decide) (by omega) (by decide) d_Tr_isAbove_206 ?_
                      refine xr_goto (tgt := 216) C d_Tr_isAbove_207 (by decide) ?_
                      refine xr_istore_n C 3 d_Tr_isAbove_216 rfl (by decide) ?_
                      refine xr_iload C d_Tr_isAbove_217 rfl ?_
                      refine xz_if_eq (tgt := 232) C d_Tr_isAbove_219 (by decide) (by omega) (fun c219 => by exfalso; omega) (fun c219 => ?_)
                      refine xr_aload_n C 0 d_Tr_isAbove_222 rfl hl0 ?_
                      refine xr_get (k := 1) C xg_Tr_15 hw1 (by decide) rfl d_Tr_isAbove_223 ?_
                      refine xr_iload C d_Tr_isAbove_226 hl4 ?_
                      refine xj_iald (k := 3) C (y) (by omega) hw3 (by decide) (by omega) (by decide) d_Tr_isAbove_228 ?_
                      refine xr_goto (tgt := 239) C d_Tr_isAbove_229 (by decide) ?_
                      refine xr_istore C d_Tr_isAbove_239 (by decide) ?_
                      refine xr_iinc C d_Tr_isAbove_241 (by decide) hl5 ?_
                      refine xr_goto (tgt := 8) C d_Tr_isAbove_244 (by decide) ?_
                      have hdc := dp_child hT (show x < sN S by omega)
                      unfold shp at sx sy
                      first
                        | exact ih (sFs S x).toNat (sFs S y).toNat (l + 1) _ (by omega) (by omega) (by omega) (by omega) (by rw [← hEq, abv_fst (by omega) ho9 (by omega) hnx hny (by omega) hfe (by omega)]) hl0 (by show some (Value.int (zI (fs x))) = _; rw [mx2, show (((sFs S x).toNat : Nat) : Int) = sFs S x by omega]) (by show some (Value.int (zI (fs y))) = _; rw [my2, show (((sFs S y).toNat : Nat) : Int) = sFs S y by omega]) rfl
                        | exact ih (sSn S x).toNat (sSn S y).toNat (l + 1) _ (by omega) (by omega) (by omega) (by omega) (by rw [← hEq, abv_snd (by omega) ho9 (by omega) hnx hny (by omega) hfe (by omega)]) hl0 (by show some (Value.int (zI (sn x))) = _; rw [mx3, show (((sSn S x).toNat : Nat) : Int) = sSn S x by omega]) (by show some (Value.int (zI (sn y))) = _; rw [my3, show (((sSn S y).toNat : Nat) : Int) = sSn S y by omega]) rfl
                  · skip
                    refine xr_aload_n C 0 d_Tr_isAbove_151 rfl hl0 ?_
                    refine xr_get (k := 1) C xg_Tr_9 hw1 (by decide) rfl d_Tr_isAbove_152 ?_
                    refine xr_iload_n C 3 d_Tr_isAbove_155 rfl hl3 ?_
                    refine xj_iald (k := 2) C (x) (by omega) hw2 (by decide) (by omega) (by decide) d_Tr_isAbove_156 ?_
                    refine xr_aload_n C 0 d_Tr_isAbove_157 rfl hl0 ?_
                    refine xr_get (k := 1) C xg_Tr_9 hw1 (by decide) rfl d_Tr_isAbove_158 ?_
                    refine xr_iload C d_Tr_isAbove_161 hl4 ?_
                    refine xj_iald (k := 2) C (y) (by omega) hw2 (by decide) (by omega) (by decide) d_Tr_isAbove_163 ?_
                    refine xz_icmp_le (tgt := 171) C d_Tr_isAbove_164 (by decide) (by omega) (by omega) (fun c164 => ?_) (fun c164 => ?_)
                    · skip
                      refine xr_iconst C d_Tr_isAbove_171 ?_
                      exact xr_zret C E (by omega) ⟨rfl, rfl, rfl, by rw [← hEq, abv_head (by omega) ho9 (by omega) hnx hny (by omega)]; first | exact xb_v1 (by omega) | exact xb_v0 (by omega)⟩ (by decide) (by decide) d_Tr_isAbove_172
                    · skip
                      refine xr_iconst C d_Tr_isAbove_167 ?_
                      refine xr_goto (tgt := 172) C d_Tr_isAbove_168 (by decide) ?_
                      exact xr_zret C E (by omega) ⟨rfl, rfl, rfl, by rw [← hEq, abv_head (by omega) ho9 (by omega) hnx hny (by omega)]; first | exact xb_v1 (by omega) | exact xb_v0 (by omega)⟩ (by decide) (by decide) d_Tr_isAbove_172
                · skip
                  have n85 : ¬ (0 ≤ (y : Int) ∧ 0 ≤ mk (y : Int).toNat ∧ mk (y : Int).toNat < 12) := of_decide_eq_false c85
                  rw [show ((y : Int)).toNat = y by omega] at n85
                  refine xr_aload_n C 0 d_Tr_isAbove_88 rfl hl0 ?_
                  refine xr_iload C d_Tr_isAbove_89 hl4 ?_
                  refine xr_callV (k9 := 1) C (m_Tr_isLeaf hw1 hw2 (fun j => (hC.2.2.1 j).1) (x := (y : Int)) (by omega)) xm_Tr_88 x2_Tr_isLeaf hw1 (by decide) rfl (by decide) (by decide) (Nat.le_of_ble_eq_true rfl) rfl d_Tr_isAbove_91 (fun En n9 ad9 w9 hx9 => hx9.elim) (fun v n9 ad9 w9 hp => ?_)
                  obtain ⟨rfl, rfl, rfl, rfl⟩ := hp
                  show XW _ _ _ _ _ _ 94 _ (_ :: _)
                  refine xb_if_eq (tgt := 133) C d_Tr_isAbove_94 (by decide)  (fun c94 => ?_) (fun c94 => ?_)
                  · skip
                    have n94 : ¬ (0 ≤ (y : Int) ∧ mk (y : Int).toNat < 0) := of_decide_eq_false c94
                    rw [show ((y : Int)).toNat = y by omega] at n94
                    refine xr_iconst C d_Tr_isAbove_133 ?_
                    have hux := um_eq sx
                    have huy := um_eq sy
                    exact xr_zret C E (by omega) ⟨rfl, rfl, rfl, by
                      rw [← hEq]
                      by_cases hh : 200 ≤ sSg S x ∨ 200 ≤ sSg S y
                      · rw [abv_hole (by omega) ho9 (by omega) hh]
                        first | rfl | (exfalso; unfold shp at sx sy; omega)
                      · rw [abv_leaf (by omega) ho9 (by omega) hh (by unfold shp at sx sy; omega)]
                        unfold shp at sx sy
                        first | exact xb_v1 (by omega) | exact xb_v0 (by omega)⟩ (by decide) (by decide) d_Tr_isAbove_134
                  · skip
                    have n94 : (0 ≤ (y : Int) ∧ mk (y : Int).toNat < 0) := of_decide_eq_true c94
                    rw [show ((y : Int)).toNat = y by omega] at n94
                    refine xr_aload_n C 0 d_Tr_isAbove_97 rfl hl0 ?_
                    refine xr_iload_n C 3 d_Tr_isAbove_98 rfl hl3 ?_
                    refine xr_callV (k9 := 1) C (m_Tr_isNode hw1 hw2 (fun j => (hC.2.2.1 j).1) (x := (x : Int)) (by omega)) xm_Tr_80 x2_Tr_isNode hw1 (by decide) rfl (by decide) (by decide) (Nat.le_of_ble_eq_true rfl) rfl d_Tr_isAbove_99 (fun En n9 ad9 w9 hx9 => hx9.elim) (fun v n9 ad9 w9 hp => ?_)
                    obtain ⟨rfl, rfl, rfl, rfl⟩ := hp
                    show XW _ _ _ _ _ _ 102 _ (_ :: _)
                    refine xb_if_ne (tgt := 129) C d_Tr_isAbove_102 (by decide)  (fun c102 => ?_) (fun c102 => ?_)
                    · skip
                      have n102 : (0 ≤ (x : Int) ∧ 0 ≤ mk (x : Int).toNat ∧ mk (x : Int).toNat < 12) := of_decide_eq_true c102
                      rw [show ((x : Int)).toNat = x by omega] at n102
                      refine xr_iconst C d_Tr_isAbove_129 ?_
                      refine xr_goto (tgt := 134) C d_Tr_isAbove_130 (by decide) ?_
                      have hux := um_eq sx
                      have huy := um_eq sy
                      exact xr_zret C E (by omega) ⟨rfl, rfl, rfl, by
                        rw [← hEq]
                        by_cases hh : 200 ≤ sSg S x ∨ 200 ≤ sSg S y
                        · rw [abv_hole (by omega) ho9 (by omega) hh]
                          first | rfl | (exfalso; unfold shp at sx sy; omega)
                        · rw [abv_leaf (by omega) ho9 (by omega) hh (by unfold shp at sx sy; omega)]
                          unfold shp at sx sy
                          first | exact xb_v1 (by omega) | exact xb_v0 (by omega)⟩ (by decide) (by decide) d_Tr_isAbove_134
                    · skip
                      have n102 : ¬ (0 ≤ (x : Int) ∧ 0 ≤ mk (x : Int).toNat ∧ mk (x : Int).toNat < 12) := of_decide_eq_false c102
                      rw [show ((x : Int)).toNat = x by omega] at n102
                      refine xr_aload_n C 0 d_Tr_isAbove_105 rfl hl0 ?_
                      refine xr_iload_n C 3 d_Tr_isAbove_106 rfl hl3 ?_
                      refine xr_callV (k9 := 1) C (m_Tr_isLeaf hw1 hw2 (fun j => (hC.2.2.1 j).1) (x := (x : Int)) (by omega)) xm_Tr_88 x2_Tr_isLeaf hw1 (by decide) rfl (by decide) (by decide) (Nat.le_of_ble_eq_true rfl) rfl d_Tr_isAbove_107 (fun En n9 ad9 w9 hx9 => hx9.elim) (fun v n9 ad9 w9 hp => ?_)
                      obtain ⟨rfl, rfl, rfl, rfl⟩ := hp
                      show XW _ _ _ _ _ _ 110 _ (_ :: _)
                      refine xb_if_eq (tgt := 133) C d_Tr_isAbove_110 (by decide)  (fun c110 => ?_) (fun c110 => ?_)
                      · skip
                        have n110 : ¬ (0 ≤ (x : Int) ∧ mk (x : Int).toNat < 0) := of_decide_eq_false c110
                        rw [show ((x : Int)).toNat = x by omega] at n110
                        refine xr_iconst C d_Tr_isAbove_133 ?_
                        have hux := um_eq sx
                        have huy := um_eq sy
                        exact xr_zret C E (by omega) ⟨rfl, rfl, rfl, by
                          rw [← hEq]
                          by_cases hh : 200 ≤ sSg S x ∨ 200 ≤ sSg S y
                          · rw [abv_hole (by omega) ho9 (by omega) hh]
                            first | rfl | (exfalso; unfold shp at sx sy; omega)
                          · rw [abv_leaf (by omega) ho9 (by omega) hh (by unfold shp at sx sy; omega)]
                            unfold shp at sx sy
                            first | exact xb_v1 (by omega) | exact xb_v0 (by omega)⟩ (by decide) (by decide) d_Tr_isAbove_134
                      · skip
                        have n110 : (0 ≤ (x : Int) ∧ mk (x : Int).toNat < 0) := of_decide_eq_true c110
                        rw [show ((x : Int)).toNat = x by omega] at n110
                        refine xr_aload_n C 0 d_Tr_isAbove_113 rfl hl0 ?_
                        refine xr_get (k := 1) C xg_Tr_9 hw1 (by decide) rfl d_Tr_isAbove_114 ?_
                        refine xr_iload_n C 3 d_Tr_isAbove_117 rfl hl3 ?_
                        refine xj_iald (k := 2) C (x) (by omega) hw2 (by decide) (by omega) (by decide) d_Tr_isAbove_118 ?_
                        refine xr_aload_n C 0 d_Tr_isAbove_119 rfl hl0 ?_
                        refine xr_get (k := 1) C xg_Tr_9 hw1 (by decide) rfl d_Tr_isAbove_120 ?_
                        refine xr_iload C d_Tr_isAbove_123 hl4 ?_
                        refine xj_iald (k := 2) C (y) (by omega) hw2 (by decide) (by omega) (by decide) d_Tr_isAbove_125 ?_
                        refine xz_icmp_ge (tgt := 133) C d_Tr_isAbove_126 (by decide) (by omega) (by omega) (fun c126 => ?_) (fun c126 => ?_)
                        · skip
                          refine xr_iconst C d_Tr_isAbove_133 ?_
                          have hux := um_eq sx
                          have huy := um_eq sy
                          exact xr_zret C E (by omega) ⟨rfl, rfl, rfl, by
                            rw [← hEq]
                            by_cases hh : 200 ≤ sSg S x ∨ 200 ≤ sSg S y
                            · rw [abv_hole (by omega) ho9 (by omega) hh]
                              first | rfl | (exfalso; unfold shp at sx sy; omega)
                            · rw [abv_leaf (by omega) ho9 (by omega) hh (by unfold shp at sx sy; omega)]
                              unfold shp at sx sy
                              first | exact xb_v1 (by omega) | exact xb_v0 (by omega)⟩ (by decide) (by decide) d_Tr_isAbove_134
                        · skip
                          refine xr_iconst C d_Tr_isAbove_129 ?_
                          refine xr_goto (tgt := 134) C d_Tr_isAbove_130 (by decide) ?_
                          have hux := um_eq sx
                          have huy := um_eq sy
                          exact xr_zret C E (by omega) ⟨rfl, rfl, rfl, by
                            rw [← hEq]
                            by_cases hh : 200 ≤ sSg S x ∨ 200 ≤ sSg S y
                            · rw [abv_hole (by omega) ho9 (by omega) hh]
                              first | rfl | (exfalso; unfold shp at sx sy; omega)
                            · rw [abv_leaf (by omega) ho9 (by omega) hh (by unfold shp at sx sy; omega)]
                              unfold shp at sx sy
                              first | exact xb_v1 (by omega) | exact xb_v0 (by omega)⟩ (by decide) (by decide) d_Tr_isAbove_134
            · skip
              refine xr_aload_n C 0 d_Tr_isAbove_49 rfl hl0 ?_
              refine xr_get (k := 1) C xg_Tr_21 hw1 (by decide) rfl d_Tr_isAbove_50 ?_
              refine xr_iload_n C 3 d_Tr_isAbove_53 rfl hl3 ?_
              refine xj_iald (k := 5) C (x) (by omega) hw5 (by decide) (by omega) (by decide) d_Tr_isAbove_54 ?_
              refine xr_aload_n C 0 d_Tr_isAbove_55 rfl hl0 ?_
              refine xr_get (k := 1) C xg_Tr_21 hw1 (by decide) rfl d_Tr_isAbove_56 ?_
              refine xr_iload C d_Tr_isAbove_59 hl4 ?_
              refine xj_iald (k := 5) C (y) (by omega) hw5 (by decide) (by omega) (by decide) d_Tr_isAbove_61 ?_
              refine xz_icmp_le (tgt := 69) C d_Tr_isAbove_62 (by decide) (by omega) (by omega) (fun c62 => ?_) (fun c62 => ?_)
              · skip
                refine xr_iconst C d_Tr_isAbove_69 ?_
                exact xr_zret C E (by omega) ⟨rfl, rfl, rfl, by rw [← hEq, abv_wt (by omega) ho9 (by omega)]; first | exact xb_v1 (by omega) | exact xb_v0 (by omega)⟩ (by decide) (by decide) d_Tr_isAbove_70
              · skip
                refine xr_iconst C d_Tr_isAbove_65 ?_
                refine xr_goto (tgt := 70) C d_Tr_isAbove_66 (by decide) ?_
                exact xr_zret C E (by omega) ⟨rfl, rfl, rfl, by rw [← hEq, abv_wt (by omega) ho9 (by omega)]; first | exact xb_v1 (by omega) | exact xb_v0 (by omega)⟩ (by decide) (by decide) d_Tr_isAbove_70
          · skip
            have ho9 : hoS S x y = false := by rw [← hoS_hc hC.2.1 (by omega) (by omega)]; exact c28
            refine xr_iconst C d_Tr_isAbove_31 ?_
            exact xr_zret C E (by omega) ⟨rfl, rfl, rfl, by rw [← hEq, abv_ho (by omega) ho9]; rfl⟩ (by decide) (by decide) d_Tr_isAbove_32
  refine xr_iload_n C 1 d_Tr_isAbove_0 rfl rfl ?_
  refine xr_istore_n C 3 d_Tr_isAbove_1 rfl (by decide) ?_
  refine xr_iload_n C 2 d_Tr_isAbove_2 rfl rfl ?_
  refine xr_istore C d_Tr_isAbove_3 (by decide) ?_
  refine xr_iconst C d_Tr_isAbove_5 ?_
  refine xr_istore C d_Tr_isAbove_6 (by decide) ?_
  exact lp (x0 + 1) x0 y0 0 _ (by omega) hx hy (by have := (hT.2.1 x0 hx).2.2.2.2.2; omega) rfl rfl rfl rfl rfl
end
