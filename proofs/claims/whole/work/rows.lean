section
-- ===== PART A: goes FIRST, ahead of the names: the tables' words, and 'selects' of the private methods out of them =====
/-- a private method of a class that the tables say can be made, by its rows of tables_1 -/
def lw_okq (q : MethodName × Nat) : Prop := (q.1.cls ≠ "java/lang/invoke/MethodHandle" ∧ q.1.cls ≠ "java/lang/invoke/VarHandle") ∧ Cond.instantiable q.1.cls q.2 ∈ tables_1 ∧ Cond.privateMethod q.1 ∈ tables_1 ∧ Cond.instanceMethod q.1 ∈ tables_1
theorem lw_p0 : lw_okq (⟨"java/lang/Throwable", "fillInStackTrace", "(I)Ljava/lang/Throwable;"⟩, 6) := ⟨⟨by decide +kernel, by decide +kernel⟩, List.mem_of_getElem? (i := 268) (by decide +kernel), List.mem_of_getElem? (i := 266) (by decide +kernel), List.mem_of_getElem? (i := 267) (by decide +kernel)⟩
theorem lw_p1 : lw_okq (⟨"RuleSteps$Trees", "slotOf", "(III)I"⟩, 11) := ⟨⟨by decide +kernel, by decide +kernel⟩, List.mem_of_getElem? (i := 24) (by decide +kernel), List.mem_of_getElem? (i := 302) (by decide +kernel), List.mem_of_getElem? (i := 303) (by decide +kernel)⟩
theorem lw_p2 : lw_okq (⟨"RuleSteps$Trees", "enter", "(III)I"⟩, 11) := ⟨⟨by decide +kernel, by decide +kernel⟩, List.mem_of_getElem? (i := 24) (by decide +kernel), List.mem_of_getElem? (i := 306) (by decide +kernel), List.mem_of_getElem? (i := 307) (by decide +kernel)⟩
theorem lw_p3 : lw_okq (⟨"RuleSteps$Trees", "ownWeight", "(I)I"⟩, 11) := ⟨⟨by decide +kernel, by decide +kernel⟩, List.mem_of_getElem? (i := 24) (by decide +kernel), List.mem_of_getElem? (i := 310) (by decide +kernel), List.mem_of_getElem? (i := 311) (by decide +kernel)⟩
theorem lw_p4 : lw_okq (⟨"RuleSteps$Trees", "valueOf", "([III)I"⟩, 11) := ⟨⟨by decide +kernel, by decide +kernel⟩, List.mem_of_getElem? (i := 24) (by decide +kernel), List.mem_of_getElem? (i := 314) (by decide +kernel), List.mem_of_getElem? (i := 315) (by decide +kernel)⟩
theorem lw_p5 : lw_okq (⟨"RuleSteps$Trees", "noteHoles", "(I)V"⟩, 11) := ⟨⟨by decide +kernel, by decide +kernel⟩, List.mem_of_getElem? (i := 24) (by decide +kernel), List.mem_of_getElem? (i := 321) (by decide +kernel), List.mem_of_getElem? (i := 322) (by decide +kernel)⟩
theorem lw_p6 : lw_okq (⟨"RuleSteps$Trees", "holeCount", "(II)I"⟩, 11) := ⟨⟨by decide +kernel, by decide +kernel⟩, List.mem_of_getElem? (i := 24) (by decide +kernel), List.mem_of_getElem? (i := 325) (by decide +kernel), List.mem_of_getElem? (i := 326) (by decide +kernel)⟩
theorem lw_p7 : lw_okq (⟨"RuleSteps", "needTree", "(I)V"⟩, 7) := ⟨⟨by decide +kernel, by decide +kernel⟩, List.mem_of_getElem? (i := 16) (by decide +kernel), List.mem_of_getElem? (i := 364) (by decide +kernel), List.mem_of_getElem? (i := 365) (by decide +kernel)⟩
theorem lw_p8 : lw_okq (⟨"RuleSteps$Trees", "hasHolesOf", "(II)Z"⟩, 11) := ⟨⟨by decide +kernel, by decide +kernel⟩, List.mem_of_getElem? (i := 24) (by decide +kernel), List.mem_of_getElem? (i := 402) (by decide +kernel), List.mem_of_getElem? (i := 403) (by decide +kernel)⟩
theorem lw_p9 : lw_okq (⟨"RuleSteps", "needRule", "(I)V"⟩, 7) := ⟨⟨by decide +kernel, by decide +kernel⟩, List.mem_of_getElem? (i := 16) (by decide +kernel), List.mem_of_getElem? (i := 430) (by decide +kernel), List.mem_of_getElem? (i := 431) (by decide +kernel)⟩
theorem lw_p10 : lw_okq (⟨"RuleSteps", "needPlain", "(I)V"⟩, 7) := ⟨⟨by decide +kernel, by decide +kernel⟩, List.mem_of_getElem? (i := 16) (by decide +kernel), List.mem_of_getElem? (i := 442) (by decide +kernel), List.mem_of_getElem? (i := 443) (by decide +kernel)⟩
theorem lw_p11 : lw_okq (⟨"RuleSteps$Runner", "begin", "(Z)V"⟩, 12) := ⟨⟨by decide +kernel, by decide +kernel⟩, List.mem_of_getElem? (i := 119) (by decide +kernel), List.mem_of_getElem? (i := 452) (by decide +kernel), List.mem_of_getElem? (i := 453) (by decide +kernel)⟩
theorem lw_p12 : lw_okq (⟨"RuleSteps$Runner", "canStep", "(I)Z"⟩, 12) := ⟨⟨by decide +kernel, by decide +kernel⟩, List.mem_of_getElem? (i := 119) (by decide +kernel), List.mem_of_getElem? (i := 461) (by decide +kernel), List.mem_of_getElem? (i := 462) (by decide +kernel)⟩
theorem lw_p13 : lw_okq (⟨"RuleSteps$Runner", "lowestRule", "(I)I"⟩, 12) := ⟨⟨by decide +kernel, by decide +kernel⟩, List.mem_of_getElem? (i := 119) (by decide +kernel), List.mem_of_getElem? (i := 465) (by decide +kernel), List.mem_of_getElem? (i := 466) (by decide +kernel)⟩
theorem lw_p14 : lw_okq (⟨"RuleSteps$Runner", "matches", "(II)Z"⟩, 12) := ⟨⟨by decide +kernel, by decide +kernel⟩, List.mem_of_getElem? (i := 119) (by decide +kernel), List.mem_of_getElem? (i := 469) (by decide +kernel), List.mem_of_getElem? (i := 470) (by decide +kernel)⟩
theorem lw_p15 : lw_okq (⟨"RuleSteps$Runner", "fits", "(II)Z"⟩, 12) := ⟨⟨by decide +kernel, by decide +kernel⟩, List.mem_of_getElem? (i := 119) (by decide +kernel), List.mem_of_getElem? (i := 473) (by decide +kernel), List.mem_of_getElem? (i := 474) (by decide +kernel)⟩
def lw_privs_1 : List (MethodName × Nat) := [(⟨"java/lang/Throwable", "fillInStackTrace", "(I)Ljava/lang/Throwable;"⟩, 6), (⟨"RuleSteps$Trees", "slotOf", "(III)I"⟩, 11), (⟨"RuleSteps$Trees", "enter", "(III)I"⟩, 11), (⟨"RuleSteps$Trees", "ownWeight", "(I)I"⟩, 11), (⟨"RuleSteps$Trees", "valueOf", "([III)I"⟩, 11), (⟨"RuleSteps$Trees", "noteHoles", "(I)V"⟩, 11), (⟨"RuleSteps$Trees", "holeCount", "(II)I"⟩, 11), (⟨"RuleSteps", "needTree", "(I)V"⟩, 7), (⟨"RuleSteps$Trees", "hasHolesOf", "(II)Z"⟩, 11), (⟨"RuleSteps", "needRule", "(I)V"⟩, 7), (⟨"RuleSteps", "needPlain", "(I)V"⟩, 7), (⟨"RuleSteps$Runner", "begin", "(Z)V"⟩, 12), (⟨"RuleSteps$Runner", "canStep", "(I)Z"⟩, 12), (⟨"RuleSteps$Runner", "lowestRule", "(I)I"⟩, 12), (⟨"RuleSteps$Runner", "matches", "(II)Z"⟩, 12), (⟨"RuleSteps$Runner", "fits", "(II)Z"⟩, 12)]
theorem lw_r1 : ∀ q ∈ lw_privs_1, lw_okq q := List.forall_mem_cons.mpr ⟨lw_p0, List.forall_mem_cons.mpr ⟨lw_p1, List.forall_mem_cons.mpr ⟨lw_p2, List.forall_mem_cons.mpr ⟨lw_p3, List.forall_mem_cons.mpr ⟨lw_p4, List.forall_mem_cons.mpr ⟨lw_p5, List.forall_mem_cons.mpr ⟨lw_p6, List.forall_mem_cons.mpr ⟨lw_p7, List.forall_mem_cons.mpr ⟨lw_p8, List.forall_mem_cons.mpr ⟨lw_p9, List.forall_mem_cons.mpr ⟨lw_p10, List.forall_mem_cons.mpr ⟨lw_p11, List.forall_mem_cons.mpr ⟨lw_p12, List.forall_mem_cons.mpr ⟨lw_p13, List.forall_mem_cons.mpr ⟨lw_p14, List.forall_mem_cons.mpr ⟨lw_p15, fun _ h => absurd h List.not_mem_nil⟩⟩⟩⟩⟩⟩⟩⟩⟩⟩⟩⟩⟩⟩⟩⟩
theorem lw_p16 : lw_okq (⟨"RuleSteps$Runner", "bind", "(II)Z"⟩, 12) := ⟨⟨by decide +kernel, by decide +kernel⟩, List.mem_of_getElem? (i := 119) (by decide +kernel), List.mem_of_getElem? (i := 477) (by decide +kernel), List.mem_of_getElem? (i := 478) (by decide +kernel)⟩
theorem lw_p17 : lw_okq (⟨"RuleSteps$Runner", "step", "(I)I"⟩, 12) := ⟨⟨by decide +kernel, by decide +kernel⟩, List.mem_of_getElem? (i := 119) (by decide +kernel), List.mem_of_getElem? (i := 481) (by decide +kernel), List.mem_of_getElem? (i := 482) (by decide +kernel)⟩
theorem lw_p18 : lw_okq (⟨"RuleSteps$Runner", "seek", "(I)V"⟩, 12) := ⟨⟨by decide +kernel, by decide +kernel⟩, List.mem_of_getElem? (i := 119) (by decide +kernel), List.mem_of_getElem? (i := 485) (by decide +kernel), List.mem_of_getElem? (i := 486) (by decide +kernel)⟩
theorem lw_p19 : lw_okq (⟨"RuleSteps$Runner", "filled", "(I)I"⟩, 12) := ⟨⟨by decide +kernel, by decide +kernel⟩, List.mem_of_getElem? (i := 119) (by decide +kernel), List.mem_of_getElem? (i := 489) (by decide +kernel), List.mem_of_getElem? (i := 490) (by decide +kernel)⟩
theorem lw_p20 : lw_okq (⟨"RuleSteps", "needRun", "(II)I"⟩, 7) := ⟨⟨by decide +kernel, by decide +kernel⟩, List.mem_of_getElem? (i := 16) (by decide +kernel), List.mem_of_getElem? (i := 498) (by decide +kernel), List.mem_of_getElem? (i := 499) (by decide +kernel)⟩
theorem lw_p21 : lw_okq (⟨"RuleSteps", "keepRun", "()V"⟩, 7) := ⟨⟨by decide +kernel, by decide +kernel⟩, List.mem_of_getElem? (i := 16) (by decide +kernel), List.mem_of_getElem? (i := 506) (by decide +kernel), List.mem_of_getElem? (i := 507) (by decide +kernel)⟩
theorem lw_p22 : lw_okq (⟨"RuleStepsModel", "ask", "(IIII)I"⟩, 35) := ⟨⟨by decide +kernel, by decide +kernel⟩, List.mem_of_getElem? (i := 581) (by decide +kernel), List.mem_of_getElem? (i := 701) (by decide +kernel), List.mem_of_getElem? (i := 702) (by decide +kernel)⟩
theorem lw_p23 : lw_okq (⟨"RuleStepsModel", "tree", "(III)I"⟩, 35) := ⟨⟨by decide +kernel, by decide +kernel⟩, List.mem_of_getElem? (i := 581) (by decide +kernel), List.mem_of_getElem? (i := 705) (by decide +kernel), List.mem_of_getElem? (i := 706) (by decide +kernel)⟩
theorem lw_p24 : lw_okq (⟨"RuleStepsModel", "isTree", "(I)Z"⟩, 35) := ⟨⟨by decide +kernel, by decide +kernel⟩, List.mem_of_getElem? (i := 581) (by decide +kernel), List.mem_of_getElem? (i := 720) (by decide +kernel), List.mem_of_getElem? (i := 721) (by decide +kernel)⟩
theorem lw_p25 : lw_okq (⟨"RuleStepsModel", "isRule", "(I)Z"⟩, 35) := ⟨⟨by decide +kernel, by decide +kernel⟩, List.mem_of_getElem? (i := 581) (by decide +kernel), List.mem_of_getElem? (i := 736) (by decide +kernel), List.mem_of_getElem? (i := 737) (by decide +kernel)⟩
theorem lw_p26 : lw_okq (⟨"RuleStepsModel", "may", "(I)Z"⟩, 35) := ⟨⟨by decide +kernel, by decide +kernel⟩, List.mem_of_getElem? (i := 581) (by decide +kernel), List.mem_of_getElem? (i := 744) (by decide +kernel), List.mem_of_getElem? (i := 745) (by decide +kernel)⟩
theorem lw_p27 : lw_okq (⟨"RuleStepsModel", "isAbove", "(II)Z"⟩, 35) := ⟨⟨by decide +kernel, by decide +kernel⟩, List.mem_of_getElem? (i := 581) (by decide +kernel), List.mem_of_getElem? (i := 752) (by decide +kernel), List.mem_of_getElem? (i := 753) (by decide +kernel)⟩
theorem lw_p28 : lw_okq (⟨"RuleStepsModel", "holesAllow", "(II)Z"⟩, 35) := ⟨⟨by decide +kernel, by decide +kernel⟩, List.mem_of_getElem? (i := 581) (by decide +kernel), List.mem_of_getElem? (i := 756) (by decide +kernel), List.mem_of_getElem? (i := 757) (by decide +kernel)⟩
theorem lw_p29 : lw_okq (⟨"RuleStepsModel", "countHoles", "(I[I)V"⟩, 35) := ⟨⟨by decide +kernel, by decide +kernel⟩, List.mem_of_getElem? (i := 581) (by decide +kernel), List.mem_of_getElem? (i := 760) (by decide +kernel), List.mem_of_getElem? (i := 761) (by decide +kernel)⟩
theorem lw_p30 : lw_okq (⟨"RuleStepsModel", "lay", "(I[IZ)I"⟩, 35) := ⟨⟨by decide +kernel, by decide +kernel⟩, List.mem_of_getElem? (i := 581) (by decide +kernel), List.mem_of_getElem? (i := 764) (by decide +kernel), List.mem_of_getElem? (i := 765) (by decide +kernel)⟩
theorem lw_p31 : lw_okq (⟨"RuleStepsModel", "findAround", "(I)V"⟩, 35) := ⟨⟨by decide +kernel, by decide +kernel⟩, List.mem_of_getElem? (i := 581) (by decide +kernel), List.mem_of_getElem? (i := 768) (by decide +kernel), List.mem_of_getElem? (i := 769) (by decide +kernel)⟩
def lw_privs_2 : List (MethodName × Nat) := [(⟨"RuleSteps$Runner", "bind", "(II)Z"⟩, 12), (⟨"RuleSteps$Runner", "step", "(I)I"⟩, 12), (⟨"RuleSteps$Runner", "seek", "(I)V"⟩, 12), (⟨"RuleSteps$Runner", "filled", "(I)I"⟩, 12), (⟨"RuleSteps", "needRun", "(II)I"⟩, 7), (⟨"RuleSteps", "keepRun", "()V"⟩, 7), (⟨"RuleStepsModel", "ask", "(IIII)I"⟩, 35), (⟨"RuleStepsModel", "tree", "(III)I"⟩, 35), (⟨"RuleStepsModel", "isTree", "(I)Z"⟩, 35), (⟨"RuleStepsModel", "isRule", "(I)Z"⟩, 35), (⟨"RuleStepsModel", "may", "(I)Z"⟩, 35), (⟨"RuleStepsModel", "isAbove", "(II)Z"⟩, 35), (⟨"RuleStepsModel", "holesAllow", "(II)Z"⟩, 35), (⟨"RuleStepsModel", "countHoles", "(I[I)V"⟩, 35), (⟨"RuleStepsModel", "lay", "(I[IZ)I"⟩, 35), (⟨"RuleStepsModel", "findAround", "(I)V"⟩, 35)]
theorem lw_r2 : ∀ q ∈ lw_privs_2, lw_okq q := List.forall_mem_cons.mpr ⟨lw_p16, List.forall_mem_cons.mpr ⟨lw_p17, List.forall_mem_cons.mpr ⟨lw_p18, List.forall_mem_cons.mpr ⟨lw_p19, List.forall_mem_cons.mpr ⟨lw_p20, List.forall_mem_cons.mpr ⟨lw_p21, List.forall_mem_cons.mpr ⟨lw_p22, List.forall_mem_cons.mpr ⟨lw_p23, List.forall_mem_cons.mpr ⟨lw_p24, List.forall_mem_cons.mpr ⟨lw_p25, List.forall_mem_cons.mpr ⟨lw_p26, List.forall_mem_cons.mpr ⟨lw_p27, List.forall_mem_cons.mpr ⟨lw_p28, List.forall_mem_cons.mpr ⟨lw_p29, List.forall_mem_cons.mpr ⟨lw_p30, List.forall_mem_cons.mpr ⟨lw_p31, fun _ h => absurd h List.not_mem_nil⟩⟩⟩⟩⟩⟩⟩⟩⟩⟩⟩⟩⟩⟩⟩⟩
theorem lw_p32 : lw_okq (⟨"RuleStepsModel", "lookForRules", "(Z)V"⟩, 35) := ⟨⟨by decide +kernel, by decide +kernel⟩, List.mem_of_getElem? (i := 581) (by decide +kernel), List.mem_of_getElem? (i := 776) (by decide +kernel), List.mem_of_getElem? (i := 777) (by decide +kernel)⟩
theorem lw_p33 : lw_okq (⟨"RuleStepsModel", "go", "(II)I"⟩, 35) := ⟨⟨by decide +kernel, by decide +kernel⟩, List.mem_of_getElem? (i := 581) (by decide +kernel), List.mem_of_getElem? (i := 780) (by decide +kernel), List.mem_of_getElem? (i := 781) (by decide +kernel)⟩
theorem lw_p34 : lw_okq (⟨"RuleStepsModel", "placeOf", "(I)I"⟩, 35) := ⟨⟨by decide +kernel, by decide +kernel⟩, List.mem_of_getElem? (i := 581) (by decide +kernel), List.mem_of_getElem? (i := 784) (by decide +kernel), List.mem_of_getElem? (i := 785) (by decide +kernel)⟩
theorem lw_p35 : lw_okq (⟨"RuleStepsModel", "ruleAt", "(I)I"⟩, 35) := ⟨⟨by decide +kernel, by decide +kernel⟩, List.mem_of_getElem? (i := 581) (by decide +kernel), List.mem_of_getElem? (i := 788) (by decide +kernel), List.mem_of_getElem? (i := 789) (by decide +kernel)⟩
theorem lw_p36 : lw_okq (⟨"RuleStepsModel", "matches", "(II)Z"⟩, 35) := ⟨⟨by decide +kernel, by decide +kernel⟩, List.mem_of_getElem? (i := 581) (by decide +kernel), List.mem_of_getElem? (i := 792) (by decide +kernel), List.mem_of_getElem? (i := 793) (by decide +kernel)⟩
theorem lw_p37 : lw_okq (⟨"RuleStepsModel", "build", "(I)I"⟩, 35) := ⟨⟨by decide +kernel, by decide +kernel⟩, List.mem_of_getElem? (i := 581) (by decide +kernel), List.mem_of_getElem? (i := 796) (by decide +kernel), List.mem_of_getElem? (i := 797) (by decide +kernel)⟩
theorem lw_p38 : lw_okq (⟨"RuleStepsModel", "replace", "(II)I"⟩, 35) := ⟨⟨by decide +kernel, by decide +kernel⟩, List.mem_of_getElem? (i := 581) (by decide +kernel), List.mem_of_getElem? (i := 800) (by decide +kernel), List.mem_of_getElem? (i := 801) (by decide +kernel)⟩
theorem lw_p39 : lw_okq (⟨"RuleStepsModel", "keep", "(IIII)V"⟩, 35) := ⟨⟨by decide +kernel, by decide +kernel⟩, List.mem_of_getElem? (i := 581) (by decide +kernel), List.mem_of_getElem? (i := 804) (by decide +kernel), List.mem_of_getElem? (i := 805) (by decide +kernel)⟩
theorem lw_p40 : lw_okq (⟨"RuleStepsModel", "take", "()V"⟩, 35) := ⟨⟨by decide +kernel, by decide +kernel⟩, List.mem_of_getElem? (i := 581) (by decide +kernel), List.mem_of_getElem? (i := 808) (by decide +kernel), List.mem_of_getElem? (i := 809) (by decide +kernel)⟩
def lw_privs_3 : List (MethodName × Nat) := [(⟨"RuleStepsModel", "lookForRules", "(Z)V"⟩, 35), (⟨"RuleStepsModel", "go", "(II)I"⟩, 35), (⟨"RuleStepsModel", "placeOf", "(I)I"⟩, 35), (⟨"RuleStepsModel", "ruleAt", "(I)I"⟩, 35), (⟨"RuleStepsModel", "matches", "(II)Z"⟩, 35), (⟨"RuleStepsModel", "build", "(I)I"⟩, 35), (⟨"RuleStepsModel", "replace", "(II)I"⟩, 35), (⟨"RuleStepsModel", "keep", "(IIII)V"⟩, 35), (⟨"RuleStepsModel", "take", "()V"⟩, 35)]
theorem lw_r3 : ∀ q ∈ lw_privs_3, lw_okq q := List.forall_mem_cons.mpr ⟨lw_p32, List.forall_mem_cons.mpr ⟨lw_p33, List.forall_mem_cons.mpr ⟨lw_p34, List.forall_mem_cons.mpr ⟨lw_p35, List.forall_mem_cons.mpr ⟨lw_p36, List.forall_mem_cons.mpr ⟨lw_p37, List.forall_mem_cons.mpr ⟨lw_p38, List.forall_mem_cons.mpr ⟨lw_p39, List.forall_mem_cons.mpr ⟨lw_p40, fun _ h => absurd h List.not_mem_nil⟩⟩⟩⟩⟩⟩⟩⟩⟩
def lw_privs : List (MethodName × Nat) := lw_privs_1 ++ (lw_privs_2 ++ (lw_privs_3))
def lw_tbl : List Cond := k2_sels lw_privs ++ tables_1
theorem lw_privs_ok : ∀ q ∈ lw_privs, lw_okq q := by
  show ∀ q ∈ lw_privs_1 ++ (lw_privs_2 ++ (lw_privs_3)), lw_okq q
  exact List.forall_mem_append.mpr ⟨lw_r1, List.forall_mem_append.mpr ⟨lw_r2, lw_r3⟩⟩
-- ===== end of PART A; then your names; then what follows =====
/-! ===== BEGIN words of one list among another's, by their places ===== -/
theorem goodIn_r {big : List Cond} (ws : List Cond) (ps : List Nat) (hp : ws = ps.filterMap (fun i => big[i]?)) (h : ws.all goodWord = true) : GoodIn big ws := by
  intro w hw
  have h1 := List.all_eq_true.mp h w hw
  rw [hp] at hw
  obtain ⟨i, -, hi⟩ := List.mem_filterMap.mp hw
  have hm : w ∈ big := by first | exact List.mem_of_getElem? hi | exact List.getElem?_mem hi
  exact ⟨hm, good_of_word h1⟩
theorem goodIn_app {big a b : List Cond} (ha : GoodIn big a) (hb : GoodIn big b) : GoodIn big (a ++ b) := fun w h => (List.mem_append.mp h).elim (ha w) (hb w)
theorem goodIn_ca {big a b : List Cond} {c : Cond} (ha : GoodIn big (c :: a)) (hb : GoodIn big b) : GoodIn big (c :: (a ++ b)) := fun w h => (List.mem_cons.mp h).elim (fun e => ha w (List.mem_cons.mpr (Or.inl e))) (fun h => (List.mem_append.mp h).elim (fun h => ha w (List.mem_cons.mpr (Or.inr h))) (hb w))
theorem goodIn_sub {big ws : List Cond} (hm : ∀ w ∈ ws, w ∈ big) (h : ws.all goodWord = true) : GoodIn big ws := fun w hw => ⟨hm w hw, good_of_word (List.all_eq_true.mp h w hw)⟩
/-! ===== END ===== -/

/-! ===== BEGIN exceptions that leave a method, and their catching by the caller (launches without stack traces) ===== -/
section VXA
/-! The laws vx_back, vx_callV, vx_callS, vx_callSW, vx_throw0, vx_throwS follow proofs of the library, with one case more: JvmDerived/Free/Laws.lean (Back.of_free), Shelf42/LK1.lean (callV, callS), Shelf/KitTraced.lean (throwNew0V, throwNewS). -/
/-- where a method has thrown q: the class by its name, the cell, what was written, the world -/
def vx_T (XC : String → State → State → Prop) (st : State) (q : Addr) (t : State) (mc ms : Nat) (free : Addr → Prop) : Prop :=
  ∃ (E : String) (ce : Cell) (L : List Loc), XC E st t ∧ t.heap[q]? = some ce ∧ ce.vm = .none ∧ st.vm.findClass E = some ce.cls ∧ st.WarmedH t.vm ∧ st.sameButNew ({ t with vm := st.vm } : State) L mc ms ∧ ∀ z ∈ L, free z.base
def vx_Q (Qc : Array Value → State → Outcome → State → Prop) (XC : String → State → State → Prop) (mc ms : Nat) (free : Addr → Prop) : Array Value → State → Outcome → State → Prop := fun a st o t =>
  (Qc a st o t ∧ ∃ L, FrameEnd st o t L mc ms ∧ ∀ q ∈ L, free q.base) ∨ ∃ q, o = .threw q ∧ vx_T XC st q t mc ms free
/-- a callee that returns or throws -/
def vx_Met (l : Launch) (y : MethodName) (ws : List Cond) (rm : Room) (Pc : Array Value → State → Prop) (Qc : Array Value → State → Outcome → State → Prop) (XC : String → State → State → Prop) (mc ms : Nat) (free : Addr → Prop) : Prop :=
  MetFree l y (headSpec ws rm) Pc (fun _ _ _ _ _ => True) (vx_Q Qc XC mc ms free)
def vx_Post (XC : String → State → State → Prop) (mc ms : Nat) (free : Addr → Prop) : Pt → Array Value → Addr → Pt → Prop := fun A a q B =>
  ∃ (g : JFrame) (mk : MethodId) (t : State) (L : List Loc) (E : String) (ce : Cell), B.U.heap = t.heap ∧ B.U.vm = t.vm ∧ XC E (A.U.calling g mk a) t ∧ t.heap[q]? = some ce ∧ ce.vm = .none ∧ A.U.vm.findClass E = some ce.cls ∧ B.locs = A.locs ++ L ∧ (∀ z ∈ L, free z.base) ∧ B.cells = A.cells + mc ∧ B.slots = A.slots + ms
def vx_Back (l : Launch) (R : Room) (p : Program) (e : Env) (below : List Frame) (s : State) (sargs : Array Value) (y : MethodName) (len W9 : Nat)
    (Pre : Pt → Array Value → Prop) (Post : Pt → Array Value → Option Value → Pt → Prop) (PostX : Pt → Array Value → Addr → Pt → Prop) : Prop :=
  ∀ (m : MethodId) (meth : Method) (c : Code) (A : Pt) (g : JFrame) (ig : Instr) (mk : MethodId) (a : Array Value),
    Stand p l e R s m sargs below meth c A.U A.locs A.cells A.slots → g.method = m → g.locals.size = c.maxLocals → decode c.code g.pc = .ok (ig, len) →
    2 * g.monitorRoom + (g.stack.map fun v => v.category).sum ≤ W9 → A.U.methodNamed? y = some mk → Pre A a →
    (∃ (v : Option Value) (B : Pt), Stand p l e R s m sargs below meth c B.U B.locs B.cells B.slots ∧ Post A a v B ∧
      Steps p.tables e below (doInvoke e (A.U.setTop g) [] mk a).1 (B.U.setTop { g with pc := g.pc + len, stack := v.toList ++ g.stack })) ∨
    (∃ (q : Addr) (B : Pt), Stand p l e R s m sargs below meth c B.U B.locs B.cells B.slots ∧ PostX A a q B ∧
      Steps p.tables e below (doInvoke e (A.U.setTop g) [] mk a).1 ((B.U.setTop g).pushFrame (.throwing q)))
section Payer
variable {l : Launch} {R : Room} {p : Program} {e : Env} {below : List Frame} {s : State} {sargs : Array Value} {y : MethodName} {len W9 : Nat}
theorem vx_back {ws : List Cond} {rm : Room} {Pc : Array Value → State → Prop} {Qc : Array Value → State → Outcome → State → Prop} {XC : String → State → State → Prop} {mc ms : Nat} {free : Addr → Prop} {bytes : ByteArray} {maxL : Nat} {ret : Option FieldType}
    (hM : vx_Met l y ws rm Pc Qc XC mc ms free) (hblind : FrameBlind Pc) (hrc : rm.cells = mc) (hrs : rm.slots = ms)
    (hframes : rm.frames + 1 ≤ R.frames) (hlocals : W9 + (maxL + 11) + rm.locals ≤ R.locals)
    (hws : ∀ w ∈ ws, ∀ a' U, s.WarmedH U.vm → w.before a' U = true) (hcode : Cond.code y bytes maxL ret ∈ ws) (hinit : ∀ a' U, s.WarmedH U.vm → (Cond.initialized y.cls).before a' U = true) :
    vx_Back l R p e below s sargs y len W9 (PreOf R mc ms Pc) (PostOf Qc mc ms free) (vx_Post XC mc ms free) := by
  intro m meth c A g ig mk a X hg hsize hdg hW hn hp
  have h1 : (headSpec ws rm).pre.before a A.U = true := atoms_intro fun w hw => hws w hw _ _ X.warmed
  have h2 : (Cond.code y bytes maxL ret).before a A.U = true := hws _ hcode _ _ X.warmed
  have h3 : (Cond.initialized y.cls).before a A.U = true := hinit _ _ X.warmed
  have h4 : A.cells + (headSpec ws rm).room.cells ≤ R.cells := by rw [show (headSpec ws rm).room.cells = mc from hrc]; exact hp.1
  have h5 : A.slots + (headSpec ws rm).room.slots ≤ R.slots := by rw [show (headSpec ws rm).room.slots = ms from hrs]; exact hp.2.1
  have hPc : Pc a (A.U.calling g mk a) := hblind _ _ _ _ hp.2.2
  obtain ⟨U, Ls, c0, s0⟩ := A
  dsimp only [Pt.U, Pt.locs, Pt.cells, Pt.slots] at h1 h2 h3 h4 h5 X hn hPc ⊢
  obtain ⟨methY, cY, hmY, hcY, -, hlY, -, -, -, -⟩ := Cond.code_spec hn h2
  obtain ⟨kY, hkY, -⟩ := className_of_methodNamed hn
  have hinitY : kY.init = .initialized := Cond.initialized_spec (findClass_of_methodNamed hn) hkY h3
  have h : At U g.method c below := by rw [hg]; exact X.here
  have hlocals9 : W9 + (maxL + 11) + (headSpec ws rm).room.locals ≤ R.locals := hlocals
  have happ : (headSpec ws rm).appliesLoose y e.platform (U.calling g mk a) = true :=
    Spec.appliesLoose_calling (g := g) h hdg hn hkY hinitY
      (X.room_calling (g := g) (R' := (headSpec ws rm).room) hsize hmY hcY hframes (by rw [hlY]; omega) h4 h5) h1
  obtain ⟨mid, hmid⟩ := h.above
  have hfr : (U.setTop g).frames = (.java g :: mid) ++ below := by rw [State.frames_setTop' g h.top, hmid]; rfl
  obtain ⟨o, s₂, hsteps, -, hend, hq⟩ := Steps.callFree hM p X.admits X.cas X.clock (acts := []) hfr happ hPc trivial
  have hq' : vx_Q Qc XC mc ms free a (U.calling g mk a) o s₂ := hq
  rw [State.frames_setTop' g h.top] at hend
  obtain ⟨g₀, hg0⟩ := Option.isSome_iff_exists.mp h.top
  obtain ⟨r, hr⟩ := State.topJava?_eq_some.mp hg0
  have hr' : (({ U with heap := s₂.heap, slotsUsed := s₂.slotsUsed } : State).setVm s₂.vm).frames = .java g₀ :: r := hr
  rcases hq' with ⟨hqc, L, hfe, hL⟩ | ⟨q, rfl, E, ce, L, hx, hce, hcv, hcl, hW₂, hsm, hL⟩
  · obtain ⟨⟨v, rfl⟩, hW₂, e2, q2, q3, q4, q5, q6⟩ := id hfe
    have e3 : s₂ = ({ (U.calling g mk a).setFrames s₂.frames with heap := s₂.heap, slotsUsed := s₂.slotsUsed } : State).setVm s₂.vm := by
      have : s₂ = ({ s₂ with vm := (U.calling g mk a).vm } : State).setVm s₂.vm := rfl
      rw [e2] at this
      exact this
    obtain ⟨c₂, i₂, len₂, hc₂, hd₂, hf₂⟩ := hend
    have hW' : U.WarmedH s₂.vm := hW₂
    have hcc : c₂ = c := by
      have h1 : s₂.code? g.method = U.code? g.method := by
        rw [State.code?_eq, State.code?_eq, hW'.alike.method?]
      exact Option.some.inj (hc₂.symm.trans (h1.trans h.code))
    subst hcc
    have hlen : len₂ = len := by rw [hdg] at hd₂; cases hd₂; rfl
    subst hlen
    have hs₂ : s₂ = (({ U with heap := s₂.heap, slotsUsed := s₂.slotsUsed } : State).setVm s₂.vm).setTop { g with pc := g.pc + len₂, stack := v.toList ++ g.stack } := by
      refine e3.trans ?_
      rw [hf₂, State.calling_eq h.top, State.setFrames_setFrames, State.setTop_of_frames _ hr', hr]
      rfl
    have hsame : U.sameButNew ({ U with heap := s₂.heap, slotsUsed := s₂.slotsUsed } : State) L mc ms := by
      refine ⟨?_, q2, q3, q4, q5, q6⟩
      obtain ⟨t, ht, -⟩ := State.frames_cons hr
      show ({ U with heap := s₂.heap, slotsUsed := s₂.slotsUsed } : State) = { U.setFrames U.frames with heap := s₂.heap, slotsUsed := s₂.slotsUsed }
      rw [State.setFrames_self ht]
    subst hg
    refine Or.inl ⟨v, ⟨(({ U with heap := s₂.heap, slotsUsed := s₂.slotsUsed } : State).setVm s₂.vm), Ls ++ L, c0 + mc, s0 + ms⟩,
      ⟨X.admits, X.cas, X.clock, X.frames, X.room, X.hears, X.method, X.code, (X.here.setHeapUsed s₂.heap s₂.slotsUsed).setVm hW'.alike, X.tail, State.WarmedH.trans X.warmed hW', X.limits, X.bytes, X.same.trans (hsame.setVm s.vm)⟩,
      ⟨g, mk, s₂, L, rfl, rfl, hqc, rfl, hL, rfl, rfl⟩, ?_⟩
    show Steps p.tables e below _ ((({ U with heap := s₂.heap, slotsUsed := s₂.slotsUsed } : State).setVm s₂.vm).setTop { g with pc := g.pc + len₂, stack := v.toList ++ g.stack })
    rw [← hs₂]
    exact hsteps
  · obtain ⟨e2, q2, q3, q4, q5, q6⟩ := id hsm
    have e3 : s₂ = ({ (U.calling g mk a).setFrames s₂.frames with heap := s₂.heap, slotsUsed := s₂.slotsUsed } : State).setVm s₂.vm := by
      have : s₂ = ({ s₂ with vm := (U.calling g mk a).vm } : State).setVm s₂.vm := rfl
      rw [e2] at this
      exact this
    have hf₂ : s₂.frames = .throwing q :: .java g :: U.frames.tail := hend
    have hW' : U.WarmedH s₂.vm := hW₂
    have hs₂ : s₂ = ((({ U with heap := s₂.heap, slotsUsed := s₂.slotsUsed } : State).setVm s₂.vm).setTop g).pushFrame (.throwing q) := by
      refine e3.trans ?_
      rw [hf₂, State.calling_eq h.top, State.setFrames_setFrames, State.pushFrame, State.frames_setTop _ hr', State.setTop_of_frames _ hr', State.setFrames_setFrames, hr]
      rfl
    have hsame : U.sameButNew ({ U with heap := s₂.heap, slotsUsed := s₂.slotsUsed } : State) L mc ms := by
      refine ⟨?_, q2, q3, q4, q5, q6⟩
      obtain ⟨t, ht, -⟩ := State.frames_cons hr
      show ({ U with heap := s₂.heap, slotsUsed := s₂.slotsUsed } : State) = { U.setFrames U.frames with heap := s₂.heap, slotsUsed := s₂.slotsUsed }
      rw [State.setFrames_self ht]
    subst hg
    refine Or.inr ⟨q, ⟨(({ U with heap := s₂.heap, slotsUsed := s₂.slotsUsed } : State).setVm s₂.vm), Ls ++ L, c0 + mc, s0 + ms⟩,
      ⟨X.admits, X.cas, X.clock, X.frames, X.room, X.hears, X.method, X.code, (X.here.setHeapUsed s₂.heap s₂.slotsUsed).setVm hW'.alike, X.tail, State.WarmedH.trans X.warmed hW', X.limits, X.bytes, X.same.trans (hsame.setVm s.vm)⟩,
      ⟨g, mk, s₂, L, E, ce, rfl, rfl, hx, hce, hcv, hcl, rfl, hL, rfl, rfl⟩, ?_⟩
    show Steps p.tables e below _ (((({ U with heap := s₂.heap, slotsUsed := s₂.slotsUsed } : State).setVm s₂.vm).setTop g).pushFrame (.throwing q))
    rw [← hs₂]
    exact hsteps
end Payer
section Calls
variable {p : Program} {l : Launch} {e : Env} {R : Room} {s : State} {m : MethodId} {args : Array Value} {below : List Frame} {meth : Method} {c : Code} {T : State} {locs : List Loc} {cells slots : Nat}
theorem vx_callV (X : Stand p l e R s m args below meth c T locs cells slots) (hexec : p.tables.exec = Jvm.exec) {own C : String} {index : Nat} {y : MethodName} {bytes : ByteArray} {maxL : Nat} {ret : Option FieldType}
    (hown : s.vm.findClass own = some m.cls) (hlink : (Cond.methodLink own index y).before args s = true) (hinst : (Cond.instanceMethod y).before args s = true) (hsel : (Cond.selects C y y).before args s = true)
    (hcode : (Cond.code y bytes maxL ret).before args s = true) (hy : y.cls ≠ "java/lang/invoke/MethodHandle" ∧ y.cls ≠ "java/lang/invoke/VarHandle")
    {W9 : Nat} {Pre : Pt → Array Value → Prop} {Post : Pt → Array Value → Option Value → Pt → Prop} {PostX : Pt → Array Value → Addr → Pt → Prop} (hK : vx_Back l R p e below s args y 3 W9 Pre Post PostX)
    {b : Addr} {cellB : Cell} (hcell : T.heap[b]? = some cellB) (hobj : cellB.vm.isStatics = false) (hcls : s.vm.findClass C = some cellB.cls)
    {g : JFrame} (hg : g.method = m) (hsize : g.locals.size = c.maxLocals) {argsL rest : List Value} (hlen : ∀ sig, parseMethodDescriptor y.desc = some sig → argsL.length = sig.parameters.length)
    (hstack : g.stack = argsL.reverse ++ .ref b :: rest) (hW : 2 * g.monitorRoom + (rest.map fun v => v.category).sum ≤ W9) (hdg : decode c.code g.pc = .ok (.invokevirtual index, 3))
    (hpre : ∀ vm₁, s.WarmedH vm₁ → Pre ⟨T.setVm vm₁, locs, cells, slots⟩ (Value.ref b :: argsL).toArray) :
    (∃ (v : Option Value) (vm₁ : Vm) (B : Pt), s.WarmedH vm₁ ∧ Stand p l e R s m args below meth c B.U B.locs B.cells B.slots ∧ Post ⟨T.setVm vm₁, locs, cells, slots⟩ (Value.ref b :: argsL).toArray v B ∧
      ∀ target, Steps p.tables e below (B.U.setTop { g with pc := g.pc + 3, stack := v.toList ++ rest }) target → Steps p.tables e below (T.setTop g) target) ∨
    (∃ (q : Addr) (vm₁ : Vm) (B : Pt), s.WarmedH vm₁ ∧ Stand p l e R s m args below meth c B.U B.locs B.cells B.slots ∧ PostX ⟨T.setVm vm₁, locs, cells, slots⟩ (Value.ref b :: argsL).toArray q B ∧
      Steps p.tables e below (T.setTop g) ((B.U.setTop { g with stack := rest }).pushFrame (.throwing q))) := by
  obtain ⟨mk, methM, hnamed, hmethM, hstM, habM⟩ := Cond.instanceMethod_spec hinst
  obtain ⟨methM', cM, hmethM', -, -, -, -, -, -, hsigM⟩ := Cond.code_spec hnamed hcode
  cases hmethM.symm.trans hmethM'
  obtain ⟨c2, r2, m2, q1, q2, q3, q4, kP, hkP, hkPi⟩ := Cond.selects_spec hsel
  cases hcls.symm.trans q1
  cases (State.methodFound?_of_named hnamed hy).symm.trans q2
  cases hnamed.symm.trans q3
  have hselP : selectMethod e.platform s.vm cellB.cls mk = .method mk := by rw [Launch.admits_selectMethod X.admits]; exact q4
  obtain ⟨vm₁, X₁, hstep₁⟩ := X.invokevirtual hexec hown hlink hnamed hmethM hstM hkP hkPi hy (a := b) (cell := cellB) hcell
    (fun z h => by rw [h] at hobj; cases hobj) hselP hmethM habM hkP hkPi (g := g) hg (argsL := argsL) (rest := rest) (hlen _ hsigM) hstack hdg
  rcases hK m meth c ⟨T.setVm vm₁, locs, cells, slots⟩ { g with stack := rest } (.invokevirtual index) mk (Value.ref b :: argsL).toArray X₁ hg hsize hdg hW (X₁.named hnamed) (hpre vm₁ X₁.warmed) with ⟨v, B, X', hpost, hsteps⟩ | ⟨q, B, X', hpost, hsteps⟩
  · exact Or.inl ⟨v, vm₁, B, X₁.warmed, X', hpost, fun target h => hstep₁ _ fun acts => by rw [doInvoke_state]; exact hsteps.trans h⟩
  · exact Or.inr ⟨q, vm₁, B, X₁.warmed, X', hpost, hstep₁ _ fun acts => by rw [doInvoke_state]; exact hsteps⟩
theorem vx_callS (X : Stand p l e R s m args below meth c T locs cells slots) (hexec : p.tables.exec = Jvm.exec) {own : String} {index : Nat} {y : MethodName} {bytes : ByteArray} {maxL : Nat} {ret : Option FieldType}
    (hown : s.vm.findClass own = some m.cls) (hlink : (Cond.methodLink own index y).before args s = true) (hstat : (Cond.static y).before args s = true) (hinit : (Cond.initialized y.cls).before args s = true)
    (hcode : (Cond.code y bytes maxL ret).before args s = true) (hy : y.cls ≠ "java/lang/invoke/MethodHandle" ∧ y.cls ≠ "java/lang/invoke/VarHandle")
    {W9 : Nat} {Pre : Pt → Array Value → Prop} {Post : Pt → Array Value → Option Value → Pt → Prop} {PostX : Pt → Array Value → Addr → Pt → Prop} (hK : vx_Back l R p e below s args y 3 W9 Pre Post PostX)
    {g : JFrame} (hg : g.method = m) (hsize : g.locals.size = c.maxLocals) {argsL rest : List Value} (hlen : ∀ sig, parseMethodDescriptor y.desc = some sig → argsL.length = sig.parameters.length)
    (hstack : g.stack = argsL.reverse ++ rest) (hW : 2 * g.monitorRoom + (rest.map fun v => v.category).sum ≤ W9) (hdg : decode c.code g.pc = .ok (.invokestatic index, 3))
    (hpre : ∀ vm₁, s.WarmedH vm₁ → Pre ⟨T.setVm vm₁, locs, cells, slots⟩ argsL.toArray) :
    (∃ (v : Option Value) (vm₁ : Vm) (B : Pt), s.WarmedH vm₁ ∧ Stand p l e R s m args below meth c B.U B.locs B.cells B.slots ∧ Post ⟨T.setVm vm₁, locs, cells, slots⟩ argsL.toArray v B ∧
      ∀ target, Steps p.tables e below (B.U.setTop { g with pc := g.pc + 3, stack := v.toList ++ rest }) target → Steps p.tables e below (T.setTop g) target) ∨
    (∃ (q : Addr) (vm₁ : Vm) (B : Pt), s.WarmedH vm₁ ∧ Stand p l e R s m args below meth c B.U B.locs B.cells B.slots ∧ PostX ⟨T.setVm vm₁, locs, cells, slots⟩ argsL.toArray q B ∧
      Steps p.tables e below (T.setTop g) ((B.U.setTop { g with stack := rest }).pushFrame (.throwing q))) := by
  obtain ⟨mk, hnamed⟩ := Cond.code_named hcode
  obtain ⟨methM, cM, hmethM, -, -, -, -, -, -, hsigM⟩ := Cond.code_spec hnamed hcode
  have hstatic : methM.isStatic = true := Cond.static_spec hnamed hmethM hstat
  obtain ⟨kP, hkP, -⟩ := className_of_methodNamed hnamed
  have hinitP : kP.init = .initialized := Cond.initialized_spec (findClass_of_methodNamed hnamed) hkP hinit
  obtain ⟨vm₁, X₁, hstep₁⟩ := X.invokestatic hexec hown hlink hnamed hmethM hstatic hkP hinitP hy (g := g) hg (argsL := argsL) (rest := rest) (hlen _ hsigM) hstack hdg
  rcases hK m meth c ⟨T.setVm vm₁, locs, cells, slots⟩ { g with stack := rest } (.invokestatic index) mk argsL.toArray X₁ hg hsize hdg hW (X₁.named hnamed) (hpre vm₁ X₁.warmed) with ⟨v, B, X', hpost, hsteps⟩ | ⟨q, B, X', hpost, hsteps⟩
  · exact Or.inl ⟨v, vm₁, B, X₁.warmed, X', hpost, fun target h => hstep₁ _ fun acts => by rw [doInvoke_state]; exact hsteps.trans h⟩
  · exact Or.inr ⟨q, vm₁, B, X₁.warmed, X', hpost, hstep₁ _ fun acts => by rw [doInvoke_state]; exact hsteps⟩
end Calls
theorem vx_cls {s : State} {T : State} {vm₁ : Vm} {E : String} {k : ClassId} (hW : s.WarmedH vm₁) (h : (T.setVm vm₁).vm.findClass E = some k) : s.vm.findClass E = some k := by
  have h1 : vm₁.findClass E = some k := h
  rw [hW.alike.findClass] at h1
  exact h1
/-- the method's frame g, with q thrown over it -/
def vx_W (p : Program) (l : Launch) (e : Env) (R : Room) (s : State) (m : MethodId) (args : Array Value) (below : List Frame) (meth : Method) (c : Code) (H : Heap) (locs : List Loc) (cells slots : Nat) (Q : State → Prop) (g : JFrame) (q : Addr) : Prop :=
  ∀ T : State, T.heap = H → Stand p l e R s m args below meth c T locs cells slots → ∃ t, Steps p.tables e below ((T.setTop g).pushFrame (.throwing q)) t ∧ Q t
def vx_Run (p : Program) (l : Launch) (e : Env) (R : Room) (s : State) (m : MethodId) (args : Array Value) (below : List Frame) (meth : Method) (c : Code) (H : Heap) (locs : List Loc) (cells slots mc ms : Nat) (g : JFrame) (rest : List Value) (Qa : State → Outcome → State → Prop) (XC : String → State → State → Prop) (free : Addr → Prop) : Prop :=
  ∀ T : State, T.heap = H → Stand p l e R s m args below meth c T locs cells slots →
    (∃ (v : Option Value) (st₀ t T' : State) (L : List Loc), st₀.heap = H ∧ Stand p l e R s m args below meth c T' (locs ++ L) (cells + mc) (slots + ms) ∧ (∀ q ∈ L, free q.base) ∧ T'.heap = t.heap ∧ T'.vm = t.vm ∧ Qa st₀ (.returned v) t ∧
      Goes p e below T g T' { g with pc := g.pc + 3, stack := v.toList ++ rest }) ∨
    (∃ (q : Addr) (st₀ t T' : State) (L : List Loc) (E : String) (ce : Cell), st₀.heap = H ∧ Stand p l e R s m args below meth c T' (locs ++ L) (cells + mc) (slots + ms) ∧ (∀ z ∈ L, free z.base) ∧ T'.heap = t.heap ∧ T'.vm = t.vm ∧ XC E st₀ t ∧ t.heap[q]? = some ce ∧ ce.vm = .none ∧ s.vm.findClass E = some ce.cls ∧
      Steps p.tables e below (T.setTop g) ((T'.setTop { g with stack := rest }).pushFrame (.throwing q)))
def vx_X {S : Type} (px : S → Prop) (B : String → S → State → Prop) (A : Nat → Prop) : String → State → State → Prop := fun E st t => ∃ u : S, px u ∧ B E u t ∧ va_F A st t
section Runs
variable {p : Program} {l : Launch} {e : Env} {R : Room} {s : State} {m : MethodId} {args : Array Value} {below : List Frame} {meth : Method} {c : Code} {H : Heap} {locs : List Loc} {cells slots : Nat}
variable {y : MethodName} {bytes cc : ByteArray} {maxL nL mc ms n index : Nat} {ret : Option FieldType} {ws : List Cond} {rm : Room} {Pc : Array Value → State → Prop} {Qc : Array Value → State → Outcome → State → Prop} {XC : String → State → State → Prop} {free : Addr → Prop} {Ts : List Cond} {own C : String} {b : Addr} {As rest : List Value} {g : JFrame}
theorem vx_callBack (cb : CallB R s args own index y bytes maxL ret ws rm mc ms n) (hM : vx_Met l y ws rm Pc Qc XC mc ms free) (hbl : FrameBlind Pc) : vx_Back l R p e below s args y 3 8 (PreOf R mc ms Pc) (PostOf Qc mc ms free) (vx_Post XC mc ms free) := by
  obtain ⟨hrc, hrs, hfr, hlo, hws, hcw, -, hini, -⟩ := cb
  exact vx_back (bytes := bytes) (maxL := maxL) (ret := ret) hM hbl hrc hrs hfr hlo hws hcw (fun a' U hW => word_at hW (Or.inl (by first | rfl | simp [Cond.onTables, Cond.keeps, Cond.steady])) hini)
theorem vx_runV (S : CallFix p m c cc nL s args Ts own) (hM : vx_Met l y ws rm Pc Qc XC mc ms free) (cw : CallW R s args own C index y bytes maxL ret ws rm mc ms n) (hp : PreV s H C b Pc As)
    (hg : g.method = m) (hn : As.length = n) (hsize : g.locals.size = nL) (hstack : g.stack = As.reverse ++ .ref b :: rest) (hW : 2 * g.monitorRoom + (rest.map fun v => v.category).sum ≤ 8) (hdg : decode cc g.pc = .ok (.invokevirtual index, 3)) (hf : cells + mc ≤ R.cells ∧ slots + ms ≤ R.slots) :
    vx_Run p l e R s m args below meth c H locs cells slots mc ms g rest (Qc (Value.ref b :: As).toArray) XC free := by
  have hK : vx_Back l R p e below s args y 3 8 (PreOf R mc ms Pc) (PostOf Qc mc ms free) (vx_Post XC mc ms free) := vx_callBack cw.1 hM hp.1
  obtain ⟨⟨-, -, -, -, -, -, hcode, -, hy, hlen, hl⟩, hin, hse⟩ := cw
  obtain ⟨hx, hb, hml, ho, -⟩ := S
  obtain ⟨-, ⟨cellB, hcB, hoB, hclB⟩, hPc⟩ := hp
  intro T hT X
  rcases vx_callV X hx (C := C) (bytes := bytes) (maxL := maxL) (ret := ret) ho hl hin hse hcode hy hK (by rw [hT]; exact hcB) hoB hclB hg (hsize.trans hml.symm) (argsL := As) (rest := rest) (fun sig h => hn.trans (hlen sig h)) hstack hW (by rw [hb]; exact hdg)
    (fun vm₁ hW₁ => ⟨hf.1, hf.2, hPc (T.setVm vm₁) hT hW₁⟩) with ⟨v, vm₁, ⟨U', l2, c2, s2⟩, hW₁, X', ⟨g', mk, t, L, e1, e2, hq, h1, hL, h2, h3⟩, st⟩ | ⟨q, vm₁, ⟨U', l2, c2, s2⟩, hW₁, X', ⟨g', mk, t, L, E, ce, e1, e2, hq, hce, hcv, hcl, h1, hL, h2, h3⟩, st⟩
  · dsimp only [Pt.U, Pt.locs, Pt.cells, Pt.slots] at X' e1 e2 h1 h2 h3 st
    subst h1; subst h2; subst h3
    exact Or.inl ⟨v, (T.setVm vm₁).calling g' mk (Value.ref b :: As).toArray, t, U', L, hT, X', hL, e1, e2, hq, st⟩
  · dsimp only [Pt.U, Pt.locs, Pt.cells, Pt.slots] at X' e1 e2 h1 h2 h3 st hcl
    subst h1; subst h2; subst h3
    exact Or.inr ⟨q, (T.setVm vm₁).calling g' mk (Value.ref b :: As).toArray, t, U', L, E, ce, hT, X', hL, e1, e2, hq, hce, hcv, vx_cls hW₁ hcl, st⟩
theorem vx_runS (S : CallFix p m c cc nL s args Ts own) (hM : vx_Met l y ws rm Pc Qc XC mc ms free) (cw : CallB R s args own index y bytes maxL ret ws rm mc ms n ∧ (Cond.static y).before args s = true) (hp : PreS s H Pc As)
    (hg : g.method = m) (hn : As.length = n) (hsize : g.locals.size = nL) (hstack : g.stack = As.reverse ++ rest) (hW : 2 * g.monitorRoom + (rest.map fun v => v.category).sum ≤ 8) (hdg : decode cc g.pc = .ok (.invokestatic index, 3)) (hf : cells + mc ≤ R.cells ∧ slots + ms ≤ R.slots) :
    vx_Run p l e R s m args below meth c H locs cells slots mc ms g rest (Qc As.toArray) XC free := by
  have hK : vx_Back l R p e below s args y 3 8 (PreOf R mc ms Pc) (PostOf Qc mc ms free) (vx_Post XC mc ms free) := vx_callBack cw.1 hM hp.1
  obtain ⟨⟨-, -, -, -, -, -, hcode, hini, hy, hlen, hl⟩, hstt⟩ := cw
  obtain ⟨hx, hb, hml, ho, -⟩ := S
  intro T hT X
  rcases vx_callS X hx (bytes := bytes) (maxL := maxL) (ret := ret) ho hl hstt hini hcode hy hK hg (hsize.trans hml.symm) (argsL := As) (rest := rest) (fun sig h => hn.trans (hlen sig h)) hstack hW (by rw [hb]; exact hdg)
    (fun vm₁ hW₁ => ⟨hf.1, hf.2, hp.2 (T.setVm vm₁) hT hW₁⟩) with ⟨v, vm₁, ⟨U', l2, c2, s2⟩, hW₁, X', ⟨g', mk, t, L, e1, e2, hq, h1, hL, h2, h3⟩, st⟩ | ⟨q, vm₁, ⟨U', l2, c2, s2⟩, hW₁, X', ⟨g', mk, t, L, E, ce, e1, e2, hq, hce, hcv, hcl, h1, hL, h2, h3⟩, st⟩
  · dsimp only [Pt.U, Pt.locs, Pt.cells, Pt.slots] at X' e1 e2 h1 h2 h3 st
    subst h1; subst h2; subst h3
    exact Or.inl ⟨v, (T.setVm vm₁).calling g' mk As.toArray, t, U', L, hT, X', hL, e1, e2, hq, st⟩
  · dsimp only [Pt.U, Pt.locs, Pt.cells, Pt.slots] at X' e1 e2 h1 h2 h3 st hcl
    subst h1; subst h2; subst h3
    exact Or.inr ⟨q, (T.setVm vm₁).calling g' mk As.toArray, t, U', L, E, ce, hT, X', hL, e1, e2, hq, hce, hcv, vx_cls hW₁ hcl, st⟩
end Runs
section Rows
variable {p : Program} {l : Launch} {e : Env} {R : Room} {s : State} {m : MethodId} {args : Array Value} {below : List Frame} {meth : Method} {c : Code} {H : Heap} {locs : List Loc} {cells slots : Nat} {Q : State → Prop}
variable {mc ms : Nat} {free : Addr → Prop} {A0 A1 : Nat → Prop} {H0 : Heap} {a : Array Value} {pc : Nat} {ls : Array Slot} {st0 rest : List Value}
theorem vx_keep {st₀ t T' : State} {L : List Loc} (h0 : st₀.heap = H) (e1 : T'.heap = t.heap) (hS : va_S A0 H0 H locs) (hA : ∀ q, q < H.size → A1 q → A0 q) (hf : ∀ q, free q → A0 q) (hL : ∀ q ∈ L, free q.base) (hF : va_F A1 st₀ t) :
    H.size ≤ T'.heap.size ∧ (∀ q : Nat, q < H.size → ¬ A1 q → T'.heap[q]? = H[q]?) ∧ va_S A0 H0 T'.heap (locs ++ L) := by
  obtain ⟨hz, hk⟩ := hF
  rw [h0] at hz hk
  exact ⟨by rw [e1]; exact hz, fun q h1 h2 => by rw [e1]; exact hk q h1 h2,
    ⟨Nat.le_trans hS.1 (by rw [e1]; exact hz), fun q h1 h2 => by rw [e1, hk q (Nat.lt_of_lt_of_le h1 hS.1) (fun z => h2 (hA q (Nat.lt_of_lt_of_le h1 hS.1) z))]; exact hS.2.1 q h1 h2, fun q hq => by
      rcases List.mem_append.mp hq with h | h
      · exact hS.2.2 q h
      · exact hf _ (hL q h)⟩⟩
theorem vx_calli {S SX : Type} {post : Int32 → S → Prop} {px : SX → Prop} {B : S → State → Prop} {BX : String → SX → State → Prop} {AX : Nat → Prop} (hr : vx_Run p l e R s m args below meth c H locs cells slots mc ms (F0 m pc ls st0) rest (va_Qi post B A1 a) (vx_X px BX AX) free) (hS : va_S A0 H0 H locs) (hA : ∀ q, q < H.size → A1 q → A0 q) (hf : ∀ q, free q → A0 q) (hAX : ∀ q, q < H.size → AX q → A0 q)
    (kx : ∀ (E : String) (ce : Cell) (q9 : Addr) (u : SX) (t : State) (H1 : Heap) (locs1 : List Loc), t.heap = H1 → s.vm.Alike t.vm → px u → BX E u t → H.size ≤ H1.size → (∀ q : Nat, q < H.size → ¬ AX q → H1[q]? = H[q]?) → va_S A0 H0 H1 locs1 → H1[q9]? = some ce → ce.vm = .none → s.vm.findClass E = some ce.cls → vx_W p l e R s m args below meth c H1 locs1 (cells + mc) (slots + ms) Q (F0 m pc ls rest) q9)
    (kk : ∀ (r : Int32) (u : S) (t : State) (H1 : Heap) (locs1 : List Loc), t.heap = H1 → s.vm.Alike t.vm → post r u → B u t → H.size ≤ H1.size → (∀ q : Nat, q < H.size → ¬ A1 q → H1[q]? = H[q]?) → va_S A0 H0 H1 locs1 → W p l e R s m args below meth c H1 locs1 (cells + mc) (slots + ms) Q (F0 m (pc + 3) ls (.int r :: rest))) : W p l e R s m args below meth c H locs cells slots Q (F0 m pc ls st0) := by
  intro T hT X
  rcases hr T hT X with ⟨v, st₀, t, T', L, h0, X', hL, e1, e2, ⟨⟨r, u, hv, hp, hb⟩, hF⟩, st⟩ | ⟨q, st₀, t, T', L, E, ce, h0, X', hL, e1, e2, ⟨u, hp, hb, hF⟩, hce, hcv, hcl, st⟩
  · cases hv
    obtain ⟨k1, k2, k3⟩ := vx_keep h0 e1 hS hA hf hL hF
    obtain ⟨t2, a1, b1⟩ := kk r u t T'.heap (locs ++ L) e1.symm (by rw [← e2]; exact X'.warmed.alike) hp hb k1 k2 k3 T' rfl X'
    exact ⟨t2, st t2 a1, b1⟩
  · obtain ⟨k1, k2, k3⟩ := vx_keep h0 e1 hS hAX hf hL hF
    obtain ⟨t2, a1, b1⟩ := kx E ce q u t T'.heap (locs ++ L) e1.symm (by rw [← e2]; exact X'.warmed.alike) hp hb k1 k2 k3 (by rw [e1]; exact hce) hcv hcl T' rfl X'
    exact ⟨t2, st.trans a1, b1⟩
theorem vx_calll {S SX : Type} {post : Int64 → S → Prop} {px : SX → Prop} {B : S → State → Prop} {BX : String → SX → State → Prop} {AX : Nat → Prop} (hr : vx_Run p l e R s m args below meth c H locs cells slots mc ms (F0 m pc ls st0) rest (va_Ql post B A1 a) (vx_X px BX AX) free) (hS : va_S A0 H0 H locs) (hA : ∀ q, q < H.size → A1 q → A0 q) (hf : ∀ q, free q → A0 q) (hAX : ∀ q, q < H.size → AX q → A0 q)
    (kx : ∀ (E : String) (ce : Cell) (q9 : Addr) (u : SX) (t : State) (H1 : Heap) (locs1 : List Loc), t.heap = H1 → s.vm.Alike t.vm → px u → BX E u t → H.size ≤ H1.size → (∀ q : Nat, q < H.size → ¬ AX q → H1[q]? = H[q]?) → va_S A0 H0 H1 locs1 → H1[q9]? = some ce → ce.vm = .none → s.vm.findClass E = some ce.cls → vx_W p l e R s m args below meth c H1 locs1 (cells + mc) (slots + ms) Q (F0 m pc ls rest) q9)
    (kk : ∀ (r : Int64) (u : S) (t : State) (H1 : Heap) (locs1 : List Loc), t.heap = H1 → s.vm.Alike t.vm → post r u → B u t → H.size ≤ H1.size → (∀ q : Nat, q < H.size → ¬ A1 q → H1[q]? = H[q]?) → va_S A0 H0 H1 locs1 → W p l e R s m args below meth c H1 locs1 (cells + mc) (slots + ms) Q (F0 m (pc + 3) ls (.long r :: rest))) : W p l e R s m args below meth c H locs cells slots Q (F0 m pc ls st0) := by
  intro T hT X
  rcases hr T hT X with ⟨v, st₀, t, T', L, h0, X', hL, e1, e2, ⟨⟨r, u, hv, hp, hb⟩, hF⟩, st⟩ | ⟨q, st₀, t, T', L, E, ce, h0, X', hL, e1, e2, ⟨u, hp, hb, hF⟩, hce, hcv, hcl, st⟩
  · cases hv
    obtain ⟨k1, k2, k3⟩ := vx_keep h0 e1 hS hA hf hL hF
    obtain ⟨t2, a1, b1⟩ := kk r u t T'.heap (locs ++ L) e1.symm (by rw [← e2]; exact X'.warmed.alike) hp hb k1 k2 k3 T' rfl X'
    exact ⟨t2, st t2 a1, b1⟩
  · obtain ⟨k1, k2, k3⟩ := vx_keep h0 e1 hS hAX hf hL hF
    obtain ⟨t2, a1, b1⟩ := kx E ce q u t T'.heap (locs ++ L) e1.symm (by rw [← e2]; exact X'.warmed.alike) hp hb k1 k2 k3 (by rw [e1]; exact hce) hcv hcl T' rfl X'
    exact ⟨t2, st.trans a1, b1⟩
theorem vx_callf {S SX : Type} {post : UInt32 → S → Prop} {px : SX → Prop} {B : S → State → Prop} {BX : String → SX → State → Prop} {AX : Nat → Prop} (hr : vx_Run p l e R s m args below meth c H locs cells slots mc ms (F0 m pc ls st0) rest (va_Qf post B A1 a) (vx_X px BX AX) free) (hS : va_S A0 H0 H locs) (hA : ∀ q, q < H.size → A1 q → A0 q) (hf : ∀ q, free q → A0 q) (hAX : ∀ q, q < H.size → AX q → A0 q)
    (kx : ∀ (E : String) (ce : Cell) (q9 : Addr) (u : SX) (t : State) (H1 : Heap) (locs1 : List Loc), t.heap = H1 → s.vm.Alike t.vm → px u → BX E u t → H.size ≤ H1.size → (∀ q : Nat, q < H.size → ¬ AX q → H1[q]? = H[q]?) → va_S A0 H0 H1 locs1 → H1[q9]? = some ce → ce.vm = .none → s.vm.findClass E = some ce.cls → vx_W p l e R s m args below meth c H1 locs1 (cells + mc) (slots + ms) Q (F0 m pc ls rest) q9)
    (kk : ∀ (r : UInt32) (u : S) (t : State) (H1 : Heap) (locs1 : List Loc), t.heap = H1 → s.vm.Alike t.vm → post r u → B u t → H.size ≤ H1.size → (∀ q : Nat, q < H.size → ¬ A1 q → H1[q]? = H[q]?) → va_S A0 H0 H1 locs1 → W p l e R s m args below meth c H1 locs1 (cells + mc) (slots + ms) Q (F0 m (pc + 3) ls (.float r :: rest))) : W p l e R s m args below meth c H locs cells slots Q (F0 m pc ls st0) := by
  intro T hT X
  rcases hr T hT X with ⟨v, st₀, t, T', L, h0, X', hL, e1, e2, ⟨⟨r, u, hv, hp, hb⟩, hF⟩, st⟩ | ⟨q, st₀, t, T', L, E, ce, h0, X', hL, e1, e2, ⟨u, hp, hb, hF⟩, hce, hcv, hcl, st⟩
  · cases hv
    obtain ⟨k1, k2, k3⟩ := vx_keep h0 e1 hS hA hf hL hF
    obtain ⟨t2, a1, b1⟩ := kk r u t T'.heap (locs ++ L) e1.symm (by rw [← e2]; exact X'.warmed.alike) hp hb k1 k2 k3 T' rfl X'
    exact ⟨t2, st t2 a1, b1⟩
  · obtain ⟨k1, k2, k3⟩ := vx_keep h0 e1 hS hAX hf hL hF
    obtain ⟨t2, a1, b1⟩ := kx E ce q u t T'.heap (locs ++ L) e1.symm (by rw [← e2]; exact X'.warmed.alike) hp hb k1 k2 k3 (by rw [e1]; exact hce) hcv hcl T' rfl X'
    exact ⟨t2, st.trans a1, b1⟩
theorem vx_calld {S SX : Type} {post : UInt64 → S → Prop} {px : SX → Prop} {B : S → State → Prop} {BX : String → SX → State → Prop} {AX : Nat → Prop} (hr : vx_Run p l e R s m args below meth c H locs cells slots mc ms (F0 m pc ls st0) rest (va_Qd post B A1 a) (vx_X px BX AX) free) (hS : va_S A0 H0 H locs) (hA : ∀ q, q < H.size → A1 q → A0 q) (hf : ∀ q, free q → A0 q) (hAX : ∀ q, q < H.size → AX q → A0 q)
    (kx : ∀ (E : String) (ce : Cell) (q9 : Addr) (u : SX) (t : State) (H1 : Heap) (locs1 : List Loc), t.heap = H1 → s.vm.Alike t.vm → px u → BX E u t → H.size ≤ H1.size → (∀ q : Nat, q < H.size → ¬ AX q → H1[q]? = H[q]?) → va_S A0 H0 H1 locs1 → H1[q9]? = some ce → ce.vm = .none → s.vm.findClass E = some ce.cls → vx_W p l e R s m args below meth c H1 locs1 (cells + mc) (slots + ms) Q (F0 m pc ls rest) q9)
    (kk : ∀ (r : UInt64) (u : S) (t : State) (H1 : Heap) (locs1 : List Loc), t.heap = H1 → s.vm.Alike t.vm → post r u → B u t → H.size ≤ H1.size → (∀ q : Nat, q < H.size → ¬ A1 q → H1[q]? = H[q]?) → va_S A0 H0 H1 locs1 → W p l e R s m args below meth c H1 locs1 (cells + mc) (slots + ms) Q (F0 m (pc + 3) ls (.double r :: rest))) : W p l e R s m args below meth c H locs cells slots Q (F0 m pc ls st0) := by
  intro T hT X
  rcases hr T hT X with ⟨v, st₀, t, T', L, h0, X', hL, e1, e2, ⟨⟨r, u, hv, hp, hb⟩, hF⟩, st⟩ | ⟨q, st₀, t, T', L, E, ce, h0, X', hL, e1, e2, ⟨u, hp, hb, hF⟩, hce, hcv, hcl, st⟩
  · cases hv
    obtain ⟨k1, k2, k3⟩ := vx_keep h0 e1 hS hA hf hL hF
    obtain ⟨t2, a1, b1⟩ := kk r u t T'.heap (locs ++ L) e1.symm (by rw [← e2]; exact X'.warmed.alike) hp hb k1 k2 k3 T' rfl X'
    exact ⟨t2, st t2 a1, b1⟩
  · obtain ⟨k1, k2, k3⟩ := vx_keep h0 e1 hS hAX hf hL hF
    obtain ⟨t2, a1, b1⟩ := kx E ce q u t T'.heap (locs ++ L) e1.symm (by rw [← e2]; exact X'.warmed.alike) hp hb k1 k2 k3 (by rw [e1]; exact hce) hcv hcl T' rfl X'
    exact ⟨t2, st.trans a1, b1⟩
theorem vx_callv {S SX : Type} {post : S → Prop} {px : SX → Prop} {B : S → State → Prop} {BX : String → SX → State → Prop} {AX : Nat → Prop} (hr : vx_Run p l e R s m args below meth c H locs cells slots mc ms (F0 m pc ls st0) rest (va_Qv post B A1 a) (vx_X px BX AX) free) (hS : va_S A0 H0 H locs) (hA : ∀ q, q < H.size → A1 q → A0 q) (hf : ∀ q, free q → A0 q) (hAX : ∀ q, q < H.size → AX q → A0 q)
    (kx : ∀ (E : String) (ce : Cell) (q9 : Addr) (u : SX) (t : State) (H1 : Heap) (locs1 : List Loc), t.heap = H1 → s.vm.Alike t.vm → px u → BX E u t → H.size ≤ H1.size → (∀ q : Nat, q < H.size → ¬ AX q → H1[q]? = H[q]?) → va_S A0 H0 H1 locs1 → H1[q9]? = some ce → ce.vm = .none → s.vm.findClass E = some ce.cls → vx_W p l e R s m args below meth c H1 locs1 (cells + mc) (slots + ms) Q (F0 m pc ls rest) q9)
    (kk : ∀ (u : S) (t : State) (H1 : Heap) (locs1 : List Loc), t.heap = H1 → s.vm.Alike t.vm → post u → B u t → H.size ≤ H1.size → (∀ q : Nat, q < H.size → ¬ A1 q → H1[q]? = H[q]?) → va_S A0 H0 H1 locs1 → W p l e R s m args below meth c H1 locs1 (cells + mc) (slots + ms) Q (F0 m (pc + 3) ls (rest))) : W p l e R s m args below meth c H locs cells slots Q (F0 m pc ls st0) := by
  intro T hT X
  rcases hr T hT X with ⟨v, st₀, t, T', L, h0, X', hL, e1, e2, ⟨⟨u, hv, hp, hb⟩, hF⟩, st⟩ | ⟨q, st₀, t, T', L, E, ce, h0, X', hL, e1, e2, ⟨u, hp, hb, hF⟩, hce, hcv, hcl, st⟩
  · cases hv
    obtain ⟨k1, k2, k3⟩ := vx_keep h0 e1 hS hA hf hL hF
    obtain ⟨t2, a1, b1⟩ := kk u t T'.heap (locs ++ L) e1.symm (by rw [← e2]; exact X'.warmed.alike) hp hb k1 k2 k3 T' rfl X'
    exact ⟨t2, st t2 a1, b1⟩
  · obtain ⟨k1, k2, k3⟩ := vx_keep h0 e1 hS hAX hf hL hF
    obtain ⟨t2, a1, b1⟩ := kx E ce q u t T'.heap (locs ++ L) e1.symm (by rw [← e2]; exact X'.warmed.alike) hp hb k1 k2 k3 (by rw [e1]; exact hce) hcv hcl T' rfl X'
    exact ⟨t2, st.trans a1, b1⟩
/-- caught by the row x of this method's table; the rows ahead don't take it -/
theorem vx_catch {own name : String} {E : String} {ce : Cell} {q : Addr} (hown : s.vm.findClass own = some m.cls) (pre : List ExceptionTableEntry) (x : ExceptionTableEntry) (suf : List ExceptionTableEntry) (hsplit : c.exceptionTable.toList = pre ++ x :: suf)
    (hpass : ∀ z ∈ pre, covers z pc = false ∨ (z.catchType ≠ 0 ∧ ∃ nm : String, (Cond.classLink own z.catchType nm).before args s = true ∧ va_Nc E nm s)) (hx : covers x pc = true) (h0 : x.catchType ≠ 0)
    (hlink : (Cond.classLink own x.catchType name).before args s = true) (hcast : (Cond.castable E name).before args s = true) (hcell : H[q]? = some ce) (hv : ce.vm = .none) (hcl : s.vm.findClass E = some ce.cls)
    (kk : W p l e R s m args below meth c H locs cells slots Q (F0 m x.handlerPc ls [.ref q])) : vx_W p l e R s m args below meth c H locs cells slots Q (F0 m pc ls rest) q := by
  intro T hT X
  have hpl : e.platform.magicAccessors = ({} : Platform).magicAccessors := by rw [X.admits.platform]
  obtain ⟨c3, c4, hc3, hc4, hasg⟩ := Cond.castable_spec hcast
  cases Option.some.inj (hc3.symm.trans hcl)
  obtain ⟨c5, hc5, hcl5⟩ := Cond.classLink_spec hown hlink e.platform hpl
  cases Option.some.inj (hc4.symm.trans hc5)
  obtain ⟨vm', X', st⟩ := X.thenCaughtThrough q (g := F0 m pc ls rest) rfl (Steps.refl _) (by rw [hT]; exact hcell) (by rw [hv]; rfl) (by obtain ⟨k9, h9, -⟩ := Vm.findClass_spec hcl; exact ⟨k9, h9⟩) pre x suf hsplit
    (fun z hz => by
      rcases hpass z hz with h | ⟨hz0, nm, hl1, hn1⟩
      · exact Or.inl h
      · obtain ⟨c6, hc6, hcl6⟩ := Cond.classLink_spec hown hl1 e.platform hpl
        obtain ⟨a8, b8, h1, h2, h3⟩ := hn1
        cases Option.some.inj (h1.symm.trans hcl)
        cases Option.some.inj (h2.symm.trans hc6)
        exact Or.inr ⟨hz0, _, hcl6, h3⟩) hx (Or.inr ⟨h0, c4, hcl5, hasg⟩)
  obtain ⟨t, a1, b1⟩ := kk (T.setVm vm') hT X'
  exact ⟨t, st.trans a1, b1⟩
end Rows
section Ends
variable {p : Program} {l : Launch} {e : Env} {R : Room} {s : State} {m : MethodId} {args : Array Value} {below : List Frame} {meth : Method} {c : Code} {H : Heap} {locs : List Loc} {cells slots : Nat} {Q : State → Prop}
variable {mc ms : Nat} {free : Addr → Prop} {A0 A1 : Nat → Prop} {H0 : Heap} {a : Array Value} {ls : Array Slot} {st0 rest : List Value}
variable {Qc : Array Value → State → Outcome → State → Prop} {XC : String → State → State → Prop}
/-- what a body that may throw owes at its end -/
def vx_MQ (below : List Frame) (Qc : Array Value → State → Outcome → State → Prop) (XC : String → State → State → Prop) (a : Array Value) (s : State) (mc ms : Nat) (free : Addr → Prop) : State → Prop := fun t =>
  ∃ o, t.status = .running ∧ Ended t below o ∧ vx_Q Qc XC mc ms free a s o t
theorem vx_ret {g : JFrame} {mc ms : Nat} (k : W p l e R s m args below meth c H locs cells slots (MQ below Qc args s mc ms free) g) : W p l e R s m args below meth c H locs cells slots (vx_MQ below Qc XC args s mc ms free) g := by
  intro T hT X
  obtain ⟨t, a1, o, b1, b2, b3, b4⟩ := k T hT X
  exact ⟨t, a1, o, b1, b2, Or.inl ⟨b3, b4⟩⟩
/-- not caught here: it goes on to the caller -/
theorem vx_widen {g : JFrame} {q : Addr} {k n : Nat} (h1 : cells ≤ k) (h2 : slots ≤ n) (kk : vx_W p l e R s m args below meth c H locs k n Q g q) : vx_W p l e R s m args below meth c H locs cells slots Q g q := fun T hT X => kk T hT (stand_widen X h1 h2)
theorem vx_out {pc : Nat} {E : String} {ce : Cell} {q : Addr} {mc ms : Nat} (hout : ∀ x ∈ c.exceptionTable.toList, covers x pc = false) (hlocks : meth.locks = false) (hcell : H[q]? = some ce) (hv : ce.vm = .none) (hcl : s.vm.findClass E = some ce.cls)
    (hx : ∀ t : State, t.heap = H → s.vm.Alike t.vm → XC E s t) (hf : ∀ z ∈ locs, free z.base) (hc : cells ≤ mc) (hs : slots ≤ ms) :
    vx_W p l e R s m args below meth c H locs cells slots (vx_MQ below Qc XC args s mc ms free) (F0 m pc ls rest) q := by
  intro T hT X
  obtain ⟨st1, hrun, hend, hW, hsm⟩ := X.leaveThrown q (g := F0 m pc ls rest) rfl rfl rfl hout hlocks
  have hcell9 : (T.setFrames (.throwing q :: below)).heap[q]? = some ce := by
    show T.heap[q]? = some ce
    rw [hT]; exact hcell
  exact ⟨_, st1, .threw q, hrun, hend, Or.inr ⟨q, rfl, E, ce, locs, hx _ hT hW.alike, hcell9, hv, hcl, hW, hsm.mono hc hs, hf⟩⟩
theorem vx_frame {U : State} {k n : Nat} (h : s.sameButNew ({ U with vm := s.vm } : State) locs k n) : s.heap.size ≤ U.heap.size ∧ ∀ q : Nat, q < s.heap.size → (∀ z ∈ locs, z.base ≠ q) → U.heap[q]? = s.heap[q]? := by
  obtain ⟨-, h2, -, -, -, h6⟩ := h
  refine ⟨h2, fun q hq hz => ?_⟩
  obtain ⟨c9, e1, e2, e3, e4⟩ := h6 q _ (Array.getElem?_eq_getElem hq)
  have hs : c9.slots = (s.heap[q]).slots := Array.ext_getElem? fun i => e4 i fun hm => hz _ hm rfl
  have h9 : c9 = s.heap[q] := by
    rw [hs] at e2
    exact e2
  have e5 : U.heap[q]? = some c9 := e1
  rw [e5, h9, Array.getElem?_eq_getElem hq]
/-- the words of a throw but the four that speak of the heap -/
def vx_no (w : Cond) : Bool := decide (w ≠ .isRef (.static Bundle.tN "UNASSIGNED_STACK" Bundle.steD)) && decide (w ≠ .isRef (.static Bundle.tN "SUPPRESSED_SENTINEL" Bundle.listD)) && decide (w ≠ .laysStatic Bundle.tN "UNASSIGNED_STACK" Bundle.steD) && decide (w ≠ .laysStatic Bundle.tN "SUPPRESSED_SENTINEL" Bundle.listD)
def vx_at0 (own : String) (ic : Nat) (X : String) (names : List String) : List Cond := (Bundle.ownAtoms0 own ic X names).filter vx_no
def vx_atS (own : String) (ic : Nat) (X : String) (names : List String) : List Cond := (Bundle.ownAtoms own ic X names).filter vx_no
/-- a word that the tables alone decide, or a good one -/
def vx_ot (w : Cond) : Bool := w.onTables || goodWord w
theorem vx_ot_at {args a' : Array Value} {s U : State} {w : Cond} (hW : s.WarmedH U.vm) (hvm : s.vm = U.vm) (hg : vx_ot w = true) (h : w.before args s = true) : w.before a' U = true := by
  simp only [vx_ot, Bool.or_eq_true] at hg
  rcases hg with hg | hg
  · exact va_tabs hg hvm h
  · exact word_at hW (good_of_word hg) h
/-- a list's words: the good ones out of the method's own list, the others by premises of their own -/
theorem vx_hat {args : Array Value} {s : State} {L B : List Cond} (h1 : ∀ w ∈ L.filter goodWord, w.before args s = true) (h2 : ∀ w ∈ L.filter (fun w => !goodWord w), w ∈ B) (h3 : ∀ w ∈ B, w.before args s = true) : ∀ w ∈ L, w.before args s = true := by
  intro w hw
  by_cases g : goodWord w = true
  · exact h1 w (List.mem_filter.mpr ⟨hw, g⟩)
  · refine h3 w (h2 w (List.mem_filter.mpr ⟨hw, ?_⟩))
    show (!goodWord w) = true
    cases hgw : goodWord w
    · rfl
    · exact absurd hgw g
theorem vx_c {args : Array Value} {s : State} {w : Cond} {B : List Cond} (h : w.before args s = true) (t : ∀ w ∈ B, w.before args s = true) : ∀ w' ∈ w :: B, w'.before args s = true := fun w' h' => (List.mem_cons.mp h').elim (fun e => by rw [e]; exact h) (t w')
theorem vx_n {args : Array Value} {s : State} : ∀ w ∈ ([] : List Cond), w.before args s = true := fun _ h => nomatch h
theorem vx_own {args : Array Value} {s : State} {L : List Cond} (h1 : ∀ w ∈ L.filter vx_no, w.before args s = true)
    (hU : (Cond.isRef (.static Bundle.tN "UNASSIGNED_STACK" Bundle.steD)).before args s = true) (hN : (Cond.isRef (.static Bundle.tN "SUPPRESSED_SENTINEL" Bundle.listD)).before args s = true)
    (lU : (Cond.laysStatic Bundle.tN "UNASSIGNED_STACK" Bundle.steD).before args s = true) (lN : (Cond.laysStatic Bundle.tN "SUPPRESSED_SENTINEL" Bundle.listD).before args s = true) : ∀ w ∈ L, w.before args s = true := by
  intro w hw
  by_cases e1 : w = .isRef (.static Bundle.tN "UNASSIGNED_STACK" Bundle.steD)
  · rw [e1]; exact hU
  · by_cases e2 : w = .isRef (.static Bundle.tN "SUPPRESSED_SENTINEL" Bundle.listD)
    · rw [e2]; exact hN
    · by_cases e3 : w = .laysStatic Bundle.tN "UNASSIGNED_STACK" Bundle.steD
      · rw [e3]; exact lU
      · by_cases e4 : w = .laysStatic Bundle.tN "SUPPRESSED_SENTINEL" Bundle.listD
        · rw [e4]; exact lN
        · exact h1 w (List.mem_filter.mpr ⟨hw, by unfold vx_no; rw [decide_eq_true e1, decide_eq_true e2, decide_eq_true e3, decide_eq_true e4]; rfl⟩)
/-- where a static field lies, its class's statics cell in H -/
def vx_L (C n d : String) (A : Nat → Prop) (U : State) (H : Heap) : Prop := ∃ (c : ClassId) (k : Class) (i : Nat) (f : Field) (a : Nat) (cell : Cell), U.vm.findClass C = some c ∧ U.fieldFound? C n d = some (c, k, i, f) ∧ f.isStatic = true ∧ k.statics = some a ∧ H[a]? = some cell ∧ cell.vm.isStatics = true ∧ cell.cls = c ∧ f.slot < cell.slots.size ∧ k.staticTypes[f.slot]? = some f.type ∧ ¬ A a
theorem vx_L.moved {C n d : String} {A : Nat → Prop} {u U : State} {H : Heap} (hvm : u.vm.Alike U.vm) (h : vx_L C n d A u H) : vx_L C n d A U H := by
  obtain ⟨c, k, i, f, a, cell, h1, h2, h3, h4, h5, h6, h7, h8, h9, h10⟩ := h
  obtain ⟨k', hi', he⟩ := State.fieldFound?_setVm hvm h2
  exact ⟨c, k', i, f, a, cell, by rw [hvm.findClass]; exact h1, hi', h3, by rw [he]; exact h4, h5, h6, h7, h8, by rw [he]; exact h9, h10⟩
theorem vx_L.kept {C n d : String} {A : Nat → Prop} {U : State} {H H1 : Heap} (h : vx_L C n d A U H) (hq : ∀ a : Nat, a < H.size → ¬ A a → H1[a]? = H[a]?) : vx_L C n d A U H1 := by
  obtain ⟨c, k, i, f, a, cell, h1, h2, h3, h4, h5, h6, h7, h8, h9, h10⟩ := h
  exact ⟨c, k, i, f, a, cell, h1, h2, h3, h4, by rw [hq a (Array.getElem?_eq_some_iff.mp h5).1 h10]; exact h5, h6, h7, h8, h9, h10⟩
theorem vx_L.narrow {C n d : String} {A B : Nat → Prop} {U : State} {H : Heap} (h : vx_L C n d A U H) (hAB : ∀ q, B q → A q) : vx_L C n d B U H := by
  obtain ⟨c, k, i, f, a, cell, h1, h2, h3, h4, h5, h6, h7, h8, h9, h10⟩ := h
  exact ⟨c, k, i, f, a, cell, h1, h2, h3, h4, h5, h6, h7, h8, h9, fun z => h10 (hAB _ z)⟩
theorem vx_L.word {C n d : String} {A : Nat → Prop} {s : State} {args : Array Value} (h : vx_L C n d A s s.heap) : (Cond.laysStatic C n d).before args s = true := by
  obtain ⟨c, k, i, f, a, cell, h1, h2, h3, h4, h5, h6, h7, h8, h9, -⟩ := h
  show (Cond.laysStatic C n d).holds args s none s [] = true
  exact Cond.laysStatic_of h1 h2 h3 h4 h5 h6 h7 h8 h9
/-- .. and what it holds: null or some reference -/
def vx_Zq (C n d : String) (A : Nat → Prop) (U : State) (H : Heap) : Prop := va_Zq C n d A U H ∧ vx_L C n d A U H
theorem vx_Zq.moved {C n d : String} {A : Nat → Prop} {u U : State} {H : Heap} (hvm : u.vm.Alike U.vm) (h : vx_Zq C n d A u H) : vx_Zq C n d A U H := ⟨va_Zq.moved hvm h.1, vx_L.moved hvm h.2⟩
theorem vx_Zq.kept {C n d : String} {A : Nat → Prop} {U : State} {H H1 : Heap} (h : vx_Zq C n d A U H) (hq : ∀ a : Nat, a < H.size → ¬ A a → H1[a]? = H[a]?) : vx_Zq C n d A U H1 := ⟨va_Zq.kept h.1 hq, vx_L.kept h.2 hq⟩
theorem vx_Zq.narrow {C n d : String} {A B : Nat → Prop} {U : State} {H : Heap} (h : vx_Zq C n d A U H) (hAB : ∀ q, B q → A q) : vx_Zq C n d B U H := ⟨va_Zq.narrow h.1 hAB, vx_L.narrow h.2 hAB⟩
theorem vx_Zqof {args : Array Value} {s : State} {C n d : String} {A : Nat → Prop} (hl : (Cond.laysStatic C n d).before args s = true) (hini : (Cond.initialized C).before args s = true) (h : (Cond.isRef (.static C n d)).before args s = true) (hA : ∀ a : Nat, a < s.heap.size → ¬ A a) : vx_Zq C n d A s s.heap := by
  refine ⟨va_Zqof hl hini h hA, ?_⟩
  obtain ⟨c, k, i, f, a, cell, h1, h2, h3, h4, h5, h6, h7, h8, h9⟩ := Cond.laysStatic_spec hl
  exact ⟨c, k, i, f, a, cell, h1, h2, h3, h4, h5, h6, h7, h8, h9, hA a (Array.getElem?_eq_some_iff.mp h5).1⟩
theorem vx_isRef {C n d : String} {v : Value} {A : Nat → Prop} {s : State} {args : Array Value} (h : va_Z C n d v A s s.heap) (hv : v.isRef = true) : (Cond.isRef (.static C n d)).before args s = true := by
  obtain ⟨cf, kf, fi, f, a, cell, h1, h2, h3, h4, h5, h6, h7, -⟩ := h
  have he : (Term.static C n d).eval args s none [] s = some v := by
    simp [Term.eval, State.fieldNamed?, h1, h2, h4, h5, h6, h7]
  simp only [Cond.before, Cond.holds, Cond.value, he]
  cases v <;> simp_all [Value.isRef]
theorem vx_isRefq {C n d : String} {A : Nat → Prop} {s : State} {args : Array Value} (h : va_Zq C n d A s s.heap) : (Cond.isRef (.static C n d)).before args s = true := by
  rcases h with h | ⟨t, h⟩
  · exact vx_isRef h rfl
  · exact vx_isRef h rfl
/-- the same frame, seen from here: as if the method were called anew in this heap -/
theorem vx_rebase {T : State} (X : Stand p l e R s m args below meth c T locs cells slots) {R' : Room} (hf : R'.frames ≤ R.frames) (hl : R'.locals ≤ R.locals) (hc : cells + R'.cells ≤ R.cells) (hs : slots + R'.slots ≤ R.slots) :
    Stand p l e R' ((T.setVm s.vm).setFrames (.invoking m args :: below)) m args below meth c T [] 0 0 := by
  have htop : (T.setVm s.vm).topJava?.isSome := X.here.top
  have hF : ((T.setVm s.vm).setFrames (.invoking m args :: below)).frames = .invoking m args :: below := State.frames_setFrames _ (State.cur_lt_of_top htop)
  obtain ⟨g₀, hg0⟩ := Option.isSome_iff_exists.mp htop
  obtain ⟨r, hr⟩ := State.topJava?_eq_some.mp hg0
  have hl9 : e.platform.stackLimits (T.setVm s.vm).me = e.platform.stackLimits s.me := X.limits
  have hb9 : (T.setVm s.vm).me.stackBytes = s.me.stackBytes := X.bytes
  refine ⟨X.admits, X.cas, X.clock, hF, ?_, X.hears, X.method, X.code, X.here, X.tail, X.warmed, ?_, ?_, ?_⟩
  · have h := X.room
    have hU : ((T.setVm s.vm).setFrames (.invoking m args :: below)).localsInUse = s.localsInUse := by
      rw [State.localsInUse_invoking hF (meth := meth) (c := c) X.method X.code, State.localsInUse_invoking X.frames X.method X.code]
    simp only [State.hasRoom, Bool.and_eq_true, decide_eq_true_eq] at h ⊢
    obtain ⟨⟨⟨⟨h1, h2, h3, h4, h5, h6⟩, h7⟩, h8⟩, h9⟩ := h
    rw [X.frames, List.length_cons] at h2 h3
    have q1 := X.heapSize
    have q2 := X.used
    simp only [hF, hU, List.length_cons, State.stackLimits_setFrames, State.stackBytes_setFrames, hl9, hb9]
    refine ⟨⟨⟨⟨by omega, by omega, by omega, by omega, by omega, h6⟩, ?_⟩, ?_⟩, X.book⟩
    · show T.heap.size + R'.cells ≤ e.platform.maxCells
      omega
    · show T.slotsUsed + R'.slots ≤ e.platform.maxSlots
      omega
  · rw [State.stackLimits_setFrames]; rfl
  · rw [State.stackBytes_setFrames]; rfl
  · refine ⟨?_, Nat.le_refl _, Nat.le_refl _, ?_, ?_, fun a c9 h9 => ⟨c9, h9, rfl, rfl, fun _ _ => rfl⟩⟩
    · obtain ⟨t, ht, -⟩ := State.frames_cons hr
      show T.setVm s.vm = { ((T.setVm s.vm).setFrames (.invoking m args :: below)).setFrames (T.setVm s.vm).frames with heap := T.heap, slotsUsed := T.slotsUsed }
      rw [State.setFrames_setFrames, State.setFrames_self ht]
      rfl
    · show T.slotsUsed = T.slotsUsed + ((T.heap.toList.drop T.heap.size).map (·.slots.size)).sum
      rw [List.drop_eq_nil_of_le (Nat.le_of_eq Array.length_toList)]
      rfl
    · show ((T.heap.toList.drop T.heap.size).map (·.slots.size)).sum ≤ 0
      rw [List.drop_eq_nil_of_le (Nat.le_of_eq Array.length_toList)]
      exact Nat.le_refl _
/-- 'throw new E()': new; dup; invokespecial; athrow -/
theorem vx_throw0 {cc : ByteArray} {pc : Nat} (hexec : p.tables.exec = Jvm.exec) (hb : c.code = cc) (hl : l.stackTraces = false) {own cls : String} {names : List String} {ik ic mc ms : Nat} {A : Nat → Prop}
    (hown : s.vm.findClass own = some m.cls) (hcls : Bundle.fit cls = true) (hnames : ∀ n ∈ names, Bundle.fit n = true)
    (hk : (Cond.classLink own ik cls).before args s = true) (hini : (Cond.initialized cls).before args s = true) (hat : ∀ w ∈ vx_at0 own ic cls names, w.before args s = true)
    (hgood : ∀ w ∈ Cond.classLink own ik cls :: Cond.initialized cls :: vx_at0 own ic cls names, vx_ot w = true)
    (hU : vx_Zq Bundle.tN "UNASSIGNED_STACK" Bundle.steD A s s.heap) (hN : vx_Zq Bundle.tN "SUPPRESSED_SENTINEL" Bundle.listD A s s.heap) (hS : va_S A s.heap H locs) (hsize : ls.size = c.maxLocals)
    (d0 : decode cc pc = .ok (.new ik, 3)) (d3 : decode cc (pc + 3) = .ok (.dup, 1)) (d4 : decode cc (pc + 4) = .ok (.invokespecial ic, 3)) (d7 : decode cc (pc + 7) = .ok (.athrow, 1))
    (hout : ∀ x ∈ c.exceptionTable.toList, covers x (pc + 7) = false)
    (hRframes : names.length + 3 < R.frames) (hRlocals : (rest.map fun v => v.category).sum + (13 * (names.length + 1) + 42) ≤ R.locals) (hRcells : cells + 1 ≤ R.cells) (hRslots : slots + 6 ≤ R.slots) (hlocks : meth.locks = false)
    (hx : ∀ t : State, s.vm.Alike t.vm → H.size ≤ t.heap.size → (∀ q : Nat, q < H.size → t.heap[q]? = H[q]?) → XC cls s t)
    (hf : ∀ z ∈ locs, free z.base) (hc : cells + 1 ≤ mc) (hs : slots + 6 ≤ ms) :
    W p l e R s m args below meth c H locs cells slots (vx_MQ below Qc XC args s mc ms free) (F0 m pc ls rest) := by
  intro T hT X
  have htr : e.platform.stackTraces = false := (show e.platform.stackTraces = l.stackTraces by rw [X.admits.platform]).trans hl
  have Y := vx_rebase X (R' := { frames := R.frames, locals := R.locals, cells := 1, slots := 6 }) (Nat.le_refl _) (Nat.le_refl _) hRcells hRslots
  obtain ⟨s', hA⟩ : ∃ z, z = (T.setVm s.vm).setFrames (.invoking m args :: below) := ⟨_, rfl⟩
  rw [← hA] at Y
  have hvm : s'.vm = s.vm := by rw [hA]; rfl
  have hhp : s'.heap = H := by rw [hA]; exact hT
  have hW0 : s.WarmedH s'.vm := by rw [hvm]; exact State.WarmedH.refl s
  have hat' : ∀ w ∈ vx_at0 own ic cls names, w.before args s' = true := fun w hw => vx_ot_at hW0 hvm.symm (hgood w (List.mem_cons_of_mem _ (List.mem_cons_of_mem _ hw))) (hat w hw)
  have hk' : (Cond.classLink own ik cls).before args s' = true := vx_ot_at hW0 hvm.symm (hgood _ List.mem_cons_self) hk
  have hini' : (Cond.initialized cls).before args s' = true := vx_ot_at hW0 hvm.symm (hgood _ (List.mem_cons_of_mem _ List.mem_cons_self)) hini
  have hU' : vx_Zq Bundle.tN "UNASSIGNED_STACK" Bundle.steD A s' s'.heap := by rw [hhp]; exact vx_Zq.moved hW0.alike (hU.kept hS.2.1)
  have hN' : vx_Zq Bundle.tN "SUPPRESSED_SENTINEL" Bundle.listD A s' s'.heap := by rw [hhp]; exact vx_Zq.moved hW0.alike (hN.kept hS.2.1)
  have h : ∀ w ∈ Bundle.ownAtoms0 own ic cls names, w.before args s' = true := vx_own hat' (vx_isRefq hU'.1) (vx_isRefq hN'.1) hU'.2.word hN'.2.word
  have hown' : s'.vm.findClass own = some m.cls := by rw [hvm]; exact hown
  have hins : (Cond.instantiable cls 6).before args s' = true := h _ (by simp [Bundle.ownAtoms0])
  obtain ⟨vm₁, cX, kX, hfX, hkX, -, -, X₁, st1⟩ := Y.newCold hexec (own := own) (C := cls) (index := ik) (n := 6) hown' hk' hins hini'
    (g := F0 m pc ls rest) rfl (by rw [hb]; exact d0) (Nat.le_refl _) (Nat.le_refl _)
  generalize hT1 : (T.setVm vm₁).pushCell { cls := cX, slots := kX.instanceTypes.map defaultValue, vm := .none } = T1 at X₁ st1
  have hcat : (Value.ref T.heap.size).category = 1 := rfl
  have hcellA : T1.heap[T.heap.size]? = some (freshCell cX kX) := by rw [← hT1]; exact State.heap_pushCell_size _ _
  have d3' : decode c.code (pc + 3) = .ok (.dup, 1) := by rw [hb]; exact d3
  obtain ⟨U, hsteps, hrun, hend, hW, hsame, ce, hce, hO⟩ := X₁.ctorThrow0 hexec htr (own := own) (cls := cls) (names := names) (ic := ic) hown' hcls hnames h (fun x hx => nomatch hx) hfX hkX hcellA (by rw [hhp, hT]; exact Nat.le_refl _)
    (g := { method := m, pc := pc + 4, locals := ls, stack := .ref T.heap.size :: .ref T.heap.size :: rest, locked := none }) rfl hsize rfl rfl (rest := rest) rfl
    (by rw [hb]; exact d4) (by rw [hb]; exact d7) hout hRframes (by simp only [List.map_cons, List.sum_cons, hcat]; omega) hlocks
  obtain ⟨f1, f2⟩ := vx_frame hsame
  rw [hhp] at f1 f2
  have hWs : s.WarmedH U.vm := State.WarmedH.trans hW0 hW
  have hcl : s.vm.findClass cls = some ce.cls := by
    have h9 := hO.cls
    rw [hvm] at h9
    exact h9
  have hall : s.sameButNew ({ U with vm := s.vm } : State) locs mc ms := by
    subst hA
    obtain ⟨e1, e2⟩ := hsame
    rw [State.setFrames_setFrames] at e1
    have h2 : (T.setVm s.vm).sameButNew ({ U with vm := s.vm } : State) [] (0 + 1) (0 + 6) := ⟨e1, e2⟩
    have h3 := X.same.trans h2
    rw [List.append_nil] at h3
    exact h3.mono hc hs
  refine ⟨U, ?_, .threw T.heap.size, hrun, hend, Or.inr ⟨T.heap.size, rfl, cls, ce, locs, hx U hWs.alike f1 (fun q hq => f2 q hq (fun z hz => nomatch hz)), hce, hO.vm, hcl, hWs, hall, hf⟩⟩
  refine st1 _ ?_
  show Steps p.tables e below (T1.setTop { method := m, pc := pc + 3, locals := ls, stack := .ref T.heap.size :: rest, locked := none }) _
  jvm_step X₁.here [X₁.here.top, hexec, d3', Value.category]
  exact hsteps
/-- 'throw new E("text")': new; dup; ldc; invokespecial; athrow -/
theorem vx_throwS {cc : ByteArray} {pc : Nat} (hexec : p.tables.exec = Jvm.exec) (hb : c.code = cc) (hl : l.stackTraces = false) {own cls text : String} {names : List String} {ik is ic mc ms sa : Nat} {A : Nat → Prop}
    (hown : s.vm.findClass own = some m.cls) (hcls : Bundle.fit cls = true) (hnames : ∀ n ∈ names, Bundle.fit n = true)
    (hk : (Cond.classLink own ik cls).before args s = true) (hini : (Cond.initialized cls).before args s = true) (hstr : vk_R own is text sa s) (hat : ∀ w ∈ vx_atS own ic cls names, w.before args s = true)
    (hgood : ∀ w ∈ Cond.classLink own ik cls :: Cond.initialized cls :: vx_atS own ic cls names, vx_ot w = true)
    (hU : vx_Zq Bundle.tN "UNASSIGNED_STACK" Bundle.steD A s s.heap) (hN : vx_Zq Bundle.tN "SUPPRESSED_SENTINEL" Bundle.listD A s s.heap) (hS : va_S A s.heap H locs) (hsize : ls.size = c.maxLocals)
    (d0 : decode cc pc = .ok (.new ik, 3)) (d3 : decode cc (pc + 3) = .ok (.dup, 1)) (d4 : decode cc (pc + 4) = .ok (.ldc is, 2)) (d6 : decode cc (pc + 6) = .ok (.invokespecial ic, 3)) (d9 : decode cc (pc + 9) = .ok (.athrow, 1))
    (hout : ∀ x ∈ c.exceptionTable.toList, covers x (pc + 9) = false)
    (hRframes : names.length + 3 < R.frames) (hRlocals : (rest.map fun v => v.category).sum + (13 * (names.length + 1) + 43) ≤ R.locals) (hRcells : cells + 1 ≤ R.cells) (hRslots : slots + 6 ≤ R.slots) (hlocks : meth.locks = false)
    (hx : ∀ t : State, s.vm.Alike t.vm → H.size ≤ t.heap.size → (∀ q : Nat, q < H.size → t.heap[q]? = H[q]?) → XC cls s t)
    (hf : ∀ z ∈ locs, free z.base) (hc : cells + 1 ≤ mc) (hs : slots + 6 ≤ ms) :
    W p l e R s m args below meth c H locs cells slots (vx_MQ below Qc XC args s mc ms free) (F0 m pc ls rest) := by
  intro T hT X
  have htr : e.platform.stackTraces = false := (show e.platform.stackTraces = l.stackTraces by rw [X.admits.platform]).trans hl
  have Y := vx_rebase X (R' := { frames := R.frames, locals := R.locals, cells := 1, slots := 6 }) (Nat.le_refl _) (Nat.le_refl _) hRcells hRslots
  obtain ⟨s', hA⟩ : ∃ z, z = (T.setVm s.vm).setFrames (.invoking m args :: below) := ⟨_, rfl⟩
  rw [← hA] at Y
  have hvm : s'.vm = s.vm := by rw [hA]; rfl
  have hhp : s'.heap = H := by rw [hA]; exact hT
  have hW0 : s.WarmedH s'.vm := by rw [hvm]; exact State.WarmedH.refl s
  have hat' : ∀ w ∈ vx_atS own ic cls names, w.before args s' = true := fun w hw => vx_ot_at hW0 hvm.symm (hgood w (List.mem_cons_of_mem _ (List.mem_cons_of_mem _ hw))) (hat w hw)
  have hk' : (Cond.classLink own ik cls).before args s' = true := vx_ot_at hW0 hvm.symm (hgood _ List.mem_cons_self) hk
  have hini' : (Cond.initialized cls).before args s' = true := vx_ot_at hW0 hvm.symm (hgood _ (List.mem_cons_of_mem _ List.mem_cons_self)) hini
  have hU' : vx_Zq Bundle.tN "UNASSIGNED_STACK" Bundle.steD A s' s'.heap := by rw [hhp]; exact vx_Zq.moved hW0.alike (hU.kept hS.2.1)
  have hN' : vx_Zq Bundle.tN "SUPPRESSED_SENTINEL" Bundle.listD A s' s'.heap := by rw [hhp]; exact vx_Zq.moved hW0.alike (hN.kept hS.2.1)
  have h : ∀ w ∈ Bundle.ownAtoms own ic cls names, w.before args s' = true := vx_own hat' (vx_isRefq hU'.1) (vx_isRefq hN'.1) hU'.2.word hN'.2.word
  have hown' : s'.vm.findClass own = some m.cls := by rw [hvm]; exact hown
  have hins : (Cond.instantiable cls 6).before args s' = true := h _ (by simp [Bundle.ownAtoms])
  obtain ⟨vm₁, cX, kX, hfX, hkX, -, -, X₁, st1⟩ := Y.newCold hexec (own := own) (C := cls) (index := ik) (n := 6) hown' hk' hins hini'
    (g := F0 m pc ls rest) rfl (by rw [hb]; exact d0) (Nat.le_refl _) (Nat.le_refl _)
  generalize hT1 : (T.setVm vm₁).pushCell { cls := cX, slots := kX.instanceTypes.map defaultValue, vm := .none } = T1 at X₁ st1
  have hcat : (Value.ref T.heap.size).category = 1 := rfl
  have hcellA : T1.heap[T.heap.size]? = some (freshCell cX kX) := by rw [← hT1]; exact State.heap_pushCell_size _ _
  have d3' : decode c.code (pc + 3) = .ok (.dup, 1) := by rw [hb]; exact d3
  have d4' : decode c.code (pc + 4) = .ok (.ldc is, 2) := by rw [hb]; exact d4
  have hstr' : vk_R own is text sa s' := vk_R.warm hW0 hstr
  obtain ⟨U, hsteps, hrun, hend, hW, hsame, ce, hce, hO⟩ := X₁.ctorThrowS hexec htr (own := own) (cls := cls) (names := names) (ic := ic) hown' hcls hnames h (fun x hx => nomatch hx) hfX hkX hcellA (by rw [hhp, hT]; exact Nat.le_refl _) (msg := .ref sa) rfl
    (g := { method := m, pc := pc + 6, locals := ls, stack := .ref sa :: .ref T.heap.size :: .ref T.heap.size :: rest, locked := none }) rfl hsize rfl rfl (rest := rest) rfl
    (by rw [hb]; exact d6) (by rw [hb]; exact d9) hout hRframes (by simp only [List.map_cons, List.sum_cons, hcat]; omega) hlocks
  obtain ⟨f1, f2⟩ := vx_frame hsame
  rw [hhp] at f1 f2
  have hWs : s.WarmedH U.vm := State.WarmedH.trans hW0 hW
  have hcl : s.vm.findClass cls = some ce.cls := by
    have h9 := hO.cls
    rw [hvm] at h9
    exact h9
  have hall : s.sameButNew ({ U with vm := s.vm } : State) locs mc ms := by
    subst hA
    obtain ⟨e1, e2⟩ := hsame
    rw [State.setFrames_setFrames] at e1
    have h2 : (T.setVm s.vm).sameButNew ({ U with vm := s.vm } : State) [] (0 + 1) (0 + 6) := ⟨e1, e2⟩
    have h3 := X.same.trans h2
    rw [List.append_nil] at h3
    exact h3.mono hc hs
  refine ⟨U, ?_, .threw T.heap.size, hrun, hend, Or.inr ⟨T.heap.size, rfl, cls, ce, locs, hx U hWs.alike f1 (fun q hq => f2 q hq (fun z hz => nomatch hz)), hce, hO.vm, hcl, hWs, hall, hf⟩⟩
  refine st1 _ ?_
  show Steps p.tables e below (T1.setTop { method := m, pc := pc + 3, locals := ls, stack := .ref T.heap.size :: rest, locked := none }) _
  jvm_step X₁.here [X₁.here.top, hexec, d3', Value.category]
  exact X₁.ldcString hexec (own := own) (text := text) (index := is) (a := sa) hown' hstr'.1 hstr'.2
    (g := { method := m, pc := pc + 4, locals := ls, stack := .ref T.heap.size :: .ref T.heap.size :: rest, locked := none }) rfl d4' _ hsteps
/-- 'throw new E("text")', the text by a wide index -/
theorem vx_throwSW {cc : ByteArray} {pc : Nat} (hexec : p.tables.exec = Jvm.exec) (hb : c.code = cc) (hl : l.stackTraces = false) {own cls text : String} {names : List String} {ik is ic mc ms sa : Nat} {A : Nat → Prop}
    (hown : s.vm.findClass own = some m.cls) (hcls : Bundle.fit cls = true) (hnames : ∀ n ∈ names, Bundle.fit n = true)
    (hk : (Cond.classLink own ik cls).before args s = true) (hini : (Cond.initialized cls).before args s = true) (hstr : vk_R own is text sa s) (hat : ∀ w ∈ vx_atS own ic cls names, w.before args s = true)
    (hgood : ∀ w ∈ Cond.classLink own ik cls :: Cond.initialized cls :: vx_atS own ic cls names, vx_ot w = true)
    (hU : vx_Zq Bundle.tN "UNASSIGNED_STACK" Bundle.steD A s s.heap) (hN : vx_Zq Bundle.tN "SUPPRESSED_SENTINEL" Bundle.listD A s s.heap) (hS : va_S A s.heap H locs) (hsize : ls.size = c.maxLocals)
    (d0 : decode cc pc = .ok (.new ik, 3)) (d3 : decode cc (pc + 3) = .ok (.dup, 1)) (d4 : decode cc (pc + 4) = .ok (.ldc_w is, 3)) (d7 : decode cc (pc + 7) = .ok (.invokespecial ic, 3)) (d10 : decode cc (pc + 10) = .ok (.athrow, 1))
    (hout : ∀ x ∈ c.exceptionTable.toList, covers x (pc + 10) = false)
    (hRframes : names.length + 3 < R.frames) (hRlocals : (rest.map fun v => v.category).sum + (13 * (names.length + 1) + 43) ≤ R.locals) (hRcells : cells + 1 ≤ R.cells) (hRslots : slots + 6 ≤ R.slots) (hlocks : meth.locks = false)
    (hx : ∀ t : State, s.vm.Alike t.vm → H.size ≤ t.heap.size → (∀ q : Nat, q < H.size → t.heap[q]? = H[q]?) → XC cls s t)
    (hf : ∀ z ∈ locs, free z.base) (hc : cells + 1 ≤ mc) (hs : slots + 6 ≤ ms) :
    W p l e R s m args below meth c H locs cells slots (vx_MQ below Qc XC args s mc ms free) (F0 m pc ls rest) := by
  intro T hT X
  have htr : e.platform.stackTraces = false := (show e.platform.stackTraces = l.stackTraces by rw [X.admits.platform]).trans hl
  have Y := vx_rebase X (R' := { frames := R.frames, locals := R.locals, cells := 1, slots := 6 }) (Nat.le_refl _) (Nat.le_refl _) hRcells hRslots
  obtain ⟨s', hA⟩ : ∃ z, z = (T.setVm s.vm).setFrames (.invoking m args :: below) := ⟨_, rfl⟩
  rw [← hA] at Y
  have hvm : s'.vm = s.vm := by rw [hA]; rfl
  have hhp : s'.heap = H := by rw [hA]; exact hT
  have hW0 : s.WarmedH s'.vm := by rw [hvm]; exact State.WarmedH.refl s
  have hat' : ∀ w ∈ vx_atS own ic cls names, w.before args s' = true := fun w hw => vx_ot_at hW0 hvm.symm (hgood w (List.mem_cons_of_mem _ (List.mem_cons_of_mem _ hw))) (hat w hw)
  have hk' : (Cond.classLink own ik cls).before args s' = true := vx_ot_at hW0 hvm.symm (hgood _ List.mem_cons_self) hk
  have hini' : (Cond.initialized cls).before args s' = true := vx_ot_at hW0 hvm.symm (hgood _ (List.mem_cons_of_mem _ List.mem_cons_self)) hini
  have hU' : vx_Zq Bundle.tN "UNASSIGNED_STACK" Bundle.steD A s' s'.heap := by rw [hhp]; exact vx_Zq.moved hW0.alike (hU.kept hS.2.1)
  have hN' : vx_Zq Bundle.tN "SUPPRESSED_SENTINEL" Bundle.listD A s' s'.heap := by rw [hhp]; exact vx_Zq.moved hW0.alike (hN.kept hS.2.1)
  have h : ∀ w ∈ Bundle.ownAtoms own ic cls names, w.before args s' = true := vx_own hat' (vx_isRefq hU'.1) (vx_isRefq hN'.1) hU'.2.word hN'.2.word
  have hown' : s'.vm.findClass own = some m.cls := by rw [hvm]; exact hown
  have hins : (Cond.instantiable cls 6).before args s' = true := h _ (by simp [Bundle.ownAtoms])
  obtain ⟨vm₁, cX, kX, hfX, hkX, -, -, X₁, st1⟩ := Y.newCold hexec (own := own) (C := cls) (index := ik) (n := 6) hown' hk' hins hini'
    (g := F0 m pc ls rest) rfl (by rw [hb]; exact d0) (Nat.le_refl _) (Nat.le_refl _)
  generalize hT1 : (T.setVm vm₁).pushCell { cls := cX, slots := kX.instanceTypes.map defaultValue, vm := .none } = T1 at X₁ st1
  have hcat : (Value.ref T.heap.size).category = 1 := rfl
  have hcellA : T1.heap[T.heap.size]? = some (freshCell cX kX) := by rw [← hT1]; exact State.heap_pushCell_size _ _
  have d3' : decode c.code (pc + 3) = .ok (.dup, 1) := by rw [hb]; exact d3
  have d4' : decode c.code (pc + 4) = .ok (.ldc_w is, 3) := by rw [hb]; exact d4
  have hstr' : vk_R own is text sa s' := vk_R.warm hW0 hstr
  obtain ⟨U, hsteps, hrun, hend, hW, hsame, ce, hce, hO⟩ := X₁.ctorThrowS hexec htr (own := own) (cls := cls) (names := names) (ic := ic) hown' hcls hnames h (fun x hx => nomatch hx) hfX hkX hcellA (by rw [hhp, hT]; exact Nat.le_refl _) (msg := .ref sa) rfl
    (g := { method := m, pc := pc + 7, locals := ls, stack := .ref sa :: .ref T.heap.size :: .ref T.heap.size :: rest, locked := none }) rfl hsize rfl rfl (rest := rest) rfl
    (by rw [hb]; exact d7) (by rw [hb]; exact d10) hout hRframes (by simp only [List.map_cons, List.sum_cons, hcat]; omega) hlocks
  obtain ⟨f1, f2⟩ := vx_frame hsame
  rw [hhp] at f1 f2
  have hWs : s.WarmedH U.vm := State.WarmedH.trans hW0 hW
  have hcl : s.vm.findClass cls = some ce.cls := by
    have h9 := hO.cls
    rw [hvm] at h9
    exact h9
  have hall : s.sameButNew ({ U with vm := s.vm } : State) locs mc ms := by
    subst hA
    obtain ⟨e1, e2⟩ := hsame
    rw [State.setFrames_setFrames] at e1
    have h2 : (T.setVm s.vm).sameButNew ({ U with vm := s.vm } : State) [] (0 + 1) (0 + 6) := ⟨e1, e2⟩
    have h3 := X.same.trans h2
    rw [List.append_nil] at h3
    exact h3.mono hc hs
  refine ⟨U, ?_, .threw T.heap.size, hrun, hend, Or.inr ⟨T.heap.size, rfl, cls, ce, locs, hx U hWs.alike f1 (fun q hq => f2 q hq (fun z hz => nomatch hz)), hce, hO.vm, hcl, hWs, hall, hf⟩⟩
  refine st1 _ ?_
  show Steps p.tables e below (T1.setTop { method := m, pc := pc + 3, locals := ls, stack := .ref T.heap.size :: rest, locked := none }) _
  jvm_step X₁.here [X₁.here.top, hexec, d3', Value.category]
  exact X₁.ldcStringW hexec (own := own) (text := text) (index := is) (a := sa) hown' hstr'.1 hstr'.2
    (g := { method := m, pc := pc + 4, locals := ls, stack := .ref T.heap.size :: .ref T.heap.size :: rest, locked := none }) rfl d4' _ hsteps
end Ends
section Bodies
variable {l : Launch}
theorem vx_ofW {y : MethodName} {ws ws' : List Cond} {rm : Room} {Pc : Array Value → State → Prop} {Qc : Array Value → State → Outcome → State → Prop} {XC : String → State → State → Prop} {mc ms : Nat} {free : Addr → Prop} {cc : ByteArray} {maxL : Nat} {ret : Option FieldType}
    (hy : plainName y.cls = true) (hw : ws = Cond.code y cc maxL ret :: ws')
    (body : ∀ p e s m args below meth c s₁, BodyLoose p l y (headSpec ws rm) cc maxL ret e s m args below meth c s₁ → c.maxLocals = maxL → (∀ x ∈ c.exceptionTable.toList, False) → Pc args s →
      W p l e (headSpec ws rm).room s m args below meth c s.heap [] 0 0 (vx_MQ below Qc XC args s mc ms free) (entryFrame m args maxL)) : vx_Met l y ws rm Pc Qc XC mc ms free := by
  refine MetFree.of_bodyS (code := cc) (maxLocals := maxL) (ret := ret) hy ?_ ?_
  · intro args s m h hn
    obtain ⟨meth, c, h1, h2, h3, h4, h5, h6, -, -⟩ := Cond.code_spec hn (atoms_spec (ws := ws) h _ (by rw [hw]; exact List.mem_cons_self))
    exact ⟨meth, c, h1, h2, h3, h4, h5, h6⟩
  · intro p e s m args below meth c s₁ B hml hP _
    have hh0 : s₁.heap = s.heap := by rw [B.state]; rfl
    have ht : ∀ x ∈ c.exceptionTable.toList, False := by
      obtain ⟨meth9, c9, h1, h2, -, -, -, -, h7, -⟩ := Cond.code_spec B.named (atoms_spec (ws := ws) B.pre _ (by rw [hw]; exact List.mem_cons_self))
      cases Option.some.inj (h1.symm.trans B.method)
      cases Option.some.inj (h2.symm.trans (Stand.of_body B).code)
      intro x hx
      rw [Array.isEmpty_iff.mp h7] at hx
      cases hx
    obtain ⟨t, a1, o, b1, b2, b3⟩ := body p e s m args below meth c s₁ B hml ht hP s₁ hh0 (Stand.of_body B)
    exact ⟨t, o, a1, b1, b2, b3⟩
/-- the table of a body with handlers -/
theorem vx_table {p : Program} {x y : MethodName} {S : Spec} {cc bytes : ByteArray} {maxL maxL' : Nat} {ret ret' : Option FieldType} {e : Env} {s s₁ : State} {m : MethodId} {args : Array Value} {below : List Frame} {meth : Method} {c : Code} {hh : List (Nat × Nat × Nat × Nat)}
    (B : BodyLoose p l y S cc maxL ret e s m args below meth c s₁) (h : (Cond.codeWith y bytes maxL' ret' hh).before args s = true) : c.exceptionTable.toList = tableOf hh := by
  obtain ⟨m9, meth9, c9, hn9, h1, h2, -, -, h6, -⟩ := Cond.codeWith_spec h
  cases Option.some.inj (hn9.symm.trans B.named)
  cases Option.some.inj (h1.symm.trans B.method)
  cases Option.some.inj (h2.symm.trans (Stand.of_body B).code)
  rw [← h6, table_eq]
end Bodies
end VXA
/-! ===== END ===== -/
/-! ===== BEGIN a static call of a method with an exception table ===== -/
section VXS
variable {p : Program} {l : Launch} {e : Env} {R : Room} {s : State} {m : MethodId} {args : Array Value} {below : List Frame} {meth : Method} {c : Code} {T : State} {H : Heap} {locs : List Loc} {cells slots : Nat}
abbrev vx_CSW (R : Room) (s : State) (args : Array Value) (own : String) (index : Nat) (y : MethodName) (bytes : ByteArray) (maxL : Nat) (ret : Option FieldType) (hh : List (Nat × Nat × Nat × Nat)) (ws : List Cond) (rm : Room) (mc ms n : Nat) : Prop :=
  (rm.cells = mc ∧ rm.slots = ms ∧ rm.frames + 1 ≤ R.frames ∧ 8 + (maxL + 11) + rm.locals ≤ R.locals ∧ (∀ w ∈ ws, ∀ (a' : Array Value) (U : State), s.WarmedH U.vm → w.before a' U = true) ∧ Cond.codeWith y bytes maxL ret hh ∈ ws) ∧
  (Cond.codeWith y bytes maxL ret hh).before args s = true ∧ (Cond.initialized y.cls).before args s = true ∧ (y.cls ≠ "java/lang/invoke/MethodHandle" ∧ y.cls ≠ "java/lang/invoke/VarHandle") ∧
  (∀ sig, parseMethodDescriptor y.desc = some sig → n = sig.parameters.length) ∧ (Cond.methodLink own index y).before args s = true ∧ (Cond.static y).before args s = true
theorem vx_cwSW {own : String} {index maxL mc ms : Nat} {y : MethodName} {bytes : ByteArray} {ret : Option FieldType} {hh : List (Nat × Nat × Nat × Nat)} {Ts ws ws' : List Cond} {rm : Room} (n : Nat) (ht : ∀ w ∈ Ts, w.before args s = true) (hT : GoodIn Ts (va_wsS own index y ws)) (hw : ws = Cond.codeWith y bytes maxL ret hh :: ws') (hrc : rm.cells = mc) (hrs : rm.slots = ms)
    (hd : y.cls ≠ "java/lang/invoke/MethodHandle" ∧ y.cls ≠ "java/lang/invoke/VarHandle" ∧ (parseMethodDescriptor y.desc).map (fun d => d.parameters.length) = some n) (hR : rm.frames + 1 ≤ R.frames ∧ 8 + (maxL + 11) + rm.locals ≤ R.locals) :
    vx_CSW R s args own index y bytes maxL ret hh ws rm mc ms n := by
  have ok : ∀ w ∈ va_wsS own index y ws, w.before args s = true := fun w h => ht w (hT w h).1
  have hG : GoodIn Ts ws := fun w h => hT w (by unfold va_wsS; exact List.mem_append_right _ h)
  have hc : Cond.codeWith y bytes maxL ret hh ∈ ws := by rw [hw]; exact List.mem_cons_self
  refine ⟨⟨hrc, hrs, hR.1, hR.2, pay_in ht hG, hc⟩, ht _ (hG _ hc).1, ok _ (by simp [va_wsS]), ⟨hd.1, hd.2.1⟩, fun sig h => ?_, ok _ (by simp [va_wsS]), ok _ (by simp [va_wsS])⟩
  have h2 := hd.2.2
  rw [h] at h2
  exact (Option.some.inj h2).symm
theorem vx_callSW (X : Stand p l e R s m args below meth c T locs cells slots) (hexec : p.tables.exec = Jvm.exec) {own : String} {index : Nat} {y : MethodName} {bytes : ByteArray} {maxL : Nat} {ret : Option FieldType} {hh : List (Nat × Nat × Nat × Nat)}
    (hown : s.vm.findClass own = some m.cls) (hlink : (Cond.methodLink own index y).before args s = true) (hstat : (Cond.static y).before args s = true) (hinit : (Cond.initialized y.cls).before args s = true)
    (hcode : (Cond.codeWith y bytes maxL ret hh).before args s = true) (hy : y.cls ≠ "java/lang/invoke/MethodHandle" ∧ y.cls ≠ "java/lang/invoke/VarHandle")
    {W9 : Nat} {Pre : Pt → Array Value → Prop} {Post : Pt → Array Value → Option Value → Pt → Prop} (hK : Back l R p e below s args y 3 W9 Pre Post)
    {g : JFrame} (hg : g.method = m) (hsize : g.locals.size = c.maxLocals) {argsL rest : List Value} (hlen : ∀ sig, parseMethodDescriptor y.desc = some sig → argsL.length = sig.parameters.length)
    (hstack : g.stack = argsL.reverse ++ rest) (hW : 2 * g.monitorRoom + (rest.map fun v => v.category).sum ≤ W9) (hdg : decode c.code g.pc = .ok (.invokestatic index, 3))
    (hpre : ∀ vm₁, s.WarmedH vm₁ → Pre ⟨T.setVm vm₁, locs, cells, slots⟩ argsL.toArray) :
    ∃ (v : Option Value) (vm₁ : Vm) (B : Pt), s.WarmedH vm₁ ∧ Stand p l e R s m args below meth c B.U B.locs B.cells B.slots ∧ Post ⟨T.setVm vm₁, locs, cells, slots⟩ argsL.toArray v B ∧
      ∀ target, Steps p.tables e below (B.U.setTop { g with pc := g.pc + 3, stack := v.toList ++ rest }) target → Steps p.tables e below (T.setTop g) target := by
  obtain ⟨mk, methM, cM, hnamed, hmethM, -, -, -, -, -, -, hsigM⟩ := Cond.codeWith_spec hcode
  have hstatic : methM.isStatic = true := Cond.static_spec hnamed hmethM hstat
  obtain ⟨kP, hkP, -⟩ := className_of_methodNamed hnamed
  have hinitP : kP.init = .initialized := Cond.initialized_spec (findClass_of_methodNamed hnamed) hkP hinit
  obtain ⟨vm₁, X₁, hstep₁⟩ := X.invokestatic hexec hown hlink hnamed hmethM hstatic hkP hinitP hy (g := g) hg (argsL := argsL) (rest := rest) (hlen _ hsigM) hstack hdg
  obtain ⟨v, B, X', hpost, hsteps⟩ := hK m meth c ⟨T.setVm vm₁, locs, cells, slots⟩ { g with stack := rest } (.invokestatic index) mk argsL.toArray X₁ hg hsize hdg hW (X₁.named hnamed) (hpre vm₁ X₁.warmed)
  exact ⟨v, vm₁, B, X₁.warmed, X', hpost, fun target h => hstep₁ _ fun acts => by rw [doInvoke_state]; exact hsteps.trans h⟩
theorem vx_runSW {y : MethodName} {bytes cc : ByteArray} {maxL nL mc ms n index : Nat} {ret : Option FieldType} {hh : List (Nat × Nat × Nat × Nat)} {ws : List Cond} {rm : Room} {Pc : Array Value → State → Prop} {Qc : Array Value → State → Outcome → State → Prop} {free : Addr → Prop} {Ts : List Cond} {own : String} {As rest : List Value} {g : JFrame}
    (S : CallFix p m c cc nL s args Ts own) (hM : Met l y ws rm Pc Qc mc ms free) (cw : vx_CSW R s args own index y bytes maxL ret hh ws rm mc ms n) (hp : PreS s H Pc As)
    (hg : g.method = m) (hn : As.length = n) (hsize : g.locals.size = nL) (hstack : g.stack = As.reverse ++ rest) (hW : 2 * g.monitorRoom + (rest.map fun v => v.category).sum ≤ 8) (hdg : decode cc g.pc = .ok (.invokestatic index, 3)) (hf : cells + mc ≤ R.cells ∧ slots + ms ≤ R.slots) :
    va_Run p l e R s m args below meth c H locs cells slots mc ms g rest (Qc As.toArray) (free) := by
  obtain ⟨⟨hrc, hrs, hfr, hlo, hws, hcw⟩, hcode, hini, hy, hlen, hl, hstt⟩ := cw
  have hK : Back l R p e below s args y 3 8 (PreOf R mc ms Pc) (PostOf Qc mc ms free) := va_backW (hh := hh) (bytes := bytes) (maxL := maxL) (ret := ret) hM hp.1 hrc hrs hfr hlo hws hcw (fun a' U hW => word_at hW (Or.inl (by first | rfl | simp [Cond.onTables, Cond.keeps, Cond.steady])) hini)
  obtain ⟨hx, hb, hml, ho, -⟩ := S
  intro T hT X
  obtain ⟨v, vm₁, ⟨U', l2, c2, s2⟩, hW₁, X', ⟨g', mk, t, L, e1, e2, hq, h1, hL, h2, h3⟩, st⟩ := vx_callSW X hx (hh := hh) (bytes := bytes) (maxL := maxL) (ret := ret) ho hl hstt hini hcode hy hK hg (hsize.trans hml.symm) (argsL := As) (rest := rest) (fun sig h => hn.trans (hlen sig h)) hstack hW (by rw [hb]; exact hdg)
    (fun vm₁ hW₁ => ⟨hf.1, hf.2, hp.2 (T.setVm vm₁) hT hW₁⟩)
  dsimp only [Pt.U, Pt.locs, Pt.cells, Pt.slots] at X' e1 e2 h1 h2 h3 st
  subst h1; subst h2; subst h3
  exact ⟨v, (T.setVm vm₁).calling g' mk As.toArray, t, U', L, hT, X', hL, e1, e2, hq, st⟩
/-- not caught here, past rows that name other classes: it goes on to the caller -/
theorem vx_outP {p : Program} {l : Launch} {e : Env} {R : Room} {s : State} {m : MethodId} {args : Array Value} {below : List Frame} {meth : Method} {c : Code} {H : Heap} {locs : List Loc} {cells slots : Nat} {free : Addr → Prop} {ls : Array Slot} {rest : List Value} {Qc : Array Value → State → Outcome → State → Prop} {XC : String → State → State → Prop}
    {pc : Nat} {own E : String} {ce : Cell} {q : Addr} {mc ms : Nat} (hown : s.vm.findClass own = some m.cls) (hlocks : meth.locks = false)
    (hpass : ∀ z ∈ c.exceptionTable.toList, covers z pc = false ∨ (z.catchType ≠ 0 ∧ ∃ nm : String, (Cond.classLink own z.catchType nm).before args s = true ∧ va_Nc E nm s)) (hcell : H[q]? = some ce) (hv : ce.vm = .none) (hcl : s.vm.findClass E = some ce.cls)
    (hx : ∀ t : State, t.heap = H → s.vm.Alike t.vm → XC E s t) (hf : ∀ z ∈ locs, free z.base) (hc : cells ≤ mc) (hs : slots ≤ ms) :
    vx_W p l e R s m args below meth c H locs cells slots (vx_MQ below Qc XC args s mc ms free) (F0 m pc ls rest) q := by
  intro T hT X
  have hpl : e.platform.magicAccessors = ({} : Platform).magicAccessors := by rw [X.admits.platform]
  obtain ⟨vm', hW', X', st⟩ := X.outThrough hlocks q (g := F0 m pc ls rest) rfl rfl rfl (cell := ce) (by rw [hT]; exact hcell) (by rw [hv]; rfl)
    (by obtain ⟨k9, h9, -⟩ := Vm.findClass_spec hcl; exact ⟨k9, h9⟩) (fun z hz => by
      rcases hpass z hz with h | ⟨hz0, nm, hl1, hn1⟩
      · exact Or.inl h
      · obtain ⟨c6, hc6, hcl6⟩ := Cond.classLink_spec hown hl1 e.platform hpl
        obtain ⟨a8, b8, h1, h2, h3⟩ := hn1
        cases Option.some.inj (h1.symm.trans hcl)
        cases Option.some.inj (h2.symm.trans hc6)
        exact Or.inr ⟨hz0, _, hcl6, h3⟩)
  obtain ⟨g₀, hfr⟩ := X'.frames_eq
  have hcell9 : ((T.setVm vm').setFrames (.throwing q :: below)).heap[q]? = some ce := by
    show T.heap[q]? = some ce
    rw [hT]; exact hcell
  have hend : Ended ((T.setVm vm').setFrames (.throwing q :: below)) below (.threw q) := State.frames_setFrames _ (State.cur_lt_of_frames hfr)
  refine ⟨(T.setVm vm').setFrames (.throwing q :: below), ?_, .threw q, X'.here.running, hend, Or.inr ⟨q, rfl, E, ce, locs, hx _ hT (X'.ends _).1.alike, hcell9, hv, hcl, (X'.ends _).1, (X'.ends _).2.mono hc hs, hf⟩⟩
  rw [X.pushThrowing_eq]
  exact st
/-- a thing of a world lies in the heap -/
theorem vx_lt {D : va_G} {cl : List vw_C} {ws : va_W} {H1 : Heap} (h : va_P D cl ws H1) {k : Nat} {q : Nat × va_E} (hk : ws[k]? = some q) : q.1 < H1.size := (h k q hk).lt
end VXS
/-! ===== END ===== -/
/-! ===== BEGIN methods with a table of their own: called by a name, returning or throwing ===== -/
section VXH
/-! vx_backW, vx_callVX, vx_callSX, vx_callVW, vx_runVW, vx_runVX, vx_runSX, vx_ofWH follow the same proofs as their sisters above (Free/Laws.lean, Shelf42/LK1.lean); vx_outP calls Shelf42/NT130.lean (outThrough). -/
section
variable {l : Launch} {R : Room} {p : Program} {e : Env} {below : List Frame} {s : State} {sargs : Array Value} {y : MethodName} {len W9 : Nat}
theorem vx_backW {ws : List Cond} {rm : Room} {Pc : Array Value → State → Prop} {Qc : Array Value → State → Outcome → State → Prop} {XC : String → State → State → Prop} {mc ms : Nat} {free : Addr → Prop} {bytes : ByteArray} {maxL : Nat} {ret : Option FieldType} {hh : List (Nat × Nat × Nat × Nat)}
    (hM : vx_Met l y ws rm Pc Qc XC mc ms free) (hblind : FrameBlind Pc) (hrc : rm.cells = mc) (hrs : rm.slots = ms)
    (hframes : rm.frames + 1 ≤ R.frames) (hlocals : W9 + (maxL + 11) + rm.locals ≤ R.locals)
    (hws : ∀ w ∈ ws, ∀ a' U, s.WarmedH U.vm → w.before a' U = true) (hcode : Cond.codeWith y bytes maxL ret hh ∈ ws) (hinit : ∀ a' U, s.WarmedH U.vm → (Cond.initialized y.cls).before a' U = true) :
    vx_Back l R p e below s sargs y len W9 (PreOf R mc ms Pc) (PostOf Qc mc ms free) (vx_Post XC mc ms free) := by
  intro m meth c A g ig mk a X hg hsize hdg hW hn hp
  have h1 : (headSpec ws rm).pre.before a A.U = true := atoms_intro fun w hw => hws w hw _ _ X.warmed
  have h2 : (Cond.codeWith y bytes maxL ret hh).before a A.U = true := hws _ hcode _ _ X.warmed
  have h3 : (Cond.initialized y.cls).before a A.U = true := hinit _ _ X.warmed
  have h4 : A.cells + (headSpec ws rm).room.cells ≤ R.cells := by rw [show (headSpec ws rm).room.cells = mc from hrc]; exact hp.1
  have h5 : A.slots + (headSpec ws rm).room.slots ≤ R.slots := by rw [show (headSpec ws rm).room.slots = ms from hrs]; exact hp.2.1
  have hPc : Pc a (A.U.calling g mk a) := hblind _ _ _ _ hp.2.2
  obtain ⟨U, Ls, c0, s0⟩ := A
  dsimp only [Pt.U, Pt.locs, Pt.cells, Pt.slots] at h1 h2 h3 h4 h5 X hn hPc ⊢
  obtain ⟨m9, methY, cY, hn9, hmY, hcY, -, hlY, -⟩ := Cond.codeWith_spec h2
  cases Option.some.inj (hn9.symm.trans hn)
  obtain ⟨kY, hkY, -⟩ := className_of_methodNamed hn
  have hinitY : kY.init = .initialized := Cond.initialized_spec (findClass_of_methodNamed hn) hkY h3
  have h : At U g.method c below := by rw [hg]; exact X.here
  have hlocals9 : W9 + (maxL + 11) + (headSpec ws rm).room.locals ≤ R.locals := hlocals
  have happ : (headSpec ws rm).appliesLoose y e.platform (U.calling g mk a) = true :=
    Spec.appliesLoose_calling (g := g) h hdg hn hkY hinitY
      (X.room_calling (g := g) (R' := (headSpec ws rm).room) hsize hmY hcY hframes (by rw [hlY]; omega) h4 h5) h1
  obtain ⟨mid, hmid⟩ := h.above
  have hfr : (U.setTop g).frames = (.java g :: mid) ++ below := by rw [State.frames_setTop' g h.top, hmid]; rfl
  obtain ⟨o, s₂, hsteps, -, hend, hq⟩ := Steps.callFree hM p X.admits X.cas X.clock (acts := []) hfr happ hPc trivial
  have hq' : vx_Q Qc XC mc ms free a (U.calling g mk a) o s₂ := hq
  rw [State.frames_setTop' g h.top] at hend
  obtain ⟨g₀, hg0⟩ := Option.isSome_iff_exists.mp h.top
  obtain ⟨r, hr⟩ := State.topJava?_eq_some.mp hg0
  have hr' : (({ U with heap := s₂.heap, slotsUsed := s₂.slotsUsed } : State).setVm s₂.vm).frames = .java g₀ :: r := hr
  rcases hq' with ⟨hqc, L, hfe, hL⟩ | ⟨q, rfl, E, ce, L, hx, hce, hcv, hcl, hW₂, hsm, hL⟩
  · obtain ⟨⟨v, rfl⟩, hW₂, e2, q2, q3, q4, q5, q6⟩ := id hfe
    have e3 : s₂ = ({ (U.calling g mk a).setFrames s₂.frames with heap := s₂.heap, slotsUsed := s₂.slotsUsed } : State).setVm s₂.vm := by
      have : s₂ = ({ s₂ with vm := (U.calling g mk a).vm } : State).setVm s₂.vm := rfl
      rw [e2] at this
      exact this
    obtain ⟨c₂, i₂, len₂, hc₂, hd₂, hf₂⟩ := hend
    have hW' : U.WarmedH s₂.vm := hW₂
    have hcc : c₂ = c := by
      have h1 : s₂.code? g.method = U.code? g.method := by
        rw [State.code?_eq, State.code?_eq, hW'.alike.method?]
      exact Option.some.inj (hc₂.symm.trans (h1.trans h.code))
    subst hcc
    have hlen : len₂ = len := by rw [hdg] at hd₂; cases hd₂; rfl
    subst hlen
    have hs₂ : s₂ = (({ U with heap := s₂.heap, slotsUsed := s₂.slotsUsed } : State).setVm s₂.vm).setTop { g with pc := g.pc + len₂, stack := v.toList ++ g.stack } := by
      refine e3.trans ?_
      rw [hf₂, State.calling_eq h.top, State.setFrames_setFrames, State.setTop_of_frames _ hr', hr]
      rfl
    have hsame : U.sameButNew ({ U with heap := s₂.heap, slotsUsed := s₂.slotsUsed } : State) L mc ms := by
      refine ⟨?_, q2, q3, q4, q5, q6⟩
      obtain ⟨t, ht, -⟩ := State.frames_cons hr
      show ({ U with heap := s₂.heap, slotsUsed := s₂.slotsUsed } : State) = { U.setFrames U.frames with heap := s₂.heap, slotsUsed := s₂.slotsUsed }
      rw [State.setFrames_self ht]
    subst hg
    refine Or.inl ⟨v, ⟨(({ U with heap := s₂.heap, slotsUsed := s₂.slotsUsed } : State).setVm s₂.vm), Ls ++ L, c0 + mc, s0 + ms⟩,
      ⟨X.admits, X.cas, X.clock, X.frames, X.room, X.hears, X.method, X.code, (X.here.setHeapUsed s₂.heap s₂.slotsUsed).setVm hW'.alike, X.tail, State.WarmedH.trans X.warmed hW', X.limits, X.bytes, X.same.trans (hsame.setVm s.vm)⟩,
      ⟨g, mk, s₂, L, rfl, rfl, hqc, rfl, hL, rfl, rfl⟩, ?_⟩
    show Steps p.tables e below _ ((({ U with heap := s₂.heap, slotsUsed := s₂.slotsUsed } : State).setVm s₂.vm).setTop { g with pc := g.pc + len₂, stack := v.toList ++ g.stack })
    rw [← hs₂]
    exact hsteps
  · obtain ⟨e2, q2, q3, q4, q5, q6⟩ := id hsm
    have e3 : s₂ = ({ (U.calling g mk a).setFrames s₂.frames with heap := s₂.heap, slotsUsed := s₂.slotsUsed } : State).setVm s₂.vm := by
      have : s₂ = ({ s₂ with vm := (U.calling g mk a).vm } : State).setVm s₂.vm := rfl
      rw [e2] at this
      exact this
    have hf₂ : s₂.frames = .throwing q :: .java g :: U.frames.tail := hend
    have hW' : U.WarmedH s₂.vm := hW₂
    have hs₂ : s₂ = ((({ U with heap := s₂.heap, slotsUsed := s₂.slotsUsed } : State).setVm s₂.vm).setTop g).pushFrame (.throwing q) := by
      refine e3.trans ?_
      rw [hf₂, State.calling_eq h.top, State.setFrames_setFrames, State.pushFrame, State.frames_setTop _ hr', State.setTop_of_frames _ hr', State.setFrames_setFrames, hr]
      rfl
    have hsame : U.sameButNew ({ U with heap := s₂.heap, slotsUsed := s₂.slotsUsed } : State) L mc ms := by
      refine ⟨?_, q2, q3, q4, q5, q6⟩
      obtain ⟨t, ht, -⟩ := State.frames_cons hr
      show ({ U with heap := s₂.heap, slotsUsed := s₂.slotsUsed } : State) = { U.setFrames U.frames with heap := s₂.heap, slotsUsed := s₂.slotsUsed }
      rw [State.setFrames_self ht]
    subst hg
    refine Or.inr ⟨q, ⟨(({ U with heap := s₂.heap, slotsUsed := s₂.slotsUsed } : State).setVm s₂.vm), Ls ++ L, c0 + mc, s0 + ms⟩,
      ⟨X.admits, X.cas, X.clock, X.frames, X.room, X.hears, X.method, X.code, (X.here.setHeapUsed s₂.heap s₂.slotsUsed).setVm hW'.alike, X.tail, State.WarmedH.trans X.warmed hW', X.limits, X.bytes, X.same.trans (hsame.setVm s.vm)⟩,
      ⟨g, mk, s₂, L, E, ce, rfl, rfl, hx, hce, hcv, hcl, rfl, hL, rfl, rfl⟩, ?_⟩
    show Steps p.tables e below _ (((({ U with heap := s₂.heap, slotsUsed := s₂.slotsUsed } : State).setVm s₂.vm).setTop g).pushFrame (.throwing q))
    rw [← hs₂]
    exact hsteps
end
variable {p : Program} {l : Launch} {e : Env} {R : Room} {s : State} {m : MethodId} {args : Array Value} {below : List Frame} {meth : Method} {c : Code} {T : State} {H : Heap} {locs : List Loc} {cells slots : Nat}
theorem vx_callVX (X : Stand p l e R s m args below meth c T locs cells slots) (hexec : p.tables.exec = Jvm.exec) {own C : String} {index : Nat} {y : MethodName} {bytes : ByteArray} {maxL : Nat} {ret : Option FieldType} {hh : List (Nat × Nat × Nat × Nat)}
    (hown : s.vm.findClass own = some m.cls) (hlink : (Cond.methodLink own index y).before args s = true) (hinst : (Cond.instanceMethod y).before args s = true) (hsel : (Cond.selects C y y).before args s = true)
    (hcode : (Cond.codeWith y bytes maxL ret hh).before args s = true) (hy : y.cls ≠ "java/lang/invoke/MethodHandle" ∧ y.cls ≠ "java/lang/invoke/VarHandle")
    {W9 : Nat} {Pre : Pt → Array Value → Prop} {Post : Pt → Array Value → Option Value → Pt → Prop} {PostX : Pt → Array Value → Addr → Pt → Prop} (hK : vx_Back l R p e below s args y 3 W9 Pre Post PostX)
    {b : Addr} {cellB : Cell} (hcell : T.heap[b]? = some cellB) (hobj : cellB.vm.isStatics = false) (hcls : s.vm.findClass C = some cellB.cls)
    {g : JFrame} (hg : g.method = m) (hsize : g.locals.size = c.maxLocals) {argsL rest : List Value} (hlen : ∀ sig, parseMethodDescriptor y.desc = some sig → argsL.length = sig.parameters.length)
    (hstack : g.stack = argsL.reverse ++ .ref b :: rest) (hW : 2 * g.monitorRoom + (rest.map fun v => v.category).sum ≤ W9) (hdg : decode c.code g.pc = .ok (.invokevirtual index, 3))
    (hpre : ∀ vm₁, s.WarmedH vm₁ → Pre ⟨T.setVm vm₁, locs, cells, slots⟩ (Value.ref b :: argsL).toArray) :
    (∃ (v : Option Value) (vm₁ : Vm) (B : Pt), s.WarmedH vm₁ ∧ Stand p l e R s m args below meth c B.U B.locs B.cells B.slots ∧ Post ⟨T.setVm vm₁, locs, cells, slots⟩ (Value.ref b :: argsL).toArray v B ∧
      ∀ target, Steps p.tables e below (B.U.setTop { g with pc := g.pc + 3, stack := v.toList ++ rest }) target → Steps p.tables e below (T.setTop g) target) ∨
    (∃ (q : Addr) (vm₁ : Vm) (B : Pt), s.WarmedH vm₁ ∧ Stand p l e R s m args below meth c B.U B.locs B.cells B.slots ∧ PostX ⟨T.setVm vm₁, locs, cells, slots⟩ (Value.ref b :: argsL).toArray q B ∧
      Steps p.tables e below (T.setTop g) ((B.U.setTop { g with stack := rest }).pushFrame (.throwing q))) := by
  obtain ⟨mk, methM, hnamed, hmethM, hstM, habM⟩ := Cond.instanceMethod_spec hinst
  obtain ⟨m8, methM', cM, hn8, hmethM', -, -, -, -, -, -, hsigM⟩ := Cond.codeWith_spec hcode
  cases Option.some.inj (hn8.symm.trans hnamed)
  cases hmethM.symm.trans hmethM'
  obtain ⟨c2, r2, m2, q1, q2, q3, q4, kP, hkP, hkPi⟩ := Cond.selects_spec hsel
  cases hcls.symm.trans q1
  cases (State.methodFound?_of_named hnamed hy).symm.trans q2
  cases hnamed.symm.trans q3
  have hselP : selectMethod e.platform s.vm cellB.cls mk = .method mk := by rw [Launch.admits_selectMethod X.admits]; exact q4
  obtain ⟨vm₁, X₁, hstep₁⟩ := X.invokevirtual hexec hown hlink hnamed hmethM hstM hkP hkPi hy (a := b) (cell := cellB) hcell
    (fun z h => by rw [h] at hobj; cases hobj) hselP hmethM habM hkP hkPi (g := g) hg (argsL := argsL) (rest := rest) (hlen _ hsigM) hstack hdg
  rcases hK m meth c ⟨T.setVm vm₁, locs, cells, slots⟩ { g with stack := rest } (.invokevirtual index) mk (Value.ref b :: argsL).toArray X₁ hg hsize hdg hW (X₁.named hnamed) (hpre vm₁ X₁.warmed) with ⟨v, B, X', hpost, hsteps⟩ | ⟨q, B, X', hpost, hsteps⟩
  · exact Or.inl ⟨v, vm₁, B, X₁.warmed, X', hpost, fun target h => hstep₁ _ fun acts => by rw [doInvoke_state]; exact hsteps.trans h⟩
  · exact Or.inr ⟨q, vm₁, B, X₁.warmed, X', hpost, hstep₁ _ fun acts => by rw [doInvoke_state]; exact hsteps⟩
theorem vx_callSX (X : Stand p l e R s m args below meth c T locs cells slots) (hexec : p.tables.exec = Jvm.exec) {own : String} {index : Nat} {y : MethodName} {bytes : ByteArray} {maxL : Nat} {ret : Option FieldType} {hh : List (Nat × Nat × Nat × Nat)}
    (hown : s.vm.findClass own = some m.cls) (hlink : (Cond.methodLink own index y).before args s = true) (hstat : (Cond.static y).before args s = true) (hinit : (Cond.initialized y.cls).before args s = true)
    (hcode : (Cond.codeWith y bytes maxL ret hh).before args s = true) (hy : y.cls ≠ "java/lang/invoke/MethodHandle" ∧ y.cls ≠ "java/lang/invoke/VarHandle")
    {W9 : Nat} {Pre : Pt → Array Value → Prop} {Post : Pt → Array Value → Option Value → Pt → Prop} {PostX : Pt → Array Value → Addr → Pt → Prop} (hK : vx_Back l R p e below s args y 3 W9 Pre Post PostX)
    {g : JFrame} (hg : g.method = m) (hsize : g.locals.size = c.maxLocals) {argsL rest : List Value} (hlen : ∀ sig, parseMethodDescriptor y.desc = some sig → argsL.length = sig.parameters.length)
    (hstack : g.stack = argsL.reverse ++ rest) (hW : 2 * g.monitorRoom + (rest.map fun v => v.category).sum ≤ W9) (hdg : decode c.code g.pc = .ok (.invokestatic index, 3))
    (hpre : ∀ vm₁, s.WarmedH vm₁ → Pre ⟨T.setVm vm₁, locs, cells, slots⟩ argsL.toArray) :
    (∃ (v : Option Value) (vm₁ : Vm) (B : Pt), s.WarmedH vm₁ ∧ Stand p l e R s m args below meth c B.U B.locs B.cells B.slots ∧ Post ⟨T.setVm vm₁, locs, cells, slots⟩ argsL.toArray v B ∧
      ∀ target, Steps p.tables e below (B.U.setTop { g with pc := g.pc + 3, stack := v.toList ++ rest }) target → Steps p.tables e below (T.setTop g) target) ∨
    (∃ (q : Addr) (vm₁ : Vm) (B : Pt), s.WarmedH vm₁ ∧ Stand p l e R s m args below meth c B.U B.locs B.cells B.slots ∧ PostX ⟨T.setVm vm₁, locs, cells, slots⟩ argsL.toArray q B ∧
      Steps p.tables e below (T.setTop g) ((B.U.setTop { g with stack := rest }).pushFrame (.throwing q))) := by
  obtain ⟨mk, methM, cM, hnamed, hmethM, -, -, -, -, -, -, hsigM⟩ := Cond.codeWith_spec hcode
  have hstatic : methM.isStatic = true := Cond.static_spec hnamed hmethM hstat
  obtain ⟨kP, hkP, -⟩ := className_of_methodNamed hnamed
  have hinitP : kP.init = .initialized := Cond.initialized_spec (findClass_of_methodNamed hnamed) hkP hinit
  obtain ⟨vm₁, X₁, hstep₁⟩ := X.invokestatic hexec hown hlink hnamed hmethM hstatic hkP hinitP hy (g := g) hg (argsL := argsL) (rest := rest) (hlen _ hsigM) hstack hdg
  rcases hK m meth c ⟨T.setVm vm₁, locs, cells, slots⟩ { g with stack := rest } (.invokestatic index) mk argsL.toArray X₁ hg hsize hdg hW (X₁.named hnamed) (hpre vm₁ X₁.warmed) with ⟨v, B, X', hpost, hsteps⟩ | ⟨q, B, X', hpost, hsteps⟩
  · exact Or.inl ⟨v, vm₁, B, X₁.warmed, X', hpost, fun target h => hstep₁ _ fun acts => by rw [doInvoke_state]; exact hsteps.trans h⟩
  · exact Or.inr ⟨q, vm₁, B, X₁.warmed, X', hpost, hstep₁ _ fun acts => by rw [doInvoke_state]; exact hsteps⟩
theorem vx_callVW (X : Stand p l e R s m args below meth c T locs cells slots) (hexec : p.tables.exec = Jvm.exec) {own C : String} {index : Nat} {y : MethodName} {bytes : ByteArray} {maxL : Nat} {ret : Option FieldType} {hh : List (Nat × Nat × Nat × Nat)}
    (hown : s.vm.findClass own = some m.cls) (hlink : (Cond.methodLink own index y).before args s = true) (hinst : (Cond.instanceMethod y).before args s = true) (hsel : (Cond.selects C y y).before args s = true)
    (hcode : (Cond.codeWith y bytes maxL ret hh).before args s = true) (hy : y.cls ≠ "java/lang/invoke/MethodHandle" ∧ y.cls ≠ "java/lang/invoke/VarHandle")
    {W9 : Nat} {Pre : Pt → Array Value → Prop} {Post : Pt → Array Value → Option Value → Pt → Prop} (hK : Back l R p e below s args y 3 W9 Pre Post)
    {b : Addr} {cellB : Cell} (hcell : T.heap[b]? = some cellB) (hobj : cellB.vm.isStatics = false) (hcls : s.vm.findClass C = some cellB.cls)
    {g : JFrame} (hg : g.method = m) (hsize : g.locals.size = c.maxLocals) {argsL rest : List Value} (hlen : ∀ sig, parseMethodDescriptor y.desc = some sig → argsL.length = sig.parameters.length)
    (hstack : g.stack = argsL.reverse ++ .ref b :: rest) (hW : 2 * g.monitorRoom + (rest.map fun v => v.category).sum ≤ W9) (hdg : decode c.code g.pc = .ok (.invokevirtual index, 3))
    (hpre : ∀ vm₁, s.WarmedH vm₁ → Pre ⟨T.setVm vm₁, locs, cells, slots⟩ (Value.ref b :: argsL).toArray) :
    ∃ (v : Option Value) (vm₁ : Vm) (B : Pt), s.WarmedH vm₁ ∧ Stand p l e R s m args below meth c B.U B.locs B.cells B.slots ∧ Post ⟨T.setVm vm₁, locs, cells, slots⟩ (Value.ref b :: argsL).toArray v B ∧
      ∀ target, Steps p.tables e below (B.U.setTop { g with pc := g.pc + 3, stack := v.toList ++ rest }) target → Steps p.tables e below (T.setTop g) target := by
  obtain ⟨mk, methM, hnamed, hmethM, hstM, habM⟩ := Cond.instanceMethod_spec hinst
  obtain ⟨m8, methM', cM, hn8, hmethM', -, -, -, -, -, -, hsigM⟩ := Cond.codeWith_spec hcode
  cases Option.some.inj (hn8.symm.trans hnamed)
  cases hmethM.symm.trans hmethM'
  obtain ⟨c2, r2, m2, q1, q2, q3, q4, kP, hkP, hkPi⟩ := Cond.selects_spec hsel
  cases hcls.symm.trans q1
  cases (State.methodFound?_of_named hnamed hy).symm.trans q2
  cases hnamed.symm.trans q3
  have hselP : selectMethod e.platform s.vm cellB.cls mk = .method mk := by rw [Launch.admits_selectMethod X.admits]; exact q4
  obtain ⟨vm₁, X₁, hstep₁⟩ := X.invokevirtual hexec hown hlink hnamed hmethM hstM hkP hkPi hy (a := b) (cell := cellB) hcell
    (fun z h => by rw [h] at hobj; cases hobj) hselP hmethM habM hkP hkPi (g := g) hg (argsL := argsL) (rest := rest) (hlen _ hsigM) hstack hdg
  obtain ⟨v, B, X', hpost, hsteps⟩ := hK m meth c ⟨T.setVm vm₁, locs, cells, slots⟩ { g with stack := rest } (.invokevirtual index) mk (Value.ref b :: argsL).toArray X₁ hg hsize hdg hW (X₁.named hnamed) (hpre vm₁ X₁.warmed)
  exact ⟨v, vm₁, B, X₁.warmed, X', hpost, fun target h => hstep₁ _ fun acts => by rw [doInvoke_state]; exact hsteps.trans h⟩
abbrev vx_CVW (R : Room) (s : State) (args : Array Value) (own C : String) (index : Nat) (y : MethodName) (bytes : ByteArray) (maxL : Nat) (ret : Option FieldType) (hh : List (Nat × Nat × Nat × Nat)) (ws : List Cond) (rm : Room) (mc ms n : Nat) : Prop :=
  (rm.cells = mc ∧ rm.slots = ms ∧ rm.frames + 1 ≤ R.frames ∧ 8 + (maxL + 11) + rm.locals ≤ R.locals ∧ (∀ w ∈ ws, ∀ (a' : Array Value) (U : State), s.WarmedH U.vm → w.before a' U = true) ∧ Cond.codeWith y bytes maxL ret hh ∈ ws) ∧
  (Cond.codeWith y bytes maxL ret hh).before args s = true ∧ (Cond.initialized y.cls).before args s = true ∧ (y.cls ≠ "java/lang/invoke/MethodHandle" ∧ y.cls ≠ "java/lang/invoke/VarHandle") ∧
  (∀ sig, parseMethodDescriptor y.desc = some sig → n = sig.parameters.length) ∧ (Cond.methodLink own index y).before args s = true ∧ (Cond.instanceMethod y).before args s = true ∧ (Cond.selects C y y).before args s = true
theorem vx_cwVW {own C : String} {index maxL mc ms : Nat} {y : MethodName} {bytes : ByteArray} {ret : Option FieldType} {hh : List (Nat × Nat × Nat × Nat)} {Ts ws ws' : List Cond} {rm : Room} (n : Nat) (ht : ∀ w ∈ Ts, w.before args s = true) (hT : GoodIn Ts (wsV own index C y ws)) (hw : ws = Cond.codeWith y bytes maxL ret hh :: ws') (hrc : rm.cells = mc) (hrs : rm.slots = ms)
    (hd : y.cls = C ∧ y.cls ≠ "java/lang/invoke/MethodHandle" ∧ y.cls ≠ "java/lang/invoke/VarHandle" ∧ (parseMethodDescriptor y.desc).map (fun d => d.parameters.length) = some n) (hR : rm.frames + 1 ≤ R.frames ∧ 8 + (maxL + 11) + rm.locals ≤ R.locals) :
    vx_CVW R s args own C index y bytes maxL ret hh ws rm mc ms n := by
  obtain ⟨hC, hd⟩ := hd
  subst hC
  have ok : ∀ w ∈ wsV own index y.cls y ws, w.before args s = true := fun w h => ht w (hT w h).1
  have hG : GoodIn Ts ws := fun w h => hT w (by unfold wsV; exact List.mem_append_right _ h)
  have hc : Cond.codeWith y bytes maxL ret hh ∈ ws := by rw [hw]; exact List.mem_cons_self
  refine ⟨⟨hrc, hrs, hR.1, hR.2, pay_in ht hG, hc⟩, ht _ (hG _ hc).1, ok _ (by simp [wsV]), ⟨hd.1, hd.2.1⟩, fun sig h => ?_, ok _ (by simp [wsV]), ok _ (by simp [wsV]), ok _ (by simp [wsV])⟩
  have h2 := hd.2.2
  rw [h] at h2
  exact (Option.some.inj h2).symm
theorem vx_runVW {y : MethodName} {bytes cc : ByteArray} {maxL nL mc ms n index : Nat} {ret : Option FieldType} {hh : List (Nat × Nat × Nat × Nat)} {ws : List Cond} {rm : Room} {Pc : Array Value → State → Prop} {Qc : Array Value → State → Outcome → State → Prop} {free : Addr → Prop} {Ts : List Cond} {own C : String} {b : Addr} {As rest : List Value} {g : JFrame}
    (S : CallFix p m c cc nL s args Ts own) (hM : Met l y ws rm Pc Qc mc ms free) (cw : vx_CVW R s args own C index y bytes maxL ret hh ws rm mc ms n) (hp : PreV s H C b Pc As)
    (hg : g.method = m) (hn : As.length = n) (hsize : g.locals.size = nL) (hstack : g.stack = As.reverse ++ .ref b :: rest) (hW : 2 * g.monitorRoom + (rest.map fun v => v.category).sum ≤ 8) (hdg : decode cc g.pc = .ok (.invokevirtual index, 3)) (hf : cells + mc ≤ R.cells ∧ slots + ms ≤ R.slots) :
    va_Run p l e R s m args below meth c H locs cells slots mc ms g rest (Qc (Value.ref b :: As).toArray) free := by
  obtain ⟨⟨hrc, hrs, hfr, hlo, hws, hcw⟩, hcode, hini, hy, hlen, hl, hin, hse⟩ := cw
  have hK : Back l R p e below s args y 3 8 (PreOf R mc ms Pc) (PostOf Qc mc ms free) := va_backW (hh := hh) (bytes := bytes) (maxL := maxL) (ret := ret) hM hp.1 hrc hrs hfr hlo hws hcw (fun a' U hW => word_at hW (Or.inl (by first | rfl | simp [Cond.onTables, Cond.keeps, Cond.steady])) hini)
  obtain ⟨hx, hb, hml, ho, -⟩ := S
  obtain ⟨-, ⟨cellB, hcB, hoB, hclB⟩, hPc⟩ := hp
  intro T hT X
  obtain ⟨v, vm₁, ⟨U', l2, c2, s2⟩, hW₁, X', ⟨g', mk, t, L, e1, e2, hq, h1, hL, h2, h3⟩, st⟩ := vx_callVW X hx (C := C) (hh := hh) (bytes := bytes) (maxL := maxL) (ret := ret) ho hl hin hse hcode hy hK (by rw [hT]; exact hcB) hoB hclB hg (hsize.trans hml.symm) (argsL := As) (rest := rest) (fun sig h => hn.trans (hlen sig h)) hstack hW (by rw [hb]; exact hdg)
    (fun vm₁ hW₁ => ⟨hf.1, hf.2, hPc (T.setVm vm₁) hT hW₁⟩)
  dsimp only [Pt.U, Pt.locs, Pt.cells, Pt.slots] at X' e1 e2 h1 h2 h3 st
  subst h1; subst h2; subst h3
  exact ⟨v, (T.setVm vm₁).calling g' mk (Value.ref b :: As).toArray, t, U', L, hT, X', hL, e1, e2, hq, st⟩
section
variable {y : MethodName} {bytes cc : ByteArray} {maxL nL mc ms n index : Nat} {ret : Option FieldType} {ws : List Cond} {rm : Room} {Pc : Array Value → State → Prop} {Qc : Array Value → State → Outcome → State → Prop} {XC : String → State → State → Prop} {free : Addr → Prop} {Ts : List Cond} {own C : String} {b : Addr} {As rest : List Value} {g : JFrame}
theorem vx_runVX {hh : List (Nat × Nat × Nat × Nat)} (S : CallFix p m c cc nL s args Ts own) (hM : vx_Met l y ws rm Pc Qc XC mc ms free) (cw : vx_CVW R s args own C index y bytes maxL ret hh ws rm mc ms n) (hp : PreV s H C b Pc As)
    (hg : g.method = m) (hn : As.length = n) (hsize : g.locals.size = nL) (hstack : g.stack = As.reverse ++ .ref b :: rest) (hW : 2 * g.monitorRoom + (rest.map fun v => v.category).sum ≤ 8) (hdg : decode cc g.pc = .ok (.invokevirtual index, 3)) (hf : cells + mc ≤ R.cells ∧ slots + ms ≤ R.slots) :
    vx_Run p l e R s m args below meth c H locs cells slots mc ms g rest (Qc (Value.ref b :: As).toArray) XC free := by
  obtain ⟨⟨hrc, hrs, hfr, hlo, hws, hcw⟩, hcode, hini, hy, hlen, hl, hin, hse⟩ := cw
  have hK : vx_Back l R p e below s args y 3 8 (PreOf R mc ms Pc) (PostOf Qc mc ms free) (vx_Post XC mc ms free) := vx_backW (hh := hh) (bytes := bytes) (maxL := maxL) (ret := ret) hM hp.1 hrc hrs hfr hlo hws hcw (fun a' U hW => word_at hW (Or.inl (by first | rfl | simp [Cond.onTables, Cond.keeps, Cond.steady])) hini)
  obtain ⟨hx, hb, hml, ho, -⟩ := S
  obtain ⟨-, ⟨cellB, hcB, hoB, hclB⟩, hPc⟩ := hp
  intro T hT X
  rcases vx_callVX X hx (C := C) (hh := hh) (bytes := bytes) (maxL := maxL) (ret := ret) ho hl hin hse hcode hy hK (by rw [hT]; exact hcB) hoB hclB hg (hsize.trans hml.symm) (argsL := As) (rest := rest) (fun sig h => hn.trans (hlen sig h)) hstack hW (by rw [hb]; exact hdg)
    (fun vm₁ hW₁ => ⟨hf.1, hf.2, hPc (T.setVm vm₁) hT hW₁⟩) with ⟨v, vm₁, ⟨U', l2, c2, s2⟩, hW₁, X', ⟨g', mk, t, L, e1, e2, hq, h1, hL, h2, h3⟩, st⟩ | ⟨q, vm₁, ⟨U', l2, c2, s2⟩, hW₁, X', ⟨g', mk, t, L, E, ce, e1, e2, hq, hce, hcv, hcl, h1, hL, h2, h3⟩, st⟩
  · dsimp only [Pt.U, Pt.locs, Pt.cells, Pt.slots] at X' e1 e2 h1 h2 h3 st
    subst h1; subst h2; subst h3
    exact Or.inl ⟨v, (T.setVm vm₁).calling g' mk (Value.ref b :: As).toArray, t, U', L, hT, X', hL, e1, e2, hq, st⟩
  · dsimp only [Pt.U, Pt.locs, Pt.cells, Pt.slots] at X' e1 e2 h1 h2 h3 st hcl
    subst h1; subst h2; subst h3
    exact Or.inr ⟨q, (T.setVm vm₁).calling g' mk (Value.ref b :: As).toArray, t, U', L, E, ce, hT, X', hL, e1, e2, hq, hce, hcv, vx_cls hW₁ hcl, st⟩
theorem vx_runSX {hh : List (Nat × Nat × Nat × Nat)} (S : CallFix p m c cc nL s args Ts own) (hM : vx_Met l y ws rm Pc Qc XC mc ms free) (cw : vx_CSW R s args own index y bytes maxL ret hh ws rm mc ms n) (hp : PreS s H Pc As)
    (hg : g.method = m) (hn : As.length = n) (hsize : g.locals.size = nL) (hstack : g.stack = As.reverse ++ rest) (hW : 2 * g.monitorRoom + (rest.map fun v => v.category).sum ≤ 8) (hdg : decode cc g.pc = .ok (.invokestatic index, 3)) (hf : cells + mc ≤ R.cells ∧ slots + ms ≤ R.slots) :
    vx_Run p l e R s m args below meth c H locs cells slots mc ms g rest (Qc As.toArray) XC free := by
  obtain ⟨⟨hrc, hrs, hfr, hlo, hws, hcw⟩, hcode, hini, hy, hlen, hl, hstt⟩ := cw
  have hK : vx_Back l R p e below s args y 3 8 (PreOf R mc ms Pc) (PostOf Qc mc ms free) (vx_Post XC mc ms free) := vx_backW (hh := hh) (bytes := bytes) (maxL := maxL) (ret := ret) hM hp.1 hrc hrs hfr hlo hws hcw (fun a' U hW => word_at hW (Or.inl (by first | rfl | simp [Cond.onTables, Cond.keeps, Cond.steady])) hini)
  obtain ⟨hx, hb, hml, ho, -⟩ := S
  intro T hT X
  rcases vx_callSX X hx (hh := hh) (bytes := bytes) (maxL := maxL) (ret := ret) ho hl hstt hini hcode hy hK hg (hsize.trans hml.symm) (argsL := As) (rest := rest) (fun sig h => hn.trans (hlen sig h)) hstack hW (by rw [hb]; exact hdg)
    (fun vm₁ hW₁ => ⟨hf.1, hf.2, hp.2 (T.setVm vm₁) hT hW₁⟩) with ⟨v, vm₁, ⟨U', l2, c2, s2⟩, hW₁, X', ⟨g', mk, t, L, e1, e2, hq, h1, hL, h2, h3⟩, st⟩ | ⟨q, vm₁, ⟨U', l2, c2, s2⟩, hW₁, X', ⟨g', mk, t, L, E, ce, e1, e2, hq, hce, hcv, hcl, h1, hL, h2, h3⟩, st⟩
  · dsimp only [Pt.U, Pt.locs, Pt.cells, Pt.slots] at X' e1 e2 h1 h2 h3 st
    subst h1; subst h2; subst h3
    exact Or.inl ⟨v, (T.setVm vm₁).calling g' mk As.toArray, t, U', L, hT, X', hL, e1, e2, hq, st⟩
  · dsimp only [Pt.U, Pt.locs, Pt.cells, Pt.slots] at X' e1 e2 h1 h2 h3 st hcl
    subst h1; subst h2; subst h3
    exact Or.inr ⟨q, (T.setVm vm₁).calling g' mk As.toArray, t, U', L, E, ce, hT, X', hL, e1, e2, hq, hce, hcv, vx_cls hW₁ hcl, st⟩
end
end VXH
theorem vx_ofWH {l : Launch} {y : MethodName} {ws ws' : List Cond} {rm : Room} {Pc : Array Value → State → Prop} {Qc : Array Value → State → Outcome → State → Prop} {XC : String → State → State → Prop} {mc ms : Nat} {free : Addr → Prop} {cc : ByteArray} {maxL : Nat} {ret : Option FieldType} {hh : List (Nat × Nat × Nat × Nat)}
    (hy : plainName y.cls = true) (hw : ws = Cond.codeWith y cc maxL ret hh :: ws')
    (body : ∀ p e s m args below meth c s₁, BodyLoose p l y (headSpec ws rm) cc maxL ret e s m args below meth c s₁ → c.maxLocals = maxL → Pc args s →
      W p l e (headSpec ws rm).room s m args below meth c s.heap [] 0 0 (vx_MQ below Qc XC args s mc ms free) (entryFrame m args maxL)) : vx_Met l y ws rm Pc Qc XC mc ms free := by
  refine MetFree.of_bodyS (code := cc) (maxLocals := maxL) (ret := ret) hy ?_ ?_
  · intro args s m h hn
    obtain ⟨m9, meth, c, hn9, h1, h2, h3, h4, -, h5, h6, -⟩ := Cond.codeWith_spec (atoms_spec (ws := ws) h _ (by rw [hw]; exact List.mem_cons_self))
    cases hn.symm.trans hn9
    exact ⟨meth, c, h1, h2, h3, h4, h5, h6⟩
  · intro p e s m args below meth c s₁ B hml hP _
    have hh0 : s₁.heap = s.heap := by rw [B.state]; rfl
    obtain ⟨t, a1, o, b1, b2, b3⟩ := body p e s m args below meth c s₁ B hml hP s₁ hh0 (Stand.of_body B)
    exact ⟨t, o, a1, b1, b2, b3⟩
/-! ===== END ===== -/
end
section
/-! names of the system: classes, fields, methods; own text, laid by a program out of the Statement -/
def R_Ro : String := "RuleSteps$Rows"
def T_Ro : u_T := fun k => match k with
  | 0 => ("RuleSteps$Rows", "cells", "[I", true)
  | _ => ("RuleSteps$Rows", "size", "I", false)
def t_Ro : Nat → FieldType := fun k => match k with
  | 0 => .array .int
  | _ => .int
theorem n_Ro : ∀ a, a < 2 → ∀ b, b < 2 → a ≠ b → (T_Ro a).2.1 ≠ (T_Ro b).2.1 := by decide +kernel
theorem tk_Ro : ∀ k, k < 2 → parseFieldDescriptor (T_Ro k).2.2.1 = some (t_Ro k) := by decide +kernel
def R_Ru : String := "RuleSteps$Rules"
def T_Ru : u_T := fun k => match k with
  | 0 => ("RuleSteps$Rules", "left", "[I", true)
  | 1 => ("RuleSteps$Rules", "right", "[I", true)
  | 2 => ("RuleSteps$Rules", "condition", "[I", true)
  | 3 => ("RuleSteps$Rules", "lessening", "[Z", true)
  | 4 => ("RuleSteps$Rules", "chosen", "[Z", true)
  | 5 => ("RuleSteps$Rules", "answers", "[I", true)
  | _ => ("RuleSteps$Rules", "size", "I", false)
def t_Ru : Nat → FieldType := fun k => match k with
  | 0 => .array .int
  | 1 => .array .int
  | 2 => .array .int
  | 3 => .array .boolean
  | 4 => .array .boolean
  | 5 => .array .int
  | _ => .int
theorem n_Ru : ∀ a, a < 7 → ∀ b, b < 7 → a ≠ b → (T_Ru a).2.1 ≠ (T_Ru b).2.1 := by decide +kernel
theorem tk_Ru : ∀ k, k < 7 → parseFieldDescriptor (T_Ru k).2.2.1 = some (t_Ru k) := by decide +kernel
def R_Rn : String := "RuleSteps$Runner"
def T_Rn : u_T := fun k => match k with
  | 0 => ("RuleSteps$Runner", "trees", "LRuleSteps$Trees;", true)
  | 1 => ("RuleSteps$Runner", "rules", "LRuleSteps$Rules;", true)
  | 2 => ("RuleSteps$Runner", "allowed", "[Z", true)
  | 3 => ("RuleSteps$Runner", "found", "[I", true)
  | 4 => ("RuleSteps$Runner", "bound", "[I", true)
  | 5 => ("RuleSteps$Runner", "spot", "I", false)
  | 6 => ("RuleSteps$Runner", "place", "I", false)
  | 7 => ("RuleSteps$Runner", "levels", "I", false)
  | 8 => ("RuleSteps$Runner", "around", "[I", true)
  | 9 => ("RuleSteps$Runner", "inSecond", "[Z", true)
  | 10 => ("RuleSteps$Runner", "made", "I", false)
  | _ => ("RuleSteps$Runner", "moreToDo", "Z", false)
def t_Rn : Nat → FieldType := fun k => match k with
  | 0 => .object "RuleSteps$Trees"
  | 1 => .object "RuleSteps$Rules"
  | 2 => .array .boolean
  | 3 => .array .int
  | 4 => .array .int
  | 5 => .int
  | 6 => .int
  | 7 => .int
  | 8 => .array .int
  | 9 => .array .boolean
  | 10 => .int
  | _ => .boolean
theorem n_Rn : ∀ a, a < 12 → ∀ b, b < 12 → a ≠ b → (T_Rn a).2.1 ≠ (T_Rn b).2.1 := by decide +kernel
theorem tk_Rn : ∀ k, k < 12 → parseFieldDescriptor (T_Rn k).2.2.1 = some (t_Rn k) := by decide +kernel
def R_Tr : String := "RuleSteps$Trees"
def T_Tr : u_T := fun k => match k with
  | 0 => ("RuleSteps$Trees", "mark", "[I", true)
  | 1 => ("RuleSteps$Trees", "first", "[I", true)
  | 2 => ("RuleSteps$Trees", "second", "[I", true)
  | 3 => ("RuleSteps$Trees", "weight", "[I", true)
  | 4 => ("RuleSteps$Trees", "places", "[I", true)
  | 5 => ("RuleSteps$Trees", "depth", "[I", true)
  | 6 => ("RuleSteps$Trees", "holes", "[I", true)
  | 7 => ("RuleSteps$Trees", "holeCounts", "[I", true)
  | 8 => ("RuleSteps$Trees", "newest", "[I", true)
  | 9 => ("RuleSteps$Trees", "older", "[I", true)
  | _ => ("RuleSteps$Trees", "size", "I", false)
def t_Tr : Nat → FieldType := fun k => match k with
  | 0 => .array .int
  | 1 => .array .int
  | 2 => .array .int
  | 3 => .array .int
  | 4 => .array .int
  | 5 => .array .int
  | 6 => .array .int
  | 7 => .array .int
  | 8 => .array .int
  | 9 => .array .int
  | _ => .int
theorem n_Tr : ∀ a, a < 11 → ∀ b, b < 11 → a ≠ b → (T_Tr a).2.1 ≠ (T_Tr b).2.1 := by decide +kernel
theorem tk_Tr : ∀ k, k < 11 → parseFieldDescriptor (T_Tr k).2.2.1 = some (t_Tr k) := by decide +kernel
def R_RS : String := "RuleSteps"
def T_RS : u_T := fun k => match k with
  | 0 => ("RuleSteps", "trees", "LRuleSteps$Trees;", true)
  | 1 => ("RuleSteps", "rules", "LRuleSteps$Rules;", true)
  | 2 => ("RuleSteps", "runner", "LRuleSteps$Runner;", true)
  | 3 => ("RuleSteps", "kept", "LRuleSteps$Rows;", false)
  | 4 => ("RuleSteps", "spare", "LRuleSteps$Rows;", false)
  | 5 => ("RuleSteps", "latestSteps", "I", false)
  | _ => ("RuleSteps", "latestSpent", "Z", false)
def t_RS : Nat → FieldType := fun k => match k with
  | 0 => .object "RuleSteps$Trees"
  | 1 => .object "RuleSteps$Rules"
  | 2 => .object "RuleSteps$Runner"
  | 3 => .object "RuleSteps$Rows"
  | 4 => .object "RuleSteps$Rows"
  | 5 => .int
  | _ => .boolean
theorem n_RS : ∀ a, a < 7 → ∀ b, b < 7 → a ≠ b → (T_RS a).2.1 ≠ (T_RS b).2.1 := by decide +kernel
theorem tk_RS : ∀ k, k < 7 → parseFieldDescriptor (T_RS k).2.2.1 = some (t_RS k) := by decide +kernel
def R_Md : String := "RuleStepsModel"
def T_Md : u_T := fun k => match k with
  | 0 => ("RuleStepsModel", "trees", "I", false)
  | 1 => ("RuleStepsModel", "sign", "[I", true)
  | 2 => ("RuleStepsModel", "first", "[I", true)
  | 3 => ("RuleStepsModel", "second", "[I", true)
  | 4 => ("RuleStepsModel", "weight", "[I", true)
  | 5 => ("RuleStepsModel", "places", "[I", true)
  | 6 => ("RuleStepsModel", "depth", "[I", true)
  | 7 => ("RuleStepsModel", "holes", "[I", true)
  | 8 => ("RuleStepsModel", "rules", "I", false)
  | 9 => ("RuleStepsModel", "left", "[I", true)
  | 10 => ("RuleStepsModel", "right", "[I", true)
  | 11 => ("RuleStepsModel", "condition", "[I", true)
  | 12 => ("RuleStepsModel", "chosen", "[Z", true)
  | 13 => ("RuleStepsModel", "answer", "[I", true)
  | 14 => ("RuleStepsModel", "rows", "I", false)
  | 15 => ("RuleStepsModel", "steps", "I", false)
  | 16 => ("RuleStepsModel", "row", "[I", true)
  | 17 => ("RuleStepsModel", "newRows", "I", false)
  | 18 => ("RuleStepsModel", "newSteps", "I", false)
  | 19 => ("RuleStepsModel", "newRow", "[I", true)
  | 20 => ("RuleStepsModel", "spent", "Z", false)
  | 21 => ("RuleStepsModel", "failed", "Z", false)
  | 22 => ("RuleStepsModel", "thrown", "I", false)
  | 23 => ("RuleStepsModel", "laid", "[I", true)
  | 24 => ("RuleStepsModel", "around", "[I", true)
  | 25 => ("RuleStepsModel", "pattern", "[I", true)
  | 26 => ("RuleStepsModel", "todo", "[I", true)
  | 27 => ("RuleStepsModel", "bound", "[I", true)
  | 28 => ("RuleStepsModel", "made", "[I", true)
  | 29 => ("RuleStepsModel", "countOne", "[I", true)
  | 30 => ("RuleStepsModel", "countTwo", "[I", true)
  | 31 => ("RuleStepsModel", "matching", "[Z", true)
  | 32 => ("RuleStepsModel", "ahead", "[I", true)
  | 33 => ("RuleStepsModel", "used", "[Z", true)
  | _ => ("RuleStepsModel", "stopped", "Z", false)
def t_Md : Nat → FieldType := fun k => match k with
  | 0 => .int
  | 1 => .array .int
  | 2 => .array .int
  | 3 => .array .int
  | 4 => .array .int
  | 5 => .array .int
  | 6 => .array .int
  | 7 => .array .int
  | 8 => .int
  | 9 => .array .int
  | 10 => .array .int
  | 11 => .array .int
  | 12 => .array .boolean
  | 13 => .array .int
  | 14 => .int
  | 15 => .int
  | 16 => .array .int
  | 17 => .int
  | 18 => .int
  | 19 => .array .int
  | 20 => .boolean
  | 21 => .boolean
  | 22 => .int
  | 23 => .array .int
  | 24 => .array .int
  | 25 => .array .int
  | 26 => .array .int
  | 27 => .array .int
  | 28 => .array .int
  | 29 => .array .int
  | 30 => .array .int
  | 31 => .array .boolean
  | 32 => .array .int
  | 33 => .array .boolean
  | _ => .boolean
theorem n_Md : ∀ a, a < 35 → ∀ b, b < 35 → a ≠ b → (T_Md a).2.1 ≠ (T_Md b).2.1 := by decide +kernel
theorem tk_Md : ∀ k, k < 35 → parseFieldDescriptor (T_Md k).2.2.1 = some (t_Md k) := by decide +kernel
def R_La : String := "RuleStepsLaw"
def R_Ar : String := "java/util/Arrays"
abbrev c_RS_init : ByteArray := prog_1_method_1_code
def y_RS_init : MethodName := ⟨R_RS, "<init>", "()V"⟩
abbrev c_Tr_init : ByteArray := prog_5_method_1_code
def y_Tr_init : MethodName := ⟨R_Tr, "<init>", "()V"⟩
abbrev c_Ar_fill : ByteArray := prog_16_method_103_code
def y_Ar_fill : MethodName := ⟨R_Ar, "fill", "([II)V"⟩
abbrev c_Ru_init : ByteArray := prog_3_method_1_code
def y_Ru_init : MethodName := ⟨R_Ru, "<init>", "()V"⟩
abbrev c_Rn_init : ByteArray := prog_4_method_1_code
def y_Rn_init : MethodName := ⟨R_Rn, "<init>", "(LRuleSteps$Trees;LRuleSteps$Rules;)V"⟩
abbrev c_Ro_init : ByteArray := prog_2_method_1_code
def y_Ro_init : MethodName := ⟨R_Ro, "<init>", "()V"⟩
abbrev c_RS_spent : ByteArray := prog_1_method_11_code
def y_RS_spent : MethodName := ⟨R_RS, "spent", "()Z"⟩
abbrev c_RS_steps : ByteArray := prog_1_method_13_code
def y_RS_steps : MethodName := ⟨R_RS, "steps", "()I"⟩
abbrev c_RS_domain : ByteArray := prog_1_method_14_code
def y_RS_domain : MethodName := ⟨R_RS, "domain", "()I"⟩
abbrev c_Ro_cell : ByteArray := prog_2_method_2_code
def y_Ro_cell : MethodName := ⟨R_Ro, "cell", "(II)I"⟩
abbrev c_RS_count : ByteArray := prog_1_method_21_code
def y_RS_count : MethodName := ⟨R_RS, "count", "(I)I"⟩
abbrev c_La_leaf : ByteArray := method_3_code
def y_La_leaf : MethodName := ⟨R_La, "leaf", "(LRuleSteps;I[J)I"⟩
abbrev c_RS_leaf : ByteArray := prog_1_method_2_code
def y_RS_leaf : MethodName := ⟨R_RS, "leaf", "(I)I"⟩
abbrev c_Tr_numberOf : ByteArray := prog_5_method_4_code
def y_Tr_numberOf : MethodName := ⟨R_Tr, "numberOf", "(III)I"⟩
abbrev c_Tr_slotOf : ByteArray := prog_5_method_5_code
def y_Tr_slotOf : MethodName := ⟨R_Tr, "slotOf", "(III)I"⟩
abbrev c_Tr_enter : ByteArray := prog_5_method_6_code
def y_Tr_enter : MethodName := ⟨R_Tr, "enter", "(III)I"⟩
abbrev c_Tr_ownWeight : ByteArray := prog_5_method_8_code
def y_Tr_ownWeight : MethodName := ⟨R_Tr, "ownWeight", "(I)I"⟩
abbrev c_Tr_valueOf : ByteArray := prog_5_method_7_code
def y_Tr_valueOf : MethodName := ⟨R_Tr, "valueOf", "([III)I"⟩
abbrev c_Tr_noteHoles : ByteArray := prog_5_method_9_code
def y_Tr_noteHoles : MethodName := ⟨R_Tr, "noteHoles", "(I)V"⟩
abbrev c_Tr_holeCount : ByteArray := prog_5_method_10_code
def y_Tr_holeCount : MethodName := ⟨R_Tr, "holeCount", "(II)I"⟩
abbrev c_RS_needMade : ByteArray := prog_1_method_25_code
def y_RS_needMade : MethodName := ⟨R_RS, "needMade", "(I)I"⟩
abbrev c_La_hole : ByteArray := method_4_code
def y_La_hole : MethodName := ⟨R_La, "hole", "(LRuleSteps;I[J)I"⟩
abbrev c_RS_hole : ByteArray := prog_1_method_3_code
def y_RS_hole : MethodName := ⟨R_RS, "hole", "(I)I"⟩
abbrev c_La_node : ByteArray := method_5_code
def y_La_node : MethodName := ⟨R_La, "node", "(LRuleSteps;III[J)I"⟩
abbrev c_RS_node : ByteArray := prog_1_method_4_code
def y_RS_node : MethodName := ⟨R_RS, "node", "(III)I"⟩
abbrev c_RS_needTree : ByteArray := prog_1_method_22_code
def y_RS_needTree : MethodName := ⟨R_RS, "needTree", "(I)V"⟩
abbrev c_La_rule : ByteArray := method_6_code
def y_La_rule : MethodName := ⟨R_La, "rule", "(LRuleSteps;III[J)I"⟩
abbrev c_RS_rule : ByteArray := prog_1_method_5_code
def y_RS_rule : MethodName := ⟨R_RS, "rule", "(III)I"⟩
abbrev c_Tr_isNode : ByteArray := prog_5_method_2_code
def y_Tr_isNode : MethodName := ⟨R_Tr, "isNode", "(I)Z"⟩
abbrev c_Tr_isAbove : ByteArray := prog_5_method_13_code
def y_Tr_isAbove : MethodName := ⟨R_Tr, "isAbove", "(II)Z"⟩
abbrev c_Tr_hasHolesOf : ByteArray := prog_5_method_14_code
def y_Tr_hasHolesOf : MethodName := ⟨R_Tr, "hasHolesOf", "(II)Z"⟩
abbrev c_Tr_isLeaf : ByteArray := prog_5_method_3_code
def y_Tr_isLeaf : MethodName := ⟨R_Tr, "isLeaf", "(I)Z"⟩
abbrev c_Ru_add : ByteArray := prog_3_method_2_code
def y_Ru_add : MethodName := ⟨R_Ru, "add", "(IIIZ)I"⟩
abbrev c_La_holds : ByteArray := method_7_code
def y_La_holds : MethodName := ⟨R_La, "holds", "(LRuleSteps;II[J)I"⟩
abbrev c_RS_holds : ByteArray := prog_1_method_6_code
def y_RS_holds : MethodName := ⟨R_RS, "holds", "(II)Z"⟩
abbrev c_La_choose : ByteArray := method_8_code
def y_La_choose : MethodName := ⟨R_La, "choose", "(LRuleSteps;IZ[J)I"⟩
abbrev c_RS_choose : ByteArray := prog_1_method_7_code
def y_RS_choose : MethodName := ⟨R_RS, "choose", "(IZ)Z"⟩
abbrev c_RS_needRule : ByteArray := prog_1_method_23_code
def y_RS_needRule : MethodName := ⟨R_RS, "needRule", "(I)V"⟩
abbrev c_La_rewrite : ByteArray := method_9_code
def y_La_rewrite : MethodName := ⟨R_La, "rewrite", "(LRuleSteps;II[J)I"⟩
abbrev c_RS_rewrite : ByteArray := prog_1_method_8_code
def y_RS_rewrite : MethodName := ⟨R_RS, "rewrite", "(II)I"⟩
abbrev c_RS_needPlain : ByteArray := prog_1_method_24_code
def y_RS_needPlain : MethodName := ⟨R_RS, "needPlain", "(I)V"⟩
abbrev c_Rn_run : ByteArray := prog_4_method_2_code
def y_Rn_run : MethodName := ⟨R_Rn, "run", "(IIZLRuleSteps$Rows;)I"⟩
abbrev c_Rn_begin : ByteArray := prog_4_method_3_code
def y_Rn_begin : MethodName := ⟨R_Rn, "begin", "(Z)V"⟩
abbrev c_Ru_mayBeUsed : ByteArray := prog_3_method_3_code
def y_Ru_mayBeUsed : MethodName := ⟨R_Ru, "mayBeUsed", "(I)Z"⟩
abbrev c_Rn_canStep : ByteArray := prog_4_method_4_code
def y_Rn_canStep : MethodName := ⟨R_Rn, "canStep", "(I)Z"⟩
abbrev c_Rn_lowestRule : ByteArray := prog_4_method_5_code
def y_Rn_lowestRule : MethodName := ⟨R_Rn, "lowestRule", "(I)I"⟩
abbrev c_Rn_matches : ByteArray := prog_4_method_6_code
def y_Rn_matches : MethodName := ⟨R_Rn, "matches", "(II)Z"⟩
abbrev c_Rn_fits : ByteArray := prog_4_method_7_code
def y_Rn_fits : MethodName := ⟨R_Rn, "fits", "(II)Z"⟩
abbrev c_Rn_bind : ByteArray := prog_4_method_8_code
def y_Rn_bind : MethodName := ⟨R_Rn, "bind", "(II)Z"⟩
abbrev c_Rn_step : ByteArray := prog_4_method_9_code
def y_Rn_step : MethodName := ⟨R_Rn, "step", "(I)I"⟩
abbrev c_Rn_seek : ByteArray := prog_4_method_10_code
def y_Rn_seek : MethodName := ⟨R_Rn, "seek", "(I)V"⟩
abbrev c_Rn_filled : ByteArray := prog_4_method_11_code
def y_Rn_filled : MethodName := ⟨R_Rn, "filled", "(I)I"⟩
abbrev c_Ro_add : ByteArray := prog_2_method_3_code
def y_Ro_add : MethodName := ⟨R_Ro, "add", "(IIII)V"⟩
abbrev c_RS_needRun : ByteArray := prog_1_method_26_code
def y_RS_needRun : MethodName := ⟨R_RS, "needRun", "(II)I"⟩
abbrev c_Tr_shrinkTo : ByteArray := prog_5_method_11_code
def y_Tr_shrinkTo : MethodName := ⟨R_Tr, "shrinkTo", "(I)V"⟩
abbrev c_RS_keepRun : ByteArray := prog_1_method_27_code
def y_RS_keepRun : MethodName := ⟨R_RS, "keepRun", "()V"⟩
abbrev c_La_normal : ByteArray := method_10_code
def y_La_normal : MethodName := ⟨R_La, "normal", "(LRuleSteps;I[J)I"⟩
abbrev c_RS_normal : ByteArray := prog_1_method_9_code
def y_RS_normal : MethodName := ⟨R_RS, "normal", "(I)I"⟩
abbrev c_La_joins : ByteArray := method_11_code
def y_La_joins : MethodName := ⟨R_La, "joins", "(LRuleSteps;II[J)I"⟩
abbrev c_RS_joins : ByteArray := prog_1_method_10_code
def y_RS_joins : MethodName := ⟨R_RS, "joins", "(II)Z"⟩
abbrev c_La_row : ByteArray := method_12_code
def y_La_row : MethodName := ⟨R_La, "row", "(LRuleSteps;II[J)I"⟩
abbrev c_RS_row : ByteArray := prog_1_method_12_code
def y_RS_row : MethodName := ⟨R_RS, "row", "(II)I"⟩
abbrev c_La_lessens : ByteArray := method_13_code
def y_La_lessens : MethodName := ⟨R_La, "lessens", "(LRuleSteps;I[J)I"⟩
abbrev c_RS_lessens : ByteArray := prog_1_method_15_code
def y_RS_lessens : MethodName := ⟨R_RS, "lessens", "(I)Z"⟩
abbrev c_La_usable : ByteArray := method_14_code
def y_La_usable : MethodName := ⟨R_La, "usable", "(LRuleSteps;I[J)I"⟩
abbrev c_RS_usable : ByteArray := prog_1_method_16_code
def y_RS_usable : MethodName := ⟨R_RS, "usable", "(I)Z"⟩
abbrev c_La_above : ByteArray := method_15_code
def y_La_above : MethodName := ⟨R_La, "above", "(LRuleSteps;II[J)I"⟩
abbrev c_RS_above : ByteArray := prog_1_method_17_code
def y_RS_above : MethodName := ⟨R_RS, "above", "(II)Z"⟩
abbrev c_La_measure : ByteArray := method_16_code
def y_La_measure : MethodName := ⟨R_La, "measure", "(LRuleSteps;II[J)I"⟩
abbrev c_RS_measure : ByteArray := prog_1_method_18_code
def y_RS_measure : MethodName := ⟨R_RS, "measure", "(II)I"⟩
abbrev c_La_at : ByteArray := method_17_code
def y_La_at : MethodName := ⟨R_La, "at", "(LRuleSteps;II[J)I"⟩
abbrev c_RS_at : ByteArray := prog_1_method_19_code
def y_RS_at : MethodName := ⟨R_RS, "at", "(II)I"⟩
abbrev c_Tr_treeAt : ByteArray := prog_5_method_12_code
def y_Tr_treeAt : MethodName := ⟨R_Tr, "treeAt", "(II)I"⟩
abbrev c_La_head : ByteArray := method_18_code
def y_La_head : MethodName := ⟨R_La, "head", "(LRuleSteps;I[J)I"⟩
abbrev c_RS_head : ByteArray := prog_1_method_20_code
def y_RS_head : MethodName := ⟨R_RS, "head", "(I)I"⟩
abbrev c_Md_init : ByteArray := prog_7_method_1_code
def y_Md_init : MethodName := ⟨R_Md, "<init>", "()V"⟩
abbrev c_Md_thrown : ByteArray := prog_7_method_2_code
def y_Md_thrown : MethodName := ⟨R_Md, "thrown", "()I"⟩
abbrev c_Md_leaf : ByteArray := prog_7_method_7_code
def y_Md_leaf : MethodName := ⟨R_Md, "leaf", "(I)I"⟩
abbrev c_Md_ask : ByteArray := prog_7_method_6_code
def y_Md_ask : MethodName := ⟨R_Md, "ask", "(IIII)I"⟩
abbrev c_Md_tree : ByteArray := prog_7_method_5_code
def y_Md_tree : MethodName := ⟨R_Md, "tree", "(III)I"⟩
abbrev c_Md_parts : ByteArray := prog_7_method_4_code
def y_Md_parts : MethodName := ⟨R_Md, "parts", "(I)I"⟩
abbrev c_Md_hole : ByteArray := prog_7_method_8_code
def y_Md_hole : MethodName := ⟨R_Md, "hole", "(I)I"⟩
abbrev c_Md_node : ByteArray := prog_7_method_9_code
def y_Md_node : MethodName := ⟨R_Md, "node", "(III)I"⟩
abbrev c_Md_isTree : ByteArray := prog_7_method_3_code
def y_Md_isTree : MethodName := ⟨R_Md, "isTree", "(I)Z"⟩
abbrev c_Md_rule : ByteArray := prog_7_method_15_code
def y_Md_rule : MethodName := ⟨R_Md, "rule", "(III)I"⟩
abbrev c_Md_holds : ByteArray := prog_7_method_16_code
def y_Md_holds : MethodName := ⟨R_Md, "holds", "(II)Z"⟩
abbrev c_Md_choose : ByteArray := prog_7_method_18_code
def y_Md_choose : MethodName := ⟨R_Md, "choose", "(IZ)Z"⟩
abbrev c_Md_isRule : ByteArray := prog_7_method_17_code
def y_Md_isRule : MethodName := ⟨R_Md, "isRule", "(I)Z"⟩
abbrev c_Md_usable : ByteArray := prog_7_method_20_code
def y_Md_usable : MethodName := ⟨R_Md, "usable", "(I)Z"⟩
abbrev c_Md_may : ByteArray := prog_7_method_19_code
def y_Md_may : MethodName := ⟨R_Md, "may", "(I)Z"⟩
abbrev c_Md_lessens : ByteArray := prog_7_method_21_code
def y_Md_lessens : MethodName := ⟨R_Md, "lessens", "(I)Z"⟩
abbrev c_Md_isAbove : ByteArray := prog_7_method_14_code
def y_Md_isAbove : MethodName := ⟨R_Md, "isAbove", "(II)Z"⟩
abbrev c_Md_holesAllow : ByteArray := prog_7_method_13_code
def y_Md_holesAllow : MethodName := ⟨R_Md, "holesAllow", "(II)Z"⟩
abbrev c_Md_countHoles : ByteArray := prog_7_method_12_code
def y_Md_countHoles : MethodName := ⟨R_Md, "countHoles", "(I[I)V"⟩
abbrev c_Md_lay : ByteArray := prog_7_method_10_code
def y_Md_lay : MethodName := ⟨R_Md, "lay", "(I[IZ)I"⟩
abbrev c_Md_findAround : ByteArray := prog_7_method_11_code
def y_Md_findAround : MethodName := ⟨R_Md, "findAround", "(I)V"⟩
abbrev c_Md_rewrite : ByteArray := prog_7_method_31_code
def y_Md_rewrite : MethodName := ⟨R_Md, "rewrite", "(II)I"⟩
abbrev c_Md_lookForRules : ByteArray := prog_7_method_23_code
def y_Md_lookForRules : MethodName := ⟨R_Md, "lookForRules", "(Z)V"⟩
abbrev c_Md_go : ByteArray := prog_7_method_29_code
def y_Md_go : MethodName := ⟨R_Md, "go", "(II)I"⟩
abbrev c_Md_placeOf : ByteArray := prog_7_method_25_code
def y_Md_placeOf : MethodName := ⟨R_Md, "placeOf", "(I)I"⟩
abbrev c_Md_ruleAt : ByteArray := prog_7_method_24_code
def y_Md_ruleAt : MethodName := ⟨R_Md, "ruleAt", "(I)I"⟩
abbrev c_Md_matches : ByteArray := prog_7_method_22_code
def y_Md_matches : MethodName := ⟨R_Md, "matches", "(II)Z"⟩
abbrev c_Md_build : ByteArray := prog_7_method_26_code
def y_Md_build : MethodName := ⟨R_Md, "build", "(I)I"⟩
abbrev c_Md_replace : ByteArray := prog_7_method_27_code
def y_Md_replace : MethodName := ⟨R_Md, "replace", "(II)I"⟩
abbrev c_Md_keep : ByteArray := prog_7_method_28_code
def y_Md_keep : MethodName := ⟨R_Md, "keep", "(IIII)V"⟩
abbrev c_Md_take : ByteArray := prog_7_method_30_code
def y_Md_take : MethodName := ⟨R_Md, "take", "()V"⟩
abbrev c_Md_normal : ByteArray := prog_7_method_32_code
def y_Md_normal : MethodName := ⟨R_Md, "normal", "(I)I"⟩
abbrev c_Md_joins : ByteArray := prog_7_method_33_code
def y_Md_joins : MethodName := ⟨R_Md, "joins", "(II)Z"⟩
abbrev c_Md_spent : ByteArray := prog_7_method_34_code
def y_Md_spent : MethodName := ⟨R_Md, "spent", "()Z"⟩
abbrev c_Md_row : ByteArray := prog_7_method_35_code
def y_Md_row : MethodName := ⟨R_Md, "row", "(II)I"⟩
abbrev c_Md_steps : ByteArray := prog_7_method_36_code
def y_Md_steps : MethodName := ⟨R_Md, "steps", "()I"⟩
abbrev c_Md_domain : ByteArray := prog_7_method_37_code
def y_Md_domain : MethodName := ⟨R_Md, "domain", "()I"⟩
abbrev c_Md_above : ByteArray := prog_7_method_38_code
def y_Md_above : MethodName := ⟨R_Md, "above", "(II)Z"⟩
abbrev c_Md_measure : ByteArray := prog_7_method_39_code
def y_Md_measure : MethodName := ⟨R_Md, "measure", "(II)I"⟩
abbrev c_Md_at : ByteArray := prog_7_method_40_code
def y_Md_at : MethodName := ⟨R_Md, "at", "(II)I"⟩
abbrev c_Md_head : ByteArray := prog_7_method_41_code
def y_Md_head : MethodName := ⟨R_Md, "head", "(I)I"⟩
abbrev c_Md_count : ByteArray := prog_7_method_42_code
def y_Md_count : MethodName := ⟨R_Md, "count", "(I)I"⟩
abbrev c_La_law : ByteArray := code
def y_La_law : MethodName := ⟨R_La, "law", "([I)Z"⟩
abbrev vwCl : List vw_C := [(R_Ro, T_Ro, 2), (R_Ru, T_Ru, 7), (R_Rn, T_Rn, 12), (R_Tr, T_Tr, 11), (R_RS, T_RS, 7), (R_Md, T_Md, 35)]
end
section
/-! decode rows, laid by a program -/
theorem d_Tr_init_0 : decode c_Tr_init 0 = .ok (.aload_n 0, 1) := by decide +kernel
theorem d_Tr_init_1 : decode c_Tr_init 1 = .ok (.invokespecial 3, 3) := by decide +kernel
theorem d_Tr_init_4 : decode c_Tr_init 4 = .ok (.aload_n 0, 1) := by decide +kernel
theorem d_Tr_init_5 : decode c_Tr_init 5 = .ok (.sipush 300, 3) := by decide +kernel
theorem d_Tr_init_8 : decode c_Tr_init 8 = .ok (.newarray .int, 2) := by decide +kernel
theorem d_Tr_init_10 : decode c_Tr_init 10 = .ok (.putfield 9, 3) := by decide +kernel
theorem d_Tr_init_13 : decode c_Tr_init 13 = .ok (.aload_n 0, 1) := by decide +kernel
theorem d_Tr_init_14 : decode c_Tr_init 14 = .ok (.sipush 300, 3) := by decide +kernel
theorem d_Tr_init_17 : decode c_Tr_init 17 = .ok (.newarray .int, 2) := by decide +kernel
theorem d_Tr_init_19 : decode c_Tr_init 19 = .ok (.putfield 15, 3) := by decide +kernel
theorem d_Tr_init_22 : decode c_Tr_init 22 = .ok (.aload_n 0, 1) := by decide +kernel
theorem d_Tr_init_23 : decode c_Tr_init 23 = .ok (.sipush 300, 3) := by decide +kernel
theorem d_Tr_init_26 : decode c_Tr_init 26 = .ok (.newarray .int, 2) := by decide +kernel
theorem d_Tr_init_28 : decode c_Tr_init 28 = .ok (.putfield 18, 3) := by decide +kernel
theorem d_Tr_init_31 : decode c_Tr_init 31 = .ok (.aload_n 0, 1) := by decide +kernel
theorem d_Tr_init_32 : decode c_Tr_init 32 = .ok (.sipush 300, 3) := by decide +kernel
theorem d_Tr_init_35 : decode c_Tr_init 35 = .ok (.newarray .int, 2) := by decide +kernel
theorem d_Tr_init_37 : decode c_Tr_init 37 = .ok (.putfield 21, 3) := by decide +kernel
theorem d_Tr_init_40 : decode c_Tr_init 40 = .ok (.aload_n 0, 1) := by decide +kernel
theorem d_Tr_init_41 : decode c_Tr_init 41 = .ok (.sipush 300, 3) := by decide +kernel
theorem d_Tr_init_44 : decode c_Tr_init 44 = .ok (.newarray .int, 2) := by decide +kernel
theorem d_Tr_init_46 : decode c_Tr_init 46 = .ok (.putfield 24, 3) := by decide +kernel
theorem d_Tr_init_49 : decode c_Tr_init 49 = .ok (.aload_n 0, 1) := by decide +kernel
theorem d_Tr_init_50 : decode c_Tr_init 50 = .ok (.sipush 300, 3) := by decide +kernel
theorem d_Tr_init_53 : decode c_Tr_init 53 = .ok (.newarray .int, 2) := by decide +kernel
theorem d_Tr_init_55 : decode c_Tr_init 55 = .ok (.putfield 27, 3) := by decide +kernel
theorem d_Tr_init_58 : decode c_Tr_init 58 = .ok (.aload_n 0, 1) := by decide +kernel
theorem d_Tr_init_59 : decode c_Tr_init 59 = .ok (.sipush 300, 3) := by decide +kernel
theorem d_Tr_init_62 : decode c_Tr_init 62 = .ok (.newarray .int, 2) := by decide +kernel
theorem d_Tr_init_64 : decode c_Tr_init 64 = .ok (.putfield 30, 3) := by decide +kernel
theorem d_Tr_init_67 : decode c_Tr_init 67 = .ok (.aload_n 0, 1) := by decide +kernel
theorem d_Tr_init_68 : decode c_Tr_init 68 = .ok (.sipush 1800, 3) := by decide +kernel
theorem d_Tr_init_71 : decode c_Tr_init 71 = .ok (.newarray .int, 2) := by decide +kernel
theorem d_Tr_init_73 : decode c_Tr_init 73 = .ok (.putfield 33, 3) := by decide +kernel
theorem d_Tr_init_76 : decode c_Tr_init 76 = .ok (.aload_n 0, 1) := by decide +kernel
theorem d_Tr_init_77 : decode c_Tr_init 77 = .ok (.sipush 512, 3) := by decide +kernel
theorem d_Tr_init_80 : decode c_Tr_init 80 = .ok (.newarray .int, 2) := by decide +kernel
theorem d_Tr_init_82 : decode c_Tr_init 82 = .ok (.putfield 36, 3) := by decide +kernel
theorem d_Tr_init_85 : decode c_Tr_init 85 = .ok (.aload_n 0, 1) := by decide +kernel
theorem d_Tr_init_86 : decode c_Tr_init 86 = .ok (.sipush 300, 3) := by decide +kernel
theorem d_Tr_init_89 : decode c_Tr_init 89 = .ok (.newarray .int, 2) := by decide +kernel
theorem d_Tr_init_91 : decode c_Tr_init 91 = .ok (.putfield 39, 3) := by decide +kernel
theorem d_Tr_init_94 : decode c_Tr_init 94 = .ok (.aload_n 0, 1) := by decide +kernel
theorem d_Tr_init_95 : decode c_Tr_init 95 = .ok (.iconst 0, 1) := by decide +kernel
theorem d_Tr_init_96 : decode c_Tr_init 96 = .ok (.putfield 42, 3) := by decide +kernel
theorem d_Tr_init_99 : decode c_Tr_init 99 = .ok (.aload_n 0, 1) := by decide +kernel
theorem d_Tr_init_100 : decode c_Tr_init 100 = .ok (.getfield 36, 3) := by decide +kernel
theorem d_Tr_init_103 : decode c_Tr_init 103 = .ok (.iconst (-1), 1) := by decide +kernel
theorem d_Tr_init_104 : decode c_Tr_init 104 = .ok (.invokestatic 46, 3) := by decide +kernel
theorem d_Tr_init_107 : decode c_Tr_init 107 = .ok (.return_, 1) := by decide +kernel
theorem d_Ar_fill_0 : decode c_Ar_fill 0 = .ok (.iconst 0, 1) := by decide +kernel
theorem d_Ar_fill_1 : decode c_Ar_fill 1 = .ok (.istore_n 2, 1) := by decide +kernel
theorem d_Ar_fill_2 : decode c_Ar_fill 2 = .ok (.aload_n 0, 1) := by decide +kernel
theorem d_Ar_fill_3 : decode c_Ar_fill 3 = .ok (.arraylength, 1) := by decide +kernel
theorem d_Ar_fill_4 : decode c_Ar_fill 4 = .ok (.istore_n 3, 1) := by decide +kernel
theorem d_Ar_fill_5 : decode c_Ar_fill 5 = .ok (.iload_n 2, 1) := by decide +kernel
theorem d_Ar_fill_6 : decode c_Ar_fill 6 = .ok (.iload_n 3, 1) := by decide +kernel
theorem d_Ar_fill_7 : decode c_Ar_fill 7 = .ok (.if_icmp .ge 13, 3) := by decide +kernel
theorem d_Ar_fill_10 : decode c_Ar_fill 10 = .ok (.aload_n 0, 1) := by decide +kernel
theorem d_Ar_fill_11 : decode c_Ar_fill 11 = .ok (.iload_n 2, 1) := by decide +kernel
theorem d_Ar_fill_12 : decode c_Ar_fill 12 = .ok (.iload_n 1, 1) := by decide +kernel
theorem d_Ar_fill_13 : decode c_Ar_fill 13 = .ok (.iastore, 1) := by decide +kernel
theorem d_Ar_fill_14 : decode c_Ar_fill 14 = .ok (.iinc 2 1, 3) := by decide +kernel
theorem d_Ar_fill_17 : decode c_Ar_fill 17 = .ok (.goto (-12), 3) := by decide +kernel
theorem d_Ar_fill_20 : decode c_Ar_fill 20 = .ok (.return_, 1) := by decide +kernel
theorem d_Ru_init_0 : decode c_Ru_init 0 = .ok (.aload_n 0, 1) := by decide +kernel
theorem d_Ru_init_1 : decode c_Ru_init 1 = .ok (.invokespecial 3, 3) := by decide +kernel
theorem d_Ru_init_4 : decode c_Ru_init 4 = .ok (.aload_n 0, 1) := by decide +kernel
theorem d_Ru_init_5 : decode c_Ru_init 5 = .ok (.bipush 16, 2) := by decide +kernel
theorem d_Ru_init_7 : decode c_Ru_init 7 = .ok (.newarray .int, 2) := by decide +kernel
theorem d_Ru_init_9 : decode c_Ru_init 9 = .ok (.putfield 9, 3) := by decide +kernel
theorem d_Ru_init_12 : decode c_Ru_init 12 = .ok (.aload_n 0, 1) := by decide +kernel
theorem d_Ru_init_13 : decode c_Ru_init 13 = .ok (.bipush 16, 2) := by decide +kernel
theorem d_Ru_init_15 : decode c_Ru_init 15 = .ok (.newarray .int, 2) := by decide +kernel
theorem d_Ru_init_17 : decode c_Ru_init 17 = .ok (.putfield 15, 3) := by decide +kernel
theorem d_Ru_init_20 : decode c_Ru_init 20 = .ok (.aload_n 0, 1) := by decide +kernel
theorem d_Ru_init_21 : decode c_Ru_init 21 = .ok (.bipush 16, 2) := by decide +kernel
theorem d_Ru_init_23 : decode c_Ru_init 23 = .ok (.newarray .int, 2) := by decide +kernel
theorem d_Ru_init_25 : decode c_Ru_init 25 = .ok (.putfield 18, 3) := by decide +kernel
theorem d_Ru_init_28 : decode c_Ru_init 28 = .ok (.aload_n 0, 1) := by decide +kernel
theorem d_Ru_init_29 : decode c_Ru_init 29 = .ok (.bipush 16, 2) := by decide +kernel
theorem d_Ru_init_31 : decode c_Ru_init 31 = .ok (.newarray .boolean, 2) := by decide +kernel
theorem d_Ru_init_33 : decode c_Ru_init 33 = .ok (.putfield 21, 3) := by decide +kernel
theorem d_Ru_init_36 : decode c_Ru_init 36 = .ok (.aload_n 0, 1) := by decide +kernel
theorem d_Ru_init_37 : decode c_Ru_init 37 = .ok (.bipush 16, 2) := by decide +kernel
theorem d_Ru_init_39 : decode c_Ru_init 39 = .ok (.newarray .boolean, 2) := by decide +kernel
theorem d_Ru_init_41 : decode c_Ru_init 41 = .ok (.putfield 25, 3) := by decide +kernel
theorem d_Ru_init_44 : decode c_Ru_init 44 = .ok (.aload_n 0, 1) := by decide +kernel
theorem d_Ru_init_45 : decode c_Ru_init 45 = .ok (.bipush 10, 2) := by decide +kernel
theorem d_Ru_init_47 : decode c_Ru_init 47 = .ok (.newarray .int, 2) := by decide +kernel
theorem d_Ru_init_49 : decode c_Ru_init 49 = .ok (.putfield 28, 3) := by decide +kernel
theorem d_Ru_init_52 : decode c_Ru_init 52 = .ok (.aload_n 0, 1) := by decide +kernel
theorem d_Ru_init_53 : decode c_Ru_init 53 = .ok (.iconst 0, 1) := by decide +kernel
theorem d_Ru_init_54 : decode c_Ru_init 54 = .ok (.putfield 31, 3) := by decide +kernel
theorem d_Ru_init_57 : decode c_Ru_init 57 = .ok (.aload_n 0, 1) := by decide +kernel
theorem d_Ru_init_58 : decode c_Ru_init 58 = .ok (.getfield 28, 3) := by decide +kernel
theorem d_Ru_init_61 : decode c_Ru_init 61 = .ok (.iconst 2, 1) := by decide +kernel
theorem d_Ru_init_62 : decode c_Ru_init 62 = .ok (.invokestatic 35, 3) := by decide +kernel
theorem d_Ru_init_65 : decode c_Ru_init 65 = .ok (.return_, 1) := by decide +kernel
theorem d_Rn_init_0 : decode c_Rn_init 0 = .ok (.aload_n 0, 1) := by decide +kernel
theorem d_Rn_init_1 : decode c_Rn_init 1 = .ok (.invokespecial 3, 3) := by decide +kernel
theorem d_Rn_init_4 : decode c_Rn_init 4 = .ok (.aload_n 0, 1) := by decide +kernel
theorem d_Rn_init_5 : decode c_Rn_init 5 = .ok (.bipush 16, 2) := by decide +kernel
theorem d_Rn_init_7 : decode c_Rn_init 7 = .ok (.newarray .boolean, 2) := by decide +kernel
theorem d_Rn_init_9 : decode c_Rn_init 9 = .ok (.putfield 9, 3) := by decide +kernel
theorem d_Rn_init_12 : decode c_Rn_init 12 = .ok (.aload_n 0, 1) := by decide +kernel
theorem d_Rn_init_13 : decode c_Rn_init 13 = .ok (.sipush 300, 3) := by decide +kernel
theorem d_Rn_init_16 : decode c_Rn_init 16 = .ok (.newarray .int, 2) := by decide +kernel
theorem d_Rn_init_18 : decode c_Rn_init 18 = .ok (.putfield 15, 3) := by decide +kernel
theorem d_Rn_init_21 : decode c_Rn_init 21 = .ok (.aload_n 0, 1) := by decide +kernel
theorem d_Rn_init_22 : decode c_Rn_init 22 = .ok (.bipush 6, 2) := by decide +kernel
theorem d_Rn_init_24 : decode c_Rn_init 24 = .ok (.newarray .int, 2) := by decide +kernel
theorem d_Rn_init_26 : decode c_Rn_init 26 = .ok (.putfield 19, 3) := by decide +kernel
theorem d_Rn_init_29 : decode c_Rn_init 29 = .ok (.aload_n 0, 1) := by decide +kernel
theorem d_Rn_init_30 : decode c_Rn_init 30 = .ok (.iconst 0, 1) := by decide +kernel
theorem d_Rn_init_31 : decode c_Rn_init 31 = .ok (.putfield 22, 3) := by decide +kernel
theorem d_Rn_init_34 : decode c_Rn_init 34 = .ok (.aload_n 0, 1) := by decide +kernel
theorem d_Rn_init_35 : decode c_Rn_init 35 = .ok (.iconst 0, 1) := by decide +kernel
theorem d_Rn_init_36 : decode c_Rn_init 36 = .ok (.putfield 26, 3) := by decide +kernel
theorem d_Rn_init_39 : decode c_Rn_init 39 = .ok (.aload_n 0, 1) := by decide +kernel
theorem d_Rn_init_40 : decode c_Rn_init 40 = .ok (.iconst 0, 1) := by decide +kernel
theorem d_Rn_init_41 : decode c_Rn_init 41 = .ok (.putfield 29, 3) := by decide +kernel
theorem d_Rn_init_44 : decode c_Rn_init 44 = .ok (.aload_n 0, 1) := by decide +kernel
theorem d_Rn_init_45 : decode c_Rn_init 45 = .ok (.bipush 30, 2) := by decide +kernel
theorem d_Rn_init_47 : decode c_Rn_init 47 = .ok (.newarray .int, 2) := by decide +kernel
theorem d_Rn_init_49 : decode c_Rn_init 49 = .ok (.putfield 32, 3) := by decide +kernel
theorem d_Rn_init_52 : decode c_Rn_init 52 = .ok (.aload_n 0, 1) := by decide +kernel
theorem d_Rn_init_53 : decode c_Rn_init 53 = .ok (.bipush 30, 2) := by decide +kernel
theorem d_Rn_init_55 : decode c_Rn_init 55 = .ok (.newarray .boolean, 2) := by decide +kernel
theorem d_Rn_init_57 : decode c_Rn_init 57 = .ok (.putfield 35, 3) := by decide +kernel
theorem d_Rn_init_60 : decode c_Rn_init 60 = .ok (.aload_n 0, 1) := by decide +kernel
theorem d_Rn_init_61 : decode c_Rn_init 61 = .ok (.iconst 0, 1) := by decide +kernel
theorem d_Rn_init_62 : decode c_Rn_init 62 = .ok (.putfield 38, 3) := by decide +kernel
theorem d_Rn_init_65 : decode c_Rn_init 65 = .ok (.aload_n 0, 1) := by decide +kernel
theorem d_Rn_init_66 : decode c_Rn_init 66 = .ok (.iconst 0, 1) := by decide +kernel
theorem d_Rn_init_67 : decode c_Rn_init 67 = .ok (.putfield 41, 3) := by decide +kernel
theorem d_Rn_init_70 : decode c_Rn_init 70 = .ok (.aload_n 0, 1) := by decide +kernel
theorem d_Rn_init_71 : decode c_Rn_init 71 = .ok (.aload_n 1, 1) := by decide +kernel
theorem d_Rn_init_72 : decode c_Rn_init 72 = .ok (.putfield 45, 3) := by decide +kernel
theorem d_Rn_init_75 : decode c_Rn_init 75 = .ok (.aload_n 0, 1) := by decide +kernel
theorem d_Rn_init_76 : decode c_Rn_init 76 = .ok (.aload_n 2, 1) := by decide +kernel
theorem d_Rn_init_77 : decode c_Rn_init 77 = .ok (.putfield 49, 3) := by decide +kernel
theorem d_Rn_init_80 : decode c_Rn_init 80 = .ok (.return_, 1) := by decide +kernel
theorem d_Ro_init_0 : decode c_Ro_init 0 = .ok (.aload_n 0, 1) := by decide +kernel
theorem d_Ro_init_1 : decode c_Ro_init 1 = .ok (.invokespecial 3, 3) := by decide +kernel
theorem d_Ro_init_4 : decode c_Ro_init 4 = .ok (.aload_n 0, 1) := by decide +kernel
theorem d_Ro_init_5 : decode c_Ro_init 5 = .ok (.sipush 800, 3) := by decide +kernel
theorem d_Ro_init_8 : decode c_Ro_init 8 = .ok (.newarray .int, 2) := by decide +kernel
theorem d_Ro_init_10 : decode c_Ro_init 10 = .ok (.putfield 9, 3) := by decide +kernel
theorem d_Ro_init_13 : decode c_Ro_init 13 = .ok (.aload_n 0, 1) := by decide +kernel
theorem d_Ro_init_14 : decode c_Ro_init 14 = .ok (.iconst 0, 1) := by decide +kernel
theorem d_Ro_init_15 : decode c_Ro_init 15 = .ok (.putfield 15, 3) := by decide +kernel
theorem d_Ro_init_18 : decode c_Ro_init 18 = .ok (.return_, 1) := by decide +kernel
theorem d_Ro_cell_0 : decode c_Ro_cell 0 = .ok (.aload_n 0, 1) := by decide +kernel
theorem d_Ro_cell_1 : decode c_Ro_cell 1 = .ok (.getfield 9, 3) := by decide +kernel
theorem d_Ro_cell_4 : decode c_Ro_cell 4 = .ok (.iload_n 1, 1) := by decide +kernel
theorem d_Ro_cell_5 : decode c_Ro_cell 5 = .ok (.iconst 4, 1) := by decide +kernel
theorem d_Ro_cell_6 : decode c_Ro_cell 6 = .ok (.imul, 1) := by decide +kernel
theorem d_Ro_cell_7 : decode c_Ro_cell 7 = .ok (.iload_n 2, 1) := by decide +kernel
theorem d_Ro_cell_8 : decode c_Ro_cell 8 = .ok (.iadd, 1) := by decide +kernel
theorem d_Ro_cell_9 : decode c_Ro_cell 9 = .ok (.iaload, 1) := by decide +kernel
theorem d_Ro_cell_10 : decode c_Ro_cell 10 = .ok (.ireturn, 1) := by decide +kernel
theorem d_Tr_numberOf_0 : decode c_Tr_numberOf 0 = .ok (.aload_n 0, 1) := by decide +kernel
theorem d_Tr_numberOf_1 : decode c_Tr_numberOf 1 = .ok (.iload_n 1, 1) := by decide +kernel
theorem d_Tr_numberOf_2 : decode c_Tr_numberOf 2 = .ok (.iload_n 2, 1) := by decide +kernel
theorem d_Tr_numberOf_3 : decode c_Tr_numberOf 3 = .ok (.iload_n 3, 1) := by decide +kernel
theorem d_Tr_numberOf_4 : decode c_Tr_numberOf 4 = .ok (.invokevirtual 52, 3) := by decide +kernel
theorem d_Tr_numberOf_7 : decode c_Tr_numberOf 7 = .ok (.istore 4, 2) := by decide +kernel
theorem d_Tr_numberOf_9 : decode c_Tr_numberOf 9 = .ok (.aload_n 0, 1) := by decide +kernel
theorem d_Tr_numberOf_10 : decode c_Tr_numberOf 10 = .ok (.getfield 36, 3) := by decide +kernel
theorem d_Tr_numberOf_13 : decode c_Tr_numberOf 13 = .ok (.iload 4, 2) := by decide +kernel
theorem d_Tr_numberOf_15 : decode c_Tr_numberOf 15 = .ok (.iaload, 1) := by decide +kernel
theorem d_Tr_numberOf_16 : decode c_Tr_numberOf 16 = .ok (.istore 5, 2) := by decide +kernel
theorem d_Tr_numberOf_18 : decode c_Tr_numberOf 18 = .ok (.iconst 0, 1) := by decide +kernel
theorem d_Tr_numberOf_19 : decode c_Tr_numberOf 19 = .ok (.istore 6, 2) := by decide +kernel
theorem d_Tr_numberOf_21 : decode c_Tr_numberOf 21 = .ok (.iload 6, 2) := by decide +kernel
theorem d_Tr_numberOf_23 : decode c_Tr_numberOf 23 = .ok (.sipush 300, 3) := by decide +kernel
theorem d_Tr_numberOf_26 : decode c_Tr_numberOf 26 = .ok (.if_icmp .ge 59, 3) := by decide +kernel
theorem d_Tr_numberOf_29 : decode c_Tr_numberOf 29 = .ok (.iload 5, 2) := by decide +kernel
theorem d_Tr_numberOf_31 : decode c_Tr_numberOf 31 = .ok (.ifCond .lt 54, 3) := by decide +kernel
theorem d_Tr_numberOf_34 : decode c_Tr_numberOf 34 = .ok (.aload_n 0, 1) := by decide +kernel
theorem d_Tr_numberOf_35 : decode c_Tr_numberOf 35 = .ok (.getfield 9, 3) := by decide +kernel
theorem d_Tr_numberOf_38 : decode c_Tr_numberOf 38 = .ok (.iload 5, 2) := by decide +kernel
theorem d_Tr_numberOf_40 : decode c_Tr_numberOf 40 = .ok (.iaload, 1) := by decide +kernel
theorem d_Tr_numberOf_41 : decode c_Tr_numberOf 41 = .ok (.iload_n 1, 1) := by decide +kernel
theorem d_Tr_numberOf_42 : decode c_Tr_numberOf 42 = .ok (.if_icmp .ne 28, 3) := by decide +kernel
theorem d_Tr_numberOf_45 : decode c_Tr_numberOf 45 = .ok (.aload_n 0, 1) := by decide +kernel
theorem d_Tr_numberOf_46 : decode c_Tr_numberOf 46 = .ok (.getfield 15, 3) := by decide +kernel
theorem d_Tr_numberOf_49 : decode c_Tr_numberOf 49 = .ok (.iload 5, 2) := by decide +kernel
theorem d_Tr_numberOf_51 : decode c_Tr_numberOf 51 = .ok (.iaload, 1) := by decide +kernel
theorem d_Tr_numberOf_52 : decode c_Tr_numberOf 52 = .ok (.iload_n 2, 1) := by decide +kernel
theorem d_Tr_numberOf_53 : decode c_Tr_numberOf 53 = .ok (.if_icmp .ne 17, 3) := by decide +kernel
theorem d_Tr_numberOf_56 : decode c_Tr_numberOf 56 = .ok (.aload_n 0, 1) := by decide +kernel
theorem d_Tr_numberOf_57 : decode c_Tr_numberOf 57 = .ok (.getfield 18, 3) := by decide +kernel
theorem d_Tr_numberOf_60 : decode c_Tr_numberOf 60 = .ok (.iload 5, 2) := by decide +kernel
theorem d_Tr_numberOf_62 : decode c_Tr_numberOf 62 = .ok (.iaload, 1) := by decide +kernel
theorem d_Tr_numberOf_63 : decode c_Tr_numberOf 63 = .ok (.iload_n 3, 1) := by decide +kernel
theorem d_Tr_numberOf_64 : decode c_Tr_numberOf 64 = .ok (.if_icmp .ne 6, 3) := by decide +kernel
theorem d_Tr_numberOf_67 : decode c_Tr_numberOf 67 = .ok (.iload 5, 2) := by decide +kernel
theorem d_Tr_numberOf_69 : decode c_Tr_numberOf 69 = .ok (.ireturn, 1) := by decide +kernel
theorem d_Tr_numberOf_70 : decode c_Tr_numberOf 70 = .ok (.aload_n 0, 1) := by decide +kernel
theorem d_Tr_numberOf_71 : decode c_Tr_numberOf 71 = .ok (.getfield 39, 3) := by decide +kernel
theorem d_Tr_numberOf_74 : decode c_Tr_numberOf 74 = .ok (.iload 5, 2) := by decide +kernel
theorem d_Tr_numberOf_76 : decode c_Tr_numberOf 76 = .ok (.iaload, 1) := by decide +kernel
theorem d_Tr_numberOf_77 : decode c_Tr_numberOf 77 = .ok (.istore 5, 2) := by decide +kernel
theorem d_Tr_numberOf_79 : decode c_Tr_numberOf 79 = .ok (.iinc 6 1, 3) := by decide +kernel
theorem d_Tr_numberOf_82 : decode c_Tr_numberOf 82 = .ok (.goto (-61), 3) := by decide +kernel
theorem d_Tr_numberOf_85 : decode c_Tr_numberOf 85 = .ok (.aload_n 0, 1) := by decide +kernel
theorem d_Tr_numberOf_86 : decode c_Tr_numberOf 86 = .ok (.iload_n 1, 1) := by decide +kernel
theorem d_Tr_numberOf_87 : decode c_Tr_numberOf 87 = .ok (.iload_n 2, 1) := by decide +kernel
theorem d_Tr_numberOf_88 : decode c_Tr_numberOf 88 = .ok (.iload_n 3, 1) := by decide +kernel
theorem d_Tr_numberOf_89 : decode c_Tr_numberOf 89 = .ok (.invokevirtual 56, 3) := by decide +kernel
theorem d_Tr_numberOf_92 : decode c_Tr_numberOf 92 = .ok (.ireturn, 1) := by decide +kernel
theorem d_Tr_slotOf_0 : decode c_Tr_slotOf 0 = .ok (.iload_n 1, 1) := by decide +kernel
theorem d_Tr_slotOf_1 : decode c_Tr_slotOf 1 = .ok (.bipush 31, 2) := by decide +kernel
theorem d_Tr_slotOf_3 : decode c_Tr_slotOf 3 = .ok (.imul, 1) := by decide +kernel
theorem d_Tr_slotOf_4 : decode c_Tr_slotOf 4 = .ok (.iload_n 2, 1) := by decide +kernel
theorem d_Tr_slotOf_5 : decode c_Tr_slotOf 5 = .ok (.iadd, 1) := by decide +kernel
theorem d_Tr_slotOf_6 : decode c_Tr_slotOf 6 = .ok (.bipush 31, 2) := by decide +kernel
theorem d_Tr_slotOf_8 : decode c_Tr_slotOf 8 = .ok (.imul, 1) := by decide +kernel
theorem d_Tr_slotOf_9 : decode c_Tr_slotOf 9 = .ok (.iload_n 3, 1) := by decide +kernel
theorem d_Tr_slotOf_10 : decode c_Tr_slotOf 10 = .ok (.iadd, 1) := by decide +kernel
theorem d_Tr_slotOf_11 : decode c_Tr_slotOf 11 = .ok (.sipush 511, 3) := by decide +kernel
theorem d_Tr_slotOf_14 : decode c_Tr_slotOf 14 = .ok (.iand, 1) := by decide +kernel
theorem d_Tr_slotOf_15 : decode c_Tr_slotOf 15 = .ok (.ireturn, 1) := by decide +kernel
theorem d_Tr_enter_0 : decode c_Tr_enter 0 = .ok (.aload_n 0, 1) := by decide +kernel
theorem d_Tr_enter_1 : decode c_Tr_enter 1 = .ok (.iload_n 1, 1) := by decide +kernel
theorem d_Tr_enter_2 : decode c_Tr_enter 2 = .ok (.invokevirtual 59, 3) := by decide +kernel
theorem d_Tr_enter_5 : decode c_Tr_enter 5 = .ok (.aload_n 0, 1) := by decide +kernel
theorem d_Tr_enter_6 : decode c_Tr_enter 6 = .ok (.aload_n 0, 1) := by decide +kernel
theorem d_Tr_enter_7 : decode c_Tr_enter 7 = .ok (.getfield 21, 3) := by decide +kernel
theorem d_Tr_enter_10 : decode c_Tr_enter 10 = .ok (.iload_n 2, 1) := by decide +kernel
theorem d_Tr_enter_11 : decode c_Tr_enter 11 = .ok (.iconst 0, 1) := by decide +kernel
theorem d_Tr_enter_12 : decode c_Tr_enter 12 = .ok (.invokevirtual 63, 3) := by decide +kernel
theorem d_Tr_enter_15 : decode c_Tr_enter 15 = .ok (.iadd, 1) := by decide +kernel
theorem d_Tr_enter_16 : decode c_Tr_enter 16 = .ok (.aload_n 0, 1) := by decide +kernel
theorem d_Tr_enter_17 : decode c_Tr_enter 17 = .ok (.aload_n 0, 1) := by decide +kernel
theorem d_Tr_enter_18 : decode c_Tr_enter 18 = .ok (.getfield 21, 3) := by decide +kernel
theorem d_Tr_enter_21 : decode c_Tr_enter 21 = .ok (.iload_n 3, 1) := by decide +kernel
theorem d_Tr_enter_22 : decode c_Tr_enter 22 = .ok (.iconst 0, 1) := by decide +kernel
theorem d_Tr_enter_23 : decode c_Tr_enter 23 = .ok (.invokevirtual 63, 3) := by decide +kernel
theorem d_Tr_enter_26 : decode c_Tr_enter 26 = .ok (.iadd, 1) := by decide +kernel
theorem d_Tr_enter_27 : decode c_Tr_enter 27 = .ok (.istore 4, 2) := by decide +kernel
theorem d_Tr_enter_29 : decode c_Tr_enter 29 = .ok (.iconst 1, 1) := by decide +kernel
theorem d_Tr_enter_30 : decode c_Tr_enter 30 = .ok (.aload_n 0, 1) := by decide +kernel
theorem d_Tr_enter_31 : decode c_Tr_enter 31 = .ok (.aload_n 0, 1) := by decide +kernel
theorem d_Tr_enter_32 : decode c_Tr_enter 32 = .ok (.getfield 27, 3) := by decide +kernel
theorem d_Tr_enter_35 : decode c_Tr_enter 35 = .ok (.iload_n 2, 1) := by decide +kernel
theorem d_Tr_enter_36 : decode c_Tr_enter 36 = .ok (.iconst (-1), 1) := by decide +kernel
theorem d_Tr_enter_37 : decode c_Tr_enter 37 = .ok (.invokevirtual 63, 3) := by decide +kernel
theorem d_Tr_enter_40 : decode c_Tr_enter 40 = .ok (.aload_n 0, 1) := by decide +kernel
theorem d_Tr_enter_41 : decode c_Tr_enter 41 = .ok (.aload_n 0, 1) := by decide +kernel
theorem d_Tr_enter_42 : decode c_Tr_enter 42 = .ok (.getfield 27, 3) := by decide +kernel
theorem d_Tr_enter_45 : decode c_Tr_enter 45 = .ok (.iload_n 3, 1) := by decide +kernel
theorem d_Tr_enter_46 : decode c_Tr_enter 46 = .ok (.iconst (-1), 1) := by decide +kernel
theorem d_Tr_enter_47 : decode c_Tr_enter 47 = .ok (.invokevirtual 63, 3) := by decide +kernel
theorem d_Tr_enter_50 : decode c_Tr_enter 50 = .ok (.invokestatic 67, 3) := by decide +kernel
theorem d_Tr_enter_53 : decode c_Tr_enter 53 = .ok (.iadd, 1) := by decide +kernel
theorem d_Tr_enter_54 : decode c_Tr_enter 54 = .ok (.istore 5, 2) := by decide +kernel
theorem d_Tr_enter_56 : decode c_Tr_enter 56 = .ok (.aload_n 0, 1) := by decide +kernel
theorem d_Tr_enter_57 : decode c_Tr_enter 57 = .ok (.getfield 42, 3) := by decide +kernel
theorem d_Tr_enter_60 : decode c_Tr_enter 60 = .ok (.sipush 300, 3) := by decide +kernel
theorem d_Tr_enter_63 : decode c_Tr_enter 63 = .ok (.if_icmp .ge 18, 3) := by decide +kernel
theorem d_Tr_enter_66 : decode c_Tr_enter 66 = .ok (.iload 4, 2) := by decide +kernel
theorem d_Tr_enter_68 : decode c_Tr_enter 68 = .ok (.sipush 1000, 3) := by decide +kernel
theorem d_Tr_enter_71 : decode c_Tr_enter 71 = .ok (.if_icmp .gt 10, 3) := by decide +kernel
theorem d_Tr_enter_74 : decode c_Tr_enter 74 = .ok (.iload 5, 2) := by decide +kernel
theorem d_Tr_enter_76 : decode c_Tr_enter 76 = .ok (.bipush 30, 2) := by decide +kernel
theorem d_Tr_enter_78 : decode c_Tr_enter 78 = .ok (.if_icmp .le 5, 3) := by decide +kernel
theorem d_Tr_enter_81 : decode c_Tr_enter 81 = .ok (.iconst (-1), 1) := by decide +kernel
theorem d_Tr_enter_82 : decode c_Tr_enter 82 = .ok (.ireturn, 1) := by decide +kernel
theorem d_Tr_enter_83 : decode c_Tr_enter 83 = .ok (.aload_n 0, 1) := by decide +kernel
theorem d_Tr_enter_84 : decode c_Tr_enter 84 = .ok (.getfield 42, 3) := by decide +kernel
theorem d_Tr_enter_87 : decode c_Tr_enter 87 = .ok (.istore 6, 2) := by decide +kernel
theorem d_Tr_enter_89 : decode c_Tr_enter 89 = .ok (.aload_n 0, 1) := by decide +kernel
theorem d_Tr_enter_90 : decode c_Tr_enter 90 = .ok (.dup, 1) := by decide +kernel
theorem d_Tr_enter_91 : decode c_Tr_enter 91 = .ok (.getfield 42, 3) := by decide +kernel
theorem d_Tr_enter_94 : decode c_Tr_enter 94 = .ok (.iconst 1, 1) := by decide +kernel
theorem d_Tr_enter_95 : decode c_Tr_enter 95 = .ok (.iadd, 1) := by decide +kernel
theorem d_Tr_enter_96 : decode c_Tr_enter 96 = .ok (.putfield 42, 3) := by decide +kernel
theorem d_Tr_enter_99 : decode c_Tr_enter 99 = .ok (.aload_n 0, 1) := by decide +kernel
theorem d_Tr_enter_100 : decode c_Tr_enter 100 = .ok (.getfield 9, 3) := by decide +kernel
theorem d_Tr_enter_103 : decode c_Tr_enter 103 = .ok (.iload 6, 2) := by decide +kernel
theorem d_Tr_enter_105 : decode c_Tr_enter 105 = .ok (.iload_n 1, 1) := by decide +kernel
theorem d_Tr_enter_106 : decode c_Tr_enter 106 = .ok (.iastore, 1) := by decide +kernel
theorem d_Tr_enter_107 : decode c_Tr_enter 107 = .ok (.aload_n 0, 1) := by decide +kernel
theorem d_Tr_enter_108 : decode c_Tr_enter 108 = .ok (.getfield 15, 3) := by decide +kernel
theorem d_Tr_enter_111 : decode c_Tr_enter 111 = .ok (.iload 6, 2) := by decide +kernel
theorem d_Tr_enter_113 : decode c_Tr_enter 113 = .ok (.iload_n 2, 1) := by decide +kernel
theorem d_Tr_enter_114 : decode c_Tr_enter 114 = .ok (.iastore, 1) := by decide +kernel
theorem d_Tr_enter_115 : decode c_Tr_enter 115 = .ok (.aload_n 0, 1) := by decide +kernel
theorem d_Tr_enter_116 : decode c_Tr_enter 116 = .ok (.getfield 18, 3) := by decide +kernel
theorem d_Tr_enter_119 : decode c_Tr_enter 119 = .ok (.iload 6, 2) := by decide +kernel
theorem d_Tr_enter_121 : decode c_Tr_enter 121 = .ok (.iload_n 3, 1) := by decide +kernel
theorem d_Tr_enter_122 : decode c_Tr_enter 122 = .ok (.iastore, 1) := by decide +kernel
theorem d_Tr_enter_123 : decode c_Tr_enter 123 = .ok (.aload_n 0, 1) := by decide +kernel
theorem d_Tr_enter_124 : decode c_Tr_enter 124 = .ok (.getfield 21, 3) := by decide +kernel
theorem d_Tr_enter_127 : decode c_Tr_enter 127 = .ok (.iload 6, 2) := by decide +kernel
theorem d_Tr_enter_129 : decode c_Tr_enter 129 = .ok (.iload 4, 2) := by decide +kernel
theorem d_Tr_enter_131 : decode c_Tr_enter 131 = .ok (.iastore, 1) := by decide +kernel
theorem d_Tr_enter_132 : decode c_Tr_enter 132 = .ok (.aload_n 0, 1) := by decide +kernel
theorem d_Tr_enter_133 : decode c_Tr_enter 133 = .ok (.getfield 27, 3) := by decide +kernel
theorem d_Tr_enter_136 : decode c_Tr_enter 136 = .ok (.iload 6, 2) := by decide +kernel
theorem d_Tr_enter_138 : decode c_Tr_enter 138 = .ok (.iload 5, 2) := by decide +kernel
theorem d_Tr_enter_140 : decode c_Tr_enter 140 = .ok (.iastore, 1) := by decide +kernel
theorem d_Tr_enter_141 : decode c_Tr_enter 141 = .ok (.aload_n 0, 1) := by decide +kernel
theorem d_Tr_enter_142 : decode c_Tr_enter 142 = .ok (.getfield 24, 3) := by decide +kernel
theorem d_Tr_enter_145 : decode c_Tr_enter 145 = .ok (.iload 6, 2) := by decide +kernel
theorem d_Tr_enter_147 : decode c_Tr_enter 147 = .ok (.iconst 1, 1) := by decide +kernel
theorem d_Tr_enter_148 : decode c_Tr_enter 148 = .ok (.aload_n 0, 1) := by decide +kernel
theorem d_Tr_enter_149 : decode c_Tr_enter 149 = .ok (.aload_n 0, 1) := by decide +kernel
theorem d_Tr_enter_150 : decode c_Tr_enter 150 = .ok (.getfield 24, 3) := by decide +kernel
theorem d_Tr_enter_153 : decode c_Tr_enter 153 = .ok (.iload_n 2, 1) := by decide +kernel
theorem d_Tr_enter_154 : decode c_Tr_enter 154 = .ok (.iconst 0, 1) := by decide +kernel
theorem d_Tr_enter_155 : decode c_Tr_enter 155 = .ok (.invokevirtual 63, 3) := by decide +kernel
theorem d_Tr_enter_158 : decode c_Tr_enter 158 = .ok (.iadd, 1) := by decide +kernel
theorem d_Tr_enter_159 : decode c_Tr_enter 159 = .ok (.aload_n 0, 1) := by decide +kernel
theorem d_Tr_enter_160 : decode c_Tr_enter 160 = .ok (.aload_n 0, 1) := by decide +kernel
theorem d_Tr_enter_161 : decode c_Tr_enter 161 = .ok (.getfield 24, 3) := by decide +kernel
theorem d_Tr_enter_164 : decode c_Tr_enter 164 = .ok (.iload_n 3, 1) := by decide +kernel
theorem d_Tr_enter_165 : decode c_Tr_enter 165 = .ok (.iconst 0, 1) := by decide +kernel
theorem d_Tr_enter_166 : decode c_Tr_enter 166 = .ok (.invokevirtual 63, 3) := by decide +kernel
theorem d_Tr_enter_169 : decode c_Tr_enter 169 = .ok (.iadd, 1) := by decide +kernel
theorem d_Tr_enter_170 : decode c_Tr_enter 170 = .ok (.iastore, 1) := by decide +kernel
theorem d_Tr_enter_171 : decode c_Tr_enter 171 = .ok (.aload_n 0, 1) := by decide +kernel
theorem d_Tr_enter_172 : decode c_Tr_enter 172 = .ok (.iload 6, 2) := by decide +kernel
theorem d_Tr_enter_174 : decode c_Tr_enter 174 = .ok (.invokevirtual 73, 3) := by decide +kernel
theorem d_Tr_enter_177 : decode c_Tr_enter 177 = .ok (.aload_n 0, 1) := by decide +kernel
theorem d_Tr_enter_178 : decode c_Tr_enter 178 = .ok (.iload_n 1, 1) := by decide +kernel
theorem d_Tr_enter_179 : decode c_Tr_enter 179 = .ok (.iload_n 2, 1) := by decide +kernel
theorem d_Tr_enter_180 : decode c_Tr_enter 180 = .ok (.iload_n 3, 1) := by decide +kernel
theorem d_Tr_enter_181 : decode c_Tr_enter 181 = .ok (.invokevirtual 52, 3) := by decide +kernel
theorem d_Tr_enter_184 : decode c_Tr_enter 184 = .ok (.istore 7, 2) := by decide +kernel
theorem d_Tr_enter_186 : decode c_Tr_enter 186 = .ok (.aload_n 0, 1) := by decide +kernel
theorem d_Tr_enter_187 : decode c_Tr_enter 187 = .ok (.getfield 39, 3) := by decide +kernel
theorem d_Tr_enter_190 : decode c_Tr_enter 190 = .ok (.iload 6, 2) := by decide +kernel
theorem d_Tr_enter_192 : decode c_Tr_enter 192 = .ok (.aload_n 0, 1) := by decide +kernel
theorem d_Tr_enter_193 : decode c_Tr_enter 193 = .ok (.getfield 36, 3) := by decide +kernel
theorem d_Tr_enter_196 : decode c_Tr_enter 196 = .ok (.iload 7, 2) := by decide +kernel
theorem d_Tr_enter_198 : decode c_Tr_enter 198 = .ok (.iaload, 1) := by decide +kernel
theorem d_Tr_enter_199 : decode c_Tr_enter 199 = .ok (.iastore, 1) := by decide +kernel
theorem d_Tr_enter_200 : decode c_Tr_enter 200 = .ok (.aload_n 0, 1) := by decide +kernel
theorem d_Tr_enter_201 : decode c_Tr_enter 201 = .ok (.getfield 36, 3) := by decide +kernel
theorem d_Tr_enter_204 : decode c_Tr_enter 204 = .ok (.iload 7, 2) := by decide +kernel
theorem d_Tr_enter_206 : decode c_Tr_enter 206 = .ok (.iload 6, 2) := by decide +kernel
theorem d_Tr_enter_208 : decode c_Tr_enter 208 = .ok (.iastore, 1) := by decide +kernel
theorem d_Tr_enter_209 : decode c_Tr_enter 209 = .ok (.iload 6, 2) := by decide +kernel
theorem d_Tr_enter_211 : decode c_Tr_enter 211 = .ok (.ireturn, 1) := by decide +kernel
theorem d_Tr_ownWeight_0 : decode c_Tr_ownWeight 0 = .ok (.iload_n 1, 1) := by decide +kernel
theorem d_Tr_ownWeight_1 : decode c_Tr_ownWeight 1 = .ok (.ifCond .lt 20, 3) := by decide +kernel
theorem d_Tr_ownWeight_4 : decode c_Tr_ownWeight 4 = .ok (.iload_n 1, 1) := by decide +kernel
theorem d_Tr_ownWeight_5 : decode c_Tr_ownWeight 5 = .ok (.bipush 12, 2) := by decide +kernel
theorem d_Tr_ownWeight_7 : decode c_Tr_ownWeight 7 = .ok (.if_icmp .ge 14, 3) := by decide +kernel
theorem d_Tr_ownWeight_10 : decode c_Tr_ownWeight 10 = .ok (.iload_n 1, 1) := by decide +kernel
theorem d_Tr_ownWeight_11 : decode c_Tr_ownWeight 11 = .ok (.iconst 3, 1) := by decide +kernel
theorem d_Tr_ownWeight_12 : decode c_Tr_ownWeight 12 = .ok (.irem, 1) := by decide +kernel
theorem d_Tr_ownWeight_13 : decode c_Tr_ownWeight 13 = .ok (.iconst 2, 1) := by decide +kernel
theorem d_Tr_ownWeight_14 : decode c_Tr_ownWeight 14 = .ok (.if_icmp .ne 7, 3) := by decide +kernel
theorem d_Tr_ownWeight_17 : decode c_Tr_ownWeight 17 = .ok (.iconst 2, 1) := by decide +kernel
theorem d_Tr_ownWeight_18 : decode c_Tr_ownWeight 18 = .ok (.goto 4, 3) := by decide +kernel
theorem d_Tr_ownWeight_21 : decode c_Tr_ownWeight 21 = .ok (.iconst 1, 1) := by decide +kernel
theorem d_Tr_ownWeight_22 : decode c_Tr_ownWeight 22 = .ok (.ireturn, 1) := by decide +kernel
theorem d_Tr_valueOf_0 : decode c_Tr_valueOf 0 = .ok (.iload_n 2, 1) := by decide +kernel
theorem d_Tr_valueOf_1 : decode c_Tr_valueOf 1 = .ok (.ifCond .ge 7, 3) := by decide +kernel
theorem d_Tr_valueOf_4 : decode c_Tr_valueOf 4 = .ok (.iload_n 3, 1) := by decide +kernel
theorem d_Tr_valueOf_5 : decode c_Tr_valueOf 5 = .ok (.goto 6, 3) := by decide +kernel
theorem d_Tr_valueOf_8 : decode c_Tr_valueOf 8 = .ok (.aload_n 1, 1) := by decide +kernel
theorem d_Tr_valueOf_9 : decode c_Tr_valueOf 9 = .ok (.iload_n 2, 1) := by decide +kernel
theorem d_Tr_valueOf_10 : decode c_Tr_valueOf 10 = .ok (.iaload, 1) := by decide +kernel
theorem d_Tr_valueOf_11 : decode c_Tr_valueOf 11 = .ok (.ireturn, 1) := by decide +kernel
theorem d_Tr_noteHoles_0 : decode c_Tr_noteHoles 0 = .ok (.iconst 0, 1) := by decide +kernel
theorem d_Tr_noteHoles_1 : decode c_Tr_noteHoles 1 = .ok (.istore_n 2, 1) := by decide +kernel
theorem d_Tr_noteHoles_2 : decode c_Tr_noteHoles 2 = .ok (.iconst 0, 1) := by decide +kernel
theorem d_Tr_noteHoles_3 : decode c_Tr_noteHoles 3 = .ok (.istore_n 3, 1) := by decide +kernel
theorem d_Tr_noteHoles_4 : decode c_Tr_noteHoles 4 = .ok (.iload_n 3, 1) := by decide +kernel
theorem d_Tr_noteHoles_5 : decode c_Tr_noteHoles 5 = .ok (.bipush 6, 2) := by decide +kernel
theorem d_Tr_noteHoles_7 : decode c_Tr_noteHoles 7 = .ok (.if_icmp .ge 85, 3) := by decide +kernel
theorem d_Tr_noteHoles_10 : decode c_Tr_noteHoles 10 = .ok (.aload_n 0, 1) := by decide +kernel
theorem d_Tr_noteHoles_11 : decode c_Tr_noteHoles 11 = .ok (.getfield 9, 3) := by decide +kernel
theorem d_Tr_noteHoles_14 : decode c_Tr_noteHoles 14 = .ok (.iload_n 1, 1) := by decide +kernel
theorem d_Tr_noteHoles_15 : decode c_Tr_noteHoles 15 = .ok (.iaload, 1) := by decide +kernel
theorem d_Tr_noteHoles_16 : decode c_Tr_noteHoles 16 = .ok (.bipush 100, 2) := by decide +kernel
theorem d_Tr_noteHoles_18 : decode c_Tr_noteHoles 18 = .ok (.iload_n 3, 1) := by decide +kernel
theorem d_Tr_noteHoles_19 : decode c_Tr_noteHoles 19 = .ok (.iadd, 1) := by decide +kernel
theorem d_Tr_noteHoles_20 : decode c_Tr_noteHoles 20 = .ok (.if_icmp .ne 7, 3) := by decide +kernel
theorem d_Tr_noteHoles_23 : decode c_Tr_noteHoles 23 = .ok (.iconst 1, 1) := by decide +kernel
theorem d_Tr_noteHoles_24 : decode c_Tr_noteHoles 24 = .ok (.goto 4, 3) := by decide +kernel
theorem d_Tr_noteHoles_27 : decode c_Tr_noteHoles 27 = .ok (.iconst 0, 1) := by decide +kernel
theorem d_Tr_noteHoles_28 : decode c_Tr_noteHoles 28 = .ok (.istore 4, 2) := by decide +kernel
theorem d_Tr_noteHoles_30 : decode c_Tr_noteHoles 30 = .ok (.iload 4, 2) := by decide +kernel
theorem d_Tr_noteHoles_32 : decode c_Tr_noteHoles 32 = .ok (.aload_n 0, 1) := by decide +kernel
theorem d_Tr_noteHoles_33 : decode c_Tr_noteHoles 33 = .ok (.aload_n 0, 1) := by decide +kernel
theorem d_Tr_noteHoles_34 : decode c_Tr_noteHoles 34 = .ok (.getfield 15, 3) := by decide +kernel
theorem d_Tr_noteHoles_37 : decode c_Tr_noteHoles 37 = .ok (.iload_n 1, 1) := by decide +kernel
theorem d_Tr_noteHoles_38 : decode c_Tr_noteHoles 38 = .ok (.iaload, 1) := by decide +kernel
theorem d_Tr_noteHoles_39 : decode c_Tr_noteHoles 39 = .ok (.iload_n 3, 1) := by decide +kernel
theorem d_Tr_noteHoles_40 : decode c_Tr_noteHoles 40 = .ok (.invokevirtual 77, 3) := by decide +kernel
theorem d_Tr_noteHoles_43 : decode c_Tr_noteHoles 43 = .ok (.aload_n 0, 1) := by decide +kernel
theorem d_Tr_noteHoles_44 : decode c_Tr_noteHoles 44 = .ok (.aload_n 0, 1) := by decide +kernel
theorem d_Tr_noteHoles_45 : decode c_Tr_noteHoles 45 = .ok (.getfield 18, 3) := by decide +kernel
theorem d_Tr_noteHoles_48 : decode c_Tr_noteHoles 48 = .ok (.iload_n 1, 1) := by decide +kernel
theorem d_Tr_noteHoles_49 : decode c_Tr_noteHoles 49 = .ok (.iaload, 1) := by decide +kernel
theorem d_Tr_noteHoles_50 : decode c_Tr_noteHoles 50 = .ok (.iload_n 3, 1) := by decide +kernel
theorem d_Tr_noteHoles_51 : decode c_Tr_noteHoles 51 = .ok (.invokevirtual 77, 3) := by decide +kernel
theorem d_Tr_noteHoles_54 : decode c_Tr_noteHoles 54 = .ok (.iadd, 1) := by decide +kernel
theorem d_Tr_noteHoles_55 : decode c_Tr_noteHoles 55 = .ok (.iadd, 1) := by decide +kernel
theorem d_Tr_noteHoles_56 : decode c_Tr_noteHoles 56 = .ok (.istore 4, 2) := by decide +kernel
theorem d_Tr_noteHoles_58 : decode c_Tr_noteHoles 58 = .ok (.aload_n 0, 1) := by decide +kernel
theorem d_Tr_noteHoles_59 : decode c_Tr_noteHoles 59 = .ok (.getfield 33, 3) := by decide +kernel
theorem d_Tr_noteHoles_62 : decode c_Tr_noteHoles 62 = .ok (.iload_n 1, 1) := by decide +kernel
theorem d_Tr_noteHoles_63 : decode c_Tr_noteHoles 63 = .ok (.bipush 6, 2) := by decide +kernel
theorem d_Tr_noteHoles_65 : decode c_Tr_noteHoles 65 = .ok (.imul, 1) := by decide +kernel
theorem d_Tr_noteHoles_66 : decode c_Tr_noteHoles 66 = .ok (.iload_n 3, 1) := by decide +kernel
theorem d_Tr_noteHoles_67 : decode c_Tr_noteHoles 67 = .ok (.iadd, 1) := by decide +kernel
theorem d_Tr_noteHoles_68 : decode c_Tr_noteHoles 68 = .ok (.iload 4, 2) := by decide +kernel
theorem d_Tr_noteHoles_70 : decode c_Tr_noteHoles 70 = .ok (.iastore, 1) := by decide +kernel
theorem d_Tr_noteHoles_71 : decode c_Tr_noteHoles 71 = .ok (.iload_n 2, 1) := by decide +kernel
theorem d_Tr_noteHoles_72 : decode c_Tr_noteHoles 72 = .ok (.iload 4, 2) := by decide +kernel
theorem d_Tr_noteHoles_74 : decode c_Tr_noteHoles 74 = .ok (.ifCond .le 9, 3) := by decide +kernel
theorem d_Tr_noteHoles_77 : decode c_Tr_noteHoles 77 = .ok (.iconst 1, 1) := by decide +kernel
theorem d_Tr_noteHoles_78 : decode c_Tr_noteHoles 78 = .ok (.iload_n 3, 1) := by decide +kernel
theorem d_Tr_noteHoles_79 : decode c_Tr_noteHoles 79 = .ok (.ishl, 1) := by decide +kernel
theorem d_Tr_noteHoles_80 : decode c_Tr_noteHoles 80 = .ok (.goto 4, 3) := by decide +kernel
theorem d_Tr_noteHoles_83 : decode c_Tr_noteHoles 83 = .ok (.iconst 0, 1) := by decide +kernel
theorem d_Tr_noteHoles_84 : decode c_Tr_noteHoles 84 = .ok (.ior, 1) := by decide +kernel
theorem d_Tr_noteHoles_85 : decode c_Tr_noteHoles 85 = .ok (.istore_n 2, 1) := by decide +kernel
theorem d_Tr_noteHoles_86 : decode c_Tr_noteHoles 86 = .ok (.iinc 3 1, 3) := by decide +kernel
theorem d_Tr_noteHoles_89 : decode c_Tr_noteHoles 89 = .ok (.goto (-85), 3) := by decide +kernel
theorem d_Tr_noteHoles_92 : decode c_Tr_noteHoles 92 = .ok (.aload_n 0, 1) := by decide +kernel
theorem d_Tr_noteHoles_93 : decode c_Tr_noteHoles 93 = .ok (.getfield 30, 3) := by decide +kernel
theorem d_Tr_noteHoles_96 : decode c_Tr_noteHoles 96 = .ok (.iload_n 1, 1) := by decide +kernel
theorem d_Tr_noteHoles_97 : decode c_Tr_noteHoles 97 = .ok (.iload_n 2, 1) := by decide +kernel
theorem d_Tr_noteHoles_98 : decode c_Tr_noteHoles 98 = .ok (.iastore, 1) := by decide +kernel
theorem d_Tr_noteHoles_99 : decode c_Tr_noteHoles 99 = .ok (.return_, 1) := by decide +kernel
theorem d_Tr_holeCount_0 : decode c_Tr_holeCount 0 = .ok (.iload_n 1, 1) := by decide +kernel
theorem d_Tr_holeCount_1 : decode c_Tr_holeCount 1 = .ok (.ifCond .ge 7, 3) := by decide +kernel
theorem d_Tr_holeCount_4 : decode c_Tr_holeCount 4 = .ok (.iconst 0, 1) := by decide +kernel
theorem d_Tr_holeCount_5 : decode c_Tr_holeCount 5 = .ok (.goto 14, 3) := by decide +kernel
theorem d_Tr_holeCount_8 : decode c_Tr_holeCount 8 = .ok (.aload_n 0, 1) := by decide +kernel
theorem d_Tr_holeCount_9 : decode c_Tr_holeCount 9 = .ok (.getfield 33, 3) := by decide +kernel
theorem d_Tr_holeCount_12 : decode c_Tr_holeCount 12 = .ok (.iload_n 1, 1) := by decide +kernel
theorem d_Tr_holeCount_13 : decode c_Tr_holeCount 13 = .ok (.bipush 6, 2) := by decide +kernel
theorem d_Tr_holeCount_15 : decode c_Tr_holeCount 15 = .ok (.imul, 1) := by decide +kernel
theorem d_Tr_holeCount_16 : decode c_Tr_holeCount 16 = .ok (.iload_n 2, 1) := by decide +kernel
theorem d_Tr_holeCount_17 : decode c_Tr_holeCount 17 = .ok (.iadd, 1) := by decide +kernel
theorem d_Tr_holeCount_18 : decode c_Tr_holeCount 18 = .ok (.iaload, 1) := by decide +kernel
theorem d_Tr_holeCount_19 : decode c_Tr_holeCount 19 = .ok (.ireturn, 1) := by decide +kernel
theorem d_Tr_isNode_0 : decode c_Tr_isNode 0 = .ok (.iload_n 1, 1) := by decide +kernel
theorem d_Tr_isNode_1 : decode c_Tr_isNode 1 = .ok (.ifCond .lt 27, 3) := by decide +kernel
theorem d_Tr_isNode_4 : decode c_Tr_isNode 4 = .ok (.aload_n 0, 1) := by decide +kernel
theorem d_Tr_isNode_5 : decode c_Tr_isNode 5 = .ok (.getfield 9, 3) := by decide +kernel
theorem d_Tr_isNode_8 : decode c_Tr_isNode 8 = .ok (.iload_n 1, 1) := by decide +kernel
theorem d_Tr_isNode_9 : decode c_Tr_isNode 9 = .ok (.iaload, 1) := by decide +kernel
theorem d_Tr_isNode_10 : decode c_Tr_isNode 10 = .ok (.ifCond .lt 18, 3) := by decide +kernel
theorem d_Tr_isNode_13 : decode c_Tr_isNode 13 = .ok (.aload_n 0, 1) := by decide +kernel
theorem d_Tr_isNode_14 : decode c_Tr_isNode 14 = .ok (.getfield 9, 3) := by decide +kernel
theorem d_Tr_isNode_17 : decode c_Tr_isNode 17 = .ok (.iload_n 1, 1) := by decide +kernel
theorem d_Tr_isNode_18 : decode c_Tr_isNode 18 = .ok (.iaload, 1) := by decide +kernel
theorem d_Tr_isNode_19 : decode c_Tr_isNode 19 = .ok (.bipush 12, 2) := by decide +kernel
theorem d_Tr_isNode_21 : decode c_Tr_isNode 21 = .ok (.if_icmp .ge 7, 3) := by decide +kernel
theorem d_Tr_isNode_24 : decode c_Tr_isNode 24 = .ok (.iconst 1, 1) := by decide +kernel
theorem d_Tr_isNode_25 : decode c_Tr_isNode 25 = .ok (.goto 4, 3) := by decide +kernel
theorem d_Tr_isNode_28 : decode c_Tr_isNode 28 = .ok (.iconst 0, 1) := by decide +kernel
theorem d_Tr_isNode_29 : decode c_Tr_isNode 29 = .ok (.ireturn, 1) := by decide +kernel
theorem d_Tr_isAbove_0 : decode c_Tr_isAbove 0 = .ok (.iload_n 1, 1) := by decide +kernel
theorem d_Tr_isAbove_1 : decode c_Tr_isAbove 1 = .ok (.istore_n 3, 1) := by decide +kernel
theorem d_Tr_isAbove_2 : decode c_Tr_isAbove 2 = .ok (.iload_n 2, 1) := by decide +kernel
theorem d_Tr_isAbove_3 : decode c_Tr_isAbove 3 = .ok (.istore 4, 2) := by decide +kernel
theorem d_Tr_isAbove_5 : decode c_Tr_isAbove 5 = .ok (.iconst 0, 1) := by decide +kernel
theorem d_Tr_isAbove_6 : decode c_Tr_isAbove 6 = .ok (.istore 5, 2) := by decide +kernel
theorem d_Tr_isAbove_8 : decode c_Tr_isAbove 8 = .ok (.iload 5, 2) := by decide +kernel
theorem d_Tr_isAbove_10 : decode c_Tr_isAbove 10 = .ok (.bipush 30, 2) := by decide +kernel
theorem d_Tr_isAbove_12 : decode c_Tr_isAbove 12 = .ok (.if_icmp .gt 235, 3) := by decide +kernel
theorem d_Tr_isAbove_15 : decode c_Tr_isAbove 15 = .ok (.iload_n 3, 1) := by decide +kernel
theorem d_Tr_isAbove_16 : decode c_Tr_isAbove 16 = .ok (.iload 4, 2) := by decide +kernel
theorem d_Tr_isAbove_18 : decode c_Tr_isAbove 18 = .ok (.if_icmp .eq 229, 3) := by decide +kernel
theorem d_Tr_isAbove_21 : decode c_Tr_isAbove 21 = .ok (.aload_n 0, 1) := by decide +kernel
theorem d_Tr_isAbove_22 : decode c_Tr_isAbove 22 = .ok (.iload_n 3, 1) := by decide +kernel
theorem d_Tr_isAbove_23 : decode c_Tr_isAbove 23 = .ok (.iload 4, 2) := by decide +kernel
theorem d_Tr_isAbove_25 : decode c_Tr_isAbove 25 = .ok (.invokevirtual 84, 3) := by decide +kernel
theorem d_Tr_isAbove_28 : decode c_Tr_isAbove 28 = .ok (.ifCond .ne 5, 3) := by decide +kernel
theorem d_Tr_isAbove_31 : decode c_Tr_isAbove 31 = .ok (.iconst 0, 1) := by decide +kernel
theorem d_Tr_isAbove_32 : decode c_Tr_isAbove 32 = .ok (.ireturn, 1) := by decide +kernel
theorem d_Tr_isAbove_33 : decode c_Tr_isAbove 33 = .ok (.aload_n 0, 1) := by decide +kernel
theorem d_Tr_isAbove_34 : decode c_Tr_isAbove 34 = .ok (.getfield 21, 3) := by decide +kernel
theorem d_Tr_isAbove_37 : decode c_Tr_isAbove 37 = .ok (.iload_n 3, 1) := by decide +kernel
theorem d_Tr_isAbove_38 : decode c_Tr_isAbove 38 = .ok (.iaload, 1) := by decide +kernel
theorem d_Tr_isAbove_39 : decode c_Tr_isAbove 39 = .ok (.aload_n 0, 1) := by decide +kernel
theorem d_Tr_isAbove_40 : decode c_Tr_isAbove 40 = .ok (.getfield 21, 3) := by decide +kernel
theorem d_Tr_isAbove_43 : decode c_Tr_isAbove 43 = .ok (.iload 4, 2) := by decide +kernel
theorem d_Tr_isAbove_45 : decode c_Tr_isAbove 45 = .ok (.iaload, 1) := by decide +kernel
theorem d_Tr_isAbove_46 : decode c_Tr_isAbove 46 = .ok (.if_icmp .eq 25, 3) := by decide +kernel
theorem d_Tr_isAbove_49 : decode c_Tr_isAbove 49 = .ok (.aload_n 0, 1) := by decide +kernel
theorem d_Tr_isAbove_50 : decode c_Tr_isAbove 50 = .ok (.getfield 21, 3) := by decide +kernel
theorem d_Tr_isAbove_53 : decode c_Tr_isAbove 53 = .ok (.iload_n 3, 1) := by decide +kernel
theorem d_Tr_isAbove_54 : decode c_Tr_isAbove 54 = .ok (.iaload, 1) := by decide +kernel
theorem d_Tr_isAbove_55 : decode c_Tr_isAbove 55 = .ok (.aload_n 0, 1) := by decide +kernel
theorem d_Tr_isAbove_56 : decode c_Tr_isAbove 56 = .ok (.getfield 21, 3) := by decide +kernel
theorem d_Tr_isAbove_59 : decode c_Tr_isAbove 59 = .ok (.iload 4, 2) := by decide +kernel
theorem d_Tr_isAbove_61 : decode c_Tr_isAbove 61 = .ok (.iaload, 1) := by decide +kernel
theorem d_Tr_isAbove_62 : decode c_Tr_isAbove 62 = .ok (.if_icmp .le 7, 3) := by decide +kernel
theorem d_Tr_isAbove_65 : decode c_Tr_isAbove 65 = .ok (.iconst 1, 1) := by decide +kernel
theorem d_Tr_isAbove_66 : decode c_Tr_isAbove 66 = .ok (.goto 4, 3) := by decide +kernel
theorem d_Tr_isAbove_69 : decode c_Tr_isAbove 69 = .ok (.iconst 0, 1) := by decide +kernel
theorem d_Tr_isAbove_70 : decode c_Tr_isAbove 70 = .ok (.ireturn, 1) := by decide +kernel
theorem d_Tr_isAbove_71 : decode c_Tr_isAbove 71 = .ok (.aload_n 0, 1) := by decide +kernel
theorem d_Tr_isAbove_72 : decode c_Tr_isAbove 72 = .ok (.iload_n 3, 1) := by decide +kernel
theorem d_Tr_isAbove_73 : decode c_Tr_isAbove 73 = .ok (.invokevirtual 80, 3) := by decide +kernel
theorem d_Tr_isAbove_76 : decode c_Tr_isAbove 76 = .ok (.ifCond .eq 12, 3) := by decide +kernel
theorem d_Tr_isAbove_79 : decode c_Tr_isAbove 79 = .ok (.aload_n 0, 1) := by decide +kernel
theorem d_Tr_isAbove_80 : decode c_Tr_isAbove 80 = .ok (.iload 4, 2) := by decide +kernel
theorem d_Tr_isAbove_82 : decode c_Tr_isAbove 82 = .ok (.invokevirtual 80, 3) := by decide +kernel
theorem d_Tr_isAbove_85 : decode c_Tr_isAbove 85 = .ok (.ifCond .ne 50, 3) := by decide +kernel
theorem d_Tr_isAbove_88 : decode c_Tr_isAbove 88 = .ok (.aload_n 0, 1) := by decide +kernel
theorem d_Tr_isAbove_89 : decode c_Tr_isAbove 89 = .ok (.iload 4, 2) := by decide +kernel
theorem d_Tr_isAbove_91 : decode c_Tr_isAbove 91 = .ok (.invokevirtual 88, 3) := by decide +kernel
theorem d_Tr_isAbove_94 : decode c_Tr_isAbove 94 = .ok (.ifCond .eq 39, 3) := by decide +kernel
theorem d_Tr_isAbove_97 : decode c_Tr_isAbove 97 = .ok (.aload_n 0, 1) := by decide +kernel
theorem d_Tr_isAbove_98 : decode c_Tr_isAbove 98 = .ok (.iload_n 3, 1) := by decide +kernel
theorem d_Tr_isAbove_99 : decode c_Tr_isAbove 99 = .ok (.invokevirtual 80, 3) := by decide +kernel
theorem d_Tr_isAbove_102 : decode c_Tr_isAbove 102 = .ok (.ifCond .ne 27, 3) := by decide +kernel
theorem d_Tr_isAbove_105 : decode c_Tr_isAbove 105 = .ok (.aload_n 0, 1) := by decide +kernel
theorem d_Tr_isAbove_106 : decode c_Tr_isAbove 106 = .ok (.iload_n 3, 1) := by decide +kernel
theorem d_Tr_isAbove_107 : decode c_Tr_isAbove 107 = .ok (.invokevirtual 88, 3) := by decide +kernel
theorem d_Tr_isAbove_110 : decode c_Tr_isAbove 110 = .ok (.ifCond .eq 23, 3) := by decide +kernel
theorem d_Tr_isAbove_113 : decode c_Tr_isAbove 113 = .ok (.aload_n 0, 1) := by decide +kernel
theorem d_Tr_isAbove_114 : decode c_Tr_isAbove 114 = .ok (.getfield 9, 3) := by decide +kernel
theorem d_Tr_isAbove_117 : decode c_Tr_isAbove 117 = .ok (.iload_n 3, 1) := by decide +kernel
theorem d_Tr_isAbove_118 : decode c_Tr_isAbove 118 = .ok (.iaload, 1) := by decide +kernel
theorem d_Tr_isAbove_119 : decode c_Tr_isAbove 119 = .ok (.aload_n 0, 1) := by decide +kernel
theorem d_Tr_isAbove_120 : decode c_Tr_isAbove 120 = .ok (.getfield 9, 3) := by decide +kernel
theorem d_Tr_isAbove_123 : decode c_Tr_isAbove 123 = .ok (.iload 4, 2) := by decide +kernel
theorem d_Tr_isAbove_125 : decode c_Tr_isAbove 125 = .ok (.iaload, 1) := by decide +kernel
theorem d_Tr_isAbove_126 : decode c_Tr_isAbove 126 = .ok (.if_icmp .ge 7, 3) := by decide +kernel
theorem d_Tr_isAbove_129 : decode c_Tr_isAbove 129 = .ok (.iconst 1, 1) := by decide +kernel
theorem d_Tr_isAbove_130 : decode c_Tr_isAbove 130 = .ok (.goto 4, 3) := by decide +kernel
theorem d_Tr_isAbove_133 : decode c_Tr_isAbove 133 = .ok (.iconst 0, 1) := by decide +kernel
theorem d_Tr_isAbove_134 : decode c_Tr_isAbove 134 = .ok (.ireturn, 1) := by decide +kernel
theorem d_Tr_isAbove_135 : decode c_Tr_isAbove 135 = .ok (.aload_n 0, 1) := by decide +kernel
theorem d_Tr_isAbove_136 : decode c_Tr_isAbove 136 = .ok (.getfield 9, 3) := by decide +kernel
theorem d_Tr_isAbove_139 : decode c_Tr_isAbove 139 = .ok (.iload_n 3, 1) := by decide +kernel
theorem d_Tr_isAbove_140 : decode c_Tr_isAbove 140 = .ok (.iaload, 1) := by decide +kernel
theorem d_Tr_isAbove_141 : decode c_Tr_isAbove 141 = .ok (.aload_n 0, 1) := by decide +kernel
theorem d_Tr_isAbove_142 : decode c_Tr_isAbove 142 = .ok (.getfield 9, 3) := by decide +kernel
theorem d_Tr_isAbove_145 : decode c_Tr_isAbove 145 = .ok (.iload 4, 2) := by decide +kernel
theorem d_Tr_isAbove_147 : decode c_Tr_isAbove 147 = .ok (.iaload, 1) := by decide +kernel
theorem d_Tr_isAbove_148 : decode c_Tr_isAbove 148 = .ok (.if_icmp .eq 25, 3) := by decide +kernel
theorem d_Tr_isAbove_151 : decode c_Tr_isAbove 151 = .ok (.aload_n 0, 1) := by decide +kernel
theorem d_Tr_isAbove_152 : decode c_Tr_isAbove 152 = .ok (.getfield 9, 3) := by decide +kernel
theorem d_Tr_isAbove_155 : decode c_Tr_isAbove 155 = .ok (.iload_n 3, 1) := by decide +kernel
theorem d_Tr_isAbove_156 : decode c_Tr_isAbove 156 = .ok (.iaload, 1) := by decide +kernel
theorem d_Tr_isAbove_157 : decode c_Tr_isAbove 157 = .ok (.aload_n 0, 1) := by decide +kernel
theorem d_Tr_isAbove_158 : decode c_Tr_isAbove 158 = .ok (.getfield 9, 3) := by decide +kernel
theorem d_Tr_isAbove_161 : decode c_Tr_isAbove 161 = .ok (.iload 4, 2) := by decide +kernel
theorem d_Tr_isAbove_163 : decode c_Tr_isAbove 163 = .ok (.iaload, 1) := by decide +kernel
theorem d_Tr_isAbove_164 : decode c_Tr_isAbove 164 = .ok (.if_icmp .le 7, 3) := by decide +kernel
theorem d_Tr_isAbove_167 : decode c_Tr_isAbove 167 = .ok (.iconst 1, 1) := by decide +kernel
theorem d_Tr_isAbove_168 : decode c_Tr_isAbove 168 = .ok (.goto 4, 3) := by decide +kernel
theorem d_Tr_isAbove_171 : decode c_Tr_isAbove 171 = .ok (.iconst 0, 1) := by decide +kernel
theorem d_Tr_isAbove_172 : decode c_Tr_isAbove 172 = .ok (.ireturn, 1) := by decide +kernel
theorem d_Tr_isAbove_173 : decode c_Tr_isAbove 173 = .ok (.aload_n 0, 1) := by decide +kernel
theorem d_Tr_isAbove_174 : decode c_Tr_isAbove 174 = .ok (.getfield 15, 3) := by decide +kernel
theorem d_Tr_isAbove_177 : decode c_Tr_isAbove 177 = .ok (.iload_n 3, 1) := by decide +kernel
theorem d_Tr_isAbove_178 : decode c_Tr_isAbove 178 = .ok (.iaload, 1) := by decide +kernel
theorem d_Tr_isAbove_179 : decode c_Tr_isAbove 179 = .ok (.aload_n 0, 1) := by decide +kernel
theorem d_Tr_isAbove_180 : decode c_Tr_isAbove 180 = .ok (.getfield 15, 3) := by decide +kernel
theorem d_Tr_isAbove_183 : decode c_Tr_isAbove 183 = .ok (.iload 4, 2) := by decide +kernel
theorem d_Tr_isAbove_185 : decode c_Tr_isAbove 185 = .ok (.iaload, 1) := by decide +kernel
theorem d_Tr_isAbove_186 : decode c_Tr_isAbove 186 = .ok (.if_icmp .eq 7, 3) := by decide +kernel
theorem d_Tr_isAbove_189 : decode c_Tr_isAbove 189 = .ok (.iconst 1, 1) := by decide +kernel
theorem d_Tr_isAbove_190 : decode c_Tr_isAbove 190 = .ok (.goto 4, 3) := by decide +kernel
theorem d_Tr_isAbove_193 : decode c_Tr_isAbove 193 = .ok (.iconst 0, 1) := by decide +kernel
theorem d_Tr_isAbove_194 : decode c_Tr_isAbove 194 = .ok (.istore 6, 2) := by decide +kernel
theorem d_Tr_isAbove_196 : decode c_Tr_isAbove 196 = .ok (.iload 6, 2) := by decide +kernel
theorem d_Tr_isAbove_198 : decode c_Tr_isAbove 198 = .ok (.ifCond .eq 12, 3) := by decide +kernel
theorem d_Tr_isAbove_201 : decode c_Tr_isAbove 201 = .ok (.aload_n 0, 1) := by decide +kernel
theorem d_Tr_isAbove_202 : decode c_Tr_isAbove 202 = .ok (.getfield 15, 3) := by decide +kernel
theorem d_Tr_isAbove_205 : decode c_Tr_isAbove 205 = .ok (.iload_n 3, 1) := by decide +kernel
theorem d_Tr_isAbove_206 : decode c_Tr_isAbove 206 = .ok (.iaload, 1) := by decide +kernel
theorem d_Tr_isAbove_207 : decode c_Tr_isAbove 207 = .ok (.goto 9, 3) := by decide +kernel
theorem d_Tr_isAbove_210 : decode c_Tr_isAbove 210 = .ok (.aload_n 0, 1) := by decide +kernel
theorem d_Tr_isAbove_211 : decode c_Tr_isAbove 211 = .ok (.getfield 18, 3) := by decide +kernel
theorem d_Tr_isAbove_214 : decode c_Tr_isAbove 214 = .ok (.iload_n 3, 1) := by decide +kernel
theorem d_Tr_isAbove_215 : decode c_Tr_isAbove 215 = .ok (.iaload, 1) := by decide +kernel
theorem d_Tr_isAbove_216 : decode c_Tr_isAbove 216 = .ok (.istore_n 3, 1) := by decide +kernel
theorem d_Tr_isAbove_217 : decode c_Tr_isAbove 217 = .ok (.iload 6, 2) := by decide +kernel
theorem d_Tr_isAbove_219 : decode c_Tr_isAbove 219 = .ok (.ifCond .eq 13, 3) := by decide +kernel
theorem d_Tr_isAbove_222 : decode c_Tr_isAbove 222 = .ok (.aload_n 0, 1) := by decide +kernel
theorem d_Tr_isAbove_223 : decode c_Tr_isAbove 223 = .ok (.getfield 15, 3) := by decide +kernel
theorem d_Tr_isAbove_226 : decode c_Tr_isAbove 226 = .ok (.iload 4, 2) := by decide +kernel
theorem d_Tr_isAbove_228 : decode c_Tr_isAbove 228 = .ok (.iaload, 1) := by decide +kernel
theorem d_Tr_isAbove_229 : decode c_Tr_isAbove 229 = .ok (.goto 10, 3) := by decide +kernel
theorem d_Tr_isAbove_232 : decode c_Tr_isAbove 232 = .ok (.aload_n 0, 1) := by decide +kernel
theorem d_Tr_isAbove_233 : decode c_Tr_isAbove 233 = .ok (.getfield 18, 3) := by decide +kernel
theorem d_Tr_isAbove_236 : decode c_Tr_isAbove 236 = .ok (.iload 4, 2) := by decide +kernel
theorem d_Tr_isAbove_238 : decode c_Tr_isAbove 238 = .ok (.iaload, 1) := by decide +kernel
theorem d_Tr_isAbove_239 : decode c_Tr_isAbove 239 = .ok (.istore 4, 2) := by decide +kernel
theorem d_Tr_isAbove_241 : decode c_Tr_isAbove 241 = .ok (.iinc 5 1, 3) := by decide +kernel
theorem d_Tr_isAbove_244 : decode c_Tr_isAbove 244 = .ok (.goto (-236), 3) := by decide +kernel
theorem d_Tr_isAbove_247 : decode c_Tr_isAbove 247 = .ok (.iconst 0, 1) := by decide +kernel
theorem d_Tr_isAbove_248 : decode c_Tr_isAbove 248 = .ok (.ireturn, 1) := by decide +kernel
theorem d_Tr_hasHolesOf_0 : decode c_Tr_hasHolesOf 0 = .ok (.iconst 0, 1) := by decide +kernel
theorem d_Tr_hasHolesOf_1 : decode c_Tr_hasHolesOf 1 = .ok (.istore_n 3, 1) := by decide +kernel
theorem d_Tr_hasHolesOf_2 : decode c_Tr_hasHolesOf 2 = .ok (.iload_n 3, 1) := by decide +kernel
theorem d_Tr_hasHolesOf_3 : decode c_Tr_hasHolesOf 3 = .ok (.bipush 6, 2) := by decide +kernel
theorem d_Tr_hasHolesOf_5 : decode c_Tr_hasHolesOf 5 = .ok (.if_icmp .ge 26, 3) := by decide +kernel
theorem d_Tr_hasHolesOf_8 : decode c_Tr_hasHolesOf 8 = .ok (.aload_n 0, 1) := by decide +kernel
theorem d_Tr_hasHolesOf_9 : decode c_Tr_hasHolesOf 9 = .ok (.iload_n 1, 1) := by decide +kernel
theorem d_Tr_hasHolesOf_10 : decode c_Tr_hasHolesOf 10 = .ok (.iload_n 3, 1) := by decide +kernel
theorem d_Tr_hasHolesOf_11 : decode c_Tr_hasHolesOf 11 = .ok (.invokevirtual 77, 3) := by decide +kernel
theorem d_Tr_hasHolesOf_14 : decode c_Tr_hasHolesOf 14 = .ok (.aload_n 0, 1) := by decide +kernel
theorem d_Tr_hasHolesOf_15 : decode c_Tr_hasHolesOf 15 = .ok (.iload_n 2, 1) := by decide +kernel
theorem d_Tr_hasHolesOf_16 : decode c_Tr_hasHolesOf 16 = .ok (.iload_n 3, 1) := by decide +kernel
theorem d_Tr_hasHolesOf_17 : decode c_Tr_hasHolesOf 17 = .ok (.invokevirtual 77, 3) := by decide +kernel
theorem d_Tr_hasHolesOf_20 : decode c_Tr_hasHolesOf 20 = .ok (.if_icmp .ge 5, 3) := by decide +kernel
theorem d_Tr_hasHolesOf_23 : decode c_Tr_hasHolesOf 23 = .ok (.iconst 0, 1) := by decide +kernel
theorem d_Tr_hasHolesOf_24 : decode c_Tr_hasHolesOf 24 = .ok (.ireturn, 1) := by decide +kernel
theorem d_Tr_hasHolesOf_25 : decode c_Tr_hasHolesOf 25 = .ok (.iinc 3 1, 3) := by decide +kernel
theorem d_Tr_hasHolesOf_28 : decode c_Tr_hasHolesOf 28 = .ok (.goto (-26), 3) := by decide +kernel
theorem d_Tr_hasHolesOf_31 : decode c_Tr_hasHolesOf 31 = .ok (.iconst 1, 1) := by decide +kernel
theorem d_Tr_hasHolesOf_32 : decode c_Tr_hasHolesOf 32 = .ok (.ireturn, 1) := by decide +kernel
theorem d_Tr_isLeaf_0 : decode c_Tr_isLeaf 0 = .ok (.iload_n 1, 1) := by decide +kernel
theorem d_Tr_isLeaf_1 : decode c_Tr_isLeaf 1 = .ok (.ifCond .lt 16, 3) := by decide +kernel
theorem d_Tr_isLeaf_4 : decode c_Tr_isLeaf 4 = .ok (.aload_n 0, 1) := by decide +kernel
theorem d_Tr_isLeaf_5 : decode c_Tr_isLeaf 5 = .ok (.getfield 9, 3) := by decide +kernel
theorem d_Tr_isLeaf_8 : decode c_Tr_isLeaf 8 = .ok (.iload_n 1, 1) := by decide +kernel
theorem d_Tr_isLeaf_9 : decode c_Tr_isLeaf 9 = .ok (.iaload, 1) := by decide +kernel
theorem d_Tr_isLeaf_10 : decode c_Tr_isLeaf 10 = .ok (.ifCond .ge 7, 3) := by decide +kernel
theorem d_Tr_isLeaf_13 : decode c_Tr_isLeaf 13 = .ok (.iconst 1, 1) := by decide +kernel
theorem d_Tr_isLeaf_14 : decode c_Tr_isLeaf 14 = .ok (.goto 4, 3) := by decide +kernel
theorem d_Tr_isLeaf_17 : decode c_Tr_isLeaf 17 = .ok (.iconst 0, 1) := by decide +kernel
theorem d_Tr_isLeaf_18 : decode c_Tr_isLeaf 18 = .ok (.ireturn, 1) := by decide +kernel
theorem d_Ru_add_0 : decode c_Ru_add 0 = .ok (.aload_n 0, 1) := by decide +kernel
theorem d_Ru_add_1 : decode c_Ru_add 1 = .ok (.getfield 31, 3) := by decide +kernel
theorem d_Ru_add_4 : decode c_Ru_add 4 = .ok (.bipush 16, 2) := by decide +kernel
theorem d_Ru_add_6 : decode c_Ru_add 6 = .ok (.if_icmp .lt 5, 3) := by decide +kernel
theorem d_Ru_add_9 : decode c_Ru_add 9 = .ok (.iconst (-1), 1) := by decide +kernel
theorem d_Ru_add_10 : decode c_Ru_add 10 = .ok (.ireturn, 1) := by decide +kernel
theorem d_Ru_add_11 : decode c_Ru_add 11 = .ok (.aload_n 0, 1) := by decide +kernel
theorem d_Ru_add_12 : decode c_Ru_add 12 = .ok (.getfield 31, 3) := by decide +kernel
theorem d_Ru_add_15 : decode c_Ru_add 15 = .ok (.istore 5, 2) := by decide +kernel
theorem d_Ru_add_17 : decode c_Ru_add 17 = .ok (.aload_n 0, 1) := by decide +kernel
theorem d_Ru_add_18 : decode c_Ru_add 18 = .ok (.dup, 1) := by decide +kernel
theorem d_Ru_add_19 : decode c_Ru_add 19 = .ok (.getfield 31, 3) := by decide +kernel
theorem d_Ru_add_22 : decode c_Ru_add 22 = .ok (.iconst 1, 1) := by decide +kernel
theorem d_Ru_add_23 : decode c_Ru_add 23 = .ok (.iadd, 1) := by decide +kernel
theorem d_Ru_add_24 : decode c_Ru_add 24 = .ok (.putfield 31, 3) := by decide +kernel
theorem d_Ru_add_27 : decode c_Ru_add 27 = .ok (.aload_n 0, 1) := by decide +kernel
theorem d_Ru_add_28 : decode c_Ru_add 28 = .ok (.getfield 9, 3) := by decide +kernel
theorem d_Ru_add_31 : decode c_Ru_add 31 = .ok (.iload 5, 2) := by decide +kernel
theorem d_Ru_add_33 : decode c_Ru_add 33 = .ok (.iload_n 1, 1) := by decide +kernel
theorem d_Ru_add_34 : decode c_Ru_add 34 = .ok (.iastore, 1) := by decide +kernel
theorem d_Ru_add_35 : decode c_Ru_add 35 = .ok (.aload_n 0, 1) := by decide +kernel
theorem d_Ru_add_36 : decode c_Ru_add 36 = .ok (.getfield 15, 3) := by decide +kernel
theorem d_Ru_add_39 : decode c_Ru_add 39 = .ok (.iload 5, 2) := by decide +kernel
theorem d_Ru_add_41 : decode c_Ru_add 41 = .ok (.iload_n 2, 1) := by decide +kernel
theorem d_Ru_add_42 : decode c_Ru_add 42 = .ok (.iastore, 1) := by decide +kernel
theorem d_Ru_add_43 : decode c_Ru_add 43 = .ok (.aload_n 0, 1) := by decide +kernel
theorem d_Ru_add_44 : decode c_Ru_add 44 = .ok (.getfield 18, 3) := by decide +kernel
theorem d_Ru_add_47 : decode c_Ru_add 47 = .ok (.iload 5, 2) := by decide +kernel
theorem d_Ru_add_49 : decode c_Ru_add 49 = .ok (.iload_n 3, 1) := by decide +kernel
theorem d_Ru_add_50 : decode c_Ru_add 50 = .ok (.iastore, 1) := by decide +kernel
theorem d_Ru_add_51 : decode c_Ru_add 51 = .ok (.aload_n 0, 1) := by decide +kernel
theorem d_Ru_add_52 : decode c_Ru_add 52 = .ok (.getfield 21, 3) := by decide +kernel
theorem d_Ru_add_55 : decode c_Ru_add 55 = .ok (.iload 5, 2) := by decide +kernel
theorem d_Ru_add_57 : decode c_Ru_add 57 = .ok (.iload 4, 2) := by decide +kernel
theorem d_Ru_add_59 : decode c_Ru_add 59 = .ok (.bastore, 1) := by decide +kernel
theorem d_Ru_add_60 : decode c_Ru_add 60 = .ok (.aload_n 0, 1) := by decide +kernel
theorem d_Ru_add_61 : decode c_Ru_add 61 = .ok (.getfield 25, 3) := by decide +kernel
theorem d_Ru_add_64 : decode c_Ru_add 64 = .ok (.iload 5, 2) := by decide +kernel
theorem d_Ru_add_66 : decode c_Ru_add 66 = .ok (.iconst 1, 1) := by decide +kernel
theorem d_Ru_add_67 : decode c_Ru_add 67 = .ok (.bastore, 1) := by decide +kernel
theorem d_Ru_add_68 : decode c_Ru_add 68 = .ok (.iload 5, 2) := by decide +kernel
theorem d_Ru_add_70 : decode c_Ru_add 70 = .ok (.ireturn, 1) := by decide +kernel
theorem d_Rn_run_0 : decode c_Rn_run 0 = .ok (.aload_n 0, 1) := by decide +kernel
theorem d_Rn_run_1 : decode c_Rn_run 1 = .ok (.iload_n 3, 1) := by decide +kernel
theorem d_Rn_run_2 : decode c_Rn_run 2 = .ok (.invokevirtual 53, 3) := by decide +kernel
theorem d_Rn_run_5 : decode c_Rn_run 5 = .ok (.aload 4, 2) := by decide +kernel
theorem d_Rn_run_7 : decode c_Rn_run 7 = .ok (.iconst 0, 1) := by decide +kernel
theorem d_Rn_run_8 : decode c_Rn_run 8 = .ok (.putfield 57, 3) := by decide +kernel
theorem d_Rn_run_11 : decode c_Rn_run 11 = .ok (.aload_n 0, 1) := by decide +kernel
theorem d_Rn_run_12 : decode c_Rn_run 12 = .ok (.iconst 0, 1) := by decide +kernel
theorem d_Rn_run_13 : decode c_Rn_run 13 = .ok (.putfield 38, 3) := by decide +kernel
theorem d_Rn_run_16 : decode c_Rn_run 16 = .ok (.iload_n 1, 1) := by decide +kernel
theorem d_Rn_run_17 : decode c_Rn_run 17 = .ok (.istore 5, 2) := by decide +kernel
theorem d_Rn_run_19 : decode c_Rn_run 19 = .ok (.aload_n 0, 1) := by decide +kernel
theorem d_Rn_run_20 : decode c_Rn_run 20 = .ok (.getfield 38, 3) := by decide +kernel
theorem d_Rn_run_23 : decode c_Rn_run 23 = .ok (.iload_n 2, 1) := by decide +kernel
theorem d_Rn_run_24 : decode c_Rn_run 24 = .ok (.if_icmp .ge 66, 3) := by decide +kernel
theorem d_Rn_run_27 : decode c_Rn_run 27 = .ok (.aload_n 0, 1) := by decide +kernel
theorem d_Rn_run_28 : decode c_Rn_run 28 = .ok (.iload 5, 2) := by decide +kernel
theorem d_Rn_run_30 : decode c_Rn_run 30 = .ok (.invokevirtual 62, 3) := by decide +kernel
theorem d_Rn_run_33 : decode c_Rn_run 33 = .ok (.ifCond .eq 57, 3) := by decide +kernel
theorem d_Rn_run_36 : decode c_Rn_run 36 = .ok (.aload_n 0, 1) := by decide +kernel
theorem d_Rn_run_37 : decode c_Rn_run 37 = .ok (.iload 5, 2) := by decide +kernel
theorem d_Rn_run_39 : decode c_Rn_run 39 = .ok (.invokevirtual 66, 3) := by decide +kernel
theorem d_Rn_run_42 : decode c_Rn_run 42 = .ok (.istore 6, 2) := by decide +kernel
theorem d_Rn_run_44 : decode c_Rn_run 44 = .ok (.iload 6, 2) := by decide +kernel
theorem d_Rn_run_46 : decode c_Rn_run 46 = .ok (.ifCond .ge 5, 3) := by decide +kernel
theorem d_Rn_run_49 : decode c_Rn_run 49 = .ok (.iconst (-1), 1) := by decide +kernel
theorem d_Rn_run_50 : decode c_Rn_run 50 = .ok (.ireturn, 1) := by decide +kernel
theorem d_Rn_run_51 : decode c_Rn_run 51 = .ok (.aload 4, 2) := by decide +kernel
theorem d_Rn_run_53 : decode c_Rn_run 53 = .ok (.aload_n 0, 1) := by decide +kernel
theorem d_Rn_run_54 : decode c_Rn_run 54 = .ok (.getfield 15, 3) := by decide +kernel
theorem d_Rn_run_57 : decode c_Rn_run 57 = .ok (.aload_n 0, 1) := by decide +kernel
theorem d_Rn_run_58 : decode c_Rn_run 58 = .ok (.getfield 22, 3) := by decide +kernel
theorem d_Rn_run_61 : decode c_Rn_run 61 = .ok (.iaload, 1) := by decide +kernel
theorem d_Rn_run_62 : decode c_Rn_run 62 = .ok (.aload_n 0, 1) := by decide +kernel
theorem d_Rn_run_63 : decode c_Rn_run 63 = .ok (.getfield 26, 3) := by decide +kernel
theorem d_Rn_run_66 : decode c_Rn_run 66 = .ok (.iload 5, 2) := by decide +kernel
theorem d_Rn_run_68 : decode c_Rn_run 68 = .ok (.iload 6, 2) := by decide +kernel
theorem d_Rn_run_70 : decode c_Rn_run 70 = .ok (.invokevirtual 70, 3) := by decide +kernel
theorem d_Rn_run_73 : decode c_Rn_run 73 = .ok (.iload 6, 2) := by decide +kernel
theorem d_Rn_run_75 : decode c_Rn_run 75 = .ok (.istore 5, 2) := by decide +kernel
theorem d_Rn_run_77 : decode c_Rn_run 77 = .ok (.aload_n 0, 1) := by decide +kernel
theorem d_Rn_run_78 : decode c_Rn_run 78 = .ok (.dup, 1) := by decide +kernel
theorem d_Rn_run_79 : decode c_Rn_run 79 = .ok (.getfield 38, 3) := by decide +kernel
theorem d_Rn_run_82 : decode c_Rn_run 82 = .ok (.iconst 1, 1) := by decide +kernel
theorem d_Rn_run_83 : decode c_Rn_run 83 = .ok (.iadd, 1) := by decide +kernel
theorem d_Rn_run_84 : decode c_Rn_run 84 = .ok (.putfield 38, 3) := by decide +kernel
theorem d_Rn_run_87 : decode c_Rn_run 87 = .ok (.goto (-68), 3) := by decide +kernel
theorem d_Rn_run_90 : decode c_Rn_run 90 = .ok (.aload_n 0, 1) := by decide +kernel
theorem d_Rn_run_91 : decode c_Rn_run 91 = .ok (.aload_n 0, 1) := by decide +kernel
theorem d_Rn_run_92 : decode c_Rn_run 92 = .ok (.iload 5, 2) := by decide +kernel
theorem d_Rn_run_94 : decode c_Rn_run 94 = .ok (.invokevirtual 62, 3) := by decide +kernel
theorem d_Rn_run_97 : decode c_Rn_run 97 = .ok (.putfield 41, 3) := by decide +kernel
theorem d_Rn_run_100 : decode c_Rn_run 100 = .ok (.iload 5, 2) := by decide +kernel
theorem d_Rn_run_102 : decode c_Rn_run 102 = .ok (.ireturn, 1) := by decide +kernel
theorem d_Rn_begin_0 : decode c_Rn_begin 0 = .ok (.aload_n 0, 1) := by decide +kernel
theorem d_Rn_begin_1 : decode c_Rn_begin 1 = .ok (.getfield 15, 3) := by decide +kernel
theorem d_Rn_begin_4 : decode c_Rn_begin 4 = .ok (.bipush (-3), 2) := by decide +kernel
theorem d_Rn_begin_6 : decode c_Rn_begin 6 = .ok (.invokestatic 74, 3) := by decide +kernel
theorem d_Rn_begin_9 : decode c_Rn_begin 9 = .ok (.iconst 0, 1) := by decide +kernel
theorem d_Rn_begin_10 : decode c_Rn_begin 10 = .ok (.istore_n 2, 1) := by decide +kernel
theorem d_Rn_begin_11 : decode c_Rn_begin 11 = .ok (.iload_n 2, 1) := by decide +kernel
theorem d_Rn_begin_12 : decode c_Rn_begin 12 = .ok (.aload_n 0, 1) := by decide +kernel
theorem d_Rn_begin_13 : decode c_Rn_begin 13 = .ok (.getfield 49, 3) := by decide +kernel
theorem d_Rn_begin_16 : decode c_Rn_begin 16 = .ok (.getfield 80, 3) := by decide +kernel
theorem d_Rn_begin_19 : decode c_Rn_begin 19 = .ok (.if_icmp .ge 47, 3) := by decide +kernel
theorem d_Rn_begin_22 : decode c_Rn_begin 22 = .ok (.aload_n 0, 1) := by decide +kernel
theorem d_Rn_begin_23 : decode c_Rn_begin 23 = .ok (.getfield 9, 3) := by decide +kernel
theorem d_Rn_begin_26 : decode c_Rn_begin 26 = .ok (.iload_n 2, 1) := by decide +kernel
theorem d_Rn_begin_27 : decode c_Rn_begin 27 = .ok (.aload_n 0, 1) := by decide +kernel
theorem d_Rn_begin_28 : decode c_Rn_begin 28 = .ok (.getfield 49, 3) := by decide +kernel
theorem d_Rn_begin_31 : decode c_Rn_begin 31 = .ok (.iload_n 2, 1) := by decide +kernel
theorem d_Rn_begin_32 : decode c_Rn_begin 32 = .ok (.invokevirtual 83, 3) := by decide +kernel
theorem d_Rn_begin_35 : decode c_Rn_begin 35 = .ok (.ifCond .eq 23, 3) := by decide +kernel
theorem d_Rn_begin_38 : decode c_Rn_begin 38 = .ok (.aload_n 0, 1) := by decide +kernel
theorem d_Rn_begin_39 : decode c_Rn_begin 39 = .ok (.getfield 49, 3) := by decide +kernel
theorem d_Rn_begin_42 : decode c_Rn_begin 42 = .ok (.getfield 86, 3) := by decide +kernel
theorem d_Rn_begin_45 : decode c_Rn_begin 45 = .ok (.iload_n 2, 1) := by decide +kernel
theorem d_Rn_begin_46 : decode c_Rn_begin 46 = .ok (.baload, 1) := by decide +kernel
theorem d_Rn_begin_47 : decode c_Rn_begin 47 = .ok (.ifCond .ne 7, 3) := by decide +kernel
theorem d_Rn_begin_50 : decode c_Rn_begin 50 = .ok (.iload_n 1, 1) := by decide +kernel
theorem d_Rn_begin_51 : decode c_Rn_begin 51 = .ok (.ifCond .ne 7, 3) := by decide +kernel
theorem d_Rn_begin_54 : decode c_Rn_begin 54 = .ok (.iconst 1, 1) := by decide +kernel
theorem d_Rn_begin_55 : decode c_Rn_begin 55 = .ok (.goto 4, 3) := by decide +kernel
theorem d_Rn_begin_58 : decode c_Rn_begin 58 = .ok (.iconst 0, 1) := by decide +kernel
theorem d_Rn_begin_59 : decode c_Rn_begin 59 = .ok (.bastore, 1) := by decide +kernel
theorem d_Rn_begin_60 : decode c_Rn_begin 60 = .ok (.iinc 2 1, 3) := by decide +kernel
theorem d_Rn_begin_63 : decode c_Rn_begin 63 = .ok (.goto (-52), 3) := by decide +kernel
theorem d_Rn_begin_66 : decode c_Rn_begin 66 = .ok (.return_, 1) := by decide +kernel
theorem d_Ru_mayBeUsed_0 : decode c_Ru_mayBeUsed 0 = .ok (.aload_n 0, 1) := by decide +kernel
theorem d_Ru_mayBeUsed_1 : decode c_Ru_mayBeUsed 1 = .ok (.getfield 25, 3) := by decide +kernel
theorem d_Ru_mayBeUsed_4 : decode c_Ru_mayBeUsed 4 = .ok (.iload_n 1, 1) := by decide +kernel
theorem d_Ru_mayBeUsed_5 : decode c_Ru_mayBeUsed 5 = .ok (.baload, 1) := by decide +kernel
theorem d_Ru_mayBeUsed_6 : decode c_Ru_mayBeUsed 6 = .ok (.ifCond .eq 32, 3) := by decide +kernel
theorem d_Ru_mayBeUsed_9 : decode c_Ru_mayBeUsed 9 = .ok (.aload_n 0, 1) := by decide +kernel
theorem d_Ru_mayBeUsed_10 : decode c_Ru_mayBeUsed 10 = .ok (.getfield 18, 3) := by decide +kernel
theorem d_Ru_mayBeUsed_13 : decode c_Ru_mayBeUsed 13 = .ok (.iload_n 1, 1) := by decide +kernel
theorem d_Ru_mayBeUsed_14 : decode c_Ru_mayBeUsed 14 = .ok (.iaload, 1) := by decide +kernel
theorem d_Ru_mayBeUsed_15 : decode c_Ru_mayBeUsed 15 = .ok (.iconst (-1), 1) := by decide +kernel
theorem d_Ru_mayBeUsed_16 : decode c_Ru_mayBeUsed 16 = .ok (.if_icmp .eq 18, 3) := by decide +kernel
theorem d_Ru_mayBeUsed_19 : decode c_Ru_mayBeUsed 19 = .ok (.aload_n 0, 1) := by decide +kernel
theorem d_Ru_mayBeUsed_20 : decode c_Ru_mayBeUsed 20 = .ok (.getfield 28, 3) := by decide +kernel
theorem d_Ru_mayBeUsed_23 : decode c_Ru_mayBeUsed 23 = .ok (.aload_n 0, 1) := by decide +kernel
theorem d_Ru_mayBeUsed_24 : decode c_Ru_mayBeUsed 24 = .ok (.getfield 18, 3) := by decide +kernel
theorem d_Ru_mayBeUsed_27 : decode c_Ru_mayBeUsed 27 = .ok (.iload_n 1, 1) := by decide +kernel
theorem d_Ru_mayBeUsed_28 : decode c_Ru_mayBeUsed 28 = .ok (.iaload, 1) := by decide +kernel
theorem d_Ru_mayBeUsed_29 : decode c_Ru_mayBeUsed 29 = .ok (.iaload, 1) := by decide +kernel
theorem d_Ru_mayBeUsed_30 : decode c_Ru_mayBeUsed 30 = .ok (.iconst 1, 1) := by decide +kernel
theorem d_Ru_mayBeUsed_31 : decode c_Ru_mayBeUsed 31 = .ok (.if_icmp .ne 7, 3) := by decide +kernel
theorem d_Ru_mayBeUsed_34 : decode c_Ru_mayBeUsed 34 = .ok (.iconst 1, 1) := by decide +kernel
theorem d_Ru_mayBeUsed_35 : decode c_Ru_mayBeUsed 35 = .ok (.goto 4, 3) := by decide +kernel
theorem d_Ru_mayBeUsed_38 : decode c_Ru_mayBeUsed 38 = .ok (.iconst 0, 1) := by decide +kernel
theorem d_Ru_mayBeUsed_39 : decode c_Ru_mayBeUsed 39 = .ok (.ireturn, 1) := by decide +kernel
theorem d_Rn_canStep_0 : decode c_Rn_canStep 0 = .ok (.iload_n 1, 1) := by decide +kernel
theorem d_Rn_canStep_1 : decode c_Rn_canStep 1 = .ok (.ifCond .ge 5, 3) := by decide +kernel
theorem d_Rn_canStep_4 : decode c_Rn_canStep 4 = .ok (.iconst 0, 1) := by decide +kernel
theorem d_Rn_canStep_5 : decode c_Rn_canStep 5 = .ok (.ireturn, 1) := by decide +kernel
theorem d_Rn_canStep_6 : decode c_Rn_canStep 6 = .ok (.aload_n 0, 1) := by decide +kernel
theorem d_Rn_canStep_7 : decode c_Rn_canStep 7 = .ok (.getfield 15, 3) := by decide +kernel
theorem d_Rn_canStep_10 : decode c_Rn_canStep 10 = .ok (.iload_n 1, 1) := by decide +kernel
theorem d_Rn_canStep_11 : decode c_Rn_canStep 11 = .ok (.iaload, 1) := by decide +kernel
theorem d_Rn_canStep_12 : decode c_Rn_canStep 12 = .ok (.bipush (-3), 2) := by decide +kernel
theorem d_Rn_canStep_14 : decode c_Rn_canStep 14 = .ok (.if_icmp .ne 61, 3) := by decide +kernel
theorem d_Rn_canStep_17 : decode c_Rn_canStep 17 = .ok (.aload_n 0, 1) := by decide +kernel
theorem d_Rn_canStep_18 : decode c_Rn_canStep 18 = .ok (.aload_n 0, 1) := by decide +kernel
theorem d_Rn_canStep_19 : decode c_Rn_canStep 19 = .ok (.getfield 45, 3) := by decide +kernel
theorem d_Rn_canStep_22 : decode c_Rn_canStep 22 = .ok (.getfield 89, 3) := by decide +kernel
theorem d_Rn_canStep_25 : decode c_Rn_canStep 25 = .ok (.iload_n 1, 1) := by decide +kernel
theorem d_Rn_canStep_26 : decode c_Rn_canStep 26 = .ok (.iaload, 1) := by decide +kernel
theorem d_Rn_canStep_27 : decode c_Rn_canStep 27 = .ok (.invokevirtual 62, 3) := by decide +kernel
theorem d_Rn_canStep_30 : decode c_Rn_canStep 30 = .ok (.ifCond .ne 19, 3) := by decide +kernel
theorem d_Rn_canStep_33 : decode c_Rn_canStep 33 = .ok (.aload_n 0, 1) := by decide +kernel
theorem d_Rn_canStep_34 : decode c_Rn_canStep 34 = .ok (.aload_n 0, 1) := by decide +kernel
theorem d_Rn_canStep_35 : decode c_Rn_canStep 35 = .ok (.getfield 45, 3) := by decide +kernel
theorem d_Rn_canStep_38 : decode c_Rn_canStep 38 = .ok (.getfield 94, 3) := by decide +kernel
theorem d_Rn_canStep_41 : decode c_Rn_canStep 41 = .ok (.iload_n 1, 1) := by decide +kernel
theorem d_Rn_canStep_42 : decode c_Rn_canStep 42 = .ok (.iaload, 1) := by decide +kernel
theorem d_Rn_canStep_43 : decode c_Rn_canStep 43 = .ok (.invokevirtual 62, 3) := by decide +kernel
theorem d_Rn_canStep_46 : decode c_Rn_canStep 46 = .ok (.ifCond .eq 7, 3) := by decide +kernel
theorem d_Rn_canStep_49 : decode c_Rn_canStep 49 = .ok (.iconst 1, 1) := by decide +kernel
theorem d_Rn_canStep_50 : decode c_Rn_canStep 50 = .ok (.goto 4, 3) := by decide +kernel
theorem d_Rn_canStep_53 : decode c_Rn_canStep 53 = .ok (.iconst 0, 1) := by decide +kernel
theorem d_Rn_canStep_54 : decode c_Rn_canStep 54 = .ok (.istore_n 2, 1) := by decide +kernel
theorem d_Rn_canStep_55 : decode c_Rn_canStep 55 = .ok (.aload_n 0, 1) := by decide +kernel
theorem d_Rn_canStep_56 : decode c_Rn_canStep 56 = .ok (.getfield 15, 3) := by decide +kernel
theorem d_Rn_canStep_59 : decode c_Rn_canStep 59 = .ok (.iload_n 1, 1) := by decide +kernel
theorem d_Rn_canStep_60 : decode c_Rn_canStep 60 = .ok (.iload_n 2, 1) := by decide +kernel
theorem d_Rn_canStep_61 : decode c_Rn_canStep 61 = .ok (.ifCond .eq 8, 3) := by decide +kernel
theorem d_Rn_canStep_64 : decode c_Rn_canStep 64 = .ok (.bipush (-2), 2) := by decide +kernel
theorem d_Rn_canStep_66 : decode c_Rn_canStep 66 = .ok (.goto 8, 3) := by decide +kernel
theorem d_Rn_canStep_69 : decode c_Rn_canStep 69 = .ok (.aload_n 0, 1) := by decide +kernel
theorem d_Rn_canStep_70 : decode c_Rn_canStep 70 = .ok (.iload_n 1, 1) := by decide +kernel
theorem d_Rn_canStep_71 : decode c_Rn_canStep 71 = .ok (.invokevirtual 97, 3) := by decide +kernel
theorem d_Rn_canStep_74 : decode c_Rn_canStep 74 = .ok (.iastore, 1) := by decide +kernel
theorem d_Rn_canStep_75 : decode c_Rn_canStep 75 = .ok (.aload_n 0, 1) := by decide +kernel
theorem d_Rn_canStep_76 : decode c_Rn_canStep 76 = .ok (.getfield 15, 3) := by decide +kernel
theorem d_Rn_canStep_79 : decode c_Rn_canStep 79 = .ok (.iload_n 1, 1) := by decide +kernel
theorem d_Rn_canStep_80 : decode c_Rn_canStep 80 = .ok (.iaload, 1) := by decide +kernel
theorem d_Rn_canStep_81 : decode c_Rn_canStep 81 = .ok (.iconst (-1), 1) := by decide +kernel
theorem d_Rn_canStep_82 : decode c_Rn_canStep 82 = .ok (.if_icmp .eq 7, 3) := by decide +kernel
theorem d_Rn_canStep_85 : decode c_Rn_canStep 85 = .ok (.iconst 1, 1) := by decide +kernel
theorem d_Rn_canStep_86 : decode c_Rn_canStep 86 = .ok (.goto 4, 3) := by decide +kernel
theorem d_Rn_canStep_89 : decode c_Rn_canStep 89 = .ok (.iconst 0, 1) := by decide +kernel
theorem d_Rn_canStep_90 : decode c_Rn_canStep 90 = .ok (.ireturn, 1) := by decide +kernel
theorem d_Rn_lowestRule_0 : decode c_Rn_lowestRule 0 = .ok (.iconst 0, 1) := by decide +kernel
theorem d_Rn_lowestRule_1 : decode c_Rn_lowestRule 1 = .ok (.istore_n 2, 1) := by decide +kernel
theorem d_Rn_lowestRule_2 : decode c_Rn_lowestRule 2 = .ok (.iload_n 2, 1) := by decide +kernel
theorem d_Rn_lowestRule_3 : decode c_Rn_lowestRule 3 = .ok (.aload_n 0, 1) := by decide +kernel
theorem d_Rn_lowestRule_4 : decode c_Rn_lowestRule 4 = .ok (.getfield 49, 3) := by decide +kernel
theorem d_Rn_lowestRule_7 : decode c_Rn_lowestRule 7 = .ok (.getfield 80, 3) := by decide +kernel
theorem d_Rn_lowestRule_10 : decode c_Rn_lowestRule 10 = .ok (.if_icmp .ge 37, 3) := by decide +kernel
theorem d_Rn_lowestRule_13 : decode c_Rn_lowestRule 13 = .ok (.aload_n 0, 1) := by decide +kernel
theorem d_Rn_lowestRule_14 : decode c_Rn_lowestRule 14 = .ok (.getfield 9, 3) := by decide +kernel
theorem d_Rn_lowestRule_17 : decode c_Rn_lowestRule 17 = .ok (.iload_n 2, 1) := by decide +kernel
theorem d_Rn_lowestRule_18 : decode c_Rn_lowestRule 18 = .ok (.baload, 1) := by decide +kernel
theorem d_Rn_lowestRule_19 : decode c_Rn_lowestRule 19 = .ok (.ifCond .eq 22, 3) := by decide +kernel
theorem d_Rn_lowestRule_22 : decode c_Rn_lowestRule 22 = .ok (.aload_n 0, 1) := by decide +kernel
theorem d_Rn_lowestRule_23 : decode c_Rn_lowestRule 23 = .ok (.aload_n 0, 1) := by decide +kernel
theorem d_Rn_lowestRule_24 : decode c_Rn_lowestRule 24 = .ok (.getfield 49, 3) := by decide +kernel
theorem d_Rn_lowestRule_27 : decode c_Rn_lowestRule 27 = .ok (.getfield 100, 3) := by decide +kernel
theorem d_Rn_lowestRule_30 : decode c_Rn_lowestRule 30 = .ok (.iload_n 2, 1) := by decide +kernel
theorem d_Rn_lowestRule_31 : decode c_Rn_lowestRule 31 = .ok (.iaload, 1) := by decide +kernel
theorem d_Rn_lowestRule_32 : decode c_Rn_lowestRule 32 = .ok (.iload_n 1, 1) := by decide +kernel
theorem d_Rn_lowestRule_33 : decode c_Rn_lowestRule 33 = .ok (.invokevirtual 103, 3) := by decide +kernel
theorem d_Rn_lowestRule_36 : decode c_Rn_lowestRule 36 = .ok (.ifCond .eq 5, 3) := by decide +kernel
theorem d_Rn_lowestRule_39 : decode c_Rn_lowestRule 39 = .ok (.iload_n 2, 1) := by decide +kernel
theorem d_Rn_lowestRule_40 : decode c_Rn_lowestRule 40 = .ok (.ireturn, 1) := by decide +kernel
theorem d_Rn_lowestRule_41 : decode c_Rn_lowestRule 41 = .ok (.iinc 2 1, 3) := by decide +kernel
theorem d_Rn_lowestRule_44 : decode c_Rn_lowestRule 44 = .ok (.goto (-42), 3) := by decide +kernel
theorem d_Rn_lowestRule_47 : decode c_Rn_lowestRule 47 = .ok (.iconst (-1), 1) := by decide +kernel
theorem d_Rn_lowestRule_48 : decode c_Rn_lowestRule 48 = .ok (.ireturn, 1) := by decide +kernel
theorem d_Rn_matches_0 : decode c_Rn_matches 0 = .ok (.aload_n 0, 1) := by decide +kernel
theorem d_Rn_matches_1 : decode c_Rn_matches 1 = .ok (.getfield 45, 3) := by decide +kernel
theorem d_Rn_matches_4 : decode c_Rn_matches 4 = .ok (.getfield 107, 3) := by decide +kernel
theorem d_Rn_matches_7 : decode c_Rn_matches 7 = .ok (.iload_n 1, 1) := by decide +kernel
theorem d_Rn_matches_8 : decode c_Rn_matches 8 = .ok (.iaload, 1) := by decide +kernel
theorem d_Rn_matches_9 : decode c_Rn_matches 9 = .ok (.aload_n 0, 1) := by decide +kernel
theorem d_Rn_matches_10 : decode c_Rn_matches 10 = .ok (.getfield 45, 3) := by decide +kernel
theorem d_Rn_matches_13 : decode c_Rn_matches 13 = .ok (.getfield 107, 3) := by decide +kernel
theorem d_Rn_matches_16 : decode c_Rn_matches 16 = .ok (.iload_n 2, 1) := by decide +kernel
theorem d_Rn_matches_17 : decode c_Rn_matches 17 = .ok (.iaload, 1) := by decide +kernel
theorem d_Rn_matches_18 : decode c_Rn_matches 18 = .ok (.if_icmp .ne 24, 3) := by decide +kernel
theorem d_Rn_matches_21 : decode c_Rn_matches 21 = .ok (.aload_n 0, 1) := by decide +kernel
theorem d_Rn_matches_22 : decode c_Rn_matches 22 = .ok (.getfield 45, 3) := by decide +kernel
theorem d_Rn_matches_25 : decode c_Rn_matches 25 = .ok (.getfield 110, 3) := by decide +kernel
theorem d_Rn_matches_28 : decode c_Rn_matches 28 = .ok (.iload_n 1, 1) := by decide +kernel
theorem d_Rn_matches_29 : decode c_Rn_matches 29 = .ok (.iaload, 1) := by decide +kernel
theorem d_Rn_matches_30 : decode c_Rn_matches 30 = .ok (.aload_n 0, 1) := by decide +kernel
theorem d_Rn_matches_31 : decode c_Rn_matches 31 = .ok (.getfield 45, 3) := by decide +kernel
theorem d_Rn_matches_34 : decode c_Rn_matches 34 = .ok (.getfield 110, 3) := by decide +kernel
theorem d_Rn_matches_37 : decode c_Rn_matches 37 = .ok (.iload_n 2, 1) := by decide +kernel
theorem d_Rn_matches_38 : decode c_Rn_matches 38 = .ok (.iaload, 1) := by decide +kernel
theorem d_Rn_matches_39 : decode c_Rn_matches 39 = .ok (.if_icmp .le 5, 3) := by decide +kernel
theorem d_Rn_matches_42 : decode c_Rn_matches 42 = .ok (.iconst 0, 1) := by decide +kernel
theorem d_Rn_matches_43 : decode c_Rn_matches 43 = .ok (.ireturn, 1) := by decide +kernel
theorem d_Rn_matches_44 : decode c_Rn_matches 44 = .ok (.aload_n 0, 1) := by decide +kernel
theorem d_Rn_matches_45 : decode c_Rn_matches 45 = .ok (.getfield 19, 3) := by decide +kernel
theorem d_Rn_matches_48 : decode c_Rn_matches 48 = .ok (.iconst (-1), 1) := by decide +kernel
theorem d_Rn_matches_49 : decode c_Rn_matches 49 = .ok (.invokestatic 74, 3) := by decide +kernel
theorem d_Rn_matches_52 : decode c_Rn_matches 52 = .ok (.aload_n 0, 1) := by decide +kernel
theorem d_Rn_matches_53 : decode c_Rn_matches 53 = .ok (.iload_n 1, 1) := by decide +kernel
theorem d_Rn_matches_54 : decode c_Rn_matches 54 = .ok (.iload_n 2, 1) := by decide +kernel
theorem d_Rn_matches_55 : decode c_Rn_matches 55 = .ok (.invokevirtual 113, 3) := by decide +kernel
theorem d_Rn_matches_58 : decode c_Rn_matches 58 = .ok (.ireturn, 1) := by decide +kernel
theorem d_Rn_fits_0 : decode c_Rn_fits 0 = .ok (.iload_n 1, 1) := by decide +kernel
theorem d_Rn_fits_1 : decode c_Rn_fits 1 = .ok (.ifCond .lt 19, 3) := by decide +kernel
theorem d_Rn_fits_4 : decode c_Rn_fits 4 = .ok (.iload_n 2, 1) := by decide +kernel
theorem d_Rn_fits_5 : decode c_Rn_fits 5 = .ok (.ifCond .lt 15, 3) := by decide +kernel
theorem d_Rn_fits_8 : decode c_Rn_fits 8 = .ok (.aload_n 0, 1) := by decide +kernel
theorem d_Rn_fits_9 : decode c_Rn_fits 9 = .ok (.getfield 45, 3) := by decide +kernel
theorem d_Rn_fits_12 : decode c_Rn_fits 12 = .ok (.getfield 116, 3) := by decide +kernel
theorem d_Rn_fits_15 : decode c_Rn_fits 15 = .ok (.iload_n 1, 1) := by decide +kernel
theorem d_Rn_fits_16 : decode c_Rn_fits 16 = .ok (.iaload, 1) := by decide +kernel
theorem d_Rn_fits_17 : decode c_Rn_fits 17 = .ok (.ifCond .ne 14, 3) := by decide +kernel
theorem d_Rn_fits_20 : decode c_Rn_fits 20 = .ok (.iload_n 1, 1) := by decide +kernel
theorem d_Rn_fits_21 : decode c_Rn_fits 21 = .ok (.iload_n 2, 1) := by decide +kernel
theorem d_Rn_fits_22 : decode c_Rn_fits 22 = .ok (.if_icmp .ne 7, 3) := by decide +kernel
theorem d_Rn_fits_25 : decode c_Rn_fits 25 = .ok (.iconst 1, 1) := by decide +kernel
theorem d_Rn_fits_26 : decode c_Rn_fits 26 = .ok (.goto 4, 3) := by decide +kernel
theorem d_Rn_fits_29 : decode c_Rn_fits 29 = .ok (.iconst 0, 1) := by decide +kernel
theorem d_Rn_fits_30 : decode c_Rn_fits 30 = .ok (.ireturn, 1) := by decide +kernel
theorem d_Rn_fits_31 : decode c_Rn_fits 31 = .ok (.aload_n 0, 1) := by decide +kernel
theorem d_Rn_fits_32 : decode c_Rn_fits 32 = .ok (.getfield 45, 3) := by decide +kernel
theorem d_Rn_fits_35 : decode c_Rn_fits 35 = .ok (.getfield 107, 3) := by decide +kernel
theorem d_Rn_fits_38 : decode c_Rn_fits 38 = .ok (.iload_n 1, 1) := by decide +kernel
theorem d_Rn_fits_39 : decode c_Rn_fits 39 = .ok (.iaload, 1) := by decide +kernel
theorem d_Rn_fits_40 : decode c_Rn_fits 40 = .ok (.istore_n 3, 1) := by decide +kernel
theorem d_Rn_fits_41 : decode c_Rn_fits 41 = .ok (.iload_n 3, 1) := by decide +kernel
theorem d_Rn_fits_42 : decode c_Rn_fits 42 = .ok (.bipush 100, 2) := by decide +kernel
theorem d_Rn_fits_44 : decode c_Rn_fits 44 = .ok (.if_icmp .lt 13, 3) := by decide +kernel
theorem d_Rn_fits_47 : decode c_Rn_fits 47 = .ok (.aload_n 0, 1) := by decide +kernel
theorem d_Rn_fits_48 : decode c_Rn_fits 48 = .ok (.iload_n 3, 1) := by decide +kernel
theorem d_Rn_fits_49 : decode c_Rn_fits 49 = .ok (.bipush 100, 2) := by decide +kernel
theorem d_Rn_fits_51 : decode c_Rn_fits 51 = .ok (.isub, 1) := by decide +kernel
theorem d_Rn_fits_52 : decode c_Rn_fits 52 = .ok (.iload_n 2, 1) := by decide +kernel
theorem d_Rn_fits_53 : decode c_Rn_fits 53 = .ok (.invokevirtual 119, 3) := by decide +kernel
theorem d_Rn_fits_56 : decode c_Rn_fits 56 = .ok (.ireturn, 1) := by decide +kernel
theorem d_Rn_fits_57 : decode c_Rn_fits 57 = .ok (.iload_n 3, 1) := by decide +kernel
theorem d_Rn_fits_58 : decode c_Rn_fits 58 = .ok (.aload_n 0, 1) := by decide +kernel
theorem d_Rn_fits_59 : decode c_Rn_fits 59 = .ok (.getfield 45, 3) := by decide +kernel
theorem d_Rn_fits_62 : decode c_Rn_fits 62 = .ok (.getfield 107, 3) := by decide +kernel
theorem d_Rn_fits_65 : decode c_Rn_fits 65 = .ok (.iload_n 2, 1) := by decide +kernel
theorem d_Rn_fits_66 : decode c_Rn_fits 66 = .ok (.iaload, 1) := by decide +kernel
theorem d_Rn_fits_67 : decode c_Rn_fits 67 = .ok (.if_icmp .ne 57, 3) := by decide +kernel
theorem d_Rn_fits_70 : decode c_Rn_fits 70 = .ok (.aload_n 0, 1) := by decide +kernel
theorem d_Rn_fits_71 : decode c_Rn_fits 71 = .ok (.aload_n 0, 1) := by decide +kernel
theorem d_Rn_fits_72 : decode c_Rn_fits 72 = .ok (.getfield 45, 3) := by decide +kernel
theorem d_Rn_fits_75 : decode c_Rn_fits 75 = .ok (.getfield 89, 3) := by decide +kernel
theorem d_Rn_fits_78 : decode c_Rn_fits 78 = .ok (.iload_n 1, 1) := by decide +kernel
theorem d_Rn_fits_79 : decode c_Rn_fits 79 = .ok (.iaload, 1) := by decide +kernel
theorem d_Rn_fits_80 : decode c_Rn_fits 80 = .ok (.aload_n 0, 1) := by decide +kernel
theorem d_Rn_fits_81 : decode c_Rn_fits 81 = .ok (.getfield 45, 3) := by decide +kernel
theorem d_Rn_fits_84 : decode c_Rn_fits 84 = .ok (.getfield 89, 3) := by decide +kernel
theorem d_Rn_fits_87 : decode c_Rn_fits 87 = .ok (.iload_n 2, 1) := by decide +kernel
theorem d_Rn_fits_88 : decode c_Rn_fits 88 = .ok (.iaload, 1) := by decide +kernel
theorem d_Rn_fits_89 : decode c_Rn_fits 89 = .ok (.invokevirtual 113, 3) := by decide +kernel
theorem d_Rn_fits_92 : decode c_Rn_fits 92 = .ok (.ifCond .eq 32, 3) := by decide +kernel
theorem d_Rn_fits_95 : decode c_Rn_fits 95 = .ok (.aload_n 0, 1) := by decide +kernel
theorem d_Rn_fits_96 : decode c_Rn_fits 96 = .ok (.aload_n 0, 1) := by decide +kernel
theorem d_Rn_fits_97 : decode c_Rn_fits 97 = .ok (.getfield 45, 3) := by decide +kernel
theorem d_Rn_fits_100 : decode c_Rn_fits 100 = .ok (.getfield 94, 3) := by decide +kernel
theorem d_Rn_fits_103 : decode c_Rn_fits 103 = .ok (.iload_n 1, 1) := by decide +kernel
theorem d_Rn_fits_104 : decode c_Rn_fits 104 = .ok (.iaload, 1) := by decide +kernel
theorem d_Rn_fits_105 : decode c_Rn_fits 105 = .ok (.aload_n 0, 1) := by decide +kernel
theorem d_Rn_fits_106 : decode c_Rn_fits 106 = .ok (.getfield 45, 3) := by decide +kernel
theorem d_Rn_fits_109 : decode c_Rn_fits 109 = .ok (.getfield 94, 3) := by decide +kernel
theorem d_Rn_fits_112 : decode c_Rn_fits 112 = .ok (.iload_n 2, 1) := by decide +kernel
theorem d_Rn_fits_113 : decode c_Rn_fits 113 = .ok (.iaload, 1) := by decide +kernel
theorem d_Rn_fits_114 : decode c_Rn_fits 114 = .ok (.invokevirtual 113, 3) := by decide +kernel
theorem d_Rn_fits_117 : decode c_Rn_fits 117 = .ok (.ifCond .eq 7, 3) := by decide +kernel
theorem d_Rn_fits_120 : decode c_Rn_fits 120 = .ok (.iconst 1, 1) := by decide +kernel
theorem d_Rn_fits_121 : decode c_Rn_fits 121 = .ok (.goto 4, 3) := by decide +kernel
theorem d_Rn_fits_124 : decode c_Rn_fits 124 = .ok (.iconst 0, 1) := by decide +kernel
theorem d_Rn_fits_125 : decode c_Rn_fits 125 = .ok (.ireturn, 1) := by decide +kernel
theorem d_Rn_bind_0 : decode c_Rn_bind 0 = .ok (.aload_n 0, 1) := by decide +kernel
theorem d_Rn_bind_1 : decode c_Rn_bind 1 = .ok (.getfield 19, 3) := by decide +kernel
theorem d_Rn_bind_4 : decode c_Rn_bind 4 = .ok (.iload_n 1, 1) := by decide +kernel
theorem d_Rn_bind_5 : decode c_Rn_bind 5 = .ok (.iaload, 1) := by decide +kernel
theorem d_Rn_bind_6 : decode c_Rn_bind 6 = .ok (.iconst (-1), 1) := by decide +kernel
theorem d_Rn_bind_7 : decode c_Rn_bind 7 = .ok (.if_icmp .ne 10, 3) := by decide +kernel
theorem d_Rn_bind_10 : decode c_Rn_bind 10 = .ok (.aload_n 0, 1) := by decide +kernel
theorem d_Rn_bind_11 : decode c_Rn_bind 11 = .ok (.getfield 19, 3) := by decide +kernel
theorem d_Rn_bind_14 : decode c_Rn_bind 14 = .ok (.iload_n 1, 1) := by decide +kernel
theorem d_Rn_bind_15 : decode c_Rn_bind 15 = .ok (.iload_n 2, 1) := by decide +kernel
theorem d_Rn_bind_16 : decode c_Rn_bind 16 = .ok (.iastore, 1) := by decide +kernel
theorem d_Rn_bind_17 : decode c_Rn_bind 17 = .ok (.aload_n 0, 1) := by decide +kernel
theorem d_Rn_bind_18 : decode c_Rn_bind 18 = .ok (.getfield 19, 3) := by decide +kernel
theorem d_Rn_bind_21 : decode c_Rn_bind 21 = .ok (.iload_n 1, 1) := by decide +kernel
theorem d_Rn_bind_22 : decode c_Rn_bind 22 = .ok (.iaload, 1) := by decide +kernel
theorem d_Rn_bind_23 : decode c_Rn_bind 23 = .ok (.iload_n 2, 1) := by decide +kernel
theorem d_Rn_bind_24 : decode c_Rn_bind 24 = .ok (.if_icmp .ne 7, 3) := by decide +kernel
theorem d_Rn_bind_27 : decode c_Rn_bind 27 = .ok (.iconst 1, 1) := by decide +kernel
theorem d_Rn_bind_28 : decode c_Rn_bind 28 = .ok (.goto 4, 3) := by decide +kernel
theorem d_Rn_bind_31 : decode c_Rn_bind 31 = .ok (.iconst 0, 1) := by decide +kernel
theorem d_Rn_bind_32 : decode c_Rn_bind 32 = .ok (.ireturn, 1) := by decide +kernel
theorem d_Rn_step_0 : decode c_Rn_step 0 = .ok (.aload_n 0, 1) := by decide +kernel
theorem d_Rn_step_1 : decode c_Rn_step 1 = .ok (.iload_n 1, 1) := by decide +kernel
theorem d_Rn_step_2 : decode c_Rn_step 2 = .ok (.invokevirtual 122, 3) := by decide +kernel
theorem d_Rn_step_5 : decode c_Rn_step 5 = .ok (.aload_n 0, 1) := by decide +kernel
theorem d_Rn_step_6 : decode c_Rn_step 6 = .ok (.getfield 15, 3) := by decide +kernel
theorem d_Rn_step_9 : decode c_Rn_step 9 = .ok (.aload_n 0, 1) := by decide +kernel
theorem d_Rn_step_10 : decode c_Rn_step 10 = .ok (.getfield 22, 3) := by decide +kernel
theorem d_Rn_step_13 : decode c_Rn_step 13 = .ok (.iaload, 1) := by decide +kernel
theorem d_Rn_step_14 : decode c_Rn_step 14 = .ok (.istore_n 2, 1) := by decide +kernel
theorem d_Rn_step_15 : decode c_Rn_step 15 = .ok (.iload_n 2, 1) := by decide +kernel
theorem d_Rn_step_16 : decode c_Rn_step 16 = .ok (.ifCond .lt 23, 3) := by decide +kernel
theorem d_Rn_step_19 : decode c_Rn_step 19 = .ok (.aload_n 0, 1) := by decide +kernel
theorem d_Rn_step_20 : decode c_Rn_step 20 = .ok (.aload_n 0, 1) := by decide +kernel
theorem d_Rn_step_21 : decode c_Rn_step 21 = .ok (.getfield 49, 3) := by decide +kernel
theorem d_Rn_step_24 : decode c_Rn_step 24 = .ok (.getfield 100, 3) := by decide +kernel
theorem d_Rn_step_27 : decode c_Rn_step 27 = .ok (.iload_n 2, 1) := by decide +kernel
theorem d_Rn_step_28 : decode c_Rn_step 28 = .ok (.iaload, 1) := by decide +kernel
theorem d_Rn_step_29 : decode c_Rn_step 29 = .ok (.aload_n 0, 1) := by decide +kernel
theorem d_Rn_step_30 : decode c_Rn_step 30 = .ok (.getfield 22, 3) := by decide +kernel
theorem d_Rn_step_33 : decode c_Rn_step 33 = .ok (.invokevirtual 103, 3) := by decide +kernel
theorem d_Rn_step_36 : decode c_Rn_step 36 = .ok (.ifCond .ne 5, 3) := by decide +kernel
theorem d_Rn_step_39 : decode c_Rn_step 39 = .ok (.iconst (-1), 1) := by decide +kernel
theorem d_Rn_step_40 : decode c_Rn_step 40 = .ok (.ireturn, 1) := by decide +kernel
theorem d_Rn_step_41 : decode c_Rn_step 41 = .ok (.aload_n 0, 1) := by decide +kernel
theorem d_Rn_step_42 : decode c_Rn_step 42 = .ok (.aload_n 0, 1) := by decide +kernel
theorem d_Rn_step_43 : decode c_Rn_step 43 = .ok (.getfield 49, 3) := by decide +kernel
theorem d_Rn_step_46 : decode c_Rn_step 46 = .ok (.getfield 126, 3) := by decide +kernel
theorem d_Rn_step_49 : decode c_Rn_step 49 = .ok (.iload_n 2, 1) := by decide +kernel
theorem d_Rn_step_50 : decode c_Rn_step 50 = .ok (.iaload, 1) := by decide +kernel
theorem d_Rn_step_51 : decode c_Rn_step 51 = .ok (.invokevirtual 129, 3) := by decide +kernel
theorem d_Rn_step_54 : decode c_Rn_step 54 = .ok (.istore_n 3, 1) := by decide +kernel
theorem d_Rn_step_55 : decode c_Rn_step 55 = .ok (.aload_n 0, 1) := by decide +kernel
theorem d_Rn_step_56 : decode c_Rn_step 56 = .ok (.getfield 29, 3) := by decide +kernel
theorem d_Rn_step_59 : decode c_Rn_step 59 = .ok (.iconst 1, 1) := by decide +kernel
theorem d_Rn_step_60 : decode c_Rn_step 60 = .ok (.isub, 1) := by decide +kernel
theorem d_Rn_step_61 : decode c_Rn_step 61 = .ok (.istore 4, 2) := by decide +kernel
theorem d_Rn_step_63 : decode c_Rn_step 63 = .ok (.iload 4, 2) := by decide +kernel
theorem d_Rn_step_65 : decode c_Rn_step 65 = .ok (.ifCond .lt 96, 3) := by decide +kernel
theorem d_Rn_step_68 : decode c_Rn_step 68 = .ok (.iload_n 3, 1) := by decide +kernel
theorem d_Rn_step_69 : decode c_Rn_step 69 = .ok (.ifCond .lt 92, 3) := by decide +kernel
theorem d_Rn_step_72 : decode c_Rn_step 72 = .ok (.aload_n 0, 1) := by decide +kernel
theorem d_Rn_step_73 : decode c_Rn_step 73 = .ok (.getfield 32, 3) := by decide +kernel
theorem d_Rn_step_76 : decode c_Rn_step 76 = .ok (.iload 4, 2) := by decide +kernel
theorem d_Rn_step_78 : decode c_Rn_step 78 = .ok (.iaload, 1) := by decide +kernel
theorem d_Rn_step_79 : decode c_Rn_step 79 = .ok (.istore 5, 2) := by decide +kernel
theorem d_Rn_step_81 : decode c_Rn_step 81 = .ok (.aload_n 0, 1) := by decide +kernel
theorem d_Rn_step_82 : decode c_Rn_step 82 = .ok (.getfield 35, 3) := by decide +kernel
theorem d_Rn_step_85 : decode c_Rn_step 85 = .ok (.iload 4, 2) := by decide +kernel
theorem d_Rn_step_87 : decode c_Rn_step 87 = .ok (.baload, 1) := by decide +kernel
theorem d_Rn_step_88 : decode c_Rn_step 88 = .ok (.ifCond .eq 16, 3) := by decide +kernel
theorem d_Rn_step_91 : decode c_Rn_step 91 = .ok (.aload_n 0, 1) := by decide +kernel
theorem d_Rn_step_92 : decode c_Rn_step 92 = .ok (.getfield 45, 3) := by decide +kernel
theorem d_Rn_step_95 : decode c_Rn_step 95 = .ok (.getfield 89, 3) := by decide +kernel
theorem d_Rn_step_98 : decode c_Rn_step 98 = .ok (.iload 5, 2) := by decide +kernel
theorem d_Rn_step_100 : decode c_Rn_step 100 = .ok (.iaload, 1) := by decide +kernel
theorem d_Rn_step_101 : decode c_Rn_step 101 = .ok (.goto 4, 3) := by decide +kernel
theorem d_Rn_step_104 : decode c_Rn_step 104 = .ok (.iload_n 3, 1) := by decide +kernel
theorem d_Rn_step_105 : decode c_Rn_step 105 = .ok (.istore 6, 2) := by decide +kernel
theorem d_Rn_step_107 : decode c_Rn_step 107 = .ok (.aload_n 0, 1) := by decide +kernel
theorem d_Rn_step_108 : decode c_Rn_step 108 = .ok (.getfield 35, 3) := by decide +kernel
theorem d_Rn_step_111 : decode c_Rn_step 111 = .ok (.iload 4, 2) := by decide +kernel
theorem d_Rn_step_113 : decode c_Rn_step 113 = .ok (.baload, 1) := by decide +kernel
theorem d_Rn_step_114 : decode c_Rn_step 114 = .ok (.ifCond .eq 7, 3) := by decide +kernel
theorem d_Rn_step_117 : decode c_Rn_step 117 = .ok (.iload_n 3, 1) := by decide +kernel
theorem d_Rn_step_118 : decode c_Rn_step 118 = .ok (.goto 13, 3) := by decide +kernel
theorem d_Rn_step_121 : decode c_Rn_step 121 = .ok (.aload_n 0, 1) := by decide +kernel
theorem d_Rn_step_122 : decode c_Rn_step 122 = .ok (.getfield 45, 3) := by decide +kernel
theorem d_Rn_step_125 : decode c_Rn_step 125 = .ok (.getfield 94, 3) := by decide +kernel
theorem d_Rn_step_128 : decode c_Rn_step 128 = .ok (.iload 5, 2) := by decide +kernel
theorem d_Rn_step_130 : decode c_Rn_step 130 = .ok (.iaload, 1) := by decide +kernel
theorem d_Rn_step_131 : decode c_Rn_step 131 = .ok (.istore 7, 2) := by decide +kernel
theorem d_Rn_step_133 : decode c_Rn_step 133 = .ok (.aload_n 0, 1) := by decide +kernel
theorem d_Rn_step_134 : decode c_Rn_step 134 = .ok (.getfield 45, 3) := by decide +kernel
theorem d_Rn_step_137 : decode c_Rn_step 137 = .ok (.aload_n 0, 1) := by decide +kernel
theorem d_Rn_step_138 : decode c_Rn_step 138 = .ok (.getfield 45, 3) := by decide +kernel
theorem d_Rn_step_141 : decode c_Rn_step 141 = .ok (.getfield 107, 3) := by decide +kernel
theorem d_Rn_step_144 : decode c_Rn_step 144 = .ok (.iload 5, 2) := by decide +kernel
theorem d_Rn_step_146 : decode c_Rn_step 146 = .ok (.iaload, 1) := by decide +kernel
theorem d_Rn_step_147 : decode c_Rn_step 147 = .ok (.iload 6, 2) := by decide +kernel
theorem d_Rn_step_149 : decode c_Rn_step 149 = .ok (.iload 7, 2) := by decide +kernel
theorem d_Rn_step_151 : decode c_Rn_step 151 = .ok (.invokevirtual 132, 3) := by decide +kernel
theorem d_Rn_step_154 : decode c_Rn_step 154 = .ok (.istore_n 3, 1) := by decide +kernel
theorem d_Rn_step_155 : decode c_Rn_step 155 = .ok (.iinc 4 (-1), 3) := by decide +kernel
theorem d_Rn_step_158 : decode c_Rn_step 158 = .ok (.goto (-95), 3) := by decide +kernel
theorem d_Rn_step_161 : decode c_Rn_step 161 = .ok (.iload_n 3, 1) := by decide +kernel
theorem d_Rn_step_162 : decode c_Rn_step 162 = .ok (.ireturn, 1) := by decide +kernel
theorem d_Rn_seek_0 : decode c_Rn_seek 0 = .ok (.aload_n 0, 1) := by decide +kernel
theorem d_Rn_seek_1 : decode c_Rn_seek 1 = .ok (.iload_n 1, 1) := by decide +kernel
theorem d_Rn_seek_2 : decode c_Rn_seek 2 = .ok (.putfield 22, 3) := by decide +kernel
theorem d_Rn_seek_5 : decode c_Rn_seek 5 = .ok (.aload_n 0, 1) := by decide +kernel
theorem d_Rn_seek_6 : decode c_Rn_seek 6 = .ok (.iconst 0, 1) := by decide +kernel
theorem d_Rn_seek_7 : decode c_Rn_seek 7 = .ok (.putfield 26, 3) := by decide +kernel
theorem d_Rn_seek_10 : decode c_Rn_seek 10 = .ok (.aload_n 0, 1) := by decide +kernel
theorem d_Rn_seek_11 : decode c_Rn_seek 11 = .ok (.iconst 0, 1) := by decide +kernel
theorem d_Rn_seek_12 : decode c_Rn_seek 12 = .ok (.putfield 29, 3) := by decide +kernel
theorem d_Rn_seek_15 : decode c_Rn_seek 15 = .ok (.aload_n 0, 1) := by decide +kernel
theorem d_Rn_seek_16 : decode c_Rn_seek 16 = .ok (.getfield 29, 3) := by decide +kernel
theorem d_Rn_seek_19 : decode c_Rn_seek 19 = .ok (.bipush 30, 2) := by decide +kernel
theorem d_Rn_seek_21 : decode c_Rn_seek 21 = .ok (.if_icmp .ge 132, 3) := by decide +kernel
theorem d_Rn_seek_24 : decode c_Rn_seek 24 = .ok (.aload_n 0, 1) := by decide +kernel
theorem d_Rn_seek_25 : decode c_Rn_seek 25 = .ok (.getfield 15, 3) := by decide +kernel
theorem d_Rn_seek_28 : decode c_Rn_seek 28 = .ok (.aload_n 0, 1) := by decide +kernel
theorem d_Rn_seek_29 : decode c_Rn_seek 29 = .ok (.getfield 22, 3) := by decide +kernel
theorem d_Rn_seek_32 : decode c_Rn_seek 32 = .ok (.iaload, 1) := by decide +kernel
theorem d_Rn_seek_33 : decode c_Rn_seek 33 = .ok (.bipush (-2), 2) := by decide +kernel
theorem d_Rn_seek_35 : decode c_Rn_seek 35 = .ok (.if_icmp .ne 118, 3) := by decide +kernel
theorem d_Rn_seek_38 : decode c_Rn_seek 38 = .ok (.aload_n 0, 1) := by decide +kernel
theorem d_Rn_seek_39 : decode c_Rn_seek 39 = .ok (.getfield 45, 3) := by decide +kernel
theorem d_Rn_seek_42 : decode c_Rn_seek 42 = .ok (.getfield 89, 3) := by decide +kernel
theorem d_Rn_seek_45 : decode c_Rn_seek 45 = .ok (.aload_n 0, 1) := by decide +kernel
theorem d_Rn_seek_46 : decode c_Rn_seek 46 = .ok (.getfield 22, 3) := by decide +kernel
theorem d_Rn_seek_49 : decode c_Rn_seek 49 = .ok (.iaload, 1) := by decide +kernel
theorem d_Rn_seek_50 : decode c_Rn_seek 50 = .ok (.istore_n 2, 1) := by decide +kernel
theorem d_Rn_seek_51 : decode c_Rn_seek 51 = .ok (.aload_n 0, 1) := by decide +kernel
theorem d_Rn_seek_52 : decode c_Rn_seek 52 = .ok (.iload_n 2, 1) := by decide +kernel
theorem d_Rn_seek_53 : decode c_Rn_seek 53 = .ok (.invokevirtual 62, 3) := by decide +kernel
theorem d_Rn_seek_56 : decode c_Rn_seek 56 = .ok (.ifCond .ne 7, 3) := by decide +kernel
theorem d_Rn_seek_59 : decode c_Rn_seek 59 = .ok (.iconst 1, 1) := by decide +kernel
theorem d_Rn_seek_60 : decode c_Rn_seek 60 = .ok (.goto 4, 3) := by decide +kernel
theorem d_Rn_seek_63 : decode c_Rn_seek 63 = .ok (.iconst 0, 1) := by decide +kernel
theorem d_Rn_seek_64 : decode c_Rn_seek 64 = .ok (.istore_n 3, 1) := by decide +kernel
theorem d_Rn_seek_65 : decode c_Rn_seek 65 = .ok (.aload_n 0, 1) := by decide +kernel
theorem d_Rn_seek_66 : decode c_Rn_seek 66 = .ok (.getfield 32, 3) := by decide +kernel
theorem d_Rn_seek_69 : decode c_Rn_seek 69 = .ok (.aload_n 0, 1) := by decide +kernel
theorem d_Rn_seek_70 : decode c_Rn_seek 70 = .ok (.getfield 29, 3) := by decide +kernel
theorem d_Rn_seek_73 : decode c_Rn_seek 73 = .ok (.aload_n 0, 1) := by decide +kernel
theorem d_Rn_seek_74 : decode c_Rn_seek 74 = .ok (.getfield 22, 3) := by decide +kernel
theorem d_Rn_seek_77 : decode c_Rn_seek 77 = .ok (.iastore, 1) := by decide +kernel
theorem d_Rn_seek_78 : decode c_Rn_seek 78 = .ok (.aload_n 0, 1) := by decide +kernel
theorem d_Rn_seek_79 : decode c_Rn_seek 79 = .ok (.getfield 35, 3) := by decide +kernel
theorem d_Rn_seek_82 : decode c_Rn_seek 82 = .ok (.aload_n 0, 1) := by decide +kernel
theorem d_Rn_seek_83 : decode c_Rn_seek 83 = .ok (.getfield 29, 3) := by decide +kernel
theorem d_Rn_seek_86 : decode c_Rn_seek 86 = .ok (.iload_n 3, 1) := by decide +kernel
theorem d_Rn_seek_87 : decode c_Rn_seek 87 = .ok (.bastore, 1) := by decide +kernel
theorem d_Rn_seek_88 : decode c_Rn_seek 88 = .ok (.aload_n 0, 1) := by decide +kernel
theorem d_Rn_seek_89 : decode c_Rn_seek 89 = .ok (.dup, 1) := by decide +kernel
theorem d_Rn_seek_90 : decode c_Rn_seek 90 = .ok (.getfield 29, 3) := by decide +kernel
theorem d_Rn_seek_93 : decode c_Rn_seek 93 = .ok (.iconst 1, 1) := by decide +kernel
theorem d_Rn_seek_94 : decode c_Rn_seek 94 = .ok (.iadd, 1) := by decide +kernel
theorem d_Rn_seek_95 : decode c_Rn_seek 95 = .ok (.putfield 29, 3) := by decide +kernel
theorem d_Rn_seek_98 : decode c_Rn_seek 98 = .ok (.aload_n 0, 1) := by decide +kernel
theorem d_Rn_seek_99 : decode c_Rn_seek 99 = .ok (.dup, 1) := by decide +kernel
theorem d_Rn_seek_100 : decode c_Rn_seek 100 = .ok (.getfield 26, 3) := by decide +kernel
theorem d_Rn_seek_103 : decode c_Rn_seek 103 = .ok (.iload_n 3, 1) := by decide +kernel
theorem d_Rn_seek_104 : decode c_Rn_seek 104 = .ok (.ifCond .eq 17, 3) := by decide +kernel
theorem d_Rn_seek_107 : decode c_Rn_seek 107 = .ok (.iconst 1, 1) := by decide +kernel
theorem d_Rn_seek_108 : decode c_Rn_seek 108 = .ok (.aload_n 0, 1) := by decide +kernel
theorem d_Rn_seek_109 : decode c_Rn_seek 109 = .ok (.getfield 45, 3) := by decide +kernel
theorem d_Rn_seek_112 : decode c_Rn_seek 112 = .ok (.getfield 136, 3) := by decide +kernel
theorem d_Rn_seek_115 : decode c_Rn_seek 115 = .ok (.iload_n 2, 1) := by decide +kernel
theorem d_Rn_seek_116 : decode c_Rn_seek 116 = .ok (.iaload, 1) := by decide +kernel
theorem d_Rn_seek_117 : decode c_Rn_seek 117 = .ok (.iadd, 1) := by decide +kernel
theorem d_Rn_seek_118 : decode c_Rn_seek 118 = .ok (.goto 4, 3) := by decide +kernel
theorem d_Rn_seek_121 : decode c_Rn_seek 121 = .ok (.iconst 1, 1) := by decide +kernel
theorem d_Rn_seek_122 : decode c_Rn_seek 122 = .ok (.iadd, 1) := by decide +kernel
theorem d_Rn_seek_123 : decode c_Rn_seek 123 = .ok (.putfield 26, 3) := by decide +kernel
theorem d_Rn_seek_126 : decode c_Rn_seek 126 = .ok (.aload_n 0, 1) := by decide +kernel
theorem d_Rn_seek_127 : decode c_Rn_seek 127 = .ok (.iload_n 3, 1) := by decide +kernel
theorem d_Rn_seek_128 : decode c_Rn_seek 128 = .ok (.ifCond .eq 18, 3) := by decide +kernel
theorem d_Rn_seek_131 : decode c_Rn_seek 131 = .ok (.aload_n 0, 1) := by decide +kernel
theorem d_Rn_seek_132 : decode c_Rn_seek 132 = .ok (.getfield 45, 3) := by decide +kernel
theorem d_Rn_seek_135 : decode c_Rn_seek 135 = .ok (.getfield 94, 3) := by decide +kernel
theorem d_Rn_seek_138 : decode c_Rn_seek 138 = .ok (.aload_n 0, 1) := by decide +kernel
theorem d_Rn_seek_139 : decode c_Rn_seek 139 = .ok (.getfield 22, 3) := by decide +kernel
theorem d_Rn_seek_142 : decode c_Rn_seek 142 = .ok (.iaload, 1) := by decide +kernel
theorem d_Rn_seek_143 : decode c_Rn_seek 143 = .ok (.goto 4, 3) := by decide +kernel
theorem d_Rn_seek_146 : decode c_Rn_seek 146 = .ok (.iload_n 2, 1) := by decide +kernel
theorem d_Rn_seek_147 : decode c_Rn_seek 147 = .ok (.putfield 22, 3) := by decide +kernel
theorem d_Rn_seek_150 : decode c_Rn_seek 150 = .ok (.goto (-135), 3) := by decide +kernel
theorem d_Rn_seek_153 : decode c_Rn_seek 153 = .ok (.return_, 1) := by decide +kernel
theorem d_Rn_filled_0 : decode c_Rn_filled 0 = .ok (.iload_n 1, 1) := by decide +kernel
theorem d_Rn_filled_1 : decode c_Rn_filled 1 = .ok (.ifCond .lt 15, 3) := by decide +kernel
theorem d_Rn_filled_4 : decode c_Rn_filled 4 = .ok (.aload_n 0, 1) := by decide +kernel
theorem d_Rn_filled_5 : decode c_Rn_filled 5 = .ok (.getfield 45, 3) := by decide +kernel
theorem d_Rn_filled_8 : decode c_Rn_filled 8 = .ok (.getfield 116, 3) := by decide +kernel
theorem d_Rn_filled_11 : decode c_Rn_filled 11 = .ok (.iload_n 1, 1) := by decide +kernel
theorem d_Rn_filled_12 : decode c_Rn_filled 12 = .ok (.iaload, 1) := by decide +kernel
theorem d_Rn_filled_13 : decode c_Rn_filled 13 = .ok (.ifCond .ne 5, 3) := by decide +kernel
theorem d_Rn_filled_16 : decode c_Rn_filled 16 = .ok (.iload_n 1, 1) := by decide +kernel
theorem d_Rn_filled_17 : decode c_Rn_filled 17 = .ok (.ireturn, 1) := by decide +kernel
theorem d_Rn_filled_18 : decode c_Rn_filled 18 = .ok (.aload_n 0, 1) := by decide +kernel
theorem d_Rn_filled_19 : decode c_Rn_filled 19 = .ok (.getfield 45, 3) := by decide +kernel
theorem d_Rn_filled_22 : decode c_Rn_filled 22 = .ok (.getfield 107, 3) := by decide +kernel
theorem d_Rn_filled_25 : decode c_Rn_filled 25 = .ok (.iload_n 1, 1) := by decide +kernel
theorem d_Rn_filled_26 : decode c_Rn_filled 26 = .ok (.iaload, 1) := by decide +kernel
theorem d_Rn_filled_27 : decode c_Rn_filled 27 = .ok (.istore_n 2, 1) := by decide +kernel
theorem d_Rn_filled_28 : decode c_Rn_filled 28 = .ok (.iload_n 2, 1) := by decide +kernel
theorem d_Rn_filled_29 : decode c_Rn_filled 29 = .ok (.bipush 100, 2) := by decide +kernel
theorem d_Rn_filled_31 : decode c_Rn_filled 31 = .ok (.if_icmp .lt 13, 3) := by decide +kernel
theorem d_Rn_filled_34 : decode c_Rn_filled 34 = .ok (.aload_n 0, 1) := by decide +kernel
theorem d_Rn_filled_35 : decode c_Rn_filled 35 = .ok (.getfield 19, 3) := by decide +kernel
theorem d_Rn_filled_38 : decode c_Rn_filled 38 = .ok (.iload_n 2, 1) := by decide +kernel
theorem d_Rn_filled_39 : decode c_Rn_filled 39 = .ok (.bipush 100, 2) := by decide +kernel
theorem d_Rn_filled_41 : decode c_Rn_filled 41 = .ok (.isub, 1) := by decide +kernel
theorem d_Rn_filled_42 : decode c_Rn_filled 42 = .ok (.iaload, 1) := by decide +kernel
theorem d_Rn_filled_43 : decode c_Rn_filled 43 = .ok (.ireturn, 1) := by decide +kernel
theorem d_Rn_filled_44 : decode c_Rn_filled 44 = .ok (.aload_n 0, 1) := by decide +kernel
theorem d_Rn_filled_45 : decode c_Rn_filled 45 = .ok (.aload_n 0, 1) := by decide +kernel
theorem d_Rn_filled_46 : decode c_Rn_filled 46 = .ok (.getfield 45, 3) := by decide +kernel
theorem d_Rn_filled_49 : decode c_Rn_filled 49 = .ok (.getfield 89, 3) := by decide +kernel
theorem d_Rn_filled_52 : decode c_Rn_filled 52 = .ok (.iload_n 1, 1) := by decide +kernel
theorem d_Rn_filled_53 : decode c_Rn_filled 53 = .ok (.iaload, 1) := by decide +kernel
theorem d_Rn_filled_54 : decode c_Rn_filled 54 = .ok (.invokevirtual 129, 3) := by decide +kernel
theorem d_Rn_filled_57 : decode c_Rn_filled 57 = .ok (.istore_n 3, 1) := by decide +kernel
theorem d_Rn_filled_58 : decode c_Rn_filled 58 = .ok (.iload_n 3, 1) := by decide +kernel
theorem d_Rn_filled_59 : decode c_Rn_filled 59 = .ok (.ifCond .ge 7, 3) := by decide +kernel
theorem d_Rn_filled_62 : decode c_Rn_filled 62 = .ok (.iconst (-1), 1) := by decide +kernel
theorem d_Rn_filled_63 : decode c_Rn_filled 63 = .ok (.goto 16, 3) := by decide +kernel
theorem d_Rn_filled_66 : decode c_Rn_filled 66 = .ok (.aload_n 0, 1) := by decide +kernel
theorem d_Rn_filled_67 : decode c_Rn_filled 67 = .ok (.aload_n 0, 1) := by decide +kernel
theorem d_Rn_filled_68 : decode c_Rn_filled 68 = .ok (.getfield 45, 3) := by decide +kernel
theorem d_Rn_filled_71 : decode c_Rn_filled 71 = .ok (.getfield 94, 3) := by decide +kernel
theorem d_Rn_filled_74 : decode c_Rn_filled 74 = .ok (.iload_n 1, 1) := by decide +kernel
theorem d_Rn_filled_75 : decode c_Rn_filled 75 = .ok (.iaload, 1) := by decide +kernel
theorem d_Rn_filled_76 : decode c_Rn_filled 76 = .ok (.invokevirtual 129, 3) := by decide +kernel
theorem d_Rn_filled_79 : decode c_Rn_filled 79 = .ok (.istore 4, 2) := by decide +kernel
theorem d_Rn_filled_81 : decode c_Rn_filled 81 = .ok (.iload_n 3, 1) := by decide +kernel
theorem d_Rn_filled_82 : decode c_Rn_filled 82 = .ok (.ifCond .lt 20, 3) := by decide +kernel
theorem d_Rn_filled_85 : decode c_Rn_filled 85 = .ok (.iload 4, 2) := by decide +kernel
theorem d_Rn_filled_87 : decode c_Rn_filled 87 = .ok (.ifCond .ge 17, 3) := by decide +kernel
theorem d_Rn_filled_90 : decode c_Rn_filled 90 = .ok (.aload_n 0, 1) := by decide +kernel
theorem d_Rn_filled_91 : decode c_Rn_filled 91 = .ok (.getfield 45, 3) := by decide +kernel
theorem d_Rn_filled_94 : decode c_Rn_filled 94 = .ok (.getfield 94, 3) := by decide +kernel
theorem d_Rn_filled_97 : decode c_Rn_filled 97 = .ok (.iload_n 1, 1) := by decide +kernel
theorem d_Rn_filled_98 : decode c_Rn_filled 98 = .ok (.iaload, 1) := by decide +kernel
theorem d_Rn_filled_99 : decode c_Rn_filled 99 = .ok (.ifCond .lt 5, 3) := by decide +kernel
theorem d_Rn_filled_102 : decode c_Rn_filled 102 = .ok (.iconst (-1), 1) := by decide +kernel
theorem d_Rn_filled_103 : decode c_Rn_filled 103 = .ok (.ireturn, 1) := by decide +kernel
theorem d_Rn_filled_104 : decode c_Rn_filled 104 = .ok (.aload_n 0, 1) := by decide +kernel
theorem d_Rn_filled_105 : decode c_Rn_filled 105 = .ok (.getfield 45, 3) := by decide +kernel
theorem d_Rn_filled_108 : decode c_Rn_filled 108 = .ok (.iload_n 2, 1) := by decide +kernel
theorem d_Rn_filled_109 : decode c_Rn_filled 109 = .ok (.iload_n 3, 1) := by decide +kernel
theorem d_Rn_filled_110 : decode c_Rn_filled 110 = .ok (.iload 4, 2) := by decide +kernel
theorem d_Rn_filled_112 : decode c_Rn_filled 112 = .ok (.invokevirtual 132, 3) := by decide +kernel
theorem d_Rn_filled_115 : decode c_Rn_filled 115 = .ok (.ireturn, 1) := by decide +kernel
theorem d_Ro_add_0 : decode c_Ro_add 0 = .ok (.aload_n 0, 1) := by decide +kernel
theorem d_Ro_add_1 : decode c_Ro_add 1 = .ok (.getfield 15, 3) := by decide +kernel
theorem d_Ro_add_4 : decode c_Ro_add 4 = .ok (.sipush 200, 3) := by decide +kernel
theorem d_Ro_add_7 : decode c_Ro_add 7 = .ok (.if_icmp .lt 4, 3) := by decide +kernel
theorem d_Ro_add_10 : decode c_Ro_add 10 = .ok (.return_, 1) := by decide +kernel
theorem d_Ro_add_11 : decode c_Ro_add 11 = .ok (.aload_n 0, 1) := by decide +kernel
theorem d_Ro_add_12 : decode c_Ro_add 12 = .ok (.getfield 15, 3) := by decide +kernel
theorem d_Ro_add_15 : decode c_Ro_add 15 = .ok (.iconst 4, 1) := by decide +kernel
theorem d_Ro_add_16 : decode c_Ro_add 16 = .ok (.imul, 1) := by decide +kernel
theorem d_Ro_add_17 : decode c_Ro_add 17 = .ok (.istore 5, 2) := by decide +kernel
theorem d_Ro_add_19 : decode c_Ro_add 19 = .ok (.aload_n 0, 1) := by decide +kernel
theorem d_Ro_add_20 : decode c_Ro_add 20 = .ok (.getfield 9, 3) := by decide +kernel
theorem d_Ro_add_23 : decode c_Ro_add 23 = .ok (.iload 5, 2) := by decide +kernel
theorem d_Ro_add_25 : decode c_Ro_add 25 = .ok (.iload_n 1, 1) := by decide +kernel
theorem d_Ro_add_26 : decode c_Ro_add 26 = .ok (.iastore, 1) := by decide +kernel
theorem d_Ro_add_27 : decode c_Ro_add 27 = .ok (.aload_n 0, 1) := by decide +kernel
theorem d_Ro_add_28 : decode c_Ro_add 28 = .ok (.getfield 9, 3) := by decide +kernel
theorem d_Ro_add_31 : decode c_Ro_add 31 = .ok (.iload 5, 2) := by decide +kernel
theorem d_Ro_add_33 : decode c_Ro_add 33 = .ok (.iconst 1, 1) := by decide +kernel
theorem d_Ro_add_34 : decode c_Ro_add 34 = .ok (.iadd, 1) := by decide +kernel
theorem d_Ro_add_35 : decode c_Ro_add 35 = .ok (.iload_n 2, 1) := by decide +kernel
theorem d_Ro_add_36 : decode c_Ro_add 36 = .ok (.iastore, 1) := by decide +kernel
theorem d_Ro_add_37 : decode c_Ro_add 37 = .ok (.aload_n 0, 1) := by decide +kernel
theorem d_Ro_add_38 : decode c_Ro_add 38 = .ok (.getfield 9, 3) := by decide +kernel
theorem d_Ro_add_41 : decode c_Ro_add 41 = .ok (.iload 5, 2) := by decide +kernel
theorem d_Ro_add_43 : decode c_Ro_add 43 = .ok (.iconst 2, 1) := by decide +kernel
theorem d_Ro_add_44 : decode c_Ro_add 44 = .ok (.iadd, 1) := by decide +kernel
theorem d_Ro_add_45 : decode c_Ro_add 45 = .ok (.iload_n 3, 1) := by decide +kernel
theorem d_Ro_add_46 : decode c_Ro_add 46 = .ok (.iastore, 1) := by decide +kernel
theorem d_Ro_add_47 : decode c_Ro_add 47 = .ok (.aload_n 0, 1) := by decide +kernel
theorem d_Ro_add_48 : decode c_Ro_add 48 = .ok (.getfield 9, 3) := by decide +kernel
theorem d_Ro_add_51 : decode c_Ro_add 51 = .ok (.iload 5, 2) := by decide +kernel
theorem d_Ro_add_53 : decode c_Ro_add 53 = .ok (.iconst 3, 1) := by decide +kernel
theorem d_Ro_add_54 : decode c_Ro_add 54 = .ok (.iadd, 1) := by decide +kernel
theorem d_Ro_add_55 : decode c_Ro_add 55 = .ok (.iload 4, 2) := by decide +kernel
theorem d_Ro_add_57 : decode c_Ro_add 57 = .ok (.iastore, 1) := by decide +kernel
theorem d_Ro_add_58 : decode c_Ro_add 58 = .ok (.aload_n 0, 1) := by decide +kernel
theorem d_Ro_add_59 : decode c_Ro_add 59 = .ok (.dup, 1) := by decide +kernel
theorem d_Ro_add_60 : decode c_Ro_add 60 = .ok (.getfield 15, 3) := by decide +kernel
theorem d_Ro_add_63 : decode c_Ro_add 63 = .ok (.iconst 1, 1) := by decide +kernel
theorem d_Ro_add_64 : decode c_Ro_add 64 = .ok (.iadd, 1) := by decide +kernel
theorem d_Ro_add_65 : decode c_Ro_add 65 = .ok (.putfield 15, 3) := by decide +kernel
theorem d_Ro_add_68 : decode c_Ro_add 68 = .ok (.return_, 1) := by decide +kernel
theorem d_Tr_shrinkTo_0 : decode c_Tr_shrinkTo 0 = .ok (.aload_n 0, 1) := by decide +kernel
theorem d_Tr_shrinkTo_1 : decode c_Tr_shrinkTo 1 = .ok (.getfield 42, 3) := by decide +kernel
theorem d_Tr_shrinkTo_4 : decode c_Tr_shrinkTo 4 = .ok (.iload_n 1, 1) := by decide +kernel
theorem d_Tr_shrinkTo_5 : decode c_Tr_shrinkTo 5 = .ok (.if_icmp .le 68, 3) := by decide +kernel
theorem d_Tr_shrinkTo_8 : decode c_Tr_shrinkTo 8 = .ok (.aload_n 0, 1) := by decide +kernel
theorem d_Tr_shrinkTo_9 : decode c_Tr_shrinkTo 9 = .ok (.getfield 42, 3) := by decide +kernel
theorem d_Tr_shrinkTo_12 : decode c_Tr_shrinkTo 12 = .ok (.ifCond .le 61, 3) := by decide +kernel
theorem d_Tr_shrinkTo_15 : decode c_Tr_shrinkTo 15 = .ok (.aload_n 0, 1) := by decide +kernel
theorem d_Tr_shrinkTo_16 : decode c_Tr_shrinkTo 16 = .ok (.dup, 1) := by decide +kernel
theorem d_Tr_shrinkTo_17 : decode c_Tr_shrinkTo 17 = .ok (.getfield 42, 3) := by decide +kernel
theorem d_Tr_shrinkTo_20 : decode c_Tr_shrinkTo 20 = .ok (.iconst 1, 1) := by decide +kernel
theorem d_Tr_shrinkTo_21 : decode c_Tr_shrinkTo 21 = .ok (.isub, 1) := by decide +kernel
theorem d_Tr_shrinkTo_22 : decode c_Tr_shrinkTo 22 = .ok (.putfield 42, 3) := by decide +kernel
theorem d_Tr_shrinkTo_25 : decode c_Tr_shrinkTo 25 = .ok (.aload_n 0, 1) := by decide +kernel
theorem d_Tr_shrinkTo_26 : decode c_Tr_shrinkTo 26 = .ok (.getfield 36, 3) := by decide +kernel
theorem d_Tr_shrinkTo_29 : decode c_Tr_shrinkTo 29 = .ok (.aload_n 0, 1) := by decide +kernel
theorem d_Tr_shrinkTo_30 : decode c_Tr_shrinkTo 30 = .ok (.aload_n 0, 1) := by decide +kernel
theorem d_Tr_shrinkTo_31 : decode c_Tr_shrinkTo 31 = .ok (.getfield 9, 3) := by decide +kernel
theorem d_Tr_shrinkTo_34 : decode c_Tr_shrinkTo 34 = .ok (.aload_n 0, 1) := by decide +kernel
theorem d_Tr_shrinkTo_35 : decode c_Tr_shrinkTo 35 = .ok (.getfield 42, 3) := by decide +kernel
theorem d_Tr_shrinkTo_38 : decode c_Tr_shrinkTo 38 = .ok (.iaload, 1) := by decide +kernel
theorem d_Tr_shrinkTo_39 : decode c_Tr_shrinkTo 39 = .ok (.aload_n 0, 1) := by decide +kernel
theorem d_Tr_shrinkTo_40 : decode c_Tr_shrinkTo 40 = .ok (.getfield 15, 3) := by decide +kernel
theorem d_Tr_shrinkTo_43 : decode c_Tr_shrinkTo 43 = .ok (.aload_n 0, 1) := by decide +kernel
theorem d_Tr_shrinkTo_44 : decode c_Tr_shrinkTo 44 = .ok (.getfield 42, 3) := by decide +kernel
theorem d_Tr_shrinkTo_47 : decode c_Tr_shrinkTo 47 = .ok (.iaload, 1) := by decide +kernel
theorem d_Tr_shrinkTo_48 : decode c_Tr_shrinkTo 48 = .ok (.aload_n 0, 1) := by decide +kernel
theorem d_Tr_shrinkTo_49 : decode c_Tr_shrinkTo 49 = .ok (.getfield 18, 3) := by decide +kernel
theorem d_Tr_shrinkTo_52 : decode c_Tr_shrinkTo 52 = .ok (.aload_n 0, 1) := by decide +kernel
theorem d_Tr_shrinkTo_53 : decode c_Tr_shrinkTo 53 = .ok (.getfield 42, 3) := by decide +kernel
theorem d_Tr_shrinkTo_56 : decode c_Tr_shrinkTo 56 = .ok (.iaload, 1) := by decide +kernel
theorem d_Tr_shrinkTo_57 : decode c_Tr_shrinkTo 57 = .ok (.invokevirtual 52, 3) := by decide +kernel
theorem d_Tr_shrinkTo_60 : decode c_Tr_shrinkTo 60 = .ok (.aload_n 0, 1) := by decide +kernel
theorem d_Tr_shrinkTo_61 : decode c_Tr_shrinkTo 61 = .ok (.getfield 39, 3) := by decide +kernel
theorem d_Tr_shrinkTo_64 : decode c_Tr_shrinkTo 64 = .ok (.aload_n 0, 1) := by decide +kernel
theorem d_Tr_shrinkTo_65 : decode c_Tr_shrinkTo 65 = .ok (.getfield 42, 3) := by decide +kernel
theorem d_Tr_shrinkTo_68 : decode c_Tr_shrinkTo 68 = .ok (.iaload, 1) := by decide +kernel
theorem d_Tr_shrinkTo_69 : decode c_Tr_shrinkTo 69 = .ok (.iastore, 1) := by decide +kernel
theorem d_Tr_shrinkTo_70 : decode c_Tr_shrinkTo 70 = .ok (.goto (-70), 3) := by decide +kernel
theorem d_Tr_shrinkTo_73 : decode c_Tr_shrinkTo 73 = .ok (.return_, 1) := by decide +kernel
theorem d_Tr_treeAt_0 : decode c_Tr_treeAt 0 = .ok (.iload_n 2, 1) := by decide +kernel
theorem d_Tr_treeAt_1 : decode c_Tr_treeAt 1 = .ok (.ifCond .lt 13, 3) := by decide +kernel
theorem d_Tr_treeAt_4 : decode c_Tr_treeAt 4 = .ok (.iload_n 2, 1) := by decide +kernel
theorem d_Tr_treeAt_5 : decode c_Tr_treeAt 5 = .ok (.aload_n 0, 1) := by decide +kernel
theorem d_Tr_treeAt_6 : decode c_Tr_treeAt 6 = .ok (.getfield 24, 3) := by decide +kernel
theorem d_Tr_treeAt_9 : decode c_Tr_treeAt 9 = .ok (.iload_n 1, 1) := by decide +kernel
theorem d_Tr_treeAt_10 : decode c_Tr_treeAt 10 = .ok (.iaload, 1) := by decide +kernel
theorem d_Tr_treeAt_11 : decode c_Tr_treeAt 11 = .ok (.if_icmp .lt 5, 3) := by decide +kernel
theorem d_Tr_treeAt_14 : decode c_Tr_treeAt 14 = .ok (.iconst (-1), 1) := by decide +kernel
theorem d_Tr_treeAt_15 : decode c_Tr_treeAt 15 = .ok (.ireturn, 1) := by decide +kernel
theorem d_Tr_treeAt_16 : decode c_Tr_treeAt 16 = .ok (.iload_n 1, 1) := by decide +kernel
theorem d_Tr_treeAt_17 : decode c_Tr_treeAt 17 = .ok (.istore_n 3, 1) := by decide +kernel
theorem d_Tr_treeAt_18 : decode c_Tr_treeAt 18 = .ok (.iload_n 2, 1) := by decide +kernel
theorem d_Tr_treeAt_19 : decode c_Tr_treeAt 19 = .ok (.istore 4, 2) := by decide +kernel
theorem d_Tr_treeAt_21 : decode c_Tr_treeAt 21 = .ok (.iload 4, 2) := by decide +kernel
theorem d_Tr_treeAt_23 : decode c_Tr_treeAt 23 = .ok (.ifCond .le 61, 3) := by decide +kernel
theorem d_Tr_treeAt_26 : decode c_Tr_treeAt 26 = .ok (.aload_n 0, 1) := by decide +kernel
theorem d_Tr_treeAt_27 : decode c_Tr_treeAt 27 = .ok (.iload_n 3, 1) := by decide +kernel
theorem d_Tr_treeAt_28 : decode c_Tr_treeAt 28 = .ok (.invokevirtual 80, 3) := by decide +kernel
theorem d_Tr_treeAt_31 : decode c_Tr_treeAt 31 = .ok (.ifCond .eq 53, 3) := by decide +kernel
theorem d_Tr_treeAt_34 : decode c_Tr_treeAt 34 = .ok (.iinc 4 (-1), 3) := by decide +kernel
theorem d_Tr_treeAt_37 : decode c_Tr_treeAt 37 = .ok (.aload_n 0, 1) := by decide +kernel
theorem d_Tr_treeAt_38 : decode c_Tr_treeAt 38 = .ok (.getfield 24, 3) := by decide +kernel
theorem d_Tr_treeAt_41 : decode c_Tr_treeAt 41 = .ok (.aload_n 0, 1) := by decide +kernel
theorem d_Tr_treeAt_42 : decode c_Tr_treeAt 42 = .ok (.getfield 15, 3) := by decide +kernel
theorem d_Tr_treeAt_45 : decode c_Tr_treeAt 45 = .ok (.iload_n 3, 1) := by decide +kernel
theorem d_Tr_treeAt_46 : decode c_Tr_treeAt 46 = .ok (.iaload, 1) := by decide +kernel
theorem d_Tr_treeAt_47 : decode c_Tr_treeAt 47 = .ok (.iaload, 1) := by decide +kernel
theorem d_Tr_treeAt_48 : decode c_Tr_treeAt 48 = .ok (.istore 5, 2) := by decide +kernel
theorem d_Tr_treeAt_50 : decode c_Tr_treeAt 50 = .ok (.iload 4, 2) := by decide +kernel
theorem d_Tr_treeAt_52 : decode c_Tr_treeAt 52 = .ok (.iload 5, 2) := by decide +kernel
theorem d_Tr_treeAt_54 : decode c_Tr_treeAt 54 = .ok (.if_icmp .ge 13, 3) := by decide +kernel
theorem d_Tr_treeAt_57 : decode c_Tr_treeAt 57 = .ok (.aload_n 0, 1) := by decide +kernel
theorem d_Tr_treeAt_58 : decode c_Tr_treeAt 58 = .ok (.getfield 15, 3) := by decide +kernel
theorem d_Tr_treeAt_61 : decode c_Tr_treeAt 61 = .ok (.iload_n 3, 1) := by decide +kernel
theorem d_Tr_treeAt_62 : decode c_Tr_treeAt 62 = .ok (.iaload, 1) := by decide +kernel
theorem d_Tr_treeAt_63 : decode c_Tr_treeAt 63 = .ok (.istore_n 3, 1) := by decide +kernel
theorem d_Tr_treeAt_64 : decode c_Tr_treeAt 64 = .ok (.goto 17, 3) := by decide +kernel
theorem d_Tr_treeAt_67 : decode c_Tr_treeAt 67 = .ok (.iload 4, 2) := by decide +kernel
theorem d_Tr_treeAt_69 : decode c_Tr_treeAt 69 = .ok (.iload 5, 2) := by decide +kernel
theorem d_Tr_treeAt_71 : decode c_Tr_treeAt 71 = .ok (.isub, 1) := by decide +kernel
theorem d_Tr_treeAt_72 : decode c_Tr_treeAt 72 = .ok (.istore 4, 2) := by decide +kernel
theorem d_Tr_treeAt_74 : decode c_Tr_treeAt 74 = .ok (.aload_n 0, 1) := by decide +kernel
theorem d_Tr_treeAt_75 : decode c_Tr_treeAt 75 = .ok (.getfield 18, 3) := by decide +kernel
theorem d_Tr_treeAt_78 : decode c_Tr_treeAt 78 = .ok (.iload_n 3, 1) := by decide +kernel
theorem d_Tr_treeAt_79 : decode c_Tr_treeAt 79 = .ok (.iaload, 1) := by decide +kernel
theorem d_Tr_treeAt_80 : decode c_Tr_treeAt 80 = .ok (.istore_n 3, 1) := by decide +kernel
theorem d_Tr_treeAt_81 : decode c_Tr_treeAt 81 = .ok (.goto (-60), 3) := by decide +kernel
theorem d_Tr_treeAt_84 : decode c_Tr_treeAt 84 = .ok (.iload_n 3, 1) := by decide +kernel
theorem d_Tr_treeAt_85 : decode c_Tr_treeAt 85 = .ok (.ireturn, 1) := by decide +kernel
end
section
/-! what every walk knows: ONE list of words, the array classes, and what of the start's heap a throw needs -/
def xA (base : Nat) : Nat → Prop := fun q => base ≤ q
def xTs : List Cond := lw_tbl.filter goodWord
def xtys (cA : Nat → ClassId) : List (ClassId × FieldType) := [(cA 0, .int), (cA 1, .boolean), (cA 2, .long)]
def xStr : List (Nat × String) := [(52, "no such name of a leaf"), (173, "too many trees, or too deep or heavy a one"), (65, "no such name of a hole"), (165, "no such tree"), (71, "no such head, or a part too many"), (81, "the trees make no rule"), (83, "no such condition"), (93, "no such condition or answer"), (167, "no such rule"), (169, "the tree isn't plain"), (108, "no such number of steps"), (130, "no such row"), (133, "a row has no such cell"), (147, "no such measure")]
/-- exceptions that are no others -/
def xNc : List (String × String) := [("java/lang/IllegalArgumentException", "java/lang/IllegalStateException"), ("java/lang/IllegalArgumentException", "java/lang/IndexOutOfBoundsException"), ("java/lang/IllegalStateException", "java/lang/IllegalArgumentException"), ("java/lang/IllegalStateException", "java/lang/IndexOutOfBoundsException"), ("java/lang/IndexOutOfBoundsException", "java/lang/IllegalArgumentException"), ("java/lang/IndexOutOfBoundsException", "java/lang/IllegalStateException")]
def XGl (base : Nat) (s : State) : Prop := vx_Zq Bundle.tN "UNASSIGNED_STACK" Bundle.steD (xA base) s s.heap ∧ vx_Zq Bundle.tN "SUPPRESSED_SENTINEL" Bundle.listD (xA base) s s.heap ∧ (∀ q ∈ xStr, ∃ sa : Nat, vk_R R_RS q.1 q.2 sa s) ∧ va_Nw (.methodLinkNest R_RS 34 y_Ro_init R_RS) s ∧ (∀ q ∈ xNc, va_Nc q.1 q.2 s)
theorem XGl.warm {base : Nat} {s U : State} (h : XGl base s) (hW : s.WarmedH U.vm) (hq : ∀ q : Nat, q < s.heap.size → ¬ xA base q → U.heap[q]? = s.heap[q]?) : XGl base U :=
  ⟨vx_Zq.moved hW.alike (h.1.kept hq), vx_Zq.moved hW.alike (h.2.1.kept hq), fun q hq9 => by obtain ⟨sa, h9⟩ := h.2.2.1 q hq9; exact ⟨sa, vk_R.warm hW h9⟩, va_Nw.warmM hW h.2.2.2.1, fun q hq9 => va_Nc.moved hW.alike (h.2.2.2.2 q hq9)⟩
theorem XGl.calling {base : Nat} {U : State} {g : JFrame} {mk : MethodId} {a : Array Value} (h : XGl base U) : XGl base (U.calling g mk a) :=
  ⟨vx_Zq.moved (u := U) (U := U.calling g mk a) (Vm.Alike.refl U.vm) h.1, vx_Zq.moved (u := U) (U := U.calling g mk a) (Vm.Alike.refl U.vm) h.2.1, fun q hq9 => by obtain ⟨sa, h9⟩ := h.2.2.1 q hq9; exact ⟨sa, vk_R.same (u := U) (U := U.calling g mk a) rfl h9⟩, va_Nw.same (u := U) (U := U.calling g mk a) rfl rfl h.2.2.2.1, fun q hq9 => va_Nc.moved (u := U) (U := U.calling g mk a) (Vm.Alike.refl U.vm) (h.2.2.2.2 q hq9)⟩
theorem xw_mem {w : Cond} (i : Nat) (h : tables_1[i]? = some w) (hg : goodWord w = true) : w ∈ xTs := List.mem_filter.mpr ⟨List.mem_append_right _ (List.mem_of_getElem? h), hg⟩
theorem xw_sel {w : Cond} (i : Nat) (h : (k2_sels lw_privs)[i]? = some w) (hg : goodWord w = true) : w ∈ xTs := List.mem_filter.mpr ⟨List.mem_append_left _ (List.mem_of_getElem? h), hg⟩
end
section
/-! The X-layer: a world is a number of cells n, their addresses ad, their contents w (functions of the place); locals are a function; numbers are zI z with z : Int. -/
def zI (z : Int) : Int32 := Int32.ofInt z
theorem zI_toInt {z : Int} (h : -2147483648 ≤ z ∧ z < 2147483648) : (zI z).toInt = z := Int32.toInt_ofInt_of_le (by simpa using h.1) (by simpa using h.2)
theorem zI_of (x : Int32) : zI x.toInt = x := Int32.ofInt_toInt x
theorem zI_rng (x : Int32) : -2147483648 ≤ x.toInt ∧ x.toInt < 2147483648 := ⟨by simpa using x.le_toInt, by simpa using x.toInt_lt⟩
theorem zI_add (x y : Int) : zI x + zI y = zI (x + y) := (Int32.ofInt_add x y).symm
theorem zI_sub (x y : Int) : zI x - zI y = zI (x - y) := (Int32.ofInt_sub x y).symm
theorem zI_mul (x y : Int) : zI x * zI y = zI (x * y) := (Int32.ofInt_mul x y).symm
theorem zI_le {x y : Int} (hx : -2147483648 ≤ x ∧ x < 2147483648) (hy : -2147483648 ≤ y ∧ y < 2147483648) : zI x ≤ zI y ↔ x ≤ y := by
  rw [Int32.le_iff_toInt_le, zI_toInt hx, zI_toInt hy]
theorem zI_lt {x y : Int} (hx : -2147483648 ≤ x ∧ x < 2147483648) (hy : -2147483648 ≤ y ∧ y < 2147483648) : zI x < zI y ↔ x < y := by
  rw [Int32.lt_iff_toInt_lt, zI_toInt hx, zI_toInt hy]
theorem zI_inj {x y : Int} (hx : -2147483648 ≤ x ∧ x < 2147483648) (hy : -2147483648 ≤ y ∧ y < 2147483648) : zI x = zI y ↔ x = y :=
  ⟨fun h => by have := congrArg Int32.toInt h; rwa [zI_toInt hx, zI_toInt hy] at this, fun h => by rw [h]⟩
theorem zI_0 : zI 0 = 0 := rfl
theorem zI_nat (k : Nat) : Int32.ofNat k = zI (k : Int) := Int32.ofInt_eq_ofNat.symm
theorem zI_nI (k : Nat) : nI k = zI (k : Int) := zI_nat k
theorem zI_clamp {z : Int} (h : 0 ≤ z ∧ z < 2147483648) : (zI z).toNatClampNeg = z.toNat := Int32.toNatClampNeg_ofInt_of_le (by omega) (by omega)
theorem zI_in {z : Int} {N : Nat} (h : 0 ≤ z ∧ z < N) (hN : N < 2147483648) : vp_in (zI z) N := by
  rintro (q | q)
  · rw [show (0 : Int32) = zI 0 from rfl, zI_lt (by omega) (by omega)] at q
    omega
  · rw [zI_clamp (by omega)] at q
    omega
theorem zI_rem {x y : Int} (hx : -2147483648 < x ∧ x < 2147483648) (hy : 0 < y ∧ y < 2147483648) : zI x - zI x / zI y * zI y = zI (x.tmod y) := by
  apply Int32.toInt_inj.mp
  rw [rem_toInt, zI_toInt (by omega), zI_toInt (by omega), zI_toInt]
  have h1 := Int.lt_tmod_of_pos x hy.1
  have h2 := Int.tmod_lt_of_pos x hy.1
  omega
/-! worlds -/
def xws (n : Nat) (ad : Nat → Nat) (w : Nat → va_E) : va_W := (List.range n).map fun k => (ad k, w k)
theorem xws_at {n k : Nat} {ad : Nat → Nat} {w : Nat → va_E} {e : va_E} (hk : k < n) (hw : w k = e) : (xws n ad w)[k]? = some (ad k, e) := by
  simp [xws, hk, hw]
theorem xws_set {n k : Nat} {ad : Nat → Nat} {w : Nat → va_E} {e : va_E} : (xws n ad w).set k (ad k, e) = xws n ad (va_up w k e) := by
  apply List.ext_getElem?
  intro j
  by_cases hj : j < n
  · by_cases h : k = j
    · subst h
      simp [xws, va_up, hj]
    · rw [List.getElem?_set_ne h]
      simp [xws, va_up, hj, Ne.symm h]
  · rw [List.getElem?_eq_none (by simp [xws]; omega), List.getElem?_eq_none (by simp [xws]; omega)]
theorem xws_push {n : Nat} {ad : Nat → Nat} {w : Nat → va_E} {q : Nat} {e : va_E} : xws n ad w ++ [(q, e)] = xws (n + 1) (va_up ad n q) (va_up w n e) := by
  unfold xws
  rw [List.range_succ, List.map_append]
  congr 1
  · apply List.map_congr_left
    intro k hk
    have : k ≠ n := by have := List.mem_range.mp hk; omega
    simp [va_up, this]
  · simp [va_up]
/-! locals -/
def xlv (ls : Array Slot) (nL : Nat) (lv : Nat → Option Value) : Prop := ls.size = nL ∧ lv_wf ls ∧ ∀ (i : Nat) (v : Value), lv i = some v → v.category = 1 ∧ ls[i]? = some (.val v)
def xll (nL : Nat) (lv : Nat → Option Value) : List (Nat × Value) := (List.range nL).filterMap fun i => (lv i).map fun v => (i, v)
theorem xlv_has {ls : Array Slot} {nL : Nat} {lv : Nat → Option Value} (h : xlv ls nL lv) : lv_has ls nL (xll nL lv) := by
  refine ⟨h.1, h.2.1, fun q hq => ?_⟩
  obtain ⟨i, -, hi⟩ := List.mem_filterMap.mp hq
  cases hv : lv i with
  | none => rw [hv] at hi; cases hi
  | some v => rw [hv] at hi; cases hi; exact (h.2.2 i v hv).2
theorem xlv_put {ls ls' : Array Slot} {nL i : Nat} {lv : Nat → Option Value} {v : Value} (h : xlv ls nL lv) (hv : v.category = 1)
    (h' : lv_has ls' nL ((i, v) :: (xll nL lv).filter (fun q => !(q.1 == i) && !(q.1 + 1 == i && q.2.category == 2)))) : xlv ls' nL (va_up lv i (some v)) := by
  refine ⟨h'.1, h'.2.1, fun j u hu => ?_⟩
  by_cases hj : j = i
  · subst hj
    simp [va_up] at hu
    subst hu
    exact ⟨hv, h'.2.2 (j, v) List.mem_cons_self⟩
  · simp [va_up, hj] at hu
    obtain ⟨h1, h2⟩ := h.2.2 j u hu
    have hjl : j < nL := by have := lv_lt h2; rw [h.1] at this; exact this
    refine ⟨h1, h'.2.2 (j, u) (List.mem_cons_of_mem _ (List.mem_filter.mpr ⟨List.mem_filterMap.mpr ⟨j, List.mem_range.mpr hjl, by rw [hu]; rfl⟩, ?_⟩))⟩
    simp [hj, h1]
theorem xlv_args {ls : Array Slot} {nL : Nat} {av : List Value} (hc : ∀ v ∈ av, v.category = 1) (h : lv_has ls nL (lv_args 0 av)) : xlv ls nL (fun i => av[i]?) := by
  have key : ∀ (vs : List Value) (k j : Nat) (u : Value), (∀ v ∈ vs, v.category = 1) → vs[j]? = some u → (k + j, u) ∈ lv_args k vs := by
    intro vs
    induction vs with
    | nil => intro k j u _ hu; simp at hu
    | cons v vs ih =>
      intro k j u hcs hu
      have hv1 : v.category = 1 := hcs v List.mem_cons_self
      cases j with
      | zero => simp at hu; subst hu; simp [lv_args]
      | succ j =>
        simp at hu
        have := ih (k + 1) j u (fun x hx => hcs x (List.mem_cons_of_mem _ hx)) hu
        simp only [lv_args, hv1]
        refine List.mem_cons_of_mem _ ?_
        rw [if_neg (by decide), show k + (j + 1) = k + 1 + j by omega]
        exact this
  refine ⟨h.1, h.2.1, fun i v hv => ?_⟩
  have hm := key av 0 i v hc hv
  rw [Nat.zero_add] at hm
  exact ⟨hc v (List.mem_of_getElem? hv), h.2.2 (i, v) hm⟩

/-! the judgement -/
abbrev xG := Program × Launch × Env × Room × State × MethodId × Array Value × List Frame × Method × Code × (State → Prop) × Nat × va_G × Nat
def XW (G : xG) (n : Nat) (ad : Nat → Nat) (w : Nat → va_E) (a b pc : Nat) (lv : Nat → Option Value) (st : List Value) : Prop := match G with
  | (p, l, e, R, s, m, args, below, meth, c, Q, nL, D, base) => ∀ (H : Heap) (locs : List Loc) (ls : Array Slot), va_P D vwCl (xws n ad w) H → va_D (xA base) (xws n ad w) → va_S (xA base) s.heap H locs → xlv ls nL lv → W p l e R s m args below meth c H locs a b Q (F0 m pc ls st)
/-- what is known of a walk: its code, its tables' words, its room -/
def XC (G : xG) (L : Launch) (D9 : va_G) (cA : Nat → ClassId) (base9 : Nat) (cc : ByteArray) (nL9 : Nat) (own : String) (R9 : Room) : Prop := match G with
  | (p, l, _, R, s, m, args, _, meth, c, _, nL, D, base) => l = L ∧ D = D9 ∧ base = base9 ∧ nL = nL9 ∧ R = R9 ∧ p.tables.exec = Jvm.exec ∧ c.code = cc ∧ c.maxLocals = nL ∧ s.vm.findClass own = some m.cls ∧ (∀ w ∈ xTs, w.before args s = true) ∧ va_K D vwCl (xtys cA) s ∧ meth.locks = false ∧ base ≤ s.heap.size ∧ XGl base s
section XL
variable {G : xG} {L : Launch} {D : va_G} {cA : Nat → ClassId} {base : Nat} {cc : ByteArray} {nL : Nat} {own : String} {R : Room}
variable {n : Nat} {ad : Nat → Nat} {w : Nat → va_E} {a b pc : Nat} {lv : Nat → Option Value} {st : List Value}
/-- an instruction that touches the frame alone -/
theorem xr_lift (C : XC G L D cA base cc nL own R) {pc' : Nat} {lv' : Nat → Option Value} {st' : List Value}
    (h : ∀ (p : Program) (l : Launch) (e : Env) (R : Room) (s : State) (m : MethodId) (args : Array Value) (below : List Frame) (meth : Method) (c : Code) (Q : State → Prop) (H : Heap) (locs : List Loc) (ls : Array Slot), p.tables.exec = Jvm.exec → c.code = cc → xlv ls nL lv →
      (∀ ls' : Array Slot, xlv ls' nL lv' → W p l e R s m args below meth c H locs a b Q (F0 m pc' ls' st')) → W p l e R s m args below meth c H locs a b Q (F0 m pc ls st))
    (K : XW G n ad w a b pc' lv' st') : XW G n ad w a b pc lv st := by
  obtain ⟨p, l, e, R1, s, m, args, below, meth, c, Q, nL1, D1, base1⟩ := G
  obtain ⟨rfl, rfl, rfl, rfl, rfl, hx, hb, -⟩ := C
  intro H locs ls hP hD hS hl
  exact h p l e R1 s m args below meth c Q H locs ls hx hb hl (fun ls' hl' => K H locs ls' hP hD hS hl')
/-- .. that branches -/
theorem xr_lift2 (C : XC G L D cA base cc nL own R) {ct cf : Prop} {pt pf : Nat} {st' : List Value}
    (h : ∀ (p : Program) (l : Launch) (e : Env) (R : Room) (s : State) (m : MethodId) (args : Array Value) (below : List Frame) (meth : Method) (c : Code) (Q : State → Prop) (H : Heap) (locs : List Loc) (ls : Array Slot), p.tables.exec = Jvm.exec → c.code = cc →
      (ct → W p l e R s m args below meth c H locs a b Q (F0 m pt ls st')) → (cf → W p l e R s m args below meth c H locs a b Q (F0 m pf ls st')) → W p l e R s m args below meth c H locs a b Q (F0 m pc ls st))
    (Kt : ct → XW G n ad w a b pt lv st') (Kf : cf → XW G n ad w a b pf lv st') : XW G n ad w a b pc lv st := by
  obtain ⟨p, l, e, R1, s, m, args, below, meth, c, Q, nL1, D1, base1⟩ := G
  obtain ⟨rfl, rfl, rfl, rfl, rfl, hx, hb, -⟩ := C
  intro H locs ls hP hD hS hl
  exact h p l e R1 s m args below meth c Q H locs ls hx hb (fun c1 => Kt c1 H locs ls hP hD hS hl) (fun c1 => Kf c1 H locs ls hP hD hS hl)
theorem xr_widen {a2 b2 : Nat} (h1 : a ≤ a2) (h2 : b ≤ b2) (K : XW G n ad w a2 b2 pc lv st) : XW G n ad w a b pc lv st := by
  obtain ⟨p, l, e, R1, s, m, args, below, meth, c, Q, nL1, D1, base1⟩ := G
  intro H locs ls hP hD hS hl
  exact W.widen h1 h2 (K H locs ls hP hD hS hl)

theorem xr_iconst (C : XC G L D cA base cc nL own R) {z : Int} (d : decode cc pc = .ok (.iconst z, 1)) (K : XW G n ad w a b (pc + 1) lv (.int (zI z) :: st)) : XW G n ad w a b pc lv st :=
  xr_lift C (fun _ _ _ _ _ _ _ _ _ _ _ _ _ ls hx hb hl k => lv_iconst hx hb d rfl (k ls hl)) K
theorem xr_bipush (C : XC G L D cA base cc nL own R) {z : Int} (d : decode cc pc = .ok (.bipush z, 2)) (hv : (Int8.ofInt z).toInt32 = zI z) (K : XW G n ad w a b (pc + 2) lv (.int (zI z) :: st)) : XW G n ad w a b pc lv st :=
  xr_lift C (fun _ _ _ _ _ _ _ _ _ _ _ _ _ ls hx hb hl k => lv_bipush hx hb d hv (k ls hl)) K
theorem xr_sipush (C : XC G L D cA base cc nL own R) {z : Int} (d : decode cc pc = .ok (.sipush z, 3)) (hv : (Int16.ofInt z).toInt32 = zI z) (K : XW G n ad w a b (pc + 3) lv (.int (zI z) :: st)) : XW G n ad w a b pc lv st :=
  xr_lift C (fun _ _ _ _ _ _ _ _ _ _ _ _ _ ls hx hb hl k => lv_sipush hx hb d hv (k ls hl)) K
theorem xr_lconst (C : XC G L D cA base cc nL own R) {z : Fin 2} (d : decode cc pc = .ok (.lconst z, 1)) (K : XW G n ad w a b (pc + 1) lv (.long (Int64.ofNat (z : Nat)) :: st)) : XW G n ad w a b pc lv st :=
  xr_lift C (fun _ _ _ _ _ _ _ _ _ _ _ _ _ ls hx hb hl k => lv_lconst hx hb d rfl (k ls hl)) K
theorem xr_iload_n (C : XC G L D cA base cc nL own R) (i : Nat) {k9 : Fin 4} {x : Int32} (d : decode cc pc = .ok (.iload_n k9, 1)) (hi : (k9 : Nat) = i) (hv : lv i = some (.int x)) (K : XW G n ad w a b (pc + 1) lv (.int x :: st)) : XW G n ad w a b pc lv st :=
  xr_lift C (fun _ _ _ _ _ _ _ _ _ _ _ _ _ ls hx hb hl k => lv_iload_n hx hb d hi (hl.2.2 _ _ hv).2 (k ls hl)) K
theorem xr_iload (C : XC G L D cA base cc nL own R) {i : Nat} {x : Int32} (d : decode cc pc = .ok (.iload i, 2)) (hv : lv i = some (.int x)) (K : XW G n ad w a b (pc + 2) lv (.int x :: st)) : XW G n ad w a b pc lv st :=
  xr_lift C (fun _ _ _ _ _ _ _ _ _ _ _ _ _ ls hx hb hl k => lv_iload hx hb d (hl.2.2 _ _ hv).2 (k ls hl)) K
theorem xr_aload_n (C : XC G L D cA base cc nL own R) (i : Nat) {k9 : Fin 4} {x : Nat} (d : decode cc pc = .ok (.aload_n k9, 1)) (hi : (k9 : Nat) = i) (hv : lv i = some (.ref x)) (K : XW G n ad w a b (pc + 1) lv (.ref x :: st)) : XW G n ad w a b pc lv st :=
  xr_lift C (fun _ _ _ _ _ _ _ _ _ _ _ _ _ ls hx hb hl k => lv_aload_n hx hb d hi (hl.2.2 _ _ hv).2 (k ls hl)) K
theorem xr_aload (C : XC G L D cA base cc nL own R) {i : Nat} {x : Nat} (d : decode cc pc = .ok (.aload i, 2)) (hv : lv i = some (.ref x)) (K : XW G n ad w a b (pc + 2) lv (.ref x :: st)) : XW G n ad w a b pc lv st :=
  xr_lift C (fun _ _ _ _ _ _ _ _ _ _ _ _ _ ls hx hb hl k => lv_aload hx hb d (hl.2.2 _ _ hv).2 (k ls hl)) K
theorem xr_istore_n (C : XC G L D cA base cc nL own R) (i : Nat) {k9 : Fin 4} {x : Int32} (d : decode cc pc = .ok (.istore_n k9, 1)) (hi : (k9 : Nat) = i) (hn : i < nL) (K : XW G n ad w a b (pc + 1) (va_up lv i (some (.int x))) st) : XW G n ad w a b pc lv (.int x :: st) :=
  xr_lift C (fun _ _ _ _ _ _ _ _ _ _ _ _ _ ls hx hb hl k => lv_istore_n hx hb d hi (xlv_has hl) hn rfl (fun ls9 h9 => k ls9 (xlv_put hl rfl h9))) K
theorem xr_istore (C : XC G L D cA base cc nL own R) {i : Nat} {x : Int32} (d : decode cc pc = .ok (.istore i, 2)) (hn : i < nL) (K : XW G n ad w a b (pc + 2) (va_up lv i (some (.int x))) st) : XW G n ad w a b pc lv (.int x :: st) :=
  xr_lift C (fun _ _ _ _ _ _ _ _ _ _ _ _ _ ls hx hb hl k => lv_istore hx hb d (xlv_has hl) hn rfl (fun ls9 h9 => k ls9 (xlv_put hl rfl h9))) K
theorem xr_astore_n (C : XC G L D cA base cc nL own R) (i : Nat) {k9 : Fin 4} {x : Nat} (d : decode cc pc = .ok (.astore_n k9, 1)) (hi : (k9 : Nat) = i) (hn : i < nL) (K : XW G n ad w a b (pc + 1) (va_up lv i (some (.ref x))) st) : XW G n ad w a b pc lv (.ref x :: st) :=
  xr_lift C (fun _ _ _ _ _ _ _ _ _ _ _ _ _ ls hx hb hl k => lv_astore_n hx hb d hi (xlv_has hl) hn rfl (fun ls9 h9 => k ls9 (xlv_put hl rfl h9))) K
theorem xr_astore (C : XC G L D cA base cc nL own R) {i : Nat} {x : Nat} (d : decode cc pc = .ok (.astore i, 2)) (hn : i < nL) (K : XW G n ad w a b (pc + 2) (va_up lv i (some (.ref x))) st) : XW G n ad w a b pc lv (.ref x :: st) :=
  xr_lift C (fun _ _ _ _ _ _ _ _ _ _ _ _ _ ls hx hb hl k => lv_astore hx hb d (xlv_has hl) hn rfl (fun ls9 h9 => k ls9 (xlv_put hl rfl h9))) K
theorem xll_at {nL i : Nat} {lv : Nat → Option Value} {v : Value} (hi : i < nL) (hv : lv i = some v) : ∃ k : Nat, (xll nL lv)[k]? = some (i, v) :=
  List.getElem?_of_mem (List.mem_filterMap.mpr ⟨i, List.mem_range.mpr hi, by rw [hv]; rfl⟩)
theorem xr_iinc (C : XC G L D cA base cc nL own R) {i : Nat} {z x : Int} (d : decode cc pc = .ok (.iinc i z, 3)) (hn : i < nL) (hv : lv i = some (.int (zI x))) (K : XW G n ad w a b (pc + 3) (va_up lv i (some (.int (zI (x + z))))) st) : XW G n ad w a b pc lv st :=
  xr_lift C (fun _ _ _ _ _ _ _ _ _ _ _ _ _ ls hx hb hl k => by
    obtain ⟨k9, hk9⟩ := xll_at hn hv
    exact lv_iinc hx hb d (xlv_has hl) hk9 (zI_add x z) hn rfl (fun ls9 h9 => k ls9 (xlv_put hl rfl h9))) K
theorem xr_iadd (C : XC G L D cA base cc nL own R) {x y : Int32} (d : decode cc pc = .ok (.iadd, 1)) (K : XW G n ad w a b (pc + 1) lv (.int (x + y) :: st)) : XW G n ad w a b pc lv (.int y :: .int x :: st) :=
  xr_lift C (fun _ _ _ _ _ _ _ _ _ _ _ _ _ ls hx hb hl k => lv_iadd hx hb d (k ls hl)) K
theorem xr_isub (C : XC G L D cA base cc nL own R) {x y : Int32} (d : decode cc pc = .ok (.isub, 1)) (K : XW G n ad w a b (pc + 1) lv (.int (x - y) :: st)) : XW G n ad w a b pc lv (.int y :: .int x :: st) :=
  xr_lift C (fun _ _ _ _ _ _ _ _ _ _ _ _ _ ls hx hb hl k => lv_isub hx hb d (k ls hl)) K
theorem xr_imul (C : XC G L D cA base cc nL own R) {x y : Int32} (d : decode cc pc = .ok (.imul, 1)) (K : XW G n ad w a b (pc + 1) lv (.int (x * y) :: st)) : XW G n ad w a b pc lv (.int y :: .int x :: st) :=
  xr_lift C (fun _ _ _ _ _ _ _ _ _ _ _ _ _ ls hx hb hl k => lv_imul hx hb d (k ls hl)) K
theorem xr_iand (C : XC G L D cA base cc nL own R) {x y : Int32} (d : decode cc pc = .ok (.iand, 1)) (K : XW G n ad w a b (pc + 1) lv (.int (x &&& y) :: st)) : XW G n ad w a b pc lv (.int y :: .int x :: st) :=
  xr_lift C (fun _ _ _ _ _ _ _ _ _ _ _ _ _ ls hx hb hl k => lv_iand hx hb d (k ls hl)) K
theorem xr_ior (C : XC G L D cA base cc nL own R) {x y : Int32} (d : decode cc pc = .ok (.ior, 1)) (K : XW G n ad w a b (pc + 1) lv (.int (x ||| y) :: st)) : XW G n ad w a b pc lv (.int y :: .int x :: st) :=
  xr_lift C (fun _ _ _ _ _ _ _ _ _ _ _ _ _ ls hx hb hl k => lv_ior hx hb d (k ls hl)) K
theorem xr_ixor (C : XC G L D cA base cc nL own R) {x y : Int32} (d : decode cc pc = .ok (.ixor, 1)) (K : XW G n ad w a b (pc + 1) lv (.int (x ^^^ y) :: st)) : XW G n ad w a b pc lv (.int y :: .int x :: st) :=
  xr_lift C (fun _ _ _ _ _ _ _ _ _ _ _ _ _ ls hx hb hl k => lv_ixor hx hb d (k ls hl)) K
theorem xr_ishl (C : XC G L D cA base cc nL own R) {x y : Int32} (d : decode cc pc = .ok (.ishl, 1)) (K : XW G n ad w a b (pc + 1) lv (.int (x <<< (y &&& 31)) :: st)) : XW G n ad w a b pc lv (.int y :: .int x :: st) :=
  xr_lift C (fun _ _ _ _ _ _ _ _ _ _ _ _ _ ls hx hb hl k => lv_ishl hx hb d (k ls hl)) K
theorem xr_ishr (C : XC G L D cA base cc nL own R) {x y : Int32} (d : decode cc pc = .ok (.ishr, 1)) (K : XW G n ad w a b (pc + 1) lv (.int (x >>> (y &&& 31)) :: st)) : XW G n ad w a b pc lv (.int y :: .int x :: st) :=
  xr_lift C (fun _ _ _ _ _ _ _ _ _ _ _ _ _ ls hx hb hl k => lv_ishr hx hb d (k ls hl)) K
theorem xz_iadd (C : XC G L D cA base cc nL own R) {x y : Int} (d : decode cc pc = .ok (.iadd, 1)) (K : XW G n ad w a b (pc + 1) lv (.int (zI (x + y)) :: st)) : XW G n ad w a b pc lv (.int (zI y) :: .int (zI x) :: st) :=
  xr_iadd C d (by rw [zI_add]; exact K)
theorem xz_isub (C : XC G L D cA base cc nL own R) {x y : Int} (d : decode cc pc = .ok (.isub, 1)) (K : XW G n ad w a b (pc + 1) lv (.int (zI (x - y)) :: st)) : XW G n ad w a b pc lv (.int (zI y) :: .int (zI x) :: st) :=
  xr_isub C d (by rw [zI_sub]; exact K)
theorem xz_imul (C : XC G L D cA base cc nL own R) {x y : Int} (d : decode cc pc = .ok (.imul, 1)) (K : XW G n ad w a b (pc + 1) lv (.int (zI (x * y)) :: st)) : XW G n ad w a b pc lv (.int (zI y) :: .int (zI x) :: st) :=
  xr_imul C d (by rw [zI_mul]; exact K)
theorem xz_irem (C : XC G L D cA base cc nL own R) {x y : Int} (d : decode cc pc = .ok (.irem, 1)) (hx9 : -2147483648 < x ∧ x < 2147483648) (hy9 : 0 < y ∧ y < 2147483648) (K : XW G n ad w a b (pc + 1) lv (.int (zI (x.tmod y)) :: st)) : XW G n ad w a b pc lv (.int (zI y) :: .int (zI x) :: st) :=
  xr_lift C (fun _ _ _ _ _ _ _ _ _ _ _ _ _ ls hx hb hl k => lv_irem hx hb d (fun q => by rw [← zI_0, zI_inj (by omega) (by omega)] at q; omega) (by rw [zI_rem hx9 hy9]; exact k ls hl)) K
theorem xr_i2l (C : XC G L D cA base cc nL own R) {x : Int32} (d : decode cc pc = .ok (.i2l, 1)) (K : XW G n ad w a b (pc + 1) lv (.long x.toInt64 :: st)) : XW G n ad w a b pc lv (.int x :: st) :=
  xr_lift C (fun _ _ _ _ _ _ _ _ _ _ _ _ _ ls hx hb hl k => lv_i2l hx hb d rfl (k ls hl)) K
theorem xr_lcmp (C : XC G L D cA base cc nL own R) {x y : Int64} (d : decode cc pc = .ok (.lcmp, 1)) (K : XW G n ad w a b (pc + 1) lv (.int (lg_cmp x y) :: st)) : XW G n ad w a b pc lv (.long y :: .long x :: st) :=
  xr_lift C (fun _ _ _ _ _ _ _ _ _ _ _ _ _ ls hx hb hl k => W.lcmp hx hb d (k ls hl)) K
theorem xr_dup (C : XC G L D cA base cc nL own R) {v : Value} (hc : v.category = 1) (d : decode cc pc = .ok (.dup, 1)) (K : XW G n ad w a b (pc + 1) lv (v :: v :: st)) : XW G n ad w a b pc lv (v :: st) :=
  xr_lift C (fun _ _ _ _ _ _ _ _ _ _ _ _ _ ls hx hb hl k => lv_dup hx hb d hc (k ls hl)) K
theorem xr_pop (C : XC G L D cA base cc nL own R) {v : Value} (hc : v.category = 1) (d : decode cc pc = .ok (.pop, 1)) (K : XW G n ad w a b (pc + 1) lv (st)) : XW G n ad w a b pc lv (v :: st) :=
  xr_lift C (fun _ _ _ _ _ _ _ _ _ _ _ _ _ ls hx hb hl k => lv_pop hx hb d hc (k ls hl)) K
theorem xr_dup_x1 (C : XC G L D cA base cc nL own R) {v u : Value} (hc : v.category = 1) (hc2 : u.category = 1) (d : decode cc pc = .ok (.dup_x1, 1)) (K : XW G n ad w a b (pc + 1) lv (v :: u :: v :: st)) : XW G n ad w a b pc lv (v :: u :: st) :=
  xr_lift C (fun _ _ _ _ _ _ _ _ _ _ _ _ _ ls hx hb hl k => lv_dup_x1 hx hb d hc hc2 (k ls hl)) K
theorem xr_dup_x2 (C : XC G L D cA base cc nL own R) {v u t : Value} (hc : v.category = 1) (hc2 : u.category = 1) (hc3 : t.category = 1) (d : decode cc pc = .ok (.dup_x2, 1)) (K : XW G n ad w a b (pc + 1) lv (v :: u :: t :: v :: st)) : XW G n ad w a b pc lv (v :: u :: t :: st) :=
  xr_lift C (fun _ _ _ _ _ _ _ _ _ _ _ _ _ ls hx hb hl k => lv_dup_x2 hx hb d hc hc2 hc3 (k ls hl)) K
theorem xr_dup2 (C : XC G L D cA base cc nL own R) {v u : Value} (hc : v.category = 1) (hc2 : u.category = 1) (d : decode cc pc = .ok (.dup2, 1)) (K : XW G n ad w a b (pc + 1) lv (v :: u :: v :: u :: st)) : XW G n ad w a b pc lv (v :: u :: st) :=
  xr_lift C (fun _ _ _ _ _ _ _ _ _ _ _ _ _ ls hx hb hl k => lv_dup2_11 hx hb d hc hc2 (k ls hl)) K
theorem xr_if_eq (C : XC G L D cA base cc nL own R) {x : Int32} {off : Int} {tgt : Nat} (d : decode cc pc = .ok (.ifCond .eq off, 3)) (ht : (pc : Int) + off = (tgt : Int)) (Kt : x = 0 → XW G n ad w a b tgt lv st) (Kf : ¬ x = 0 → XW G n ad w a b (pc + 3) lv st) : XW G n ad w a b pc lv (.int x :: st) :=
  xr_lift2 C (fun _ _ _ _ _ _ _ _ _ _ _ _ _ ls hx hb kt kf => lv_if_eq hx hb d ht kt kf) Kt Kf
theorem xr_icmp_eq (C : XC G L D cA base cc nL own R) {x y : Int32} {off : Int} {tgt : Nat} (d : decode cc pc = .ok (.if_icmp .eq off, 3)) (ht : (pc : Int) + off = (tgt : Int)) (Kt : x = y → XW G n ad w a b tgt lv st) (Kf : ¬ x = y → XW G n ad w a b (pc + 3) lv st) : XW G n ad w a b pc lv (.int y :: .int x :: st) :=
  xr_lift2 C (fun _ _ _ _ _ _ _ _ _ _ _ _ _ ls hx hb kt kf => lv_icmp_eq hx hb d ht kt kf) Kt Kf
theorem xz_if_eq (C : XC G L D cA base cc nL own R) {x : Int} {off : Int} {tgt : Nat} (d : decode cc pc = .ok (.ifCond .eq off, 3)) (ht : (pc : Int) + off = (tgt : Int)) (hx9 : -2147483648 ≤ x ∧ x < 2147483648) (Kt : x = 0 → XW G n ad w a b tgt lv st) (Kf : ¬ x = 0 → XW G n ad w a b (pc + 3) lv st) : XW G n ad w a b pc lv (.int (zI x) :: st) :=
  xr_if_eq C d ht (fun q => Kt ((show _ ↔ _ from zI_inj hx9 (by omega)).mp q)) (fun q => Kf (fun h => q ((show _ ↔ _ from zI_inj hx9 (by omega)).mpr h)))
theorem xz_icmp_eq (C : XC G L D cA base cc nL own R) {x y : Int} {off : Int} {tgt : Nat} (d : decode cc pc = .ok (.if_icmp .eq off, 3)) (ht : (pc : Int) + off = (tgt : Int)) (hx9 : -2147483648 ≤ x ∧ x < 2147483648) (hy9 : -2147483648 ≤ y ∧ y < 2147483648) (Kt : x = y → XW G n ad w a b tgt lv st) (Kf : ¬ x = y → XW G n ad w a b (pc + 3) lv st) : XW G n ad w a b pc lv (.int (zI y) :: .int (zI x) :: st) :=
  xr_icmp_eq C d ht (fun q => Kt ((zI_inj hx9 hy9).mp q)) (fun q => Kf (fun h => q ((zI_inj hx9 hy9).mpr h)))
theorem xr_if_ne (C : XC G L D cA base cc nL own R) {x : Int32} {off : Int} {tgt : Nat} (d : decode cc pc = .ok (.ifCond .ne off, 3)) (ht : (pc : Int) + off = (tgt : Int)) (Kt : ¬ x = 0 → XW G n ad w a b tgt lv st) (Kf : x = 0 → XW G n ad w a b (pc + 3) lv st) : XW G n ad w a b pc lv (.int x :: st) :=
  xr_lift2 C (fun _ _ _ _ _ _ _ _ _ _ _ _ _ ls hx hb kt kf => lv_if_ne hx hb d ht kt kf) Kt Kf
theorem xr_icmp_ne (C : XC G L D cA base cc nL own R) {x y : Int32} {off : Int} {tgt : Nat} (d : decode cc pc = .ok (.if_icmp .ne off, 3)) (ht : (pc : Int) + off = (tgt : Int)) (Kt : ¬ x = y → XW G n ad w a b tgt lv st) (Kf : x = y → XW G n ad w a b (pc + 3) lv st) : XW G n ad w a b pc lv (.int y :: .int x :: st) :=
  xr_lift2 C (fun _ _ _ _ _ _ _ _ _ _ _ _ _ ls hx hb kt kf => lv_icmp_ne hx hb d ht kt kf) Kt Kf
theorem xz_if_ne (C : XC G L D cA base cc nL own R) {x : Int} {off : Int} {tgt : Nat} (d : decode cc pc = .ok (.ifCond .ne off, 3)) (ht : (pc : Int) + off = (tgt : Int)) (hx9 : -2147483648 ≤ x ∧ x < 2147483648) (Kt : ¬ x = 0 → XW G n ad w a b tgt lv st) (Kf : x = 0 → XW G n ad w a b (pc + 3) lv st) : XW G n ad w a b pc lv (.int (zI x) :: st) :=
  xr_if_ne C d ht (fun q => Kt (fun h => q ((show _ ↔ _ from zI_inj hx9 (by omega)).mpr h))) (fun q => Kf ((show _ ↔ _ from zI_inj hx9 (by omega)).mp q))
theorem xz_icmp_ne (C : XC G L D cA base cc nL own R) {x y : Int} {off : Int} {tgt : Nat} (d : decode cc pc = .ok (.if_icmp .ne off, 3)) (ht : (pc : Int) + off = (tgt : Int)) (hx9 : -2147483648 ≤ x ∧ x < 2147483648) (hy9 : -2147483648 ≤ y ∧ y < 2147483648) (Kt : ¬ x = y → XW G n ad w a b tgt lv st) (Kf : x = y → XW G n ad w a b (pc + 3) lv st) : XW G n ad w a b pc lv (.int (zI y) :: .int (zI x) :: st) :=
  xr_icmp_ne C d ht (fun q => Kt (fun h => q ((zI_inj hx9 hy9).mpr h))) (fun q => Kf ((zI_inj hx9 hy9).mp q))
theorem xr_if_lt (C : XC G L D cA base cc nL own R) {x : Int32} {off : Int} {tgt : Nat} (d : decode cc pc = .ok (.ifCond .lt off, 3)) (ht : (pc : Int) + off = (tgt : Int)) (Kt : x < 0 → XW G n ad w a b tgt lv st) (Kf : ¬ x < 0 → XW G n ad w a b (pc + 3) lv st) : XW G n ad w a b pc lv (.int x :: st) :=
  xr_lift2 C (fun _ _ _ _ _ _ _ _ _ _ _ _ _ ls hx hb kt kf => lv_if_lt hx hb d ht kt kf) Kt Kf
theorem xr_icmp_lt (C : XC G L D cA base cc nL own R) {x y : Int32} {off : Int} {tgt : Nat} (d : decode cc pc = .ok (.if_icmp .lt off, 3)) (ht : (pc : Int) + off = (tgt : Int)) (Kt : x < y → XW G n ad w a b tgt lv st) (Kf : ¬ x < y → XW G n ad w a b (pc + 3) lv st) : XW G n ad w a b pc lv (.int y :: .int x :: st) :=
  xr_lift2 C (fun _ _ _ _ _ _ _ _ _ _ _ _ _ ls hx hb kt kf => lv_icmp_lt hx hb d ht kt kf) Kt Kf
theorem xz_if_lt (C : XC G L D cA base cc nL own R) {x : Int} {off : Int} {tgt : Nat} (d : decode cc pc = .ok (.ifCond .lt off, 3)) (ht : (pc : Int) + off = (tgt : Int)) (hx9 : -2147483648 ≤ x ∧ x < 2147483648) (Kt : x < 0 → XW G n ad w a b tgt lv st) (Kf : ¬ x < 0 → XW G n ad w a b (pc + 3) lv st) : XW G n ad w a b pc lv (.int (zI x) :: st) :=
  xr_if_lt C d ht (fun q => Kt ((show _ ↔ _ from zI_lt hx9 (by omega)).mp q)) (fun q => Kf (fun h => q ((show _ ↔ _ from zI_lt hx9 (by omega)).mpr h)))
theorem xz_icmp_lt (C : XC G L D cA base cc nL own R) {x y : Int} {off : Int} {tgt : Nat} (d : decode cc pc = .ok (.if_icmp .lt off, 3)) (ht : (pc : Int) + off = (tgt : Int)) (hx9 : -2147483648 ≤ x ∧ x < 2147483648) (hy9 : -2147483648 ≤ y ∧ y < 2147483648) (Kt : x < y → XW G n ad w a b tgt lv st) (Kf : ¬ x < y → XW G n ad w a b (pc + 3) lv st) : XW G n ad w a b pc lv (.int (zI y) :: .int (zI x) :: st) :=
  xr_icmp_lt C d ht (fun q => Kt ((zI_lt hx9 hy9).mp q)) (fun q => Kf (fun h => q ((zI_lt hx9 hy9).mpr h)))
theorem xr_if_ge (C : XC G L D cA base cc nL own R) {x : Int32} {off : Int} {tgt : Nat} (d : decode cc pc = .ok (.ifCond .ge off, 3)) (ht : (pc : Int) + off = (tgt : Int)) (Kt : 0 ≤ x → XW G n ad w a b tgt lv st) (Kf : ¬ 0 ≤ x → XW G n ad w a b (pc + 3) lv st) : XW G n ad w a b pc lv (.int x :: st) :=
  xr_lift2 C (fun _ _ _ _ _ _ _ _ _ _ _ _ _ ls hx hb kt kf => lv_if_ge hx hb d ht kt kf) Kt Kf
theorem xr_icmp_ge (C : XC G L D cA base cc nL own R) {x y : Int32} {off : Int} {tgt : Nat} (d : decode cc pc = .ok (.if_icmp .ge off, 3)) (ht : (pc : Int) + off = (tgt : Int)) (Kt : y ≤ x → XW G n ad w a b tgt lv st) (Kf : ¬ y ≤ x → XW G n ad w a b (pc + 3) lv st) : XW G n ad w a b pc lv (.int y :: .int x :: st) :=
  xr_lift2 C (fun _ _ _ _ _ _ _ _ _ _ _ _ _ ls hx hb kt kf => lv_icmp_ge hx hb d ht kt kf) Kt Kf
theorem xz_if_ge (C : XC G L D cA base cc nL own R) {x : Int} {off : Int} {tgt : Nat} (d : decode cc pc = .ok (.ifCond .ge off, 3)) (ht : (pc : Int) + off = (tgt : Int)) (hx9 : -2147483648 ≤ x ∧ x < 2147483648) (Kt : 0 ≤ x → XW G n ad w a b tgt lv st) (Kf : ¬ 0 ≤ x → XW G n ad w a b (pc + 3) lv st) : XW G n ad w a b pc lv (.int (zI x) :: st) :=
  xr_if_ge C d ht (fun q => Kt ((show _ ↔ _ from zI_le (by omega) hx9).mp q)) (fun q => Kf (fun h => q ((show _ ↔ _ from zI_le (by omega) hx9).mpr h)))
theorem xz_icmp_ge (C : XC G L D cA base cc nL own R) {x y : Int} {off : Int} {tgt : Nat} (d : decode cc pc = .ok (.if_icmp .ge off, 3)) (ht : (pc : Int) + off = (tgt : Int)) (hx9 : -2147483648 ≤ x ∧ x < 2147483648) (hy9 : -2147483648 ≤ y ∧ y < 2147483648) (Kt : y ≤ x → XW G n ad w a b tgt lv st) (Kf : ¬ y ≤ x → XW G n ad w a b (pc + 3) lv st) : XW G n ad w a b pc lv (.int (zI y) :: .int (zI x) :: st) :=
  xr_icmp_ge C d ht (fun q => Kt ((zI_le hy9 hx9).mp q)) (fun q => Kf (fun h => q ((zI_le hy9 hx9).mpr h)))
theorem xr_if_gt (C : XC G L D cA base cc nL own R) {x : Int32} {off : Int} {tgt : Nat} (d : decode cc pc = .ok (.ifCond .gt off, 3)) (ht : (pc : Int) + off = (tgt : Int)) (Kt : 0 < x → XW G n ad w a b tgt lv st) (Kf : ¬ 0 < x → XW G n ad w a b (pc + 3) lv st) : XW G n ad w a b pc lv (.int x :: st) :=
  xr_lift2 C (fun _ _ _ _ _ _ _ _ _ _ _ _ _ ls hx hb kt kf => lv_if_gt hx hb d ht kt kf) Kt Kf
theorem xr_icmp_gt (C : XC G L D cA base cc nL own R) {x y : Int32} {off : Int} {tgt : Nat} (d : decode cc pc = .ok (.if_icmp .gt off, 3)) (ht : (pc : Int) + off = (tgt : Int)) (Kt : y < x → XW G n ad w a b tgt lv st) (Kf : ¬ y < x → XW G n ad w a b (pc + 3) lv st) : XW G n ad w a b pc lv (.int y :: .int x :: st) :=
  xr_lift2 C (fun _ _ _ _ _ _ _ _ _ _ _ _ _ ls hx hb kt kf => lv_icmp_gt hx hb d ht kt kf) Kt Kf
theorem xz_if_gt (C : XC G L D cA base cc nL own R) {x : Int} {off : Int} {tgt : Nat} (d : decode cc pc = .ok (.ifCond .gt off, 3)) (ht : (pc : Int) + off = (tgt : Int)) (hx9 : -2147483648 ≤ x ∧ x < 2147483648) (Kt : 0 < x → XW G n ad w a b tgt lv st) (Kf : ¬ 0 < x → XW G n ad w a b (pc + 3) lv st) : XW G n ad w a b pc lv (.int (zI x) :: st) :=
  xr_if_gt C d ht (fun q => Kt ((show _ ↔ _ from zI_lt (by omega) hx9).mp q)) (fun q => Kf (fun h => q ((show _ ↔ _ from zI_lt (by omega) hx9).mpr h)))
theorem xz_icmp_gt (C : XC G L D cA base cc nL own R) {x y : Int} {off : Int} {tgt : Nat} (d : decode cc pc = .ok (.if_icmp .gt off, 3)) (ht : (pc : Int) + off = (tgt : Int)) (hx9 : -2147483648 ≤ x ∧ x < 2147483648) (hy9 : -2147483648 ≤ y ∧ y < 2147483648) (Kt : y < x → XW G n ad w a b tgt lv st) (Kf : ¬ y < x → XW G n ad w a b (pc + 3) lv st) : XW G n ad w a b pc lv (.int (zI y) :: .int (zI x) :: st) :=
  xr_icmp_gt C d ht (fun q => Kt ((zI_lt hy9 hx9).mp q)) (fun q => Kf (fun h => q ((zI_lt hy9 hx9).mpr h)))
theorem xr_if_le (C : XC G L D cA base cc nL own R) {x : Int32} {off : Int} {tgt : Nat} (d : decode cc pc = .ok (.ifCond .le off, 3)) (ht : (pc : Int) + off = (tgt : Int)) (Kt : x ≤ 0 → XW G n ad w a b tgt lv st) (Kf : ¬ x ≤ 0 → XW G n ad w a b (pc + 3) lv st) : XW G n ad w a b pc lv (.int x :: st) :=
  xr_lift2 C (fun _ _ _ _ _ _ _ _ _ _ _ _ _ ls hx hb kt kf => lv_if_le hx hb d ht kt kf) Kt Kf
theorem xr_icmp_le (C : XC G L D cA base cc nL own R) {x y : Int32} {off : Int} {tgt : Nat} (d : decode cc pc = .ok (.if_icmp .le off, 3)) (ht : (pc : Int) + off = (tgt : Int)) (Kt : x ≤ y → XW G n ad w a b tgt lv st) (Kf : ¬ x ≤ y → XW G n ad w a b (pc + 3) lv st) : XW G n ad w a b pc lv (.int y :: .int x :: st) :=
  xr_lift2 C (fun _ _ _ _ _ _ _ _ _ _ _ _ _ ls hx hb kt kf => lv_icmp_le hx hb d ht kt kf) Kt Kf
theorem xz_if_le (C : XC G L D cA base cc nL own R) {x : Int} {off : Int} {tgt : Nat} (d : decode cc pc = .ok (.ifCond .le off, 3)) (ht : (pc : Int) + off = (tgt : Int)) (hx9 : -2147483648 ≤ x ∧ x < 2147483648) (Kt : x ≤ 0 → XW G n ad w a b tgt lv st) (Kf : ¬ x ≤ 0 → XW G n ad w a b (pc + 3) lv st) : XW G n ad w a b pc lv (.int (zI x) :: st) :=
  xr_if_le C d ht (fun q => Kt ((show _ ↔ _ from zI_le hx9 (by omega)).mp q)) (fun q => Kf (fun h => q ((show _ ↔ _ from zI_le hx9 (by omega)).mpr h)))
theorem xz_icmp_le (C : XC G L D cA base cc nL own R) {x y : Int} {off : Int} {tgt : Nat} (d : decode cc pc = .ok (.if_icmp .le off, 3)) (ht : (pc : Int) + off = (tgt : Int)) (hx9 : -2147483648 ≤ x ∧ x < 2147483648) (hy9 : -2147483648 ≤ y ∧ y < 2147483648) (Kt : x ≤ y → XW G n ad w a b tgt lv st) (Kf : ¬ x ≤ y → XW G n ad w a b (pc + 3) lv st) : XW G n ad w a b pc lv (.int (zI y) :: .int (zI x) :: st) :=
  xr_icmp_le C d ht (fun q => Kt ((zI_le hx9 hy9).mp q)) (fun q => Kf (fun h => q ((zI_le hx9 hy9).mpr h)))
theorem xr_goto (C : XC G L D cA base cc nL own R) {off : Int} {tgt : Nat} (d : decode cc pc = .ok (.goto off, 3)) (ht : (pc : Int) + off = (tgt : Int)) (K : XW G n ad w a b tgt lv st) : XW G n ad w a b pc lv st :=
  xr_lift C (fun _ _ _ _ _ _ _ _ _ _ _ _ _ ls hx hb hl k => lv_goto hx hb d ht (k ls hl)) K
theorem xr_tableOut (C : XC G L D cA base cc nL own R) {dflt lo hi : Int} {offs : Array Int} {len : Nat} {x : Int32} {tgt : Nat} (d : decode cc pc = .ok (.tableswitch dflt lo hi offs, len)) (h : x.toInt < lo ∨ hi < x.toInt) (ht : (pc : Int) + dflt = (tgt : Int)) (K : XW G n ad w a b tgt lv st) : XW G n ad w a b pc lv (.int x :: st) :=
  xr_lift C (fun _ _ _ _ _ _ _ _ _ _ _ _ _ ls hx hb hl k => lv_tableOut hx hb d h ht (k ls hl)) K
theorem xr_tableIn (C : XC G L D cA base cc nL own R) {dflt lo hi : Int} {offs : Array Int} {len : Nat} {x : Int32} {off : Int} {tgt : Nat} (d : decode cc pc = .ok (.tableswitch dflt lo hi offs, len)) (h1 : ¬ x.toInt < lo) (h2 : ¬ hi < x.toInt) (ho : offs[(x.toInt - lo).toNat]? = some off) (ht : (pc : Int) + off = (tgt : Int)) (K : XW G n ad w a b tgt lv st) : XW G n ad w a b pc lv (.int x :: st) :=
  xr_lift C (fun _ _ _ _ _ _ _ _ _ _ _ _ _ ls hx hb hl k => lv_tableIn hx hb d h1 h2 ho ht (k ls hl)) K
end XL
end
section
/-! the heap: fields, arrays -/
/-- a field by its place in the pool of own: it is the fi-th of the ci-th class -/
def xFld (own : String) (index ci fi : Nat) (fin : Bool) (ty : FieldType) : Prop := ∃ (C : String) (T : u_T) (N : Nat) (ty0 : Nat → FieldType), vwCl[ci]? = some (C, T, N) ∧ (∀ w ∈ u_ws C T N, w ∈ xTs) ∧ fi < N ∧ Cond.fieldLink own index (T fi).1 (T fi).2.1 (T fi).2.2.1 ∈ xTs ∧ parseFieldDescriptor (T fi).2.2.1 = some ty ∧ (T fi).2.2.2 = fin ∧ (∀ k, k < N → parseFieldDescriptor (T k).2.2.1 = some (ty0 k)) ∧ (∀ a, a < N → ∀ b, b < N → a ≠ b → (T a).2.1 ≠ (T b).2.1) ∧ (fin = true → (T fi).1 = own)
def xIA (c : ClassId) (N : Nat) (f : Nat → Int) : va_E := .inl (c, N, .inl (fun j => zI (f j)))
def xLA (c : ClassId) (N : Nat) (f : Nat → Int64) : va_E := .inl (c, N, .inr (.inl f))
def xOb (ci : Nat) (fs : List Value) : va_E := .inr (ci, fs)
theorem zI_upd (f : Nat → Int) (k : Nat) (z : Int) : upd (fun j => zI (f j)) k (zI z) = fun j => zI (va_up f k z j) := by
  funext j
  unfold upd va_up
  split <;> rfl
section XH
variable {G : xG} {L : Launch} {D : va_G} {cA : Nat → ClassId} {base : Nat} {cc : ByteArray} {nL : Nat} {own : String} {R : Room}
variable {n : Nat} {ad : Nat → Nat} {w : Nat → va_E} {a b pc : Nat} {lv : Nat → Option Value} {st : List Value}
theorem xr_get (C : XC G L D cA base cc nL own R) {index ci fi k : Nat} {fin : Bool} {ty : FieldType} {fs : List Value} {v : Value} (F : xFld own index ci fi fin ty) (hw : w k = xOb ci fs) (hk : k < n) (hv : fs[fi]? = some v) (d : decode cc pc = .ok (.getfield index, 3))
    (K : XW G n ad w a b (pc + 3) lv (v :: st)) : XW G n ad w a b pc lv (.ref (ad k) :: st) := by
  obtain ⟨p, l, e, R1, s, m, args, below, meth, c, Q, nL1, D1, base1⟩ := G
  obtain ⟨rfl, rfl, rfl, rfl, rfl, hx, hb, hml, hown, hts, hK, hlocks, hbase, hgl⟩ := C
  intro H locs ls hP hD hS hl
  obtain ⟨Cn, T, N, ty0, f1, f2, f3, f4, f5, f6, f7, f8, f9⟩ := F
  exact va_get hx hb hts f2 hown hK hP k (xws_at hk hw) f1 fi f3 (hts _ f4) (fun _ h9 => h9) hv d (K H locs ls hP hD hS hl)
theorem xr_put (C : XC G L D cA base cc nL own R) {index ci fi k : Nat} {ty : FieldType} {fs : List Value} {v : Value} (F : xFld own index ci fi false ty) (hw : w k = xOb ci fs) (hk : k < n) (hn : narrow ty v = v) (hf : fits ty v = true) (hlt : fi < fs.length) (d : decode cc pc = .ok (.putfield index, 3))
    (K : XW G n ad (va_up w k (xOb ci (fs.set fi v))) a b (pc + 3) lv st) : XW G n ad w a b pc lv (v :: .ref (ad k) :: st) := by
  obtain ⟨p, l, e, R1, s, m, args, below, meth, c, Q, nL1, D1, base1⟩ := G
  obtain ⟨rfl, rfl, rfl, rfl, rfl, hx, hb, hml, hown, hts, hK, hlocks, hbase, hgl⟩ := C
  intro H locs ls hP hD hS hl
  obtain ⟨Cn, T, N, ty0, f1, f2, f3, f4, f5, f6, f7, f8, f9⟩ := F
  refine va_put hx hb hts f2 ty0 f7 f8 hown hK hP hD hS k (xws_at hk hw) f1 fi f3 (hts _ f4) (fun _ h9 => h9) f6 f5 hn hf hlt d (fun H1 locs1 hP1 hD1 hS1 => ?_)
  rw [xws_set] at hP1 hD1
  exact K H1 locs1 ls hP1 hD1 hS1 hl
/-- the walk is a constructor's -/
def XIn (G : xG) : Prop := match G with
  | (_, _, _, _, _, _, _, _, meth, _, _, _, _, _) => meth.name = "<init>"
theorem xr_putF (C : XC G L D cA base cc nL own R) (hin : XIn G) {index ci fi k : Nat} {ty : FieldType} {fs : List Value} {v : Value} (F : xFld own index ci fi true ty) (hw : w k = xOb ci fs) (hk : k < n) (hn : narrow ty v = v) (hf : fits ty v = true) (hlt : fi < fs.length) (d : decode cc pc = .ok (.putfield index, 3))
    (K : XW G n ad (va_up w k (xOb ci (fs.set fi v))) a b (pc + 3) lv st) : XW G n ad w a b pc lv (v :: .ref (ad k) :: st) := by
  obtain ⟨p, l, e, R1, s, m, args, below, meth, c, Q, nL1, D1, base1⟩ := G
  obtain ⟨rfl, rfl, rfl, rfl, rfl, hx, hb, hml, hown, hts, hK, hlocks, hbase, hgl⟩ := C
  intro H locs ls hP hD hS hl
  obtain ⟨Cn, T, N, ty0, f1, f2, f3, f4, f5, f6, f7, f8, f9⟩ := F
  refine va_putF hx hb hts f2 ty0 f7 f8 hown hK hP hD hS k (xws_at hk hw) f1 fi f3 (hts _ f4) (fun _ h9 => h9) f6 hin (f9 rfl) f5 hn hf hlt d (fun H1 locs1 hP1 hD1 hS1 => ?_)
  rw [xws_set] at hP1 hD1
  exact K H1 locs1 ls hP1 hD1 hS1 hl
theorem xz_iald (C : XC G L D cA base cc nL own R) {k N : Nat} {f : Nat → Int} {i : Int} (hw : w k = xIA (cA 0) N f) (hk : k < n) (hi : 0 ≤ i ∧ i < N) (hN : N < 2147483648) (d : decode cc pc = .ok (.iaload, 1))
    (K : XW G n ad w a b (pc + 1) lv (.int (zI (f i.toNat)) :: st)) : XW G n ad w a b pc lv (.int (zI i) :: .ref (ad k) :: st) := by
  obtain ⟨p, l, e, R1, s, m, args, below, meth, c, Q, nL1, D1, base1⟩ := G
  obtain ⟨rfl, rfl, rfl, rfl, rfl, hx, hb, hml, hown, hts, hK, hlocks, hbase, hgl⟩ := C
  intro H locs ls hP hD hS hl
  refine va_iald hx hb hK hP k 0 (xws_at hk hw) rfl (zI_in hi hN) d ?_
  rw [zI_clamp (by omega)]
  exact K H locs ls hP hD hS hl
theorem xz_zald (C : XC G L D cA base cc nL own R) {k N : Nat} {f : Nat → Int} {i : Int} (hw : w k = xIA (cA 1) N f) (hk : k < n) (hi : 0 ≤ i ∧ i < N) (hN : N < 2147483648) (d : decode cc pc = .ok (.baload, 1))
    (K : XW G n ad w a b (pc + 1) lv (.int (zI (f i.toNat)) :: st)) : XW G n ad w a b pc lv (.int (zI i) :: .ref (ad k) :: st) := by
  obtain ⟨p, l, e, R1, s, m, args, below, meth, c, Q, nL1, D1, base1⟩ := G
  obtain ⟨rfl, rfl, rfl, rfl, rfl, hx, hb, hml, hown, hts, hK, hlocks, hbase, hgl⟩ := C
  intro H locs ls hP hD hS hl
  refine va_zald hx hb hK hP k 1 (xws_at hk hw) rfl (zI_in hi hN) d ?_
  rw [zI_clamp (by omega)]
  exact K H locs ls hP hD hS hl
theorem xr_lald (C : XC G L D cA base cc nL own R) {k N : Nat} {f : Nat → Int64} {i : Int} (hw : w k = xLA (cA 2) N f) (hk : k < n) (hi : 0 ≤ i ∧ i < N) (hN : N < 2147483648) (d : decode cc pc = .ok (.laload, 1))
    (K : XW G n ad w a b (pc + 1) lv (.long (f i.toNat) :: st)) : XW G n ad w a b pc lv (.int (zI i) :: .ref (ad k) :: st) := by
  obtain ⟨p, l, e, R1, s, m, args, below, meth, c, Q, nL1, D1, base1⟩ := G
  obtain ⟨rfl, rfl, rfl, rfl, rfl, hx, hb, hml, hown, hts, hK, hlocks, hbase, hgl⟩ := C
  intro H locs ls hP hD hS hl
  refine va_lald hx hb hK hP k 2 (xws_at hk hw) rfl (zI_in hi hN) d ?_
  rw [zI_clamp (by omega)]
  exact K H locs ls hP hD hS hl
theorem xz_iast (C : XC G L D cA base cc nL own R) {k N : Nat} {f : Nat → Int} {i x : Int} (hw : w k = xIA (cA 0) N f) (hk : k < n) (hi : 0 ≤ i ∧ i < N) (hN : N < 2147483648) (d : decode cc pc = .ok (.iastore, 1))
    (K : XW G n ad (va_up w k (xIA (cA 0) N (va_up f i.toNat x))) a b (pc + 1) lv st) : XW G n ad w a b pc lv (.int (zI x) :: .int (zI i) :: .ref (ad k) :: st) := by
  obtain ⟨p, l, e, R1, s, m, args, below, meth, c, Q, nL1, D1, base1⟩ := G
  obtain ⟨rfl, rfl, rfl, rfl, rfl, hx, hb, hml, hown, hts, hK, hlocks, hbase, hgl⟩ := C
  intro H locs ls hP hD hS hl
  refine va_iast hx hb hK hP hD hS k 0 (xws_at hk hw) rfl (zI_in hi hN) d (fun H1 locs1 hP1 hD1 hS1 => ?_)
  rw [xws_set, zI_clamp (by omega), zI_upd] at hP1 hD1
  exact K H1 locs1 ls hP1 hD1 hS1 hl
theorem zI_nar {x : Int} (h : x = 0 ∨ x = 1) : vp_nar .boolean (zI x) = zI x := by
  rcases h with rfl | rfl <;> decide
theorem xz_zast (C : XC G L D cA base cc nL own R) {k N : Nat} {f : Nat → Int} {i x : Int} (hw : w k = xIA (cA 1) N f) (hk : k < n) (hi : 0 ≤ i ∧ i < N) (hN : N < 2147483648) (hx9 : x = 0 ∨ x = 1) (d : decode cc pc = .ok (.bastore, 1))
    (K : XW G n ad (va_up w k (xIA (cA 1) N (va_up f i.toNat x))) a b (pc + 1) lv st) : XW G n ad w a b pc lv (.int (zI x) :: .int (zI i) :: .ref (ad k) :: st) := by
  obtain ⟨p, l, e, R1, s, m, args, below, meth, c, Q, nL1, D1, base1⟩ := G
  obtain ⟨rfl, rfl, rfl, rfl, rfl, hx, hb, hml, hown, hts, hK, hlocks, hbase, hgl⟩ := C
  intro H locs ls hP hD hS hl
  refine va_zast hx hb hK hP hD hS k 1 (xws_at hk hw) rfl (zI_in hi hN) d (fun H1 locs1 hP1 hD1 hS1 => ?_)
  rw [xws_set, zI_clamp (by omega), zI_nar hx9, zI_upd] at hP1 hD1
  exact K H1 locs1 ls hP1 hD1 hS1 hl
theorem xr_last (C : XC G L D cA base cc nL own R) {k N : Nat} {f : Nat → Int64} {i : Int} {x : Int64} (hw : w k = xLA (cA 2) N f) (hk : k < n) (hi : 0 ≤ i ∧ i < N) (hN : N < 2147483648) (d : decode cc pc = .ok (.lastore, 1))
    (K : XW G n ad (va_up w k (xLA (cA 2) N (vp_updL f i.toNat x))) a b (pc + 1) lv st) : XW G n ad w a b pc lv (.long x :: .int (zI i) :: .ref (ad k) :: st) := by
  obtain ⟨p, l, e, R1, s, m, args, below, meth, c, Q, nL1, D1, base1⟩ := G
  obtain ⟨rfl, rfl, rfl, rfl, rfl, hx, hb, hml, hown, hts, hK, hlocks, hbase, hgl⟩ := C
  intro H locs ls hP hD hS hl
  refine va_last hx hb hK hP hD hS k 2 (xws_at hk hw) rfl (zI_in hi hN) d (fun H1 locs1 hP1 hD1 hS1 => ?_)
  rw [xws_set, zI_clamp (by omega)] at hP1 hD1
  exact K H1 locs1 ls hP1 hD1 hS1 hl
theorem xz_alen (C : XC G L D cA base cc nL own R) {k N t0 : Nat} {f : Nat → Int} (ht0 : t0 < 3) (hw : w k = xIA (cA t0) N f) (hk : k < n) (d : decode cc pc = .ok (.arraylength, 1))
    (K : XW G n ad w a b (pc + 1) lv (.int (zI (N : Int)) :: st)) : XW G n ad w a b pc lv (.ref (ad k) :: st) := by
  obtain ⟨p, l, e, R1, s, m, args, below, meth, c, Q, nL1, D1, base1⟩ := G
  obtain ⟨rfl, rfl, rfl, rfl, rfl, hx, hb, hml, hown, hts, hK, hlocks, hbase, hgl⟩ := C
  intro H locs ls hP hD hS hl
  obtain ⟨ty, hty⟩ : ∃ ty, (xtys cA)[t0]? = some (cA t0, ty) := by
    match t0, ht0 with
    | 0, _ => exact ⟨_, rfl⟩
    | 1, _ => exact ⟨_, rfl⟩
    | 2, _ => exact ⟨_, rfl⟩
  exact va_alen hx hb hK hP k t0 (xws_at hk hw) hty (zI_nat N) d (K H locs ls hP hD hS hl)
end XH
/-! contracts -/
def XI (D : va_G) (cA : Nat → ClassId) (base n : Nat) (ad : Nat → Nat) (w : Nat → va_E) (U : State) : Prop := base ≤ U.heap.size ∧ va_K D vwCl (xtys cA) U ∧ va_P D vwCl (xws n ad w) U.heap ∧ va_D (xA base) (xws n ad w) ∧ XGl base U
abbrev xPost := Option Value → Nat → (Nat → Nat) → (Nat → va_E) → Prop
abbrev xPosx := String → Nat → (Nat → Nat) → (Nat → va_E) → Prop
def xQ (D : va_G) (base : Nat) (post : xPost) : Array Value → State → Outcome → State → Prop := fun _ s0 oc t => ∃ (v : Option Value) (n' : Nat) (ad' : Nat → Nat) (w' : Nat → va_E), oc = .returned v ∧ post v n' ad' w' ∧ va_P D vwCl (xws n' ad' w') t.heap ∧ va_D (xA base) (xws n' ad' w') ∧ va_F (xA base) s0 t
def xX (D : va_G) (base : Nat) (xp : xPosx) : String → State → State → Prop := fun E s0 t => ∃ (n' : Nat) (ad' : Nat → Nat) (w' : Nat → va_E), xp E n' ad' w' ∧ va_P D vwCl (xws n' ad' w') t.heap ∧ va_D (xA base) (xws n' ad' w') ∧ va_F (xA base) s0 t
def xwd (y : MethodName) (bytes : ByteArray) (maxL : Nat) (ret : Option FieldType) : List Cond := Cond.code y bytes maxL ret :: xTs
def XM (L : Launch) (D : va_G) (cA : Nat → ClassId) (base : Nat) (y : MethodName) (bytes : ByteArray) (maxL : Nat) (ret : Option FieldType) (rm : Room) (av : List Value) (n : Nat) (ad : Nat → Nat) (w : Nat → va_E) (post : xPost) (xp : xPosx) : Prop :=
  vx_Met L y (xwd y bytes maxL ret) rm (va_Pc av (XI D cA base n ad w)) (xQ D base post) (xX D base xp) rm.cells rm.slots (xA base)
/-- what a walk owes at its end -/
def XE (G : xG) (D9 : va_G) (base9 : Nat) (post : xPost) (xp : xPosx) (mc ms : Nat) (ret : Option FieldType) : Prop := match G with
  | (_, _, _, _, s, _, args, below, meth, c, Q, _, D, base) => Q = vx_MQ below (xQ D9 base9 post) (xX D9 base9 xp) args s mc ms (xA base9) ∧ meth.sig.returnType = ret ∧ (∀ x ∈ c.exceptionTable.toList, False)
/-- an exception of class E is thrown over the frame -/
def XX (G : xG) (n : Nat) (ad : Nat → Nat) (w : Nat → va_E) (a b pc : Nat) (lv : Nat → Option Value) (st : List Value) (E : String) : Prop := match G with
  | (p, l, e, R, s, m, args, below, meth, c, Q, nL, D, base) => ∀ (H : Heap) (locs : List Loc) (ls : Array Slot) (q : Addr) (ce : Cell), va_P D vwCl (xws n ad w) H → va_D (xA base) (xws n ad w) → va_S (xA base) s.heap H locs → xlv ls nL lv → H[q]? = some ce → ce.vm = .none → s.vm.findClass E = some ce.cls → vx_W p l e R s m args below meth c H locs a b Q (F0 m pc ls st) q
section XK
variable {G : xG} {L : Launch} {D : va_G} {cA : Nat → ClassId} {base : Nat} {cc : ByteArray} {nL : Nat} {own : String} {R : Room}
variable {n : Nat} {ad : Nat → Nat} {w : Nat → va_E} {a b pc : Nat} {lv : Nat → Option Value} {st : List Value}
variable {post : xPost} {xp : xPosx} {mc ms : Nat} {ret : Option FieldType}
theorem xr_iret (C : XC G L D cA base cc nL own R) (E : XE G D base post xp mc ms (some .int)) {v : Int32} (hp : post (some (.int v)) n ad w) (h1 : a ≤ mc) (h2 : b ≤ ms) (d : decode cc pc = .ok (.ireturn, 1)) : XW G n ad w a b pc lv [.int v] := by
  obtain ⟨p, l, e, R1, s, m, args, below, meth, c, Q, nL1, D1, base1⟩ := G
  obtain ⟨rfl, rfl, rfl, rfl, rfl, hx, hb, hml, hown, hts, hK, hlocks, hbase, hgl⟩ := C
  intro H locs ls hP hD hS hl
  obtain ⟨rfl, hr, -⟩ := E
  exact W.widen h1 h2 (vx_ret (W.iret hx hb hr (fun t ht hW => ⟨_, n, ad, w, rfl, hp, by rw [ht]; exact hP, hD, hS.F ht⟩) hS.2.2 d hlocks))
theorem xr_vret (C : XC G L D cA base cc nL own R) (E : XE G D base post xp mc ms (none)) (hp : post (none) n ad w) (h1 : a ≤ mc) (h2 : b ≤ ms) (d : decode cc pc = .ok (.return_, 1)) : XW G n ad w a b pc lv [] := by
  obtain ⟨p, l, e, R1, s, m, args, below, meth, c, Q, nL1, D1, base1⟩ := G
  obtain ⟨rfl, rfl, rfl, rfl, rfl, hx, hb, hml, hown, hts, hK, hlocks, hbase, hgl⟩ := C
  intro H locs ls hP hD hS hl
  obtain ⟨rfl, hr, -⟩ := E
  exact W.widen h1 h2 (vx_ret (W.vret hx hb hr (fun t ht hW => ⟨_, n, ad, w, rfl, hp, by rw [ht]; exact hP, hD, hS.F ht⟩) hS.2.2 d hlocks))
theorem xr_zret (C : XC G L D cA base cc nL own R) (E : XE G D base post xp mc ms (some .boolean)) {x : Int} (hz : x = 0 ∨ x = 1) (hp : post (some (.int (zI x))) n ad w) (h1 : a ≤ mc) (h2 : b ≤ ms) (d : decode cc pc = .ok (.ireturn, 1)) : XW G n ad w a b pc lv [.int (zI x)] := by
  obtain ⟨p, l, e, R1, s, m, args, below, meth, c, Q, nL1, D1, base1⟩ := G
  obtain ⟨rfl, rfl, rfl, rfl, rfl, hx, hb, hml, hown, hts, hK, hlocks, hbase, hgl⟩ := C
  intro H locs ls hP hD hS hl
  obtain ⟨rfl, hr, -⟩ := E
  exact W.widen h1 h2 (vx_ret (W.zret hx hb hr (by rcases hz with rfl | rfl <;> decide) (fun t ht hW => ⟨_, n, ad, w, rfl, hp, by rw [ht]; exact hP, hD, hS.F ht⟩) hS.2.2 d hlocks))
theorem xx_out (C : XC G L D cA base cc nL own R) (E : XE G D base post xp mc ms ret) {En : String} (hp : xp En n ad w) (h1 : a ≤ mc) (h2 : b ≤ ms) : XX G n ad w a b pc lv st En := by
  obtain ⟨p, l, e, R1, s, m, args, below, meth, c, Q, nL1, D1, base1⟩ := G
  obtain ⟨rfl, rfl, rfl, rfl, rfl, hx, hb, hml, hown, hts, hK, hlocks, hbase, hgl⟩ := C
  obtain ⟨rfl, hr, ht⟩ := E
  intro H locs ls q ce hP hD hS hl hc hv hcl
  exact vx_widen h1 h2 (vx_out (fun x h => (ht x h).elim) hlocks hc hv hcl (fun t h9 _ => ⟨n, ad, w, hp, by rw [h9]; exact hP, hD, hS.F h9⟩) hS.2.2 (Nat.le_refl _) (Nat.le_refl _))
end XK
section XM
variable {L : Launch} {D : va_G} {cA : Nat → ClassId} {base : Nat} {y : MethodName} {bytes : ByteArray} {maxL : Nat} {ret : Option FieldType} {rm : Room} {av : List Value} {n : Nat} {ad : Nat → Nat} {w : Nat → va_E} {post : xPost} {xp : xPosx}
/-- a contract out of a walk -/
theorem xm_of (hy : plainName y.cls = true) (hav : ∀ v ∈ av, v.category = 1) (hlen : (lg_sl av).length ≤ maxL)
    (body : ∀ G : xG, XC G L D cA base bytes maxL y.cls rm → XE G D base post xp rm.cells rm.slots ret → (y.name = "<init>" → XIn G) → XW G n ad w 0 0 0 (fun i => av[i]?) []) : XM L D cA base y bytes maxL ret rm av n ad w post xp := by
  refine vx_ofW (cc := bytes) (maxL := maxL) (ret := ret) hy rfl ?_
  intro p e s m args below meth c s₁ B hml ht hv
  obtain ⟨rfl, h1, h2, h3, h4, h5⟩ := hv
  have hts := atoms_spec (ws := xwd y bytes maxL ret) B.pre
  have K := body (p, L, e, rm, s, m, av.toArray, below, meth, c, vx_MQ below (xQ D base post) (xX D base xp) av.toArray s rm.cells rm.slots (xA base), maxL, D, base)
    ⟨rfl, rfl, rfl, rfl, rfl, B.exec, B.bytes, hml, findClass_of_methodNamed B.named, fun w hw => hts w (List.mem_cons_of_mem _ hw), h2, B.notSynchronized, h1, h5⟩ ⟨rfl, B.returns, ht⟩ (fun h => (name_of_methodNamed B.named B.method).1.trans h)
  have hl := lv_entry av (n := maxL) hlen
  show W p L e rm s m av.toArray below meth c s.heap [] 0 0 _ (entryFrame m av.toArray maxL)
  rw [lg_entry_eq]
  exact K s.heap [] _ h3 h4 va_S.rf (xlv_args hav hl)
/-- a weaker end -/
theorem xm_mono {post2 : xPost} {xp2 : xPosx} (h : XM L D cA base y bytes maxL ret rm av n ad w post xp) (h1 : ∀ v n' ad' w', post v n' ad' w' → post2 v n' ad' w') (h2 : ∀ E n' ad' w', xp E n' ad' w' → xp2 E n' ad' w') : XM L D cA base y bytes maxL ret rm av n ad w post2 xp2 := by
  intro p e g1 g2 g3 s m args below g4 g5 g6 g7
  obtain ⟨k, o, a1, a2, a3, a4⟩ := h p e g1 g2 g3 s m args below g4 g5 g6 g7
  refine ⟨k, o, a1, a2, a3, ?_⟩
  rcases a4 with ⟨⟨v, n', ad', w', b1, b2, b3⟩, L, hL⟩ | ⟨q, ho, E, ce, L, ⟨n', ad', w', b2, b3⟩, r⟩
  · exact Or.inl ⟨⟨v, n', ad', w', b1, h1 _ _ _ _ b2, b3⟩, L, hL⟩
  · exact Or.inr ⟨q, ho, E, ce, L, ⟨n', ad', w', h2 _ _ _ _ b2, b3⟩, r⟩
/-- one that never throws -/
theorem xm_met (h : XM L D cA base y bytes maxL ret rm av n ad w post (fun _ _ _ _ => False)) : Met L y (xwd y bytes maxL ret) rm (va_Pc av (XI D cA base n ad w)) (xQ D base post) rm.cells rm.slots (xA base) := by
  intro p e g1 g2 g3 s m args below g4 g5 g6 g7
  obtain ⟨k, o, a1, a2, a3, a4⟩ := h p e g1 g2 g3 s m args below g4 g5 g6 g7
  refine ⟨k, o, a1, a2, a3, ?_⟩
  rcases a4 with h8 | ⟨q, ho, E, ce, L, ⟨n', ad', w', b2, b3⟩, r⟩
  · exact h8
  · exact b2.elim
end XM
/-! calls -/
theorem XI.blind {D : va_G} {cA : Nat → ClassId} {base n : Nat} {ad : Nat → Nat} {w : Nat → va_E} {av : List Value} : FrameBlind (va_Pc av (XI D cA base n ad w)) := fun a U g mk h => by
  obtain ⟨h0, h1, h2, h3, h4, h5⟩ := h
  exact ⟨h0, h1, va_K.moved (u := U) (U := U.calling g mk a) (Vm.Alike.refl U.vm) h2, h3, h4, XGl.calling h5⟩
theorem XI.at {D : va_G} {cA : Nat → ClassId} {base n : Nat} {ad : Nat → Nat} {w : Nat → va_E} {s U : State} {H : Heap} {locs : List Loc} (hbase : base ≤ s.heap.size) (hK : va_K D vwCl (xtys cA) s) (hP : va_P D vwCl (xws n ad w) H) (hD : va_D (xA base) (xws n ad w)) (hS : va_S (xA base) s.heap H locs) (hgl : XGl base s) (hU : U.heap = H) (hW : s.WarmedH U.vm) : XI D cA base n ad w U :=
  ⟨by rw [hU]; exact Nat.le_trans hbase hS.1, va_K.moved hW.alike hK, by rw [hU]; exact hP, hD, XGl.warm hgl hW (by rw [hU]; exact hS.2.1)⟩
/-- a method by its place in the pool of own -/
def xMw (own : String) (index : Nat) (y : MethodName) (bytes : ByteArray) (maxL : Nat) (ret : Option FieldType) (k : Nat) : Prop := (y.cls ≠ "java/lang/invoke/MethodHandle" ∧ y.cls ≠ "java/lang/invoke/VarHandle" ∧ (parseMethodDescriptor y.desc).map (fun d => d.parameters.length) = some k) ∧ Cond.methodLink own index y ∈ xTs ∧ Cond.initialized y.cls ∈ xTs ∧ Cond.code y bytes maxL ret ∈ xTs
theorem xTs_good {w : Cond} (h : w ∈ xTs) : (w.onTables && w.keeps) = true ∨ ∃ ty, w = .arrayClass ty := good_of_word (List.mem_filter.mp h).2
theorem xwd_good {y : MethodName} {bytes : ByteArray} {maxL : Nat} {ret : Option FieldType} (h : Cond.code y bytes maxL ret ∈ xTs) : GoodIn xTs (xwd y bytes maxL ret) := fun w hw => by
  rcases List.mem_cons.mp hw with rfl | h2
  · exact ⟨h, xTs_good h⟩
  · exact ⟨h2, xTs_good h2⟩
section XCall
variable {G : xG} {L : Launch} {D : va_G} {cA : Nat → ClassId} {base : Nat} {cc : ByteArray} {nL : Nat} {own : String} {R : Room}
variable {n : Nat} {ad : Nat → Nat} {w : Nat → va_E} {a b pc : Nat} {lv : Nat → Option Value} {st : List Value}
variable {index k9 ci maxL : Nat} {y : MethodName} {bytes : ByteArray} {ret : Option FieldType} {rm : Room} {fs As st0 : List Value} {post : xPost} {xp : xPosx}
/-- behind a call that returns or throws -/
theorem xr_back {p : Program} {l : Launch} {e : Env} {R : Room} {s : State} {m : MethodId} {args : Array Value} {below : List Frame} {meth : Method} {c : Code} {Q : State → Prop} {nL : Nat} {D : va_G} {base : Nat} {H : Heap} {locs : List Loc} {ls : Array Slot} {av : Array Value} {mc ms : Nat}
    (hr : vx_Run p l e R s m args below meth c H locs a b mc ms (F0 m pc ls st0) st (xQ D base post av) (xX D base xp) (xA base)) (hS : va_S (xA base) s.heap H locs) (hl : xlv ls nL lv)
    (Kx : ∀ E n' ad' w', xp E n' ad' w' → XX (p, l, e, R, s, m, args, below, meth, c, Q, nL, D, base) n' ad' w' (a + mc) (b + ms) pc lv st E)
    (K : ∀ v n' ad' w', post v n' ad' w' → XW (p, l, e, R, s, m, args, below, meth, c, Q, nL, D, base) n' ad' w' (a + mc) (b + ms) (pc + 3) lv (v.toList ++ st)) : W p l e R s m args below meth c H locs a b Q (F0 m pc ls st0) := by
  intro T hT X
  rcases hr T hT X with ⟨v, st₀, t, T', L, h0, X', hL, e1, e2, ⟨v', n', ad', w', hv, hp, hP', hD', hF⟩, go⟩ | ⟨q, st₀, t, T', L, E, ce, h0, X', hL, e1, e2, ⟨n', ad', w', hp, hP', hD', hF⟩, hce, hcv, hcl, go⟩
  · cases hv
    obtain ⟨k1, k2, k3⟩ := vx_keep h0 e1 hS (fun q _ h => h) (fun q h => h) hL hF
    obtain ⟨t2, a1, b1⟩ := K v n' ad' w' hp T'.heap (locs ++ L) ls (by rw [e1]; exact hP') hD' k3 hl T' rfl X'
    exact ⟨t2, go t2 a1, b1⟩
  · obtain ⟨k1, k2, k3⟩ := vx_keep h0 e1 hS (fun q _ h => h) (fun q h => h) hL hF
    obtain ⟨t2, a1, b1⟩ := Kx E n' ad' w' hp T'.heap (locs ++ L) ls q ce (by rw [e1]; exact hP') hD' k3 hl (by rw [e1]; exact hce) hcv hcl T' rfl X'
    exact ⟨t2, go.trans a1, b1⟩
theorem xr_backR {p : Program} {l : Launch} {e : Env} {R : Room} {s : State} {m : MethodId} {args : Array Value} {below : List Frame} {meth : Method} {c : Code} {Q : State → Prop} {nL : Nat} {D : va_G} {base : Nat} {H : Heap} {locs : List Loc} {ls : Array Slot} {av : Array Value} {mc ms : Nat}
    (hr : va_Run p l e R s m args below meth c H locs a b mc ms (F0 m pc ls st0) st (xQ D base post av) (xA base)) (hS : va_S (xA base) s.heap H locs) (hl : xlv ls nL lv)
    (K : ∀ v n' ad' w', post v n' ad' w' → XW (p, l, e, R, s, m, args, below, meth, c, Q, nL, D, base) n' ad' w' (a + mc) (b + ms) (pc + 3) lv (v.toList ++ st)) : W p l e R s m args below meth c H locs a b Q (F0 m pc ls st0) := by
  intro T hT X
  obtain ⟨v, st₀, t, T', L, h0, X', hL, e1, e2, ⟨v', n', ad', w', hv, hp, hP', hD', hF⟩, go⟩ := hr T hT X
  cases hv
  obtain ⟨k1, k2, k3⟩ := vx_keep h0 e1 hS (fun q _ h => h) (fun q h => h) hL hF
  obtain ⟨t2, a1, b1⟩ := K v n' ad' w' hp T'.heap (locs ++ L) ls (by rw [e1]; exact hP') hD' k3 hl T' rfl X'
  exact ⟨t2, go t2 a1, b1⟩
/-- a word of a nest, of this walk's tables -/
def XNw (G : xG) (q : Cond) : Prop := match G with
  | (_, _, _, _, s, _, _, _, _, _, _, _, _, _) => va_Nw q s
/-- invokevirtual of a method of the receiver's own class (private ones too) -/
theorem xr_callV (C : XC G L D cA base cc nL own R) (hM : XM L D cA base y bytes maxL ret rm (.ref (ad k9) :: As) n ad w post xp) (F : xMw own index y bytes maxL ret As.length) (F2 : Cond.instanceMethod y ∈ xTs ∧ Cond.selects y.cls y y ∈ xTs) (hw : w k9 = xOb ci fs) (hk : k9 < n) (hc : (vwCl[ci]?).map (fun q => q.1) = some y.cls)
    (hR : rm.frames + 1 ≤ R.frames ∧ 8 + (maxL + 11) + rm.locals ≤ R.locals) (hcs : a + rm.cells ≤ R.cells ∧ b + rm.slots ≤ R.slots) (hst : (st.map fun v => v.category).sum ≤ 8) (hs0 : st0 = As.reverse ++ .ref (ad k9) :: st) (d : decode cc pc = .ok (.invokevirtual index, 3))
    (Kx : ∀ E n' ad' w', xp E n' ad' w' → XX G n' ad' w' (a + rm.cells) (b + rm.slots) pc lv st E)
    (K : ∀ v n' ad' w', post v n' ad' w' → XW G n' ad' w' (a + rm.cells) (b + rm.slots) (pc + 3) lv (v.toList ++ st)) : XW G n ad w a b pc lv st0 := by
  obtain ⟨p, l, e, R1, s, m, args, below, meth, c, Q, nL1, D1, base1⟩ := G
  obtain ⟨rfl, rfl, rfl, rfl, rfl, hx, hb, hml, hown, hts, hK, hlocks, hbase, hgl⟩ := C
  intro H locs ls hP hD hS hl
  obtain ⟨F3, f1, f2, f3⟩ := F
  obtain ⟨q9, hq9, hq8⟩ : ∃ q, vwCl[ci]? = some q ∧ q.1 = y.cls := by
    cases h9 : vwCl[ci]? with
    | none => rw [h9] at hc; cases hc
    | some q => rw [h9] at hc; exact ⟨q, rfl, Option.some.inj hc⟩
  have hrecv := va_recv hK hP hq9 (xws_at hk hw)
  rw [hq8] at hrecv
  exact xr_back (vx_runV (As := As) (rest := st) (C := y.cls) (own := own) (index := index) (bytes := bytes) (maxL := maxL) (ret := ret) ⟨hx, hb, hml, hown, hts⟩ hM
    ⟨callB_of As.length hts (xwd_good f3) rfl rfl rfl (hts _ f2) (hts _ f1) F3 hR, hts _ F2.1, hts _ F2.2⟩
    ⟨XI.blind, hrecv, fun U hU hW => ⟨rfl, XI.at hbase hK hP hD hS hgl hU hW⟩⟩ rfl rfl hl.1 hs0 (lv_room hst) d hcs) hS hl Kx K
/-- invokestatic -/
theorem xr_callS (C : XC G L D cA base cc nL own R) (hM : XM L D cA base y bytes maxL ret rm As n ad w post xp) (F : xMw own index y bytes maxL ret As.length) (F2 : Cond.static y ∈ xTs)
    (hR : rm.frames + 1 ≤ R.frames ∧ 8 + (maxL + 11) + rm.locals ≤ R.locals) (hcs : a + rm.cells ≤ R.cells ∧ b + rm.slots ≤ R.slots) (hst : (st.map fun v => v.category).sum ≤ 8) (hs0 : st0 = As.reverse ++ st) (d : decode cc pc = .ok (.invokestatic index, 3))
    (Kx : ∀ E n' ad' w', xp E n' ad' w' → XX G n' ad' w' (a + rm.cells) (b + rm.slots) pc lv st E)
    (K : ∀ v n' ad' w', post v n' ad' w' → XW G n' ad' w' (a + rm.cells) (b + rm.slots) (pc + 3) lv (v.toList ++ st)) : XW G n ad w a b pc lv st0 := by
  obtain ⟨p, l, e, R1, s, m, args, below, meth, c, Q, nL1, D1, base1⟩ := G
  obtain ⟨rfl, rfl, rfl, rfl, rfl, hx, hb, hml, hown, hts, hK, hlocks, hbase, hgl⟩ := C
  intro H locs ls hP hD hS hl
  obtain ⟨F3, f1, f2, f3⟩ := F
  exact xr_back (vx_runS (As := As) (rest := st) (own := own) (index := index) (bytes := bytes) (maxL := maxL) (ret := ret) ⟨hx, hb, hml, hown, hts⟩ hM
    ⟨callB_of As.length hts (xwd_good f3) rfl rfl rfl (hts _ f2) (hts _ f1) F3 hR, hts _ F2⟩
    ⟨XI.blind, fun U hU hW => ⟨rfl, XI.at hbase hK hP hD hS hgl hU hW⟩⟩ rfl rfl hl.1 hs0 (lv_room hst) d hcs) hS hl Kx K
/-- invokespecial of a constructor that never throws -/
theorem xr_callI (C : XC G L D cA base cc nL own R) (hM : XM L D cA base y bytes maxL none rm (.ref (ad k9) :: As) n ad w post (fun _ _ _ _ => False)) (F : xMw own index y bytes maxL none As.length) (F2 : y.name = "<init>" ∧ Cond.instanceMethod y ∈ xTs)
    (hR : rm.frames + 1 ≤ R.frames ∧ 8 + (maxL + 11) + rm.locals ≤ R.locals) (hcs : a + rm.cells ≤ R.cells ∧ b + rm.slots ≤ R.slots) (hst : (st.map fun v => v.category).sum ≤ 8) (hs0 : st0 = As.reverse ++ .ref (ad k9) :: st) (d : decode cc pc = .ok (.invokespecial index, 3))
    (K : ∀ v n' ad' w', post v n' ad' w' → XW G n' ad' w' (a + rm.cells) (b + rm.slots) (pc + 3) lv (v.toList ++ st)) : XW G n ad w a b pc lv st0 := by
  obtain ⟨p, l, e, R1, s, m, args, below, meth, c, Q, nL1, D1, base1⟩ := G
  obtain ⟨rfl, rfl, rfl, rfl, rfl, hx, hb, hml, hown, hts, hK, hlocks, hbase, hgl⟩ := C
  intro H locs ls hP hD hS hl
  obtain ⟨F3, f1, f2, f3⟩ := F
  exact xr_backR (va_runI (As := As) (rest := st) (own := own) (index := index) (bytes := bytes) (maxL := maxL) ⟨hx, hb, hml, hown, hts⟩ (xm_met hM)
    ⟨callB_of As.length hts (xwd_good f3) rfl rfl rfl (hts _ f2) (hts _ f1) F3 hR, F2.1, hts _ F2.2⟩
    ⟨XI.blind, fun U hU hW => ⟨rfl, XI.at hbase hK hP hD hS hgl hU hW⟩⟩ rfl rfl hl.1 hs0 (lv_room hst) d hcs) hS hl K
/-- the same of a nest mate's private constructor -/
theorem xr_callIN (C : XC G L D cA base cc nL own R) {host : String} (hM : XM L D cA base y bytes maxL none rm (.ref (ad k9) :: As) n ad w post (fun _ _ _ _ => False)) (F3 : y.cls ≠ "java/lang/invoke/MethodHandle" ∧ y.cls ≠ "java/lang/invoke/VarHandle" ∧ (parseMethodDescriptor y.desc).map (fun d => d.parameters.length) = some As.length) (f1 : XNw G (.methodLinkNest own index y host)) (f2 : Cond.initialized y.cls ∈ xTs) (f3 : Cond.code y bytes maxL none ∈ xTs) (F2 : y.name = "<init>" ∧ Cond.instanceMethod y ∈ xTs)
    (hR : rm.frames + 1 ≤ R.frames ∧ 8 + (maxL + 11) + rm.locals ≤ R.locals) (hcs : a + rm.cells ≤ R.cells ∧ b + rm.slots ≤ R.slots) (hst : (st.map fun v => v.category).sum ≤ 8) (hs0 : st0 = As.reverse ++ .ref (ad k9) :: st) (d : decode cc pc = .ok (.invokespecial index, 3))
    (K : ∀ v n' ad' w', post v n' ad' w' → XW G n' ad' w' (a + rm.cells) (b + rm.slots) (pc + 3) lv (v.toList ++ st)) : XW G n ad w a b pc lv st0 := by
  obtain ⟨p, l, e, R1, s, m, args, below, meth, c, Q, nL1, D1, base1⟩ := G
  obtain ⟨rfl, rfl, rfl, rfl, rfl, hx, hb, hml, hown, hts, hK, hlocks, hbase, hgl⟩ := C
  intro H locs ls hP hD hS hl
  exact xr_backR (va_runIN (As := As) (rest := st) (own := own) (index := index) (host := host) (bytes := bytes) (maxL := maxL) ⟨hx, hb, hml, hown, hts⟩ (xm_met hM)
    ⟨va_cnB As.length hts (xwd_good f3) rfl rfl rfl f1 (hts _ f2) F3 hR, F2.1, hts _ F2.2⟩
    ⟨XI.blind, fun U hU hW => ⟨rfl, XI.at hbase hK hP hD hS hgl hU hW⟩⟩ rfl rfl hl.1 hs0 (lv_room hst) d hcs) hS hl K
/-- super() of Object -/
theorem xr_objInit (C : XC G L D cA base cc nL own R) {q : Nat} (F : Cond.methodLink own index objectInit ∈ xTs ∧ Cond.instanceMethod objectInit ∈ xTs ∧ Cond.code objectInit ⟨#[0xb1]⟩ 1 none ∈ xTs) (hR : 1 ≤ R.frames) (hst : (st.map fun v => v.category).sum + 12 ≤ R.locals) (d : decode cc pc = .ok (.invokespecial index, 3))
    (K : XW G n ad w a b (pc + 3) lv st) : XW G n ad w a b pc lv (.ref q :: st) := by
  obtain ⟨p, l, e, R1, s, m, args, below, meth, c, Q, nL1, D1, base1⟩ := G
  obtain ⟨rfl, rfl, rfl, rfl, rfl, hx, hb, hml, hown, hts, hK, hlocks, hbase, hgl⟩ := C
  intro H locs ls hP hD hS hl
  exact W.objInit hx hb hown (hts _ F.1) (hts _ F.2.1) (hts _ F.2.2) rfl (by rw [hml]; exact hl.1) rfl d hR (by show 2 * 0 + _ + 12 ≤ _; omega) (K H locs ls hP hD hS hl)
theorem xr_new (C : XC G L D cA base cc nL own R) {N : Nat} {Cn : String} {T : u_T} {ty : Nat → FieldType} (hc : vwCl[ci]? = some (Cn, T, N)) (hin : ∀ w ∈ u_ws Cn T N, w ∈ xTs) (hty : ∀ k, k < N → parseFieldDescriptor (T k).2.2.1 = some (ty k)) (hcl : Cond.classLink own index Cn ∈ xTs ∧ Cond.instantiable Cn N ∈ xTs ∧ Cond.initialized Cn ∈ xTs) (hfs : ∀ j, j < N → defaultValue (ty j) = vp_V fs j) (hcs : a + 1 ≤ R.cells ∧ b + N ≤ R.slots) (d : decode cc pc = .ok (.new index, 3))
    (K : ∀ q : Nat, XW G (n + 1) (va_up ad n q) (va_up w n (xOb ci fs)) (a + 1) (b + N) (pc + 3) lv (.ref q :: st)) : XW G n ad w a b pc lv st := by
  obtain ⟨p, l, e, R1, s, m, args, below, meth, c, Q, nL1, D1, base1⟩ := G
  obtain ⟨rfl, rfl, rfl, rfl, rfl, hx, hb, hml, hown, hts, hK, hlocks, hbase, hgl⟩ := C
  intro H locs ls hP hD hS hl
  refine va_new hx hb hts hin ty hty hown (hts _ hcl.1) (hts _ hcl.2.1) (hts _ hcl.2.2) hK hP hD hS (fun q h => Nat.le_trans hbase h) hc hfs hcs.1 hcs.2 d (fun q H1 hP1 hD1 hS1 => ?_)
  rw [xws_push] at hP1 hD1
  exact K q H1 locs ls hP1 hD1 hS1 hl
theorem xz_newi (C : XC G L D cA base cc nL own R) {z : Int} {atype : ArrayType} {t0 : Nat} (hat : (atype = .int ∧ t0 = 0) ∨ (atype = .boolean ∧ t0 = 1)) (harr : Cond.arrayClass (newarray.typeOf atype) ∈ xTs) (hz : 0 ≤ z ∧ z < 100000) (hcs : a + 1 ≤ R.cells ∧ b + z.toNat ≤ R.slots) (d : decode cc pc = .ok (.newarray atype, 2))
    (K : ∀ q : Nat, XW G (n + 1) (va_up ad n q) (va_up w n (xIA (cA t0) z.toNat (fun _ => 0))) (a + 1) (b + z.toNat) (pc + 2) lv (.ref q :: st)) : XW G n ad w a b pc lv (.int (zI z) :: st) := by
  obtain ⟨p, l, e, R1, s, m, args, below, meth, c, Q, nL1, D1, base1⟩ := G
  obtain ⟨rfl, rfl, rfl, rfl, rfl, hx, hb, hml, hown, hts, hK, hlocks, hbase, hgl⟩ := C
  intro H locs ls hP hD hS hl
  refine va_newaK hx hb (hts _ harr) rfl d rfl (fun q => by rw [show (0 : Int32) = zI 0 from rfl, zI_lt (by omega) (by omega)] at q; omega) (zI_clamp (by omega)) (by rcases hat with ⟨rfl, -⟩ | ⟨rfl, -⟩ <;> simp [newarray.typeOf, componentBytes] <;> omega) hcs.1 hcs.2 rfl (fun H1 cA1 e1 z1 o1 hAr hNm => ?_)
  have hcA : cA1 = cA t0 := by
    rcases hat with ⟨rfl, rfl⟩ | ⟨rfl, rfl⟩
    · exact Option.some.inj (hNm.symm.trans (hK.2 0 _ rfl).2)
    · exact Option.some.inj (hNm.symm.trans (hK.2 1 _ rfl).2)
  subst hcA
  have hk : ∀ (k : Nat) (x : Nat × va_E), (xws n ad w)[k]? = some x → H1[x.1]? = H[x.1]? := fun k x hx => o1 x.1 ((hP k x hx).lt)
  have hP1 : va_P D1 vwCl (xws n ad w ++ [(H.size, xIA (cA t0) z.toNat (fun _ => 0))]) H1 := (hP.kept hk).app (fun k x hx => by
    have hz : k < 1 := (List.getElem?_eq_some_iff.mp hx).1
    rw [show k = 0 by omega] at hx
    cases hx
    show H1[H.size]? = some (vp_cell _ _)
    rw [e1]
    rcases hat with ⟨rfl, rfl⟩ | ⟨rfl, rfl⟩ <;> rfl)
  have hD1 := hD.push (e := xIA (cA t0) z.toNat (fun _ => 0)) hP rfl (Nat.le_trans hbase hS.1)
  rw [xws_push] at hP1 hD1
  exact K H.size H1 locs ls hP1 hD1 ⟨Nat.le_trans hS.1 (by omega), fun x h1 h2 => (o1 x (Nat.lt_of_lt_of_le h1 hS.1)).trans (hS.2.1 x h1 h2), hS.2.2⟩ hl
theorem xz_newl (C : XC G L D cA base cc nL own R) {z : Int} (harr : Cond.arrayClass .long ∈ xTs) (hz : 0 ≤ z ∧ z < 100000) (hcs : a + 1 ≤ R.cells ∧ b + z.toNat ≤ R.slots) (d : decode cc pc = .ok (.newarray .long, 2))
    (K : ∀ q : Nat, XW G (n + 1) (va_up ad n q) (va_up w n (xLA (cA 2) z.toNat (fun _ => 0))) (a + 1) (b + z.toNat) (pc + 2) lv (.ref q :: st)) : XW G n ad w a b pc lv (.int (zI z) :: st) := by
  obtain ⟨p, l, e, R1, s, m, args, below, meth, c, Q, nL1, D1, base1⟩ := G
  obtain ⟨rfl, rfl, rfl, rfl, rfl, hx, hb, hml, hown, hts, hK, hlocks, hbase, hgl⟩ := C
  intro H locs ls hP hD hS hl
  refine va_newaK hx hb (atype := .long) (hts _ harr) rfl d rfl (fun q => by rw [show (0 : Int32) = zI 0 from rfl, zI_lt (by omega) (by omega)] at q; omega) (zI_clamp (by omega)) (by simp [newarray.typeOf, componentBytes] <;> omega) hcs.1 hcs.2 rfl (fun H1 cA1 e1 z1 o1 hAr hNm => ?_)
  have hcA : cA1 = cA 2 := Option.some.inj (hNm.symm.trans (hK.2 2 _ rfl).2)
  subst hcA
  have hk : ∀ (k : Nat) (x : Nat × va_E), (xws n ad w)[k]? = some x → H1[x.1]? = H[x.1]? := fun k x hx => o1 x.1 ((hP k x hx).lt)
  have hP1 : va_P D1 vwCl (xws n ad w ++ [(H.size, xLA (cA 2) z.toNat (fun _ => 0))]) H1 := (hP.kept hk).app (fun k x hx => by
    have hz : k < 1 := (List.getElem?_eq_some_iff.mp hx).1
    rw [show k = 0 by omega] at hx
    cases hx
    show H1[H.size]? = some (vp_cell _ _)
    rw [e1]
    rfl)
  have hD1 := hD.push (e := xLA (cA 2) z.toNat (fun _ => 0)) hP rfl (Nat.le_trans hbase hS.1)
  rw [xws_push] at hP1 hD1
  exact K H.size H1 locs ls hP1 hD1 ⟨Nat.le_trans hS.1 (by omega), fun x h1 h2 => (o1 x (Nat.lt_of_lt_of_le h1 hS.1)).trans (hS.2.1 x h1 h2), hS.2.2⟩ hl
theorem xz_mmax (C : XC G L D cA base cc nL own R) {x y : Int} (hx9 : -2147483648 ≤ x ∧ x < 2147483648) (hy9 : -2147483648 ≤ y ∧ y < 2147483648) (F : Cond.methodLink own index Lib.Math.max.name ∈ xTs ∧ Cond.static Lib.Math.max.name ∈ xTs ∧ Cond.initialized "java/lang/Math" ∈ xTs ∧ Cond.code Lib.Math.max.name Lib.Math.max.code 2 (some .int) ∈ xTs) (hR : 1 ≤ R.frames) (hst : (st.map fun v => v.category).sum + 13 ≤ R.locals) (hcs : a ≤ R.cells ∧ b ≤ R.slots) (d : decode cc pc = .ok (.invokestatic index, 3))
    (K : XW G n ad w a b (pc + 3) lv (.int (zI (max x y)) :: st)) : XW G n ad w a b pc lv (.int (zI y) :: .int (zI x) :: st) := by
  obtain ⟨p, l, e, R1, s, m, args, below, meth, c, Q, nL1, D1, base1⟩ := G
  obtain ⟨rfl, rfl, rfl, rfl, rfl, hx, hb, hml, hown, hts, hK, hlocks, hbase, hgl⟩ := C
  intro H locs ls hP hD hS hl
  refine va_mmax hx hb (by rw [hml]; exact hl.1.symm) hown (hts _ F.1) (hts _ F.2.1) (hts _ F.2.2.1) (hts _ F.2.2.2) hR hst hcs.1 hcs.2 d ?_
  have e9 : (if zI x < zI y then zI y else zI x) = zI (max x y) := by
    by_cases h : x < y
    · rw [if_pos ((zI_lt hx9 hy9).mpr h), Int.max_eq_right (by omega)]
    · rw [if_neg (fun q => h ((zI_lt hx9 hy9).mp q)), Int.max_eq_left (by omega)]
  rw [e9]
  exact K H locs ls hP hD hS hl
end XCall
end
